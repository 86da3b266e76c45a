/-! ===== the least cost by sums, who would change (own text) ===== -/
def cf (n : Nat) (g : Nat → Nat) (bill rule i st : Nat) : Nat → Nat := fun k => s_cost n (up g i (k * st)) bill rule i
def sbc (f : Nat → Nat) : Nat → Nat
  | 0 => 1000000
  | k + 1 => if f k < sbc f k then f k else sbc f k
def sbi (f : Nat → Nat) : Nat → Nat
  | 0 => 0
  | k + 1 => if f k < sbc f k then k else sbi f k
theorem sbc_le {f : Nat → Nat} : ∀ {k j : Nat}, j < k → sbc f k ≤ f j
  | 0, j, h => by omega
  | k + 1, j, h => by
    unfold sbc
    by_cases hj : j = k
    · subst hj; split <;> omega
    · have := sbc_le (f := f) (k := k) (j := j) (by omega)
      split <;> omega
theorem sb_lt {f : Nat → Nat} : ∀ {k : Nat}, sbc f k ≤ 1000000 ∧ (1 ≤ k → sbi f k < k)
  | 0 => ⟨Nat.le_refl _, fun h => by omega⟩
  | k + 1 => by
    have := sb_lt (f := f) (k := k)
    refine ⟨?_, fun _ => ?_⟩
    · unfold sbc; split <;> omega
    · unfold sbi
      split
      · omega
      · by_cases h : 1 ≤ k
        · have := this.2 h; omega
        · obtain rfl : k = 0 := by omega
          simp [sbi]
theorem sbc_at {f : Nat → Nat} (h0 : f 0 < 1000000) : ∀ {k : Nat}, 1 ≤ k → sbc f k = f (sbi f k)
  | 0, h => by omega
  | 1, _ => by simp [sbc, sbi, h0]
  | k + 2, _ => by
    have ih := sbc_at h0 (k := k + 1) (by omega)
    unfold sbc sbi
    by_cases h : f (k + 1) < sbc f (k + 1)
    · rw [if_pos h, if_pos h]
    · rw [if_neg h, if_neg h, ih]
theorem kst {p st k : Nat} (h : 1 ≤ st) : k * st ≤ p ↔ k < p / st + 1 := by
  rw [Nat.lt_succ_iff, Nat.le_div_iff_mul_le (by omega)]
/-- first place from k on, j places looked at -/
def fst (P : Nat → Bool) : Nat → Nat → Option Nat
  | 0, _ => none
  | j + 1, k => bif P k then some k else fst P j (k + 1)
def oM : Option Nat → Int32
  | none => -nI 2
  | some k => nI k
theorem cf_le {n bill rule i st k : Nat} {g : Nat → Nat} (h : k * st ≤ 99) : cf n g bill rule i st k ≤ bill + 199 := s_cost_le (by rw [up_at]; exact h)
theorem hatL.w {n bill rule i v : Nat} {g : Nat → Nat} {M : j_M} (h : hatL n g bill rule M) : hatL n (up g i v) bill rule (j_w M 9 i (nI v)) := by
  obtain ⟨h1, h2, h3, h4⟩ := h
  refine ⟨by simp (disch := omega) only [z0, z1, z2, z3, z4, z5, z6, z7, z8, z9, z10, z11, z12, z13, z14, z15, z16, z17, z18, z19, z20, z24, z26, z30, z31, z40, z41, z50, z54, z60, z70, z80, z81, z99, z100, z200, z255, z599, z1000, z1299, z4096, z1000000, lw0, lw1, lw2, lw3, lw4, lw5, lw6, lw7, lw12, lw50, lw99, lw255, lw599, lw4096, bI_ok, ble_t, Int.cast_ofNat_Int,  decide_true, decide_false, bI_0, bI_1, b_tf, b_ft, eq_self, n_1, n_2, n_3, n_4, n_5, n_6, n_7, n_8, if_true, if_false, jin, ncl, cond_true, cond_false, Option.bind_some, j_ov, j_oi, j_ol, nle, nlt, neq, nI_add, nmul, nsub, ndiv, nrem2, if_pos, if_neg, Nat.zero_add, Nat.add_zero, j_w_ap, decide_eq_true, decide_eq_false, Bool.true_or, Bool.or_true, Bool.false_or, Bool.or_false, Bool.and_true, Bool.true_and, Bool.false_and, Bool.and_false, Bool.not_true, Bool.not_false, h1], by simp (disch := omega) only [z0, z1, z2, z3, z4, z5, z6, z7, z8, z9, z10, z11, z12, z13, z14, z15, z16, z17, z18, z19, z20, z24, z26, z30, z31, z40, z41, z50, z54, z60, z70, z80, z81, z99, z100, z200, z255, z599, z1000, z1299, z4096, z1000000, lw0, lw1, lw2, lw3, lw4, lw5, lw6, lw7, lw12, lw50, lw99, lw255, lw599, lw4096, bI_ok, ble_t, Int.cast_ofNat_Int,  decide_true, decide_false, bI_0, bI_1, b_tf, b_ft, eq_self, n_1, n_2, n_3, n_4, n_5, n_6, n_7, n_8, if_true, if_false, jin, ncl, cond_true, cond_false, Option.bind_some, j_ov, j_oi, j_ol, nle, nlt, neq, nI_add, nmul, nsub, ndiv, nrem2, if_pos, if_neg, Nat.zero_add, Nat.add_zero, j_w_ap, decide_eq_true, decide_eq_false, Bool.true_or, Bool.or_true, Bool.false_or, Bool.or_false, Bool.and_true, Bool.true_and, Bool.false_and, Bool.and_false, Bool.not_true, Bool.not_false, h2], by simp (disch := omega) only [z0, z1, z2, z3, z4, z5, z6, z7, z8, z9, z10, z11, z12, z13, z14, z15, z16, z17, z18, z19, z20, z24, z26, z30, z31, z40, z41, z50, z54, z60, z70, z80, z81, z99, z100, z200, z255, z599, z1000, z1299, z4096, z1000000, lw0, lw1, lw2, lw3, lw4, lw5, lw6, lw7, lw12, lw50, lw99, lw255, lw599, lw4096, bI_ok, ble_t, Int.cast_ofNat_Int,  decide_true, decide_false, bI_0, bI_1, b_tf, b_ft, eq_self, n_1, n_2, n_3, n_4, n_5, n_6, n_7, n_8, if_true, if_false, jin, ncl, cond_true, cond_false, Option.bind_some, j_ov, j_oi, j_ol, nle, nlt, neq, nI_add, nmul, nsub, ndiv, nrem2, if_pos, if_neg, Nat.zero_add, Nat.add_zero, j_w_ap, decide_eq_true, decide_eq_false, Bool.true_or, Bool.or_true, Bool.false_or, Bool.or_false, Bool.and_true, Bool.true_and, Bool.false_and, Bool.and_false, Bool.not_true, Bool.not_false, h3], fun k hk => ?_⟩
  unfold up
  by_cases hik : k = i
  · simp (disch := omega) only [z0, z1, z2, z3, z4, z5, z6, z7, z8, z9, z10, z11, z12, z13, z14, z15, z16, z17, z18, z19, z20, z24, z26, z30, z31, z40, z41, z50, z54, z60, z70, z80, z81, z99, z100, z200, z255, z599, z1000, z1299, z4096, z1000000, lw0, lw1, lw2, lw3, lw4, lw5, lw6, lw7, lw12, lw50, lw99, lw255, lw599, lw4096, bI_ok, ble_t, Int.cast_ofNat_Int,  decide_true, decide_false, bI_0, bI_1, b_tf, b_ft, eq_self, n_1, n_2, n_3, n_4, n_5, n_6, n_7, n_8, if_true, if_false, jin, ncl, cond_true, cond_false, Option.bind_some, j_ov, j_oi, j_ol, nle, nlt, neq, nI_add, nmul, nsub, ndiv, nrem2, if_pos, if_neg, Nat.zero_add, Nat.add_zero, j_w_ap, decide_eq_true, decide_eq_false, Bool.true_or, Bool.or_true, Bool.false_or, Bool.or_false, Bool.and_true, Bool.true_and, Bool.false_and, Bool.and_false, Bool.not_true, Bool.not_false, hik]
  · simp (disch := omega) only [z0, z1, z2, z3, z4, z5, z6, z7, z8, z9, z10, z11, z12, z13, z14, z15, z16, z17, z18, z19, z20, z24, z26, z30, z31, z40, z41, z50, z54, z60, z70, z80, z81, z99, z100, z200, z255, z599, z1000, z1299, z4096, z1000000, lw0, lw1, lw2, lw3, lw4, lw5, lw6, lw7, lw12, lw50, lw99, lw255, lw599, lw4096, bI_ok, ble_t, Int.cast_ofNat_Int,  decide_true, decide_false, bI_0, bI_1, b_tf, b_ft, eq_self, n_1, n_2, n_3, n_4, n_5, n_6, n_7, n_8, if_true, if_false, jin, ncl, cond_true, cond_false, Option.bind_some, j_ov, j_oi, j_ol, nle, nlt, neq, nI_add, nmul, nsub, ndiv, nrem2, if_pos, if_neg, Nat.zero_add, Nat.add_zero, j_w_ap, decide_eq_true, decide_eq_false, Bool.true_or, Bool.or_true, Bool.false_or, Bool.or_false, Bool.and_true, Bool.true_and, Bool.false_and, Bool.and_false, Bool.not_true, Bool.not_false, h4 k hk]
section MI
variable {d n bill rule : Nat} {g a : Nat → Nat} {M : j_M} {N : j_N}
theorem X_sumsOf {i : Nat} (hd : 1 ≤ d) (h : IG n a M) (hi : i < 6) : C d 74 [.ref 10, .int (nI i)] S0 M N = some (some (.int (nI (a i / a 26 + 1))), M, N) := by
  refine eX6_sumsOf hd ?_
  have h1 := h.st
  have h2 := h.st1
  have h3 := h.st99
  have h4 := h.pu
  have h5 := h.pu99 i hi
  have e := bX6_sumsOf_0 (d - 1) (nI i) M N
  simp (disch := omega) only [z0, z1, z2, z3, z4, z5, z6, z7, z8, z9, z10, z11, z12, z13, z14, z15, z16, z17, z18, z19, z20, z24, z26, z30, z31, z40, z41, z50, z54, z60, z70, z80, z81, z99, z100, z200, z255, z599, z1000, z1299, z4096, z1000000, lw0, lw1, lw2, lw3, lw4, lw5, lw6, lw7, lw12, lw50, lw99, lw255, lw599, lw4096, bI_ok, ble_t, Int.cast_ofNat_Int,  decide_true, decide_false, bI_0, bI_1, b_tf, b_ft, eq_self, n_1, n_2, n_3, n_4, n_5, n_6, n_7, n_8, if_true, if_false, jin, ncl, cond_true, cond_false, Option.bind_some, j_ov, j_oi, j_ol, nle, nlt, neq, nI_add, nmul, nsub, ndiv, nrem2, if_pos, if_neg, Nat.zero_add, Nat.add_zero, j_w_ap, decide_eq_true, decide_eq_false, Bool.true_or, Bool.or_true, Bool.false_or, Bool.or_false, Bool.and_true, Bool.true_and, Bool.false_and, Bool.and_false, Bool.not_true, Bool.not_false, h1, h4] at e
  exact e
theorem M_sumsOf {i : Nat} (hd : 1 ≤ d) (h : IG n a M) (hi : i < 6) : C d 188 [.ref 46, .int (nI i)] S0 M N = some (some (.int (nI (a i / a 26 + 1))), M, N) := by
  refine eX11_sumsOf hd ?_
  have h1 := h.may
  have h2 := h.st1
  have h3 := h.st99
  have h5 := h.pu99 i hi
  have e := bX11_sumsOf_0 (d - 1) (nI i) M N
  simp (disch := omega) only [z0, z1, z2, z3, z4, z5, z6, z7, z8, z9, z10, z11, z12, z13, z14, z15, z16, z17, z18, z19, z20, z24, z26, z30, z31, z40, z41, z50, z54, z60, z70, z80, z81, z99, z100, z200, z255, z599, z1000, z1299, z4096, z1000000, lw0, lw1, lw2, lw3, lw4, lw5, lw6, lw7, lw12, lw50, lw99, lw255, lw599, lw4096, bI_ok, ble_t, Int.cast_ofNat_Int,  decide_true, decide_false, bI_0, bI_1, b_tf, b_ft, eq_self, n_1, n_2, n_3, n_4, n_5, n_6, n_7, n_8, if_true, if_false, jin, ncl, cond_true, cond_false, Option.bind_some, j_ov, j_oi, j_ol, nle, nlt, neq, nI_add, nmul, nsub, ndiv, nrem2, if_pos, if_neg, Nat.zero_add, Nat.add_zero, j_w_ap, decide_eq_true, decide_eq_false, Bool.true_or, Bool.or_true, Bool.false_or, Bool.or_false, Bool.and_true, Bool.true_and, Bool.false_and, Bool.and_false, Bool.not_true, Bool.not_false, h1] at e
  exact e
theorem X_search_l {i m : Nat} (hd : 4 ≤ d) (hn : n ≤ 6) (hg : ∀ q, q < n → g q ≤ 99) (hb : bill ≤ 1000) (hr4 : rule ≤ 4) (hi : i < n) (hm : m = a i / a 26 + 1) : ∀ (j k w : Nat) (M : j_M), k + j = m → w ≤ 99 → IG n a M → hatL n (up g i w) bill rule M → M 10 3 = nI (sbi (cf n g bill rule i (a 26)) k * a 26) → M 10 4 = nI (sbc (cf n g bill rule i (a 26)) k) → ∃ M', R d kX6_search 30 [.ref 10, .int (nI i), .int (nI (g i)), .int (nI m), .int (nI k), .null, .null] [] (S0, M, N) = some (none, (S0, M', N)) ∧ hatL n g bill rule M' ∧ M' 10 3 = nI (sbi (cf n g bill rule i (a 26)) m * a 26) ∧ M' 10 4 = nI (sbc (cf n g bill rule i (a 26)) m) ∧ Scr M M'
  | 0, k, w, M, hk, hw, h, hl, h3, h4 => by
    have hm2 : m ≤ 100 := by
      have := h.pu99 i (by omega)
      have := Nat.div_le_self (a i) (a 26)
      omega
    obtain rfl : k = m := by omega
    have e := bX6_search_30 d (nI i) (nI (g i)) (nI k) (nI k) M N
    have hw := hl.w (i := i) (v := g i)
    rw [up_up, up_self] at hw
    simp (disch := omega) only [z0, z1, z2, z3, z4, z5, z6, z7, z8, z9, z10, z11, z12, z13, z14, z15, z16, z17, z18, z19, z20, z24, z26, z30, z31, z40, z41, z50, z54, z60, z70, z80, z81, z99, z100, z200, z255, z599, z1000, z1299, z4096, z1000000, lw0, lw1, lw2, lw3, lw4, lw5, lw6, lw7, lw12, lw50, lw99, lw255, lw599, lw4096, bI_ok, ble_t, Int.cast_ofNat_Int,  decide_true, decide_false, bI_0, bI_1, b_tf, b_ft, eq_self, n_1, n_2, n_3, n_4, n_5, n_6, n_7, n_8, if_true, if_false, jin, ncl, cond_true, cond_false, Option.bind_some, j_ov, j_oi, j_ol, nle, nlt, neq, nI_add, nmul, nsub, ndiv, nrem2, if_pos, if_neg, Nat.zero_add, Nat.add_zero, j_w_ap, decide_eq_true, decide_eq_false, Bool.true_or, Bool.or_true, Bool.false_or, Bool.or_false, Bool.and_true, Bool.true_and, Bool.false_and, Bool.and_false, Bool.not_true, Bool.not_false] at e
    exact ⟨_, e, hw, by simp (disch := omega) only [z0, z1, z2, z3, z4, z5, z6, z7, z8, z9, z10, z11, z12, z13, z14, z15, z16, z17, z18, z19, z20, z24, z26, z30, z31, z40, z41, z50, z54, z60, z70, z80, z81, z99, z100, z200, z255, z599, z1000, z1299, z4096, z1000000, lw0, lw1, lw2, lw3, lw4, lw5, lw6, lw7, lw12, lw50, lw99, lw255, lw599, lw4096, bI_ok, ble_t, Int.cast_ofNat_Int,  decide_true, decide_false, bI_0, bI_1, b_tf, b_ft, eq_self, n_1, n_2, n_3, n_4, n_5, n_6, n_7, n_8, if_true, if_false, jin, ncl, cond_true, cond_false, Option.bind_some, j_ov, j_oi, j_ol, nle, nlt, neq, nI_add, nmul, nsub, ndiv, nrem2, if_pos, if_neg, Nat.zero_add, Nat.add_zero, j_w_ap, decide_eq_true, decide_eq_false, Bool.true_or, Bool.or_true, Bool.false_or, Bool.or_false, Bool.and_true, Bool.true_and, Bool.false_and, Bool.and_false, Bool.not_true, Bool.not_false, h3], by simp (disch := omega) only [z0, z1, z2, z3, z4, z5, z6, z7, z8, z9, z10, z11, z12, z13, z14, z15, z16, z17, z18, z19, z20, z24, z26, z30, z31, z40, z41, z50, z54, z60, z70, z80, z81, z99, z100, z200, z255, z599, z1000, z1299, z4096, z1000000, lw0, lw1, lw2, lw3, lw4, lw5, lw6, lw7, lw12, lw50, lw99, lw255, lw599, lw4096, bI_ok, ble_t, Int.cast_ofNat_Int,  decide_true, decide_false, bI_0, bI_1, b_tf, b_ft, eq_self, n_1, n_2, n_3, n_4, n_5, n_6, n_7, n_8, if_true, if_false, jin, ncl, cond_true, cond_false, Option.bind_some, j_ov, j_oi, j_ol, nle, nlt, neq, nI_add, nmul, nsub, ndiv, nrem2, if_pos, if_neg, Nat.zero_add, Nat.add_zero, j_w_ap, decide_eq_true, decide_eq_false, Bool.true_or, Bool.or_true, Bool.false_or, Bool.or_false, Bool.and_true, Bool.true_and, Bool.false_and, Bool.and_false, Bool.not_true, Bool.not_false, h4], Scr.w rfl⟩
  | j + 1, k, w, M, hk, hw, h, hl, h3, h4 => by
    have h99 := h.pu99 i (by omega)
    have hm2 : m ≤ 100 := by
      have := Nat.div_le_self (a i) (a 26)
      omega
    have hst := h.st1
    have hv : k * a 26 ≤ 99 := by
      have := (kst (p := a i) hst (k := k)).mpr (by omega)
      omega
    have e := bX6_search_30 d (nI i) (nI (g i)) (nI m) (nI k) M N
    obtain ⟨M1, q1, q2, q3, q4⟩ := X_costBy (d := d) (N := N) (by omega) (by omega) (up_le hg hw) hv hb hr4 hi hl
    rw [up_up] at q1 q2
    have hs := Scr.fr89 q4
    have hc := cf_le (n := n) (g := g) (bill := bill) (rule := rule) (i := i) hv
    have hx := h.st
    have hx2 := (h.scr hs).st
    have f3 : M1 10 3 = M 10 3 := by rw [q4 10 (by decide)]
    have f4 : M1 10 4 = M 10 4 := by rw [q4 10 (by decide)]
    have q1 : C d 70 [.ref 10, .int (nI i), .int (nI (k * a 26))] S0 M N = some (some (.int (nI (cf n g bill rule i (a 26) k))), M1, N) := q1
    have hsb := (sb_lt (f := cf n g bill rule i (a 26)) (k := k)).1
    simp (disch := omega) only [z0, z1, z2, z3, z4, z5, z6, z7, z8, z9, z10, z11, z12, z13, z14, z15, z16, z17, z18, z19, z20, z24, z26, z30, z31, z40, z41, z50, z54, z60, z70, z80, z81, z99, z100, z200, z255, z599, z1000, z1299, z4096, z1000000, lw0, lw1, lw2, lw3, lw4, lw5, lw6, lw7, lw12, lw50, lw99, lw255, lw599, lw4096, bI_ok, ble_t, Int.cast_ofNat_Int,  decide_true, decide_false, bI_0, bI_1, b_tf, b_ft, eq_self, n_1, n_2, n_3, n_4, n_5, n_6, n_7, n_8, if_true, if_false, jin, ncl, cond_true, cond_false, Option.bind_some, j_ov, j_oi, j_ol, nle, nlt, neq, nI_add, nmul, nsub, ndiv, nrem2, if_pos, if_neg, Nat.zero_add, Nat.add_zero, j_w_ap, decide_eq_true, decide_eq_false, Bool.true_or, Bool.or_true, Bool.false_or, Bool.or_false, Bool.and_true, Bool.true_and, Bool.false_and, Bool.and_false, Bool.not_true, Bool.not_false, hx, q1, f4, h4] at e
    by_cases hlt : cf n g bill rule i (a 26) k < sbc (cf n g bill rule i (a 26)) k
    · rw [if_neg (by omega)] at e
      obtain ⟨M', r1, r2, r3, r4, r5⟩ := X_search_l hd hn hg hb hr4 hi hm j (k + 1) (k * a 26) (j_w (j_w M1 10 3 (nI (k * a 26))) 10 4 (nI (cf n g bill rule i (a 26) k))) (by omega) hv ((h.scr hs).scr ((Scr.w rfl).tr (Scr.w rfl))) (by
        obtain ⟨t1, t2, t3, t4⟩ := q2.l q3
        exact ⟨by simp (disch := omega) only [z0, z1, z2, z3, z4, z5, z6, z7, z8, z9, z10, z11, z12, z13, z14, z15, z16, z17, z18, z19, z20, z24, z26, z30, z31, z40, z41, z50, z54, z60, z70, z80, z81, z99, z100, z200, z255, z599, z1000, z1299, z4096, z1000000, lw0, lw1, lw2, lw3, lw4, lw5, lw6, lw7, lw12, lw50, lw99, lw255, lw599, lw4096, bI_ok, ble_t, Int.cast_ofNat_Int,  decide_true, decide_false, bI_0, bI_1, b_tf, b_ft, eq_self, n_1, n_2, n_3, n_4, n_5, n_6, n_7, n_8, if_true, if_false, jin, ncl, cond_true, cond_false, Option.bind_some, j_ov, j_oi, j_ol, nle, nlt, neq, nI_add, nmul, nsub, ndiv, nrem2, if_pos, if_neg, Nat.zero_add, Nat.add_zero, j_w_ap, decide_eq_true, decide_eq_false, Bool.true_or, Bool.or_true, Bool.false_or, Bool.or_false, Bool.and_true, Bool.true_and, Bool.false_and, Bool.and_false, Bool.not_true, Bool.not_false, t1], by simp (disch := omega) only [z0, z1, z2, z3, z4, z5, z6, z7, z8, z9, z10, z11, z12, z13, z14, z15, z16, z17, z18, z19, z20, z24, z26, z30, z31, z40, z41, z50, z54, z60, z70, z80, z81, z99, z100, z200, z255, z599, z1000, z1299, z4096, z1000000, lw0, lw1, lw2, lw3, lw4, lw5, lw6, lw7, lw12, lw50, lw99, lw255, lw599, lw4096, bI_ok, ble_t, Int.cast_ofNat_Int,  decide_true, decide_false, bI_0, bI_1, b_tf, b_ft, eq_self, n_1, n_2, n_3, n_4, n_5, n_6, n_7, n_8, if_true, if_false, jin, ncl, cond_true, cond_false, Option.bind_some, j_ov, j_oi, j_ol, nle, nlt, neq, nI_add, nmul, nsub, ndiv, nrem2, if_pos, if_neg, Nat.zero_add, Nat.add_zero, j_w_ap, decide_eq_true, decide_eq_false, Bool.true_or, Bool.or_true, Bool.false_or, Bool.or_false, Bool.and_true, Bool.true_and, Bool.false_and, Bool.and_false, Bool.not_true, Bool.not_false, t2], by simp (disch := omega) only [z0, z1, z2, z3, z4, z5, z6, z7, z8, z9, z10, z11, z12, z13, z14, z15, z16, z17, z18, z19, z20, z24, z26, z30, z31, z40, z41, z50, z54, z60, z70, z80, z81, z99, z100, z200, z255, z599, z1000, z1299, z4096, z1000000, lw0, lw1, lw2, lw3, lw4, lw5, lw6, lw7, lw12, lw50, lw99, lw255, lw599, lw4096, bI_ok, ble_t, Int.cast_ofNat_Int,  decide_true, decide_false, bI_0, bI_1, b_tf, b_ft, eq_self, n_1, n_2, n_3, n_4, n_5, n_6, n_7, n_8, if_true, if_false, jin, ncl, cond_true, cond_false, Option.bind_some, j_ov, j_oi, j_ol, nle, nlt, neq, nI_add, nmul, nsub, ndiv, nrem2, if_pos, if_neg, Nat.zero_add, Nat.add_zero, j_w_ap, decide_eq_true, decide_eq_false, Bool.true_or, Bool.or_true, Bool.false_or, Bool.or_false, Bool.and_true, Bool.true_and, Bool.false_and, Bool.and_false, Bool.not_true, Bool.not_false, t3], fun k hk => by simp (disch := omega) only [z0, z1, z2, z3, z4, z5, z6, z7, z8, z9, z10, z11, z12, z13, z14, z15, z16, z17, z18, z19, z20, z24, z26, z30, z31, z40, z41, z50, z54, z60, z70, z80, z81, z99, z100, z200, z255, z599, z1000, z1299, z4096, z1000000, lw0, lw1, lw2, lw3, lw4, lw5, lw6, lw7, lw12, lw50, lw99, lw255, lw599, lw4096, bI_ok, ble_t, Int.cast_ofNat_Int,  decide_true, decide_false, bI_0, bI_1, b_tf, b_ft, eq_self, n_1, n_2, n_3, n_4, n_5, n_6, n_7, n_8, if_true, if_false, jin, ncl, cond_true, cond_false, Option.bind_some, j_ov, j_oi, j_ol, nle, nlt, neq, nI_add, nmul, nsub, ndiv, nrem2, if_pos, if_neg, Nat.zero_add, Nat.add_zero, j_w_ap, decide_eq_true, decide_eq_false, Bool.true_or, Bool.or_true, Bool.false_or, Bool.or_false, Bool.and_true, Bool.true_and, Bool.false_and, Bool.and_false, Bool.not_true, Bool.not_false, t4 k hk]⟩)
        (by unfold sbi; rw [if_pos hlt]; simp (disch := omega) only [z0, z1, z2, z3, z4, z5, z6, z7, z8, z9, z10, z11, z12, z13, z14, z15, z16, z17, z18, z19, z20, z24, z26, z30, z31, z40, z41, z50, z54, z60, z70, z80, z81, z99, z100, z200, z255, z599, z1000, z1299, z4096, z1000000, lw0, lw1, lw2, lw3, lw4, lw5, lw6, lw7, lw12, lw50, lw99, lw255, lw599, lw4096, bI_ok, ble_t, Int.cast_ofNat_Int,  decide_true, decide_false, bI_0, bI_1, b_tf, b_ft, eq_self, n_1, n_2, n_3, n_4, n_5, n_6, n_7, n_8, if_true, if_false, jin, ncl, cond_true, cond_false, Option.bind_some, j_ov, j_oi, j_ol, nle, nlt, neq, nI_add, nmul, nsub, ndiv, nrem2, if_pos, if_neg, Nat.zero_add, Nat.add_zero, j_w_ap, decide_eq_true, decide_eq_false, Bool.true_or, Bool.or_true, Bool.false_or, Bool.or_false, Bool.and_true, Bool.true_and, Bool.false_and, Bool.and_false, Bool.not_true, Bool.not_false]) (by unfold sbc; rw [if_pos hlt]; simp (disch := omega) only [z0, z1, z2, z3, z4, z5, z6, z7, z8, z9, z10, z11, z12, z13, z14, z15, z16, z17, z18, z19, z20, z24, z26, z30, z31, z40, z41, z50, z54, z60, z70, z80, z81, z99, z100, z200, z255, z599, z1000, z1299, z4096, z1000000, lw0, lw1, lw2, lw3, lw4, lw5, lw6, lw7, lw12, lw50, lw99, lw255, lw599, lw4096, bI_ok, ble_t, Int.cast_ofNat_Int,  decide_true, decide_false, bI_0, bI_1, b_tf, b_ft, eq_self, n_1, n_2, n_3, n_4, n_5, n_6, n_7, n_8, if_true, if_false, jin, ncl, cond_true, cond_false, Option.bind_some, j_ov, j_oi, j_ol, nle, nlt, neq, nI_add, nmul, nsub, ndiv, nrem2, if_pos, if_neg, Nat.zero_add, Nat.add_zero, j_w_ap, decide_eq_true, decide_eq_false, Bool.true_or, Bool.or_true, Bool.false_or, Bool.or_false, Bool.and_true, Bool.true_and, Bool.false_and, Bool.and_false, Bool.not_true, Bool.not_false])
      exact ⟨M', e.trans r1, r2, r3, r4, hs.tr (((Scr.w rfl).tr (Scr.w rfl)).tr r5)⟩
    · rw [if_pos (by omega)] at e
      obtain ⟨M', r1, r2, r3, r4, r5⟩ := X_search_l hd hn hg hb hr4 hi hm j (k + 1) (k * a 26) M1 (by omega) hv (h.scr hs) (q2.l q3)
        (by unfold sbi; rw [if_neg hlt, f3, h3]) (by unfold sbc; rw [if_neg hlt, f4, h4])
      exact ⟨M', e.trans r1, r2, r3, r4, hs.tr r5⟩
theorem X_search {i : Nat} (hd : 5 ≤ d) (hg : ∀ q, q < n → g q ≤ 99) (hb : bill ≤ 1000) (hr4 : rule ≤ 4) (hi : i < n) (h : IG n a M) (hl : hatL n g bill rule M) : ∃ M', C d 71 [.ref 10, .int (nI i)] S0 M N = some (none, M', N) ∧ hatL n g bill rule M' ∧ M' 10 3 = nI (sbi (cf n g bill rule i (a 26)) (a i / a 26 + 1) * a 26) ∧ M' 10 4 = nI (sbc (cf n g bill rule i (a 26)) (a i / a 26 + 1)) ∧ Scr M M' := by
  have hn := h.n6
  have hs : Scr M (j_w (j_w M 10 3 (nI 0)) 10 4 (nI 1000000)) := (Scr.w rfl).tr (Scr.w rfl)
  have q1 := X_sumsOf (d := d - 1) (N := N) (by omega) (h.scr hs) (show i < 6 by omega)
  obtain ⟨h1, h2, h3, h4⟩ := hl
  obtain ⟨M', r1, r2, r3, r4, r5⟩ := X_search_l (d := d - 1) (N := N) (g := g) (by omega) hn hg hb hr4 hi rfl (a i / a 26 + 1) 0 (g i) (j_w (j_w M 10 3 (nI 0)) 10 4 (nI 1000000)) (by omega) (hg i hi) (h.scr hs) (by rw [up_self]; exact ⟨by simp (disch := omega) only [z0, z1, z2, z3, z4, z5, z6, z7, z8, z9, z10, z11, z12, z13, z14, z15, z16, z17, z18, z19, z20, z24, z26, z30, z31, z40, z41, z50, z54, z60, z70, z80, z81, z99, z100, z200, z255, z599, z1000, z1299, z4096, z1000000, lw0, lw1, lw2, lw3, lw4, lw5, lw6, lw7, lw12, lw50, lw99, lw255, lw599, lw4096, bI_ok, ble_t, Int.cast_ofNat_Int,  decide_true, decide_false, bI_0, bI_1, b_tf, b_ft, eq_self, n_1, n_2, n_3, n_4, n_5, n_6, n_7, n_8, if_true, if_false, jin, ncl, cond_true, cond_false, Option.bind_some, j_ov, j_oi, j_ol, nle, nlt, neq, nI_add, nmul, nsub, ndiv, nrem2, if_pos, if_neg, Nat.zero_add, Nat.add_zero, j_w_ap, decide_eq_true, decide_eq_false, Bool.true_or, Bool.or_true, Bool.false_or, Bool.or_false, Bool.and_true, Bool.true_and, Bool.false_and, Bool.and_false, Bool.not_true, Bool.not_false, h1], by simp (disch := omega) only [z0, z1, z2, z3, z4, z5, z6, z7, z8, z9, z10, z11, z12, z13, z14, z15, z16, z17, z18, z19, z20, z24, z26, z30, z31, z40, z41, z50, z54, z60, z70, z80, z81, z99, z100, z200, z255, z599, z1000, z1299, z4096, z1000000, lw0, lw1, lw2, lw3, lw4, lw5, lw6, lw7, lw12, lw50, lw99, lw255, lw599, lw4096, bI_ok, ble_t, Int.cast_ofNat_Int,  decide_true, decide_false, bI_0, bI_1, b_tf, b_ft, eq_self, n_1, n_2, n_3, n_4, n_5, n_6, n_7, n_8, if_true, if_false, jin, ncl, cond_true, cond_false, Option.bind_some, j_ov, j_oi, j_ol, nle, nlt, neq, nI_add, nmul, nsub, ndiv, nrem2, if_pos, if_neg, Nat.zero_add, Nat.add_zero, j_w_ap, decide_eq_true, decide_eq_false, Bool.true_or, Bool.or_true, Bool.false_or, Bool.or_false, Bool.and_true, Bool.true_and, Bool.false_and, Bool.and_false, Bool.not_true, Bool.not_false, h2], by simp (disch := omega) only [z0, z1, z2, z3, z4, z5, z6, z7, z8, z9, z10, z11, z12, z13, z14, z15, z16, z17, z18, z19, z20, z24, z26, z30, z31, z40, z41, z50, z54, z60, z70, z80, z81, z99, z100, z200, z255, z599, z1000, z1299, z4096, z1000000, lw0, lw1, lw2, lw3, lw4, lw5, lw6, lw7, lw12, lw50, lw99, lw255, lw599, lw4096, bI_ok, ble_t, Int.cast_ofNat_Int,  decide_true, decide_false, bI_0, bI_1, b_tf, b_ft, eq_self, n_1, n_2, n_3, n_4, n_5, n_6, n_7, n_8, if_true, if_false, jin, ncl, cond_true, cond_false, Option.bind_some, j_ov, j_oi, j_ol, nle, nlt, neq, nI_add, nmul, nsub, ndiv, nrem2, if_pos, if_neg, Nat.zero_add, Nat.add_zero, j_w_ap, decide_eq_true, decide_eq_false, Bool.true_or, Bool.or_true, Bool.false_or, Bool.or_false, Bool.and_true, Bool.true_and, Bool.false_and, Bool.and_false, Bool.not_true, Bool.not_false, h3], fun k hk => by simp (disch := omega) only [z0, z1, z2, z3, z4, z5, z6, z7, z8, z9, z10, z11, z12, z13, z14, z15, z16, z17, z18, z19, z20, z24, z26, z30, z31, z40, z41, z50, z54, z60, z70, z80, z81, z99, z100, z200, z255, z599, z1000, z1299, z4096, z1000000, lw0, lw1, lw2, lw3, lw4, lw5, lw6, lw7, lw12, lw50, lw99, lw255, lw599, lw4096, bI_ok, ble_t, Int.cast_ofNat_Int,  decide_true, decide_false, bI_0, bI_1, b_tf, b_ft, eq_self, n_1, n_2, n_3, n_4, n_5, n_6, n_7, n_8, if_true, if_false, jin, ncl, cond_true, cond_false, Option.bind_some, j_ov, j_oi, j_ol, nle, nlt, neq, nI_add, nmul, nsub, ndiv, nrem2, if_pos, if_neg, Nat.zero_add, Nat.add_zero, j_w_ap, decide_eq_true, decide_eq_false, Bool.true_or, Bool.or_true, Bool.false_or, Bool.or_false, Bool.and_true, Bool.true_and, Bool.false_and, Bool.and_false, Bool.not_true, Bool.not_false, h4 k hk]⟩) (by unfold sbi; simp (disch := omega) only [z0, z1, z2, z3, z4, z5, z6, z7, z8, z9, z10, z11, z12, z13, z14, z15, z16, z17, z18, z19, z20, z24, z26, z30, z31, z40, z41, z50, z54, z60, z70, z80, z81, z99, z100, z200, z255, z599, z1000, z1299, z4096, z1000000, lw0, lw1, lw2, lw3, lw4, lw5, lw6, lw7, lw12, lw50, lw99, lw255, lw599, lw4096, bI_ok, ble_t, Int.cast_ofNat_Int,  decide_true, decide_false, bI_0, bI_1, b_tf, b_ft, eq_self, n_1, n_2, n_3, n_4, n_5, n_6, n_7, n_8, if_true, if_false, jin, ncl, cond_true, cond_false, Option.bind_some, j_ov, j_oi, j_ol, nle, nlt, neq, nI_add, nmul, nsub, ndiv, nrem2, if_pos, if_neg, Nat.zero_add, Nat.add_zero, j_w_ap, decide_eq_true, decide_eq_false, Bool.true_or, Bool.or_true, Bool.false_or, Bool.or_false, Bool.and_true, Bool.true_and, Bool.false_and, Bool.and_false, Bool.not_true, Bool.not_false, Nat.zero_mul]) (by unfold sbc; simp (disch := omega) only [z0, z1, z2, z3, z4, z5, z6, z7, z8, z9, z10, z11, z12, z13, z14, z15, z16, z17, z18, z19, z20, z24, z26, z30, z31, z40, z41, z50, z54, z60, z70, z80, z81, z99, z100, z200, z255, z599, z1000, z1299, z4096, z1000000, lw0, lw1, lw2, lw3, lw4, lw5, lw6, lw7, lw12, lw50, lw99, lw255, lw599, lw4096, bI_ok, ble_t, Int.cast_ofNat_Int,  decide_true, decide_false, bI_0, bI_1, b_tf, b_ft, eq_self, n_1, n_2, n_3, n_4, n_5, n_6, n_7, n_8, if_true, if_false, jin, ncl, cond_true, cond_false, Option.bind_some, j_ov, j_oi, j_ol, nle, nlt, neq, nI_add, nmul, nsub, ndiv, nrem2, if_pos, if_neg, Nat.zero_add, Nat.add_zero, j_w_ap, decide_eq_true, decide_eq_false, Bool.true_or, Bool.or_true, Bool.false_or, Bool.or_false, Bool.and_true, Bool.true_and, Bool.false_and, Bool.and_false, Bool.not_true, Bool.not_false])
  refine ⟨M', eX6_search (by omega) ?_, r2, r3, r4, hs.tr r5⟩
  have e := bX6_search_0 (d - 1) (nI i) M N
  have h4i := h4 i hi
  simp (disch := omega) only [z0, z1, z2, z3, z4, z5, z6, z7, z8, z9, z10, z11, z12, z13, z14, z15, z16, z17, z18, z19, z20, z24, z26, z30, z31, z40, z41, z50, z54, z60, z70, z80, z81, z99, z100, z200, z255, z599, z1000, z1299, z4096, z1000000, lw0, lw1, lw2, lw3, lw4, lw5, lw6, lw7, lw12, lw50, lw99, lw255, lw599, lw4096, bI_ok, ble_t, Int.cast_ofNat_Int,  decide_true, decide_false, bI_0, bI_1, b_tf, b_ft, eq_self, n_1, n_2, n_3, n_4, n_5, n_6, n_7, n_8, if_true, if_false, jin, ncl, cond_true, cond_false, Option.bind_some, j_ov, j_oi, j_ol, nle, nlt, neq, nI_add, nmul, nsub, ndiv, nrem2, if_pos, if_neg, Nat.zero_add, Nat.add_zero, j_w_ap, decide_eq_true, decide_eq_false, Bool.true_or, Bool.or_true, Bool.false_or, Bool.or_false, Bool.and_true, Bool.true_and, Bool.false_and, Bool.and_false, Bool.not_true, Bool.not_false, q1, h4i] at e
  exact e.trans r1
theorem M_leastCost_l {i : Nat} (hd : 5 ≤ d) (hg : ∀ q, q < n → g q ≤ 99) (hb : bill ≤ 1000) (hr4 : rule ≤ 4) (hi : i < n) (ebi : a 24 = bill) (eru : a 25 = rule) : ∀ (j k : Nat) (M : j_M), k + j = a i / a 26 + 1 → 1 ≤ k → IG n a M → lay n g M → M 46 16 = nI (sbi (cf n g bill rule i (a 26)) k * a 26) → ∃ M', R d kX11_leastCost 4 [.ref 46, .int (nI i), .int (nI (sbc (cf n g bill rule i (a 26)) k)), .int (nI (k * a 26)), .null] [] (S0, M, N) = some (some (.int (nI (sbc (cf n g bill rule i (a 26)) (a i / a 26 + 1)))), (S0, M', N)) ∧ lay n g M' ∧ M' 46 16 = nI (sbi (cf n g bill rule i (a 26)) (a i / a 26 + 1) * a 26) ∧ Scr M M'
  | 0, k, M, hk, hk1, h, hl, h3 => by
    have hn := h.n6
    obtain rfl : k = a i / a 26 + 1 := by omega
    have h99 := h.pu99 i (by omega)
    have hst := h.st1
    have hx := h.may
    have hlt : a i < (a i / a 26 + 1) * a 26 := by
      have := (kst (p := a i) hst (k := a i / a 26 + 1))
      omega
    have hlt2 : (a i / a 26 + 1) * a 26 ≤ 1000 := by
      have := Nat.div_mul_le_self (a i) (a 26)
      have := h.st99
      rw [Nat.add_mul]
      omega
    have e := bX11_leastCost_4 d (nI i) (nI (sbc (cf n g bill rule i (a 26)) (a i / a 26 + 1))) (nI ((a i / a 26 + 1) * a 26)) M N
    simp (disch := omega) only [z0, z1, z2, z3, z4, z5, z6, z7, z8, z9, z10, z11, z12, z13, z14, z15, z16, z17, z18, z19, z20, z24, z26, z30, z31, z40, z41, z50, z54, z60, z70, z80, z81, z99, z100, z200, z255, z599, z1000, z1299, z4096, z1000000, lw0, lw1, lw2, lw3, lw4, lw5, lw6, lw7, lw12, lw50, lw99, lw255, lw599, lw4096, bI_ok, ble_t, Int.cast_ofNat_Int,  decide_true, decide_false, bI_0, bI_1, b_tf, b_ft, eq_self, n_1, n_2, n_3, n_4, n_5, n_6, n_7, n_8, if_true, if_false, jin, ncl, cond_true, cond_false, Option.bind_some, j_ov, j_oi, j_ol, nle, nlt, neq, nI_add, nmul, nsub, ndiv, nrem2, if_pos, if_neg, Nat.zero_add, Nat.add_zero, j_w_ap, decide_eq_true, decide_eq_false, Bool.true_or, Bool.or_true, Bool.false_or, Bool.or_false, Bool.and_true, Bool.true_and, Bool.false_and, Bool.and_false, Bool.not_true, Bool.not_false, hx] at e
    exact ⟨_, e, hl, h3, Scr.rf⟩
  | j + 1, k, M, hk, hk1, h, hl, h3 => by
    have hn := h.n6
    have h99 := h.pu99 i (by omega)
    have hst := h.st1
    have hx := h.may
    have hv : k * a 26 ≤ a i := (kst (p := a i) hst (k := k)).mpr (by omega)
    obtain ⟨M1, q1, q2, hs, hf⟩ := M_costBy (d := d) (N := N) (by omega) (by omega) hg (show k * a 26 ≤ 99 by omega) hb hr4 hi hl (by rw [hx 24 (by omega), ebi]) (by rw [hx 25 (by omega), eru])
    have hc := cf_le (n := n) (g := g) (bill := bill) (rule := rule) (i := i) (st := a 26) (k := k) (by omega)
    have q1 : C d 176 [.ref 46, .int (nI i), .int (nI (k * a 26))] S0 M N = some (some (.int (nI (cf n g bill rule i (a 26) k))), M1, N) := q1
    have hx2 := (h.scr hs).may
    have hsb := (sb_lt (f := cf n g bill rule i (a 26)) (k := k)).1
    have e := bX11_leastCost_4 d (nI i) (nI (sbc (cf n g bill rule i (a 26)) k)) (nI (k * a 26)) M N
    have hk1' : k * a 26 + a 26 = (k + 1) * a 26 := (Nat.succ_mul k (a 26)).symm
    simp (disch := omega) only [z0, z1, z2, z3, z4, z5, z6, z7, z8, z9, z10, z11, z12, z13, z14, z15, z16, z17, z18, z19, z20, z24, z26, z30, z31, z40, z41, z50, z54, z60, z70, z80, z81, z99, z100, z200, z255, z599, z1000, z1299, z4096, z1000000, lw0, lw1, lw2, lw3, lw4, lw5, lw6, lw7, lw12, lw50, lw99, lw255, lw599, lw4096, bI_ok, ble_t, Int.cast_ofNat_Int,  decide_true, decide_false, bI_0, bI_1, b_tf, b_ft, eq_self, n_1, n_2, n_3, n_4, n_5, n_6, n_7, n_8, if_true, if_false, jin, ncl, cond_true, cond_false, Option.bind_some, j_ov, j_oi, j_ol, nle, nlt, neq, nI_add, nmul, nsub, ndiv, nrem2, if_pos, if_neg, Nat.zero_add, Nat.add_zero, j_w_ap, decide_eq_true, decide_eq_false, Bool.true_or, Bool.or_true, Bool.false_or, Bool.or_false, Bool.and_true, Bool.true_and, Bool.false_and, Bool.and_false, Bool.not_true, Bool.not_false, hx, q1, hx2, hk1'] at e
    by_cases hlt : cf n g bill rule i (a 26) k < sbc (cf n g bill rule i (a 26)) k
    · rw [if_neg (by omega)] at e
      have ih := M_leastCost_l hd hg hb hr4 hi ebi eru j (k + 1) (j_w M1 46 16 (nI (k * a 26))) (by omega) (by omega) (h.scr (hs.tr (Scr.w rfl))) ⟨by simp (disch := omega) only [z0, z1, z2, z3, z4, z5, z6, z7, z8, z9, z10, z11, z12, z13, z14, z15, z16, z17, z18, z19, z20, z24, z26, z30, z31, z40, z41, z50, z54, z60, z70, z80, z81, z99, z100, z200, z255, z599, z1000, z1299, z4096, z1000000, lw0, lw1, lw2, lw3, lw4, lw5, lw6, lw7, lw12, lw50, lw99, lw255, lw599, lw4096, bI_ok, ble_t, Int.cast_ofNat_Int,  decide_true, decide_false, bI_0, bI_1, b_tf, b_ft, eq_self, n_1, n_2, n_3, n_4, n_5, n_6, n_7, n_8, if_true, if_false, jin, ncl, cond_true, cond_false, Option.bind_some, j_ov, j_oi, j_ol, nle, nlt, neq, nI_add, nmul, nsub, ndiv, nrem2, if_pos, if_neg, Nat.zero_add, Nat.add_zero, j_w_ap, decide_eq_true, decide_eq_false, Bool.true_or, Bool.or_true, Bool.false_or, Bool.or_false, Bool.and_true, Bool.true_and, Bool.false_and, Bool.and_false, Bool.not_true, Bool.not_false, q2.1], fun k hk => by simp (disch := omega) only [z0, z1, z2, z3, z4, z5, z6, z7, z8, z9, z10, z11, z12, z13, z14, z15, z16, z17, z18, z19, z20, z24, z26, z30, z31, z40, z41, z50, z54, z60, z70, z80, z81, z99, z100, z200, z255, z599, z1000, z1299, z4096, z1000000, lw0, lw1, lw2, lw3, lw4, lw5, lw6, lw7, lw12, lw50, lw99, lw255, lw599, lw4096, bI_ok, ble_t, Int.cast_ofNat_Int,  decide_true, decide_false, bI_0, bI_1, b_tf, b_ft, eq_self, n_1, n_2, n_3, n_4, n_5, n_6, n_7, n_8, if_true, if_false, jin, ncl, cond_true, cond_false, Option.bind_some, j_ov, j_oi, j_ol, nle, nlt, neq, nI_add, nmul, nsub, ndiv, nrem2, if_pos, if_neg, Nat.zero_add, Nat.add_zero, j_w_ap, decide_eq_true, decide_eq_false, Bool.true_or, Bool.or_true, Bool.false_or, Bool.or_false, Bool.and_true, Bool.true_and, Bool.false_and, Bool.and_false, Bool.not_true, Bool.not_false, q2.2 k hk]⟩ (by unfold sbi; rw [if_pos hlt]; simp (disch := omega) only [z0, z1, z2, z3, z4, z5, z6, z7, z8, z9, z10, z11, z12, z13, z14, z15, z16, z17, z18, z19, z20, z24, z26, z30, z31, z40, z41, z50, z54, z60, z70, z80, z81, z99, z100, z200, z255, z599, z1000, z1299, z4096, z1000000, lw0, lw1, lw2, lw3, lw4, lw5, lw6, lw7, lw12, lw50, lw99, lw255, lw599, lw4096, bI_ok, ble_t, Int.cast_ofNat_Int,  decide_true, decide_false, bI_0, bI_1, b_tf, b_ft, eq_self, n_1, n_2, n_3, n_4, n_5, n_6, n_7, n_8, if_true, if_false, jin, ncl, cond_true, cond_false, Option.bind_some, j_ov, j_oi, j_ol, nle, nlt, neq, nI_add, nmul, nsub, ndiv, nrem2, if_pos, if_neg, Nat.zero_add, Nat.add_zero, j_w_ap, decide_eq_true, decide_eq_false, Bool.true_or, Bool.or_true, Bool.false_or, Bool.or_false, Bool.and_true, Bool.true_and, Bool.false_and, Bool.and_false, Bool.not_true, Bool.not_false])
      rw [show sbc (cf n g bill rule i (a 26)) (k + 1) = cf n g bill rule i (a 26) k by rw [sbc, if_pos hlt]] at ih
      obtain ⟨M', r1, r2, r3, r4⟩ := ih
      exact ⟨M', e.trans r1, r2, r3, hs.tr ((Scr.w rfl).tr r4)⟩
    · rw [if_pos (by omega)] at e
      have ih := M_leastCost_l hd hg hb hr4 hi ebi eru j (k + 1) M1 (by omega) (by omega) (h.scr hs) q2 (by unfold sbi; rw [if_neg hlt, hf 16 (by decide), h3])
      rw [show sbc (cf n g bill rule i (a 26)) (k + 1) = sbc (cf n g bill rule i (a 26)) k by rw [sbc, if_neg hlt]] at ih
      obtain ⟨M', r1, r2, r3, r4⟩ := ih
      exact ⟨M', e.trans r1, r2, r3, hs.tr r4⟩
theorem M_leastCost {i : Nat} (hd : 6 ≤ d) (hg : ∀ q, q < n → g q ≤ 99) (hb : bill ≤ 1000) (hr4 : rule ≤ 4) (hi : i < n) (ebi : a 24 = bill) (eru : a 25 = rule) (h : IG n a M) (hl : lay n g M) : ∃ M', C d 177 [.ref 46, .int (nI i)] S0 M N = some (some (.int (nI (sbc (cf n g bill rule i (a 26)) (a i / a 26 + 1)))), M', N) ∧ lay n g M' ∧ M' 46 16 = nI (sbi (cf n g bill rule i (a 26)) (a i / a 26 + 1) * a 26) ∧ Scr M M' := by
  have hn := h.n6
  have hx := h.may
  have hst := h.st1
  have hst9 := h.st99
  have hp9 := h.pu99 i (by omega)
  obtain ⟨M1, q1, q2, hs, hf⟩ := M_costBy (d := d - 1) (N := N) (v := 0 * a 26) (by omega) (by omega) hg (by omega) hb hr4 hi hl (by rw [hx 24 (by omega), ebi]) (by rw [hx 25 (by omega), eru])
  have hc := cf_le (n := n) (g := g) (bill := bill) (rule := rule) (i := i) (st := a 26) (k := 0) (by omega)
  have q1 : C (d - 1) 176 [.ref 46, .int (nI i), .int (nI (0 * a 26))] S0 M N = some (some (.int (nI (cf n g bill rule i (a 26) 0))), M1, N) := q1
  rw [Nat.zero_mul] at q1
  have hx2 := (h.scr hs).may
  have ih := M_leastCost_l (d := d - 1) (N := N) (by omega) hg hb hr4 hi ebi eru (a i / a 26) 1 (j_w M1 46 16 (nI 0)) (by omega) (by omega) (h.scr (hs.tr (Scr.w rfl))) ⟨by simp (disch := omega) only [z0, z1, z2, z3, z4, z5, z6, z7, z8, z9, z10, z11, z12, z13, z14, z15, z16, z17, z18, z19, z20, z24, z26, z30, z31, z40, z41, z50, z54, z60, z70, z80, z81, z99, z100, z200, z255, z599, z1000, z1299, z4096, z1000000, lw0, lw1, lw2, lw3, lw4, lw5, lw6, lw7, lw12, lw50, lw99, lw255, lw599, lw4096, bI_ok, ble_t, Int.cast_ofNat_Int,  decide_true, decide_false, bI_0, bI_1, b_tf, b_ft, eq_self, n_1, n_2, n_3, n_4, n_5, n_6, n_7, n_8, if_true, if_false, jin, ncl, cond_true, cond_false, Option.bind_some, j_ov, j_oi, j_ol, nle, nlt, neq, nI_add, nmul, nsub, ndiv, nrem2, if_pos, if_neg, Nat.zero_add, Nat.add_zero, j_w_ap, decide_eq_true, decide_eq_false, Bool.true_or, Bool.or_true, Bool.false_or, Bool.or_false, Bool.and_true, Bool.true_and, Bool.false_and, Bool.and_false, Bool.not_true, Bool.not_false, q2.1], fun k hk => by simp (disch := omega) only [z0, z1, z2, z3, z4, z5, z6, z7, z8, z9, z10, z11, z12, z13, z14, z15, z16, z17, z18, z19, z20, z24, z26, z30, z31, z40, z41, z50, z54, z60, z70, z80, z81, z99, z100, z200, z255, z599, z1000, z1299, z4096, z1000000, lw0, lw1, lw2, lw3, lw4, lw5, lw6, lw7, lw12, lw50, lw99, lw255, lw599, lw4096, bI_ok, ble_t, Int.cast_ofNat_Int,  decide_true, decide_false, bI_0, bI_1, b_tf, b_ft, eq_self, n_1, n_2, n_3, n_4, n_5, n_6, n_7, n_8, if_true, if_false, jin, ncl, cond_true, cond_false, Option.bind_some, j_ov, j_oi, j_ol, nle, nlt, neq, nI_add, nmul, nsub, ndiv, nrem2, if_pos, if_neg, Nat.zero_add, Nat.add_zero, j_w_ap, decide_eq_true, decide_eq_false, Bool.true_or, Bool.or_true, Bool.false_or, Bool.or_false, Bool.and_true, Bool.true_and, Bool.false_and, Bool.and_false, Bool.not_true, Bool.not_false, q2.2 k hk]⟩ (by
    unfold sbi; rw [if_pos (show cf n g bill rule i (a 26) 0 < sbc (cf n g bill rule i (a 26)) 0 by unfold sbc; omega), Nat.zero_mul]; simp (disch := omega) only [z0, z1, z2, z3, z4, z5, z6, z7, z8, z9, z10, z11, z12, z13, z14, z15, z16, z17, z18, z19, z20, z24, z26, z30, z31, z40, z41, z50, z54, z60, z70, z80, z81, z99, z100, z200, z255, z599, z1000, z1299, z4096, z1000000, lw0, lw1, lw2, lw3, lw4, lw5, lw6, lw7, lw12, lw50, lw99, lw255, lw599, lw4096, bI_ok, ble_t, Int.cast_ofNat_Int,  decide_true, decide_false, bI_0, bI_1, b_tf, b_ft, eq_self, n_1, n_2, n_3, n_4, n_5, n_6, n_7, n_8, if_true, if_false, jin, ncl, cond_true, cond_false, Option.bind_some, j_ov, j_oi, j_ol, nle, nlt, neq, nI_add, nmul, nsub, ndiv, nrem2, if_pos, if_neg, Nat.zero_add, Nat.add_zero, j_w_ap, decide_eq_true, decide_eq_false, Bool.true_or, Bool.or_true, Bool.false_or, Bool.or_false, Bool.and_true, Bool.true_and, Bool.false_and, Bool.and_false, Bool.not_true, Bool.not_false])
  rw [show sbc (cf n g bill rule i (a 26)) 1 = cf n g bill rule i (a 26) 0 by rw [sbc, if_pos (by unfold sbc; omega)], Nat.one_mul] at ih
  obtain ⟨M', r1, r2, r3, r4⟩ := ih
  refine ⟨M', eX11_leastCost (by omega) ?_, r2, r3, hs.tr ((Scr.w rfl).tr r4)⟩
  rw [bX11_leastCost_0]
  have e := bX11_leastCost_4 (d - 1) (nI i) (-1) (nI 0) M N
  simp (disch := omega) only [z0, z1, z2, z3, z4, z5, z6, z7, z8, z9, z10, z11, z12, z13, z14, z15, z16, z17, z18, z19, z20, z24, z26, z30, z31, z40, z41, z50, z54, z60, z70, z80, z81, z99, z100, z200, z255, z599, z1000, z1299, z4096, z1000000, lw0, lw1, lw2, lw3, lw4, lw5, lw6, lw7, lw12, lw50, lw99, lw255, lw599, lw4096, bI_ok, ble_t, Int.cast_ofNat_Int,  decide_true, decide_false, bI_0, bI_1, b_tf, b_ft, eq_self, n_1, n_2, n_3, n_4, n_5, n_6, n_7, n_8, if_true, if_false, jin, ncl, cond_true, cond_false, Option.bind_some, j_ov, j_oi, j_ol, nle, nlt, neq, nI_add, nmul, nsub, ndiv, nrem2, if_pos, if_neg, Nat.zero_add, Nat.add_zero, j_w_ap, decide_eq_true, decide_eq_false, Bool.true_or, Bool.or_true, Bool.false_or, Bool.or_false, Bool.and_true, Bool.true_and, Bool.false_and, Bool.and_false, Bool.not_true, Bool.not_false, hx, q1, hx2] at e
  exact e.trans r1
/-- does one's least cost lie below what it costs now -/
def wc (n : Nat) (g : Nat → Nat) (bill rule : Nat) (a : Nat → Nat) (i : Nat) : Bool := Nat.blt (sbc (cf n g bill rule i (a 26)) (a i / a 26 + 1)) (s_cost n g bill rule i)
theorem M_wouldChange {i : Nat} (hd : 7 ≤ d) (hg : ∀ q, q < n → g q ≤ 99) (hb : bill ≤ 1000) (hr4 : rule ≤ 4) (hi : i < n) (ebi : a 24 = bill) (eru : a 25 = rule) (h : IG n a M) (hl : lay n g M) : ∃ M', C d 185 [.ref 46, .int (nI i)] S0 M N = some (some (.int (bI (wc n g bill rule a i))), M', N) ∧ lay n g M' ∧ Scr M M' := by
  have hn := h.n6
  obtain ⟨M1, q1, q2, q3, q4⟩ := M_leastCost (d := d - 1) (N := N) (by omega) hg hb hr4 hi ebi eru h hl
  have hx := (h.scr q4).may
  obtain ⟨M2, p1, p2, hs, -⟩ := M_costBy (d := d - 1) (N := N) (v := g i) (by omega) (by omega) hg (hg i hi) hb hr4 hi q2 (by rw [hx 24 (by omega), ebi]) (by rw [hx 25 (by omega), eru])
  rw [up_self] at p1
  have hc := s_cost_le (n := n) (bill := bill) (rule := rule) (hg i hi)
  have hsb := (sb_lt (f := cf n g bill rule i (a 26)) (k := a i / a 26 + 1)).1
  refine ⟨M2, eX11_wouldChange (by omega) ?_, p2, q4.tr hs⟩
  have e := bX11_wouldChange_0 (d - 1) (nI i) M N
  have hgi := q2.2 i hi
  simp (disch := omega) only [z0, z1, z2, z3, z4, z5, z6, z7, z8, z9, z10, z11, z12, z13, z14, z15, z16, z17, z18, z19, z20, z24, z26, z30, z31, z40, z41, z50, z54, z60, z70, z80, z81, z99, z100, z200, z255, z599, z1000, z1299, z4096, z1000000, lw0, lw1, lw2, lw3, lw4, lw5, lw6, lw7, lw12, lw50, lw99, lw255, lw599, lw4096, bI_ok, ble_t, Int.cast_ofNat_Int,  decide_true, decide_false, bI_0, bI_1, b_tf, b_ft, eq_self, n_1, n_2, n_3, n_4, n_5, n_6, n_7, n_8, if_true, if_false, jin, ncl, cond_true, cond_false, Option.bind_some, j_ov, j_oi, j_ol, nle, nlt, neq, nI_add, nmul, nsub, ndiv, nrem2, if_pos, if_neg, Nat.zero_add, Nat.add_zero, j_w_ap, decide_eq_true, decide_eq_false, Bool.true_or, Bool.or_true, Bool.false_or, Bool.or_false, Bool.and_true, Bool.true_and, Bool.false_and, Bool.and_false, Bool.not_true, Bool.not_false, q1, hgi, p1] at e
  rw [e]
  unfold wc
  by_cases hlt : sbc (cf n g bill rule i (a 26)) (a i / a 26 + 1) < s_cost n g bill rule i
  · rw [if_neg (by omega), show Nat.blt _ _ = true from Nat.ble_eq_true_of_le hlt]; rfl
  · rw [if_pos (by omega), show Nat.blt (sbc (cf n g bill rule i (a 26)) (a i / a 26 + 1)) (s_cost n g bill rule i) = false from by
      cases hb : Nat.blt (sbc (cf n g bill rule i (a 26)) (a i / a 26 + 1)) (s_cost n g bill rule i) with
      | false => rfl
      | true => exact absurd (Nat.le_of_ble_eq_true hb) hlt]; rfl
theorem X_wc_l {i m now : Nat} (hd : 4 ≤ d) (hn : n ≤ 6) (hg : ∀ q, q < n → g q ≤ 99) (hb : bill ≤ 1000) (hr4 : rule ≤ 4) (hi : i < n) (hm : m = a i / a 26 + 1) (hnow : now ≤ 2000) : ∀ (j k w : Nat) (M : j_M), k + j = m → w ≤ 99 → IG n a M → hatL n (up g i w) bill rule M → (∀ q, q < k → now ≤ cf n g bill rule i (a 26) q) → ∃ M', R d kX6_wouldChange 30 [.ref 10, .int (nI i), .int (nI (g i)), .int (nI now), .int (nI 0), .int (nI m), .int (nI k)] [] (S0, M, N) = some (some (.int (bI (Nat.blt (sbc (cf n g bill rule i (a 26)) m) now))), (S0, M', N)) ∧ hatL n g bill rule M' ∧ Fr [8, 9] M M'
  | 0, k, w, M, hk, hw, h, hl, h3 => by
    have hm2 : m ≤ 100 := by
      have := h.pu99 i (by omega)
      have := Nat.div_le_self (a i) (a 26)
      omega
    obtain rfl : k = m := by omega
    have e := bX6_wouldChange_30 d (nI i) (nI (g i)) (nI now) (nI 0) (nI k) (nI k) M N
    have hw := hl.w (i := i) (v := g i)
    rw [up_up, up_self] at hw
    simp (disch := omega) only [z0, z1, z2, z3, z4, z5, z6, z7, z8, z9, z10, z11, z12, z13, z14, z15, z16, z17, z18, z19, z20, z24, z26, z30, z31, z40, z41, z50, z54, z60, z70, z80, z81, z99, z100, z200, z255, z599, z1000, z1299, z4096, z1000000, lw0, lw1, lw2, lw3, lw4, lw5, lw6, lw7, lw12, lw50, lw99, lw255, lw599, lw4096, bI_ok, ble_t, Int.cast_ofNat_Int,  decide_true, decide_false, bI_0, bI_1, b_tf, b_ft, eq_self, n_1, n_2, n_3, n_4, n_5, n_6, n_7, n_8, if_true, if_false, jin, ncl, cond_true, cond_false, Option.bind_some, j_ov, j_oi, j_ol, nle, nlt, neq, nI_add, nmul, nsub, ndiv, nrem2, if_pos, if_neg, Nat.zero_add, Nat.add_zero, j_w_ap, decide_eq_true, decide_eq_false, Bool.true_or, Bool.or_true, Bool.false_or, Bool.or_false, Bool.and_true, Bool.true_and, Bool.false_and, Bool.and_false, Bool.not_true, Bool.not_false] at e
    refine ⟨_, e.trans ?_, hw, Fr.w (by decide)⟩
    have h0 : cf n g bill rule i (a 26) 0 < 1000000 := by
      have := cf_le (n := n) (g := g) (bill := bill) (rule := rule) (i := i) (st := a 26) (k := 0) (by omega)
      omega
    have hk1 : 1 ≤ k := by rw [hm]; exact Nat.le_add_left 1 _
    have hge : ¬ sbc (cf n g bill rule i (a 26)) k < now := by
      rw [sbc_at h0 hk1]
      have := h3 _ ((sb_lt (f := cf n g bill rule i (a 26)) (k := k)).2 hk1)
      omega
    rw [show Nat.blt (sbc (cf n g bill rule i (a 26)) k) now = false from by
      cases hb : Nat.blt (sbc (cf n g bill rule i (a 26)) k) now with
      | false => rfl
      | true => exact absurd (Nat.le_of_ble_eq_true hb) hge]
    rfl
  | j + 1, k, w, M, hk, hw, h, hl, h3 => by
    have h99 := h.pu99 i (by omega)
    have hm2 : m ≤ 100 := by
      have := Nat.div_le_self (a i) (a 26)
      omega
    have hst := h.st1
    have hv : k * a 26 ≤ 99 := by
      have := (kst (p := a i) hst (k := k)).mpr (by omega)
      omega
    have e := bX6_wouldChange_30 d (nI i) (nI (g i)) (nI now) (nI 0) (nI m) (nI k) M N
    obtain ⟨M1, q1, q2, q3, q4⟩ := X_costBy (d := d) (N := N) (by omega) (by omega) (up_le hg hw) hv hb hr4 hi hl
    rw [up_up] at q1 q2
    have hs := Scr.fr89 q4
    have hc := cf_le (n := n) (g := g) (bill := bill) (rule := rule) (i := i) hv
    have hx := h.st
    have q1 : C d 70 [.ref 10, .int (nI i), .int (nI (k * a 26))] S0 M N = some (some (.int (nI (cf n g bill rule i (a 26) k))), M1, N) := q1
    simp (disch := omega) only [z0, z1, z2, z3, z4, z5, z6, z7, z8, z9, z10, z11, z12, z13, z14, z15, z16, z17, z18, z19, z20, z24, z26, z30, z31, z40, z41, z50, z54, z60, z70, z80, z81, z99, z100, z200, z255, z599, z1000, z1299, z4096, z1000000, lw0, lw1, lw2, lw3, lw4, lw5, lw6, lw7, lw12, lw50, lw99, lw255, lw599, lw4096, bI_ok, ble_t, Int.cast_ofNat_Int,  decide_true, decide_false, bI_0, bI_1, b_tf, b_ft, eq_self, n_1, n_2, n_3, n_4, n_5, n_6, n_7, n_8, if_true, if_false, jin, ncl, cond_true, cond_false, Option.bind_some, j_ov, j_oi, j_ol, nle, nlt, neq, nI_add, nmul, nsub, ndiv, nrem2, if_pos, if_neg, Nat.zero_add, Nat.add_zero, j_w_ap, decide_eq_true, decide_eq_false, Bool.true_or, Bool.or_true, Bool.false_or, Bool.or_false, Bool.and_true, Bool.true_and, Bool.false_and, Bool.and_false, Bool.not_true, Bool.not_false, hx, q1] at e
    by_cases hlt : cf n g bill rule i (a 26) k < now
    · rw [if_neg (by omega)] at e
      have e2 := bX6_wouldChange_30 d (nI i) (nI (g i)) (nI now) (nI 1) (nI m) (nI (k + 1)) M1 N
      have hw := (q2.l q3).w (i := i) (v := g i)
      rw [up_up, up_self] at hw
      have hsk := sbc_le (f := cf n g bill rule i (a 26)) (k := m) (j := k) (by omega)
      simp (disch := omega) only [z0, z1, z2, z3, z4, z5, z6, z7, z8, z9, z10, z11, z12, z13, z14, z15, z16, z17, z18, z19, z20, z24, z26, z30, z31, z40, z41, z50, z54, z60, z70, z80, z81, z99, z100, z200, z255, z599, z1000, z1299, z4096, z1000000, lw0, lw1, lw2, lw3, lw4, lw5, lw6, lw7, lw12, lw50, lw99, lw255, lw599, lw4096, bI_ok, ble_t, Int.cast_ofNat_Int,  decide_true, decide_false, bI_0, bI_1, b_tf, b_ft, eq_self, n_1, n_2, n_3, n_4, n_5, n_6, n_7, n_8, if_true, if_false, jin, ncl, cond_true, cond_false, Option.bind_some, j_ov, j_oi, j_ol, nle, nlt, neq, nI_add, nmul, nsub, ndiv, nrem2, if_pos, if_neg, Nat.zero_add, Nat.add_zero, j_w_ap, decide_eq_true, decide_eq_false, Bool.true_or, Bool.or_true, Bool.false_or, Bool.or_false, Bool.and_true, Bool.true_and, Bool.false_and, Bool.and_false, Bool.not_true, Bool.not_false, ite_self] at e2
      refine ⟨_, e.trans (e2.trans ?_), hw, q4.tr (Fr.w (by decide))⟩
      rw [show Nat.blt (sbc (cf n g bill rule i (a 26)) m) now = true from Nat.ble_eq_true_of_le (by omega)]
      rfl
    · rw [if_pos (by omega)] at e
      obtain ⟨M', r1, r2, r3⟩ := X_wc_l hd hn hg hb hr4 hi hm hnow j (k + 1) (k * a 26) M1 (by omega) hv (h.scr hs) (q2.l q3) (fun q hq => by
        by_cases hqk : q = k
        · subst hqk; omega
        · exact h3 q (by omega))
      exact ⟨M', e.trans r1, r2, q4.tr r3⟩
theorem X_wouldChange {i : Nat} (hd : 5 ≤ d) (hg : ∀ q, q < n → g q ≤ 99) (hb : bill ≤ 1000) (hr4 : rule ≤ 4) (hi : i < n) (h : IG n a M) (hl : hatL n g bill rule M) : ∃ M', C d 72 [.ref 10, .int (nI i)] S0 M N = some (some (.int (bI (wc n g bill rule a i))), M', N) ∧ hatL n g bill rule M' ∧ Fr [8, 9] M M' := by
  have hn := h.n6
  obtain ⟨M1, q1, q2, q3, q4⟩ := X_costBy (d := d - 1) (N := N) (v := g i) (by omega) (by omega) hg (hg i hi) hb hr4 hi hl
  rw [up_self] at q1 q2
  have hs := Scr.fr89 q4
  have p1 := X_sumsOf (d := d - 1) (N := N) (by omega) (h.scr hs) (show i < 6 by omega)
  have hc := s_cost_le (n := n) (bill := bill) (rule := rule) (hg i hi)
  obtain ⟨M', r1, r2, r3⟩ := X_wc_l (d := d - 1) (N := N) (g := g) (by omega) hn hg hb hr4 hi rfl (show s_cost n g bill rule i ≤ 2000 by omega) (a i / a 26 + 1) 0 (g i) M1 (by omega) (hg i hi) (h.scr hs) (by rw [up_self]; exact q2.l q3) (fun q hq => by omega)
  refine ⟨M', eX6_wouldChange (by omega) ?_, r2, q4.tr r3⟩
  have e := bX6_wouldChange_0 (d - 1) (nI i) M N
  have h4i := hl.2.2.2 i hi
  simp (disch := omega) only [z0, z1, z2, z3, z4, z5, z6, z7, z8, z9, z10, z11, z12, z13, z14, z15, z16, z17, z18, z19, z20, z24, z26, z30, z31, z40, z41, z50, z54, z60, z70, z80, z81, z99, z100, z200, z255, z599, z1000, z1299, z4096, z1000000, lw0, lw1, lw2, lw3, lw4, lw5, lw6, lw7, lw12, lw50, lw99, lw255, lw599, lw4096, bI_ok, ble_t, Int.cast_ofNat_Int,  decide_true, decide_false, bI_0, bI_1, b_tf, b_ft, eq_self, n_1, n_2, n_3, n_4, n_5, n_6, n_7, n_8, if_true, if_false, jin, ncl, cond_true, cond_false, Option.bind_some, j_ov, j_oi, j_ol, nle, nlt, neq, nI_add, nmul, nsub, ndiv, nrem2, if_pos, if_neg, Nat.zero_add, Nat.add_zero, j_w_ap, decide_eq_true, decide_eq_false, Bool.true_or, Bool.or_true, Bool.false_or, Bool.or_false, Bool.and_true, Bool.true_and, Bool.false_and, Bool.and_false, Bool.not_true, Bool.not_false, h4i, q1, p1] at e
  exact e.trans r1
theorem M_who_l (hd : 7 ≤ d) (hg : ∀ q, q < n → g q ≤ 99) (hb : bill ≤ 1000) (hr4 : rule ≤ 4) (ebi : a 24 = bill) (eru : a 25 = rule) : ∀ (j k : Nat) (M : j_M), k + j = n → IG n a M → lay n g M → ∃ M', R d kX11_firstWho 2 [.ref 46, .int (nI k)] [] (S0, M, N) = some (some (.int (oM (fst (wc n g bill rule a) j k))), (S0, M', N)) ∧ lay n g M' ∧ Scr M M'
  | 0, k, M, hk, h, hl => by
    have hn := h.n6
    have e := bX11_firstWho_2 d (nI k) M N
    have hx := h.m6
    simp (disch := omega) only [z0, z1, z2, z3, z4, z5, z6, z7, z8, z9, z10, z11, z12, z13, z14, z15, z16, z17, z18, z19, z20, z24, z26, z30, z31, z40, z41, z50, z54, z60, z70, z80, z81, z99, z100, z200, z255, z599, z1000, z1299, z4096, z1000000, lw0, lw1, lw2, lw3, lw4, lw5, lw6, lw7, lw12, lw50, lw99, lw255, lw599, lw4096, bI_ok, ble_t, Int.cast_ofNat_Int,  decide_true, decide_false, bI_0, bI_1, b_tf, b_ft, eq_self, n_1, n_2, n_3, n_4, n_5, n_6, n_7, n_8, if_true, if_false, jin, ncl, cond_true, cond_false, Option.bind_some, j_ov, j_oi, j_ol, nle, nlt, neq, nI_add, nmul, nsub, ndiv, nrem2, if_pos, if_neg, Nat.zero_add, Nat.add_zero, j_w_ap, decide_eq_true, decide_eq_false, Bool.true_or, Bool.or_true, Bool.false_or, Bool.or_false, Bool.and_true, Bool.true_and, Bool.false_and, Bool.and_false, Bool.not_true, Bool.not_false, hx] at e
    exact ⟨M, e, hl, Scr.rf⟩
  | j + 1, k, M, hk, h, hl => by
    have hn := h.n6
    have e := bX11_firstWho_2 d (nI k) M N
    have hx := h.m6
    obtain ⟨M1, q1, q2, q3⟩ := M_wouldChange (d := d) (N := N) hd hg hb hr4 (show k < n by omega) ebi eru h hl
    unfold fst
    cases hw : wc n g bill rule a k with
    | true =>
      rw [hw] at q1
      unfold bI at q1
      rw [cond_true] at q1
      simp (disch := omega) only [z0, z1, z2, z3, z4, z5, z6, z7, z8, z9, z10, z11, z12, z13, z14, z15, z16, z17, z18, z19, z20, z24, z26, z30, z31, z40, z41, z50, z54, z60, z70, z80, z81, z99, z100, z200, z255, z599, z1000, z1299, z4096, z1000000, lw0, lw1, lw2, lw3, lw4, lw5, lw6, lw7, lw12, lw50, lw99, lw255, lw599, lw4096, bI_ok, ble_t, Int.cast_ofNat_Int,  decide_true, decide_false, bI_0, bI_1, b_tf, b_ft, eq_self, n_1, n_2, n_3, n_4, n_5, n_6, n_7, n_8, if_true, if_false, jin, ncl, cond_true, cond_false, Option.bind_some, j_ov, j_oi, j_ol, nle, nlt, neq, nI_add, nmul, nsub, ndiv, nrem2, if_pos, if_neg, Nat.zero_add, Nat.add_zero, j_w_ap, decide_eq_true, decide_eq_false, Bool.true_or, Bool.or_true, Bool.false_or, Bool.or_false, Bool.and_true, Bool.true_and, Bool.false_and, Bool.and_false, Bool.not_true, Bool.not_false, hx, q1] at e
      exact ⟨M1, e, q2, q3⟩
    | false =>
      rw [hw] at q1
      unfold bI at q1
      rw [cond_false] at q1
      simp (disch := omega) only [z0, z1, z2, z3, z4, z5, z6, z7, z8, z9, z10, z11, z12, z13, z14, z15, z16, z17, z18, z19, z20, z24, z26, z30, z31, z40, z41, z50, z54, z60, z70, z80, z81, z99, z100, z200, z255, z599, z1000, z1299, z4096, z1000000, lw0, lw1, lw2, lw3, lw4, lw5, lw6, lw7, lw12, lw50, lw99, lw255, lw599, lw4096, bI_ok, ble_t, Int.cast_ofNat_Int,  decide_true, decide_false, bI_0, bI_1, b_tf, b_ft, eq_self, n_1, n_2, n_3, n_4, n_5, n_6, n_7, n_8, if_true, if_false, jin, ncl, cond_true, cond_false, Option.bind_some, j_ov, j_oi, j_ol, nle, nlt, neq, nI_add, nmul, nsub, ndiv, nrem2, if_pos, if_neg, Nat.zero_add, Nat.add_zero, j_w_ap, decide_eq_true, decide_eq_false, Bool.true_or, Bool.or_true, Bool.false_or, Bool.or_false, Bool.and_true, Bool.true_and, Bool.false_and, Bool.and_false, Bool.not_true, Bool.not_false, hx, q1] at e
      obtain ⟨M', r1, r2, r3⟩ := M_who_l hd hg hb hr4 ebi eru j (k + 1) M1 (by omega) (h.scr q3) q2
      exact ⟨M', e.trans r1, r2, q3.tr r3⟩
theorem M_firstWho (hd : 8 ≤ d) (hg : ∀ q, q < n → g q ≤ 99) (hb : bill ≤ 1000) (hr4 : rule ≤ 4) (ebi : a 24 = bill) (eru : a 25 = rule) (h : IG n a M) (hl : lay n g M) : ∃ M', C d 186 [.ref 46] S0 M N = some (some (.int (oM (fst (wc n g bill rule a) n 0))), M', N) ∧ lay n g M' ∧ Scr M M' := by
  obtain ⟨M', r1, r2, r3⟩ := M_who_l (d := d - 1) (N := N) (by omega) hg hb hr4 ebi eru n 0 M (by omega) h hl
  refine ⟨M', eX11_firstWho (by omega) ?_, r2, r3⟩
  rw [bX11_firstWho_0]
  exact r1
theorem X_who_l (hd : 5 ≤ d) (hg : ∀ q, q < n → g q ≤ 99) (hb : bill ≤ 1000) (hr4 : rule ≤ 4) : ∀ (j k : Nat) (M : j_M), k + j = n → IG n a M → hatL n g bill rule M → ∃ M', R d kX6_firstRestless 2 [.ref 10, .int (nI k)] [] (S0, M, N) = some (some (.int (oM (fst (wc n g bill rule a) j k))), (S0, M', N)) ∧ hatL n g bill rule M' ∧ Fr [8, 9] M M'
  | 0, k, M, hk, h, hl => by
    have hn := h.n6
    have e := bX6_firstRestless_2 d (nI k) M N
    have hx := hl.1
    simp (disch := omega) only [z0, z1, z2, z3, z4, z5, z6, z7, z8, z9, z10, z11, z12, z13, z14, z15, z16, z17, z18, z19, z20, z24, z26, z30, z31, z40, z41, z50, z54, z60, z70, z80, z81, z99, z100, z200, z255, z599, z1000, z1299, z4096, z1000000, lw0, lw1, lw2, lw3, lw4, lw5, lw6, lw7, lw12, lw50, lw99, lw255, lw599, lw4096, bI_ok, ble_t, Int.cast_ofNat_Int,  decide_true, decide_false, bI_0, bI_1, b_tf, b_ft, eq_self, n_1, n_2, n_3, n_4, n_5, n_6, n_7, n_8, if_true, if_false, jin, ncl, cond_true, cond_false, Option.bind_some, j_ov, j_oi, j_ol, nle, nlt, neq, nI_add, nmul, nsub, ndiv, nrem2, if_pos, if_neg, Nat.zero_add, Nat.add_zero, j_w_ap, decide_eq_true, decide_eq_false, Bool.true_or, Bool.or_true, Bool.false_or, Bool.or_false, Bool.and_true, Bool.true_and, Bool.false_and, Bool.and_false, Bool.not_true, Bool.not_false, hx] at e
    exact ⟨M, e, hl, Fr.rf⟩
  | j + 1, k, M, hk, h, hl => by
    have hn := h.n6
    have e := bX6_firstRestless_2 d (nI k) M N
    have hx := hl.1
    obtain ⟨M1, q1, q2, q3⟩ := X_wouldChange (d := d) (N := N) hd hg hb hr4 (show k < n by omega) h hl
    unfold fst
    cases hw : wc n g bill rule a k with
    | true =>
      rw [hw] at q1
      unfold bI at q1
      rw [cond_true] at q1
      simp (disch := omega) only [z0, z1, z2, z3, z4, z5, z6, z7, z8, z9, z10, z11, z12, z13, z14, z15, z16, z17, z18, z19, z20, z24, z26, z30, z31, z40, z41, z50, z54, z60, z70, z80, z81, z99, z100, z200, z255, z599, z1000, z1299, z4096, z1000000, lw0, lw1, lw2, lw3, lw4, lw5, lw6, lw7, lw12, lw50, lw99, lw255, lw599, lw4096, bI_ok, ble_t, Int.cast_ofNat_Int,  decide_true, decide_false, bI_0, bI_1, b_tf, b_ft, eq_self, n_1, n_2, n_3, n_4, n_5, n_6, n_7, n_8, if_true, if_false, jin, ncl, cond_true, cond_false, Option.bind_some, j_ov, j_oi, j_ol, nle, nlt, neq, nI_add, nmul, nsub, ndiv, nrem2, if_pos, if_neg, Nat.zero_add, Nat.add_zero, j_w_ap, decide_eq_true, decide_eq_false, Bool.true_or, Bool.or_true, Bool.false_or, Bool.or_false, Bool.and_true, Bool.true_and, Bool.false_and, Bool.and_false, Bool.not_true, Bool.not_false, hx, q1] at e
      exact ⟨M1, e, q2, q3⟩
    | false =>
      rw [hw] at q1
      unfold bI at q1
      rw [cond_false] at q1
      simp (disch := omega) only [z0, z1, z2, z3, z4, z5, z6, z7, z8, z9, z10, z11, z12, z13, z14, z15, z16, z17, z18, z19, z20, z24, z26, z30, z31, z40, z41, z50, z54, z60, z70, z80, z81, z99, z100, z200, z255, z599, z1000, z1299, z4096, z1000000, lw0, lw1, lw2, lw3, lw4, lw5, lw6, lw7, lw12, lw50, lw99, lw255, lw599, lw4096, bI_ok, ble_t, Int.cast_ofNat_Int,  decide_true, decide_false, bI_0, bI_1, b_tf, b_ft, eq_self, n_1, n_2, n_3, n_4, n_5, n_6, n_7, n_8, if_true, if_false, jin, ncl, cond_true, cond_false, Option.bind_some, j_ov, j_oi, j_ol, nle, nlt, neq, nI_add, nmul, nsub, ndiv, nrem2, if_pos, if_neg, Nat.zero_add, Nat.add_zero, j_w_ap, decide_eq_true, decide_eq_false, Bool.true_or, Bool.or_true, Bool.false_or, Bool.or_false, Bool.and_true, Bool.true_and, Bool.false_and, Bool.and_false, Bool.not_true, Bool.not_false, hx, q1] at e
      obtain ⟨M', r1, r2, r3⟩ := X_who_l hd hg hb hr4 j (k + 1) M1 (by omega) (h.scr (Scr.fr89 q3)) q2
      exact ⟨M', e.trans r1, r2, q3.tr r3⟩
theorem X_firstRestless (hd : 6 ≤ d) (hg : ∀ q, q < n → g q ≤ 99) (hb : bill ≤ 1000) (hr4 : rule ≤ 4) (h : IG n a M) (hl : hatL n g bill rule M) : ∃ M', C d 73 [.ref 10] S0 M N = some (some (.int (oM (fst (wc n g bill rule a) n 0))), M', N) ∧ hatL n g bill rule M' ∧ Fr [8, 9] M M' := by
  obtain ⟨M', r1, r2, r3⟩ := X_who_l (d := d - 1) (N := N) (by omega) hg hb hr4 n 0 M (by omega) h hl
  refine ⟨M', eX6_firstRestless (by omega) ?_, r2, r3⟩
  rw [bX6_firstRestless_0]
  exact r1
end MI
