/-! ===== rest, rests (own text) ===== -/
theorem fst_some {P : Nat → Bool} : ∀ {j k q : Nat}, fst P j k = some q → k ≤ q ∧ q < k + j ∧ P q = true
  | 0, k, q, h => by cases h
  | j + 1, k, q, h => by
    unfold fst at h
    cases hp : P k with
    | true =>
      rw [hp] at h
      cases h
      exact ⟨Nat.le_refl _, by omega, hp⟩
    | false =>
      rw [hp] at h
      have := fst_some h
      exact ⟨by omega, by omega, this.2.2⟩
theorem lgc_gt {x y : Int64} : (nI 0 < lg_cmp x y) = (y < x) := propext (lg_cmp_gt x y)
theorem lgc_ge {x y : Int64} : (nI 0 ≤ lg_cmp x y) = (y ≤ x) := propext (lg_cmp_ge x y)
theorem lgc_lt {x y : Int64} : (lg_cmp x y < nI 0) = (x < y) := propext (lg_cmp_lt x y)
theorem lgc_le {x y : Int64} : (lg_cmp x y ≤ nI 0) = (x ≤ y) := propext (lg_cmp_le x y)
theorem lgc_eq {x y : Int64} : (lg_cmp x y = nI 0) = (x = y) := propext (lg_cmp_eq x y)
theorem llt {a b : Nat} (ha : a < 9223372036854775808) (hb : b < 9223372036854775808) : (lN a < lN b) = (a < b) := propext (pk_lLT ha hb)
theorem lle {a b : Nat} (ha : a < 9223372036854775808) (hb : b < 9223372036854775808) : (lN a ≤ lN b) = (a ≤ b) := propext (pk_lLE ha hb)
theorem leq {a b : Nat} (ha : a < 9223372036854775808) (hb : b < 9223372036854775808) : (lN a = lN b) = (a = b) := propext (pk_lEQ ha hb)
/-- the index below k -/
def pd : Nat → Int32
  | 0 => -nI 1
  | k + 1 => nI k
theorem pd_sub {k : Nat} : nI k - nI 1 = pd k := by
  cases k with
  | zero => rfl
  | succ k => rw [nsub (by omega)]; rfl
theorem pd_add {k : Nat} : nI k + -nI 1 = pd k := by
  rw [← Int32.sub_eq_add_neg, pd_sub]
/-- how many ways -/
def wp (a : Nat → Nat) : Nat → Nat
  | 0 => 1
  | k + 1 => wp a k * (a k / a 26 + 1)
def wg (a : Nat → Nat) : Nat → Nat → Nat → Nat
  | 0, _, _ => 0
  | k + 1, l, i => if i = k then l % (a k / a 26 + 1) * a 26 else wg a k (l / (a k / a 26 + 1)) i
def lf (a : Nat → Nat) : Nat → Nat → Nat
  | 0, l => l
  | k + 1, l => lf a k (l / (a k / a 26 + 1))
theorem wp_pos {a : Nat → Nat} : ∀ k, 1 ≤ wp a k
  | 0 => Nat.le_refl _
  | k + 1 => by
    have := wp_pos (a := a) k
    unfold wp
    exact Nat.le_trans this (Nat.le_mul_of_pos_right _ (Nat.succ_pos _))
theorem wp_le {a : Nat → Nat} : ∀ k, (∀ i, i < k → a i ≤ 99) → wp a k ≤ 100 ^ k
  | 0, _ => Nat.le_refl _
  | k + 1, h => by
    have h1 := wp_le (a := a) k (fun i hi => h i (by omega))
    have h2 := h k (by omega)
    have h3 := Nat.div_le_self (a k) (a 26)
    unfold wp
    rw [Nat.pow_succ]
    exact Nat.mul_le_mul h1 (by omega)
theorem wp_mono {a : Nat → Nat} {k : Nat} : ∀ j, wp a k ≤ wp a (k + j)
  | 0 => Nat.le_refl _
  | j + 1 => by
    have := wp_mono (a := a) (k := k) j
    refine Nat.le_trans this ?_
    show _ ≤ wp a (k + j) * _
    exact Nat.le_mul_of_pos_right _ (Nat.succ_pos _)
theorem wg_le {a : Nat → Nat} (hs : 1 ≤ a 26) : ∀ (k l i : Nat), i < k → wg a k l i ≤ a i
  | 0, _, _, h => by omega
  | k + 1, l, i, h => by
    unfold wg
    by_cases hi : i = k
    · rw [if_pos hi, hi]
      exact (kst hs).mpr (Nat.mod_lt _ (Nat.succ_pos _))
    · rw [if_neg hi]
      exact wg_le hs k _ i (by omega)
/-- how many, and the first -/
def cn (P : Nat → Bool) : Nat → Nat
  | 0 => 0
  | k + 1 => cn P k + (bif P k then 1 else 0)
def ff (P : Nat → Bool) : Nat → Option Nat
  | 0 => none
  | k + 1 => match ff P k with
    | some w => some w
    | none => bif P k then some k else none
theorem cn_le {P : Nat → Bool} : ∀ k, cn P k ≤ k
  | 0 => Nat.le_refl _
  | k + 1 => by
    have := cn_le (P := P) k
    unfold cn
    cases P k <;> simp only [cond_true, cond_false] <;> omega
theorem ff_cn {P : Nat → Bool} : ∀ k, (ff P k = none ↔ cn P k = 0)
  | 0 => ⟨fun _ => rfl, fun _ => rfl⟩
  | k + 1 => by
    have := ff_cn (P := P) k
    unfold ff cn
    cases hf : ff P k with
    | some w =>
      have : cn P k ≠ 0 := fun z => by rw [this.mpr z] at hf; cases hf
      simp only [reduceCtorEq, false_iff]
      omega
    | none =>
      rw [this.mp hf]
      cases hp : P k <;> simp
def rp (n : Nat) (a : Nat → Nat) (w : Nat) : Bool := (fst (wc n (wg a n w) (a 24) (a 25) a) n 0).isNone
section RE
variable {d n bill rule : Nat} {g a : Nat → Nat} {M : j_M} {N : j_N} {x : Int32}
theorem Q_rest (hd : 20 ≤ d) (h : IG n a M) : ∃ r M1 M2, C d 118 [.ref 0, .int x] S0 M N = some (some (.int r), M1, N) ∧ C d 187 [.ref 46, .int x] S0 M1 N = some (some (.int r), M2, N) ∧ Scr M M2 := by
  have hn := h.n6
  have hh := fun x => X_has (d := d - 1) (N := N) (x := x) (by omega) h.x6 (by omega)
  have hh2 : ∀ M1, Scr M M1 → ∀ x, C (d - 1) 160 [.ref 46, .int x] S0 M1 N = some (some (.int (bI (ib x 0 ((n : Int) - 1)))), M1, N) := fun M1 hs x => M_isGuest (by omega) (h.scr hs).m6 (by omega)
  have hg9 : ∀ q, q < n → gf a q ≤ 99 := fun q hq => h.gi99 q (by omega)
  have hb9 := h.bi599
  have e1 := bX10_rest_0 (d - 1) x M N
  have e2 := fun M1 => bX11_rest_0 (d - 1) x M1 N
  cases h2 : ib x 0 1 with
  | false =>
    have e2 := e2 M
    simp (disch := omega) only [z0, z1, z2, z3, z4, z5, z6, z7, z8, z9, z10, z11, z12, z13, z14, z15, z16, z17, z18, z19, z20, z24, z26, z30, z31, z40, z41, z50, z54, z60, z70, z80, z81, z99, z100, z200, z255, z599, z1000, z1299, z4096, z1000000, lw0, lw1, lw2, lw3, lw4, lw5, lw6, lw7, lw12, lw50, lw99, lw255, lw599, lw4096, bI_ok, ble_t, Int.cast_ofNat_Int,  decide_true, decide_false, bI_0, bI_1, b_tf, b_ft, eq_self, n_1, n_2, n_3, n_4, n_5, n_6, n_7, n_8, if_true, if_false, jin, ncl, cond_true, cond_false, Option.bind_some, j_ov, j_oi, j_ol, nle, nlt, neq, nI_add, nmul, nsub, ndiv, nrem2, if_pos, if_neg, Nat.zero_add, Nat.add_zero, j_w_ap, decide_eq_true, decide_eq_false, Bool.true_or, Bool.or_true, Bool.false_or, Bool.or_false, Bool.and_true, Bool.true_and, Bool.false_and, Bool.and_false, Bool.not_true, Bool.not_false, X_within, h2] at e1
    simp (disch := omega) only [z0, z1, z2, z3, z4, z5, z6, z7, z8, z9, z10, z11, z12, z13, z14, z15, z16, z17, z18, z19, z20, z24, z26, z30, z31, z40, z41, z50, z54, z60, z70, z80, z81, z99, z100, z200, z255, z599, z1000, z1299, z4096, z1000000, lw0, lw1, lw2, lw3, lw4, lw5, lw6, lw7, lw12, lw50, lw99, lw255, lw599, lw4096, bI_ok, ble_t, Int.cast_ofNat_Int,  decide_true, decide_false, bI_0, bI_1, b_tf, b_ft, eq_self, n_1, n_2, n_3, n_4, n_5, n_6, n_7, n_8, if_true, if_false, jin, ncl, cond_true, cond_false, Option.bind_some, j_ov, j_oi, j_ol, nle, nlt, neq, nI_add, nmul, nsub, ndiv, nrem2, if_pos, if_neg, Nat.zero_add, Nat.add_zero, j_w_ap, decide_eq_true, decide_eq_false, Bool.true_or, Bool.or_true, Bool.false_or, Bool.or_false, Bool.and_true, Bool.true_and, Bool.false_and, Bool.and_false, Bool.not_true, Bool.not_false, M_within, h2] at e2
    exact ⟨_, _, _, eX10_rest (by omega) e1, eX11_rest (by omega) e2, Scr.rf⟩
  | true =>
    obtain ⟨M1, q1, q2, q3, q4⟩ := X_lay (d := d - 1) (N := N) (by omega) h
    obtain ⟨M2, p1, p2, p5⟩ := X_firstRestless (d := d - 1) (N := N) (by omega) hg9 (by omega) h.ru4 (h.scr q4) (q2.l q3)
    have hs := q4.tr (Scr.fr89 p5)
    obtain ⟨M3, s1, s2, s3⟩ := M_lay (d := d - 1) (N := N) (by omega) (h.scr hs)
    obtain ⟨M4, t1, t2, t4⟩ := M_firstWho (d := d - 1) (N := N) (by omega) hg9 (by omega) h.ru4 rfl rfl (h.scr (hs.tr s3)) s2
    have e2 := e2 M2
    simp (disch := omega) only [z0, z1, z2, z3, z4, z5, z6, z7, z8, z9, z10, z11, z12, z13, z14, z15, z16, z17, z18, z19, z20, z24, z26, z30, z31, z40, z41, z50, z54, z60, z70, z80, z81, z99, z100, z200, z255, z599, z1000, z1299, z4096, z1000000, lw0, lw1, lw2, lw3, lw4, lw5, lw6, lw7, lw12, lw50, lw99, lw255, lw599, lw4096, bI_ok, ble_t, Int.cast_ofNat_Int,  decide_true, decide_false, bI_0, bI_1, b_tf, b_ft, eq_self, n_1, n_2, n_3, n_4, n_5, n_6, n_7, n_8, if_true, if_false, jin, ncl, cond_true, cond_false, Option.bind_some, j_ov, j_oi, j_ol, nle, nlt, neq, nI_add, nmul, nsub, ndiv, nrem2, if_pos, if_neg, Nat.zero_add, Nat.add_zero, j_w_ap, decide_eq_true, decide_eq_false, Bool.true_or, Bool.or_true, Bool.false_or, Bool.or_false, Bool.and_true, Bool.true_and, Bool.false_and, Bool.and_false, Bool.not_true, Bool.not_false, X_within, h2, q1, p1] at e1
    simp (disch := omega) only [z0, z1, z2, z3, z4, z5, z6, z7, z8, z9, z10, z11, z12, z13, z14, z15, z16, z17, z18, z19, z20, z24, z26, z30, z31, z40, z41, z50, z54, z60, z70, z80, z81, z99, z100, z200, z255, z599, z1000, z1299, z4096, z1000000, lw0, lw1, lw2, lw3, lw4, lw5, lw6, lw7, lw12, lw50, lw99, lw255, lw599, lw4096, bI_ok, ble_t, Int.cast_ofNat_Int,  decide_true, decide_false, bI_0, bI_1, b_tf, b_ft, eq_self, n_1, n_2, n_3, n_4, n_5, n_6, n_7, n_8, if_true, if_false, jin, ncl, cond_true, cond_false, Option.bind_some, j_ov, j_oi, j_ol, nle, nlt, neq, nI_add, nmul, nsub, ndiv, nrem2, if_pos, if_neg, Nat.zero_add, Nat.add_zero, j_w_ap, decide_eq_true, decide_eq_false, Bool.true_or, Bool.or_true, Bool.false_or, Bool.or_false, Bool.and_true, Bool.true_and, Bool.false_and, Bool.and_false, Bool.not_true, Bool.not_false, M_within, h2, s1, t1] at e2
    obtain ⟨j, -, hj, rfl⟩ := ib_ex (lo := 0) (hi := 1) h2 (by omega)
    cases hf : fst (wc n (gf a) (a 24) (a 25) a) n 0 with
    | none =>
      rw [hf] at e1 e2
      unfold oM at e1 e2
      by_cases hj1 : j = 1
      · simp (disch := omega) only [z0, z1, z2, z3, z4, z5, z6, z7, z8, z9, z10, z11, z12, z13, z14, z15, z16, z17, z18, z19, z20, z24, z26, z30, z31, z40, z41, z50, z54, z60, z70, z80, z81, z99, z100, z200, z255, z599, z1000, z1299, z4096, z1000000, lw0, lw1, lw2, lw3, lw4, lw5, lw6, lw7, lw12, lw50, lw99, lw255, lw599, lw4096, bI_ok, ble_t, Int.cast_ofNat_Int,  decide_true, decide_false, bI_0, bI_1, b_tf, b_ft, eq_self, n_1, n_2, n_3, n_4, n_5, n_6, n_7, n_8, if_true, if_false, jin, ncl, cond_true, cond_false, Option.bind_some, j_ov, j_oi, j_ol, nle, nlt, neq, nI_add, nmul, nsub, ndiv, nrem2, if_pos, if_neg, Nat.zero_add, Nat.add_zero, j_w_ap, decide_eq_true, decide_eq_false, Bool.true_or, Bool.or_true, Bool.false_or, Bool.or_false, Bool.and_true, Bool.true_and, Bool.false_and, Bool.and_false, Bool.not_true, Bool.not_false, hj1] at e1 e2
        exact ⟨_, _, _, eX10_rest (by omega) (by rw [hj1]; exact e1), eX11_rest (by omega) (by rw [hj1]; exact e2), (hs.tr s3).tr t4⟩
      · simp (disch := omega) only [z0, z1, z2, z3, z4, z5, z6, z7, z8, z9, z10, z11, z12, z13, z14, z15, z16, z17, z18, z19, z20, z24, z26, z30, z31, z40, z41, z50, z54, z60, z70, z80, z81, z99, z100, z200, z255, z599, z1000, z1299, z4096, z1000000, lw0, lw1, lw2, lw3, lw4, lw5, lw6, lw7, lw12, lw50, lw99, lw255, lw599, lw4096, bI_ok, ble_t, Int.cast_ofNat_Int,  decide_true, decide_false, bI_0, bI_1, b_tf, b_ft, eq_self, n_1, n_2, n_3, n_4, n_5, n_6, n_7, n_8, if_true, if_false, jin, ncl, cond_true, cond_false, Option.bind_some, j_ov, j_oi, j_ol, nle, nlt, neq, nI_add, nmul, nsub, ndiv, nrem2, if_pos, if_neg, Nat.zero_add, Nat.add_zero, j_w_ap, decide_eq_true, decide_eq_false, Bool.true_or, Bool.or_true, Bool.false_or, Bool.or_false, Bool.and_true, Bool.true_and, Bool.false_and, Bool.and_false, Bool.not_true, Bool.not_false] at e1 e2
        exact ⟨_, _, _, eX10_rest (by omega) e1, eX11_rest (by omega) e2, (hs.tr s3).tr t4⟩
    | some k =>
      have hk := fst_some hf
      rw [hf] at e1 e2
      unfold oM at e1 e2
      by_cases hj1 : j = 1
      · simp (disch := omega) only [z0, z1, z2, z3, z4, z5, z6, z7, z8, z9, z10, z11, z12, z13, z14, z15, z16, z17, z18, z19, z20, z24, z26, z30, z31, z40, z41, z50, z54, z60, z70, z80, z81, z99, z100, z200, z255, z599, z1000, z1299, z4096, z1000000, lw0, lw1, lw2, lw3, lw4, lw5, lw6, lw7, lw12, lw50, lw99, lw255, lw599, lw4096, bI_ok, ble_t, Int.cast_ofNat_Int,  decide_true, decide_false, bI_0, bI_1, b_tf, b_ft, eq_self, n_1, n_2, n_3, n_4, n_5, n_6, n_7, n_8, if_true, if_false, jin, ncl, cond_true, cond_false, Option.bind_some, j_ov, j_oi, j_ol, nle, nlt, neq, nI_add, nmul, nsub, ndiv, nrem2, if_pos, if_neg, Nat.zero_add, Nat.add_zero, j_w_ap, decide_eq_true, decide_eq_false, Bool.true_or, Bool.or_true, Bool.false_or, Bool.or_false, Bool.and_true, Bool.true_and, Bool.false_and, Bool.and_false, Bool.not_true, Bool.not_false, hj1] at e1 e2
        exact ⟨_, _, _, eX10_rest (by omega) (by rw [hj1]; exact e1), eX11_rest (by omega) (by rw [hj1]; exact e2), (hs.tr s3).tr t4⟩
      · simp (disch := omega) only [z0, z1, z2, z3, z4, z5, z6, z7, z8, z9, z10, z11, z12, z13, z14, z15, z16, z17, z18, z19, z20, z24, z26, z30, z31, z40, z41, z50, z54, z60, z70, z80, z81, z99, z100, z200, z255, z599, z1000, z1299, z4096, z1000000, lw0, lw1, lw2, lw3, lw4, lw5, lw6, lw7, lw12, lw50, lw99, lw255, lw599, lw4096, bI_ok, ble_t, Int.cast_ofNat_Int,  decide_true, decide_false, bI_0, bI_1, b_tf, b_ft, eq_self, n_1, n_2, n_3, n_4, n_5, n_6, n_7, n_8, if_true, if_false, jin, ncl, cond_true, cond_false, Option.bind_some, j_ov, j_oi, j_ol, nle, nlt, neq, nI_add, nmul, nsub, ndiv, nrem2, if_pos, if_neg, Nat.zero_add, Nat.add_zero, j_w_ap, decide_eq_true, decide_eq_false, Bool.true_or, Bool.or_true, Bool.false_or, Bool.or_false, Bool.and_true, Bool.true_and, Bool.false_and, Bool.and_false, Bool.not_true, Bool.not_false] at e1 e2
        exact ⟨_, _, _, eX10_rest (by omega) e1, eX11_rest (by omega) e2, (hs.tr s3).tr t4⟩
theorem X_ways_l (h : IG n a M) (hd : 1 ≤ d) : ∀ (j k : Nat), k + j = n → R d kX6_ways 4 [.ref 10, .long (lN (wp a k)), .null, .int (nI k)] [] (S0, M, N) = some (some (.long (lN (wp a n))), (S0, M, N))
  | 0, k, hk => by
    have hn := h.n6
    obtain rfl : k = n := by omega
    have e := bX6_ways_4 d (lN (wp a k)) (nI k) M N
    have hx := h.x6
    simp (disch := omega) only [z0, z1, z2, z3, z4, z5, z6, z7, z8, z9, z10, z11, z12, z13, z14, z15, z16, z17, z18, z19, z20, z24, z26, z30, z31, z40, z41, z50, z54, z60, z70, z80, z81, z99, z100, z200, z255, z599, z1000, z1299, z4096, z1000000, lw0, lw1, lw2, lw3, lw4, lw5, lw6, lw7, lw12, lw50, lw99, lw255, lw599, lw4096, bI_ok, ble_t, Int.cast_ofNat_Int,  decide_true, decide_false, bI_0, bI_1, b_tf, b_ft, eq_self, n_1, n_2, n_3, n_4, n_5, n_6, n_7, n_8, if_true, if_false, jin, ncl, cond_true, cond_false, Option.bind_some, j_ov, j_oi, j_ol, nle, nlt, neq, nI_add, nmul, nsub, ndiv, nrem2, if_pos, if_neg, Nat.zero_add, Nat.add_zero, j_w_ap, decide_eq_true, decide_eq_false, Bool.true_or, Bool.or_true, Bool.false_or, Bool.or_false, Bool.and_true, Bool.true_and, Bool.false_and, Bool.and_false, Bool.not_true, Bool.not_false, hx] at e
    exact e
  | j + 1, k, hk => by
    have hn := h.n6
    have e := bX6_ways_4 d (lN (wp a k)) (nI k) M N
    have hx := h.x6
    have q := X_sumsOf (d := d) (N := N) hd h (show k < 6 by omega)
    have h9 := h.pu99 k (by omega)
    have h10 := Nat.div_le_self (a k) (a 26)
    simp (disch := omega) only [z0, z1, z2, z3, z4, z5, z6, z7, z8, z9, z10, z11, z12, z13, z14, z15, z16, z17, z18, z19, z20, z24, z26, z30, z31, z40, z41, z50, z54, z60, z70, z80, z81, z99, z100, z200, z255, z599, z1000, z1299, z4096, z1000000, lw0, lw1, lw2, lw3, lw4, lw5, lw6, lw7, lw12, lw50, lw99, lw255, lw599, lw4096, bI_ok, ble_t, Int.cast_ofNat_Int,  decide_true, decide_false, bI_0, bI_1, b_tf, b_ft, eq_self, n_1, n_2, n_3, n_4, n_5, n_6, n_7, n_8, if_true, if_false, jin, ncl, cond_true, cond_false, Option.bind_some, j_ov, j_oi, j_ol, nle, nlt, neq, nI_add, nmul, nsub, ndiv, nrem2, if_pos, if_neg, Nat.zero_add, Nat.add_zero, j_w_ap, decide_eq_true, decide_eq_false, Bool.true_or, Bool.or_true, Bool.false_or, Bool.or_false, Bool.and_true, Bool.true_and, Bool.false_and, Bool.and_false, Bool.not_true, Bool.not_false, hx, q, nI_l, lN_mul] at e
    exact e.trans (X_ways_l h hd j (k + 1) (by omega))
theorem X_ways (hd : 2 ≤ d) (h : IG n a M) : C d 75 [.ref 10] S0 M N = some (some (.long (lN (wp a n))), M, N) := by
  refine eX6_ways (by omega) ?_
  rw [bX6_ways_0]
  exact X_ways_l h (by omega) n 0 (by omega)
theorem wp12 (h : IG n a M) : wp a n ≤ 1000000000000 := by
  have hn := h.n6
  refine Nat.le_trans (wp_le n (fun i hi => h.pu99 i (by omega))) ?_
  exact Nat.pow_le_pow_right (by omega) hn
theorem X_fewWays (hd : 3 ≤ d) (h : IG n a M) : C d 76 [.ref 10] S0 M N = some (some (.int (bI (Nat.ble (wp a n) 4096))), M, N) := by
  refine eX6_fewWays (by omega) ?_
  have e := bX6_fewWays_0 (d - 1) M N
  have q := X_ways (d := d - 1) (N := N) (by omega) h
  have hw := wp12 h
  simp (disch := omega) only [z0, z1, z2, z3, z4, z5, z6, z7, z8, z9, z10, z11, z12, z13, z14, z15, z16, z17, z18, z19, z20, z24, z26, z30, z31, z40, z41, z50, z54, z60, z70, z80, z81, z99, z100, z200, z255, z599, z1000, z1299, z4096, z1000000, lw0, lw1, lw2, lw3, lw4, lw5, lw6, lw7, lw12, lw50, lw99, lw255, lw599, lw4096, bI_ok, ble_t, Int.cast_ofNat_Int,  decide_true, decide_false, bI_0, bI_1, b_tf, b_ft, eq_self, n_1, n_2, n_3, n_4, n_5, n_6, n_7, n_8, if_true, if_false, jin, ncl, cond_true, cond_false, Option.bind_some, j_ov, j_oi, j_ol, nle, nlt, neq, nI_add, nmul, nsub, ndiv, nrem2, if_pos, if_neg, Nat.zero_add, Nat.add_zero, j_w_ap, decide_eq_true, decide_eq_false, Bool.true_or, Bool.or_true, Bool.false_or, Bool.or_false, Bool.and_true, Bool.true_and, Bool.false_and, Bool.and_false, Bool.not_true, Bool.not_false, q, lgc_gt, llt] at e
  rw [e]
  by_cases hl : wp a n ≤ 4096
  · rw [if_neg (by omega), ble_t hl]; rfl
  · rw [if_pos (by omega), show Nat.ble (wp a n) 4096 = false from by
      cases hb : Nat.ble (wp a n) 4096 with
      | false => rfl
      | true => exact absurd (Nat.le_of_ble_eq_true hb) hl]; rfl
theorem X_layWay_l (hd : 1 ≤ d) : ∀ (k l : Nat) (M : j_M), k ≤ 6 → l ≤ 4096 → IG n a M → ∃ M', R d kX6_layWay 12 [.ref 10, .null, .int (nI l), .int (pd k), .null] [] (S0, M, N) = some (none, (S0, M', N)) ∧ (∀ i, i < k → M' 9 i = nI (wg a k l i)) ∧ (∀ i, k ≤ i → M' 9 i = M 9 i) ∧ Fr [9] M M'
  | 0, l, M, hk, hl, h => by
    have e := bX6_layWay_12 d (nI l) (pd 0) M N
    unfold pd at e
    simp (disch := omega) only [z0, z1, z2, z3, z4, z5, z6, z7, z8, z9, z10, z11, z12, z13, z14, z15, z16, z17, z18, z19, z20, z24, z26, z30, z31, z40, z41, z50, z54, z60, z70, z80, z81, z99, z100, z200, z255, z599, z1000, z1299, z4096, z1000000, lw0, lw1, lw2, lw3, lw4, lw5, lw6, lw7, lw12, lw50, lw99, lw255, lw599, lw4096, bI_ok, ble_t, Int.cast_ofNat_Int,  decide_true, decide_false, bI_0, bI_1, b_tf, b_ft, eq_self, n_1, n_2, n_3, n_4, n_5, n_6, n_7, n_8, if_true, if_false, jin, ncl, cond_true, cond_false, Option.bind_some, j_ov, j_oi, j_ol, nle, nlt, neq, nI_add, nmul, nsub, ndiv, nrem2, if_pos, if_neg, Nat.zero_add, Nat.add_zero, j_w_ap, decide_eq_true, decide_eq_false, Bool.true_or, Bool.or_true, Bool.false_or, Bool.or_false, Bool.and_true, Bool.true_and, Bool.false_and, Bool.and_false, Bool.not_true, Bool.not_false] at e
    exact ⟨M, e, fun i hi => by omega, fun i hi => rfl, Fr.rf⟩
  | k + 1, l, M, hk, hl, h => by
    have e := bX6_layWay_12 d (nI l) (pd (k + 1)) M N
    have q := X_sumsOf (d := d) (N := N) hd h (show k < 6 by omega)
    have h9 := h.pu99 k (by omega)
    have h10 := Nat.div_le_self (a k) (a 26)
    have hst := h.st
    have hs : Scr M (j_w M 9 k (nI (l % (a k / a 26 + 1) * a 26))) := Scr.w rfl
    have hdl := Nat.div_le_self l (a k / a 26 + 1)
    unfold pd at e
    simp (disch := omega) only [z0, z1, z2, z3, z4, z5, z6, z7, z8, z9, z10, z11, z12, z13, z14, z15, z16, z17, z18, z19, z20, z24, z26, z30, z31, z40, z41, z50, z54, z60, z70, z80, z81, z99, z100, z200, z255, z599, z1000, z1299, z4096, z1000000, lw0, lw1, lw2, lw3, lw4, lw5, lw6, lw7, lw12, lw50, lw99, lw255, lw599, lw4096, bI_ok, ble_t, Int.cast_ofNat_Int,  decide_true, decide_false, bI_0, bI_1, b_tf, b_ft, eq_self, n_1, n_2, n_3, n_4, n_5, n_6, n_7, n_8, if_true, if_false, jin, ncl, cond_true, cond_false, Option.bind_some, j_ov, j_oi, j_ol, nle, nlt, neq, nI_add, nmul, nsub, ndiv, nrem2, if_pos, if_neg, Nat.zero_add, Nat.add_zero, j_w_ap, decide_eq_true, decide_eq_false, Bool.true_or, Bool.or_true, Bool.false_or, Bool.or_false, Bool.and_true, Bool.true_and, Bool.false_and, Bool.and_false, Bool.not_true, Bool.not_false, q, hst, pd_add] at e
    obtain ⟨M', r1, r2, r3, r4⟩ := X_layWay_l hd k (l / (a k / a 26 + 1)) _ (by omega) (by omega) (h.scr hs)
    refine ⟨M', e.trans r1, fun i hi => ?_, fun i hi => ?_, (Fr.w (by decide)).tr r4⟩
    · unfold wg
      by_cases hik : i = k
      · rw [if_pos hik, hik, r3 k (Nat.le_refl _)]
        simp (disch := omega) only [z0, z1, z2, z3, z4, z5, z6, z7, z8, z9, z10, z11, z12, z13, z14, z15, z16, z17, z18, z19, z20, z24, z26, z30, z31, z40, z41, z50, z54, z60, z70, z80, z81, z99, z100, z200, z255, z599, z1000, z1299, z4096, z1000000, lw0, lw1, lw2, lw3, lw4, lw5, lw6, lw7, lw12, lw50, lw99, lw255, lw599, lw4096, bI_ok, ble_t, Int.cast_ofNat_Int,  decide_true, decide_false, bI_0, bI_1, b_tf, b_ft, eq_self, n_1, n_2, n_3, n_4, n_5, n_6, n_7, n_8, if_true, if_false, jin, ncl, cond_true, cond_false, Option.bind_some, j_ov, j_oi, j_ol, nle, nlt, neq, nI_add, nmul, nsub, ndiv, nrem2, if_pos, if_neg, Nat.zero_add, Nat.add_zero, j_w_ap, decide_eq_true, decide_eq_false, Bool.true_or, Bool.or_true, Bool.false_or, Bool.or_false, Bool.and_true, Bool.true_and, Bool.false_and, Bool.and_false, Bool.not_true, Bool.not_false]
      · rw [if_neg hik]
        exact r2 i (by omega)
    · rw [r3 i (by omega)]
      simp (disch := omega) only [z0, z1, z2, z3, z4, z5, z6, z7, z8, z9, z10, z11, z12, z13, z14, z15, z16, z17, z18, z19, z20, z24, z26, z30, z31, z40, z41, z50, z54, z60, z70, z80, z81, z99, z100, z200, z255, z599, z1000, z1299, z4096, z1000000, lw0, lw1, lw2, lw3, lw4, lw5, lw6, lw7, lw12, lw50, lw99, lw255, lw599, lw4096, bI_ok, ble_t, Int.cast_ofNat_Int,  decide_true, decide_false, bI_0, bI_1, b_tf, b_ft, eq_self, n_1, n_2, n_3, n_4, n_5, n_6, n_7, n_8, if_true, if_false, jin, ncl, cond_true, cond_false, Option.bind_some, j_ov, j_oi, j_ol, nle, nlt, neq, nI_add, nmul, nsub, ndiv, nrem2, if_pos, if_neg, Nat.zero_add, Nat.add_zero, j_w_ap, decide_eq_true, decide_eq_false, Bool.true_or, Bool.or_true, Bool.false_or, Bool.or_false, Bool.and_true, Bool.true_and, Bool.false_and, Bool.and_false, Bool.not_true, Bool.not_false]
theorem X_layWay {l : Nat} (hd : 2 ≤ d) (hl : l ≤ 4096) (h : IG n a M) (hh : hatL n g bill rule M) : ∃ M', C d 78 [.ref 10, .int (nI l)] S0 M N = some (none, M', N) ∧ hatL n (wg a n l) bill rule M' ∧ Fr [9] M M' := by
  have hn := h.n6
  obtain ⟨M', r1, r2, r3, r4⟩ := X_layWay_l (d := d - 1) (N := N) (by omega) n l M (by omega) hl h
  refine ⟨M', eX6_layWay (by omega) ?_, ⟨by rw [r4 8 (by decide)]; exact hh.1, by rw [r4 8 (by decide)]; exact hh.2.1, by rw [r4 8 (by decide)]; exact hh.2.2.1, r2⟩, r4⟩
  have e := bX6_layWay_0 (d - 1) (nI l) M N
  have hx := h.x6
  rw [hx, z1, pd_sub] at e
  exact e.trans r1
theorem M_lay86 {x1 x2 x3 x4 x5 : Int32} (hd : 1 ≤ d) : ∀ (k l : Nat) (M : j_M), k ≤ 6 → l ≤ 4096 → IG n a M → ∃ M', R d kX11_rests 86 [.ref 46, .int x1, .int x2, .int x3, .int x4, .int x5, .int (nI l), .int (pd k)] [] (S0, M, N) = R d kX11_rests 86 [.ref 46, .int x1, .int x2, .int x3, .int x4, .int x5, .int (nI (lf a k l)), .int (pd 0)] [] (S0, M', N) ∧ (∀ i, i < k → M' 53 i = nI (wg a k l i)) ∧ (∀ i, k ≤ i → M' 53 i = M 53 i) ∧ Fr [53] M M'
  | 0, l, M, hk, hl, h => ⟨M, rfl, fun i hi => by omega, fun i hi => rfl, Fr.rf⟩
  | k + 1, l, M, hk, hl, h => by
    have e := bX11_rests_86 d x1 x2 x3 x4 x5 (nI l) (pd (k + 1)) M N
    have hs : Scr M (j_w M 53 k (nI (l % (a k / a 26 + 1) * a 26))) := Scr.w rfl
    have q := M_sumsOf (d := d) (N := N) hd h (show k < 6 by omega)
    have q2 := M_sumsOf (d := d) (N := N) hd (h.scr hs) (show k < 6 by omega)
    have h9 := h.pu99 k (by omega)
    have h10 := Nat.div_le_self (a k) (a 26)
    have hst := h.may
    have hdl := Nat.div_le_self l (a k / a 26 + 1)
    have h11 := Nat.zero_le (a k / a 26)
    unfold pd at e
    simp (disch := omega) only [z0, z1, z2, z3, z4, z5, z6, z7, z8, z9, z10, z11, z12, z13, z14, z15, z16, z17, z18, z19, z20, z24, z26, z30, z31, z40, z41, z50, z54, z60, z70, z80, z81, z99, z100, z200, z255, z599, z1000, z1299, z4096, z1000000, lw0, lw1, lw2, lw3, lw4, lw5, lw6, lw7, lw12, lw50, lw99, lw255, lw599, lw4096, bI_ok, ble_t, Int.cast_ofNat_Int,  decide_true, decide_false, bI_0, bI_1, b_tf, b_ft, eq_self, n_1, n_2, n_3, n_4, n_5, n_6, n_7, n_8, if_true, if_false, jin, ncl, cond_true, cond_false, Option.bind_some, j_ov, j_oi, j_ol, nle, nlt, neq, nI_add, nmul, nsub, ndiv, nrem2, if_pos, if_neg, Nat.zero_add, Nat.add_zero, j_w_ap, decide_eq_true, decide_eq_false, Bool.true_or, Bool.or_true, Bool.false_or, Bool.or_false, Bool.and_true, Bool.true_and, Bool.false_and, Bool.and_false, Bool.not_true, Bool.not_false, q, hst, q2, pd_add] at e
    obtain ⟨M', r1, r2, r3, r4⟩ := M_lay86 hd k (l / (a k / a 26 + 1)) _ (by omega) (by omega) (h.scr hs)
    refine ⟨M', e.trans r1, fun i hi => ?_, fun i hi => ?_, (Fr.w (by decide)).tr r4⟩
    · unfold wg
      by_cases hik : i = k
      · rw [if_pos hik, hik, r3 k (Nat.le_refl _)]
        simp (disch := omega) only [z0, z1, z2, z3, z4, z5, z6, z7, z8, z9, z10, z11, z12, z13, z14, z15, z16, z17, z18, z19, z20, z24, z26, z30, z31, z40, z41, z50, z54, z60, z70, z80, z81, z99, z100, z200, z255, z599, z1000, z1299, z4096, z1000000, lw0, lw1, lw2, lw3, lw4, lw5, lw6, lw7, lw12, lw50, lw99, lw255, lw599, lw4096, bI_ok, ble_t, Int.cast_ofNat_Int,  decide_true, decide_false, bI_0, bI_1, b_tf, b_ft, eq_self, n_1, n_2, n_3, n_4, n_5, n_6, n_7, n_8, if_true, if_false, jin, ncl, cond_true, cond_false, Option.bind_some, j_ov, j_oi, j_ol, nle, nlt, neq, nI_add, nmul, nsub, ndiv, nrem2, if_pos, if_neg, Nat.zero_add, Nat.add_zero, j_w_ap, decide_eq_true, decide_eq_false, Bool.true_or, Bool.or_true, Bool.false_or, Bool.or_false, Bool.and_true, Bool.true_and, Bool.false_and, Bool.and_false, Bool.not_true, Bool.not_false]
      · rw [if_neg hik]
        exact r2 i (by omega)
    · rw [r3 i (by omega)]
      simp (disch := omega) only [z0, z1, z2, z3, z4, z5, z6, z7, z8, z9, z10, z11, z12, z13, z14, z15, z16, z17, z18, z19, z20, z24, z26, z30, z31, z40, z41, z50, z54, z60, z70, z80, z81, z99, z100, z200, z255, z599, z1000, z1299, z4096, z1000000, lw0, lw1, lw2, lw3, lw4, lw5, lw6, lw7, lw12, lw50, lw99, lw255, lw599, lw4096, bI_ok, ble_t, Int.cast_ofNat_Int,  decide_true, decide_false, bI_0, bI_1, b_tf, b_ft, eq_self, n_1, n_2, n_3, n_4, n_5, n_6, n_7, n_8, if_true, if_false, jin, ncl, cond_true, cond_false, Option.bind_some, j_ov, j_oi, j_ol, nle, nlt, neq, nI_add, nmul, nsub, ndiv, nrem2, if_pos, if_neg, Nat.zero_add, Nat.add_zero, j_w_ap, decide_eq_true, decide_eq_false, Bool.true_or, Bool.or_true, Bool.false_or, Bool.or_false, Bool.and_true, Bool.true_and, Bool.false_and, Bool.and_false, Bool.not_true, Bool.not_false]
theorem X_rests_l {w : Nat} (hd : 10 ≤ d) (hw : w ≤ 4096) : ∀ (j k : Nat) (g : Nat → Nat) (M : j_M), k + j = w → IG n a M → hatL n g (a 24) (a 25) M → (∀ q, ff (rp n a) k = some q → ∀ i, i < n → M 11 i = nI (wg a n q i)) → ∃ M', R d kX6_goThroughWays 27 [.ref 10, .int (nI (cn (rp n a) k)), .int (nI w), .int (nI k)] [] (S0, M, N) = some (some (.int (nI (cn (rp n a) w))), (S0, M', N)) ∧ (∀ q, ff (rp n a) w = some q → ∀ i, i < n → M' 11 i = nI (wg a n q i)) ∧ Scr M M'
  | 0, k, g, M, hk, h, hh, hf => by
    obtain rfl : k = w := by omega
    have e := bX6_goThroughWays_27 d (nI (cn (rp n a) k)) (nI k) (nI k) M N
    simp (disch := omega) only [z0, z1, z2, z3, z4, z5, z6, z7, z8, z9, z10, z11, z12, z13, z14, z15, z16, z17, z18, z19, z20, z24, z26, z30, z31, z40, z41, z50, z54, z60, z70, z80, z81, z99, z100, z200, z255, z599, z1000, z1299, z4096, z1000000, lw0, lw1, lw2, lw3, lw4, lw5, lw6, lw7, lw12, lw50, lw99, lw255, lw599, lw4096, bI_ok, ble_t, Int.cast_ofNat_Int,  decide_true, decide_false, bI_0, bI_1, b_tf, b_ft, eq_self, n_1, n_2, n_3, n_4, n_5, n_6, n_7, n_8, if_true, if_false, jin, ncl, cond_true, cond_false, Option.bind_some, j_ov, j_oi, j_ol, nle, nlt, neq, nI_add, nmul, nsub, ndiv, nrem2, if_pos, if_neg, Nat.zero_add, Nat.add_zero, j_w_ap, decide_eq_true, decide_eq_false, Bool.true_or, Bool.or_true, Bool.false_or, Bool.or_false, Bool.and_true, Bool.true_and, Bool.false_and, Bool.and_false, Bool.not_true, Bool.not_false] at e
    exact ⟨M, e, hf, Scr.rf⟩
  | j + 1, k, g, M, hk, h, hh, hf => by
    have hn := h.n6
    have hc := cn_le (P := rp n a) k
    have e := bX6_goThroughWays_27 d (nI (cn (rp n a) k)) (nI w) (nI k) M N
    obtain ⟨M1, q1, q2, q3⟩ := X_layWay (d := d) (N := N) (l := k) (by omega) (by omega) h hh
    have hs1 : Scr M M1 := Scr.fr q3 (fun c hc k => by rw [List.mem_singleton] at hc; rw [hc]; rfl)
    have hst := h.st1
    have hg9 : ∀ q, q < n → wg a n k q ≤ 99 := fun q hq => Nat.le_trans (wg_le hst n k q hq) (h.pu99 q (by omega))
    obtain ⟨M2, p1, p2, p3⟩ := X_firstRestless (d := d) (N := N) (by omega) hg9 (by have := h.bi599; omega) h.ru4 (h.scr hs1) q2
    have hs := hs1.tr (Scr.fr89 p3)
    have hx := (h.scr hs).x6
    have f11 : M2 11 = M 11 := by rw [p3 11 (by decide), q3 11 (by decide)]
    have hcn : cn (rp n a) (k + 1) = cn (rp n a) k + (bif rp n a k then 1 else 0) := rfl
    have hff : ff (rp n a) (k + 1) = (match ff (rp n a) k with
      | some w => some w
      | none => bif rp n a k then some k else none) := rfl
    cases hfs : fst (wc n (wg a n k) (a 24) (a 25) a) n 0 with
    | some z =>
      have hz := fst_some hfs
      have hrp : rp n a k = false := by unfold rp; rw [hfs]; rfl
      rw [hfs] at p1
      unfold oM at p1
      simp (disch := omega) only [z0, z1, z2, z3, z4, z5, z6, z7, z8, z9, z10, z11, z12, z13, z14, z15, z16, z17, z18, z19, z20, z24, z26, z30, z31, z40, z41, z50, z54, z60, z70, z80, z81, z99, z100, z200, z255, z599, z1000, z1299, z4096, z1000000, lw0, lw1, lw2, lw3, lw4, lw5, lw6, lw7, lw12, lw50, lw99, lw255, lw599, lw4096, bI_ok, ble_t, Int.cast_ofNat_Int,  decide_true, decide_false, bI_0, bI_1, b_tf, b_ft, eq_self, n_1, n_2, n_3, n_4, n_5, n_6, n_7, n_8, if_true, if_false, jin, ncl, cond_true, cond_false, Option.bind_some, j_ov, j_oi, j_ol, nle, nlt, neq, nI_add, nmul, nsub, ndiv, nrem2, if_pos, if_neg, Nat.zero_add, Nat.add_zero, j_w_ap, decide_eq_true, decide_eq_false, Bool.true_or, Bool.or_true, Bool.false_or, Bool.or_false, Bool.and_true, Bool.true_and, Bool.false_and, Bool.and_false, Bool.not_true, Bool.not_false, q1, p1] at e
      rw [hrp] at hcn hff
      rw [cond_false] at hcn hff
      obtain ⟨M', r1, r2, r3⟩ := X_rests_l hd hw j (k + 1) (wg a n k) M2 (by omega) (h.scr hs) p2 (fun q hq i hi => by
        have : ff (rp n a) k = some q := by
          rw [hff] at hq
          cases hfk : ff (rp n a) k with
          | some w => rw [hfk] at hq; exact hq
          | none => rw [hfk] at hq; cases hq
        rw [f11]
        exact hf q this i hi)
      rw [hcn] at r1
      exact ⟨M', e.trans r1, r2, hs.tr r3⟩
    | none =>
      have hrp : rp n a k = true := by unfold rp; rw [hfs]; rfl
      rw [hfs] at p1
      unfold oM at p1
      rw [hrp] at hcn hff
      rw [cond_true] at hcn hff
      by_cases h0 : cn (rp n a) k = 0
      · have hfk := (ff_cn k).mpr h0
        rw [hfk] at hff
        dsimp only at hff
        simp (disch := omega) only [z0, z1, z2, z3, z4, z5, z6, z7, z8, z9, z10, z11, z12, z13, z14, z15, z16, z17, z18, z19, z20, z24, z26, z30, z31, z40, z41, z50, z54, z60, z70, z80, z81, z99, z100, z200, z255, z599, z1000, z1299, z4096, z1000000, lw0, lw1, lw2, lw3, lw4, lw5, lw6, lw7, lw12, lw50, lw99, lw255, lw599, lw4096, bI_ok, ble_t, Int.cast_ofNat_Int,  decide_true, decide_false, bI_0, bI_1, b_tf, b_ft, eq_self, n_1, n_2, n_3, n_4, n_5, n_6, n_7, n_8, if_true, if_false, jin, ncl, cond_true, cond_false, Option.bind_some, j_ov, j_oi, j_ol, nle, nlt, neq, nI_add, nmul, nsub, ndiv, nrem2, if_pos, if_neg, Nat.zero_add, Nat.add_zero, j_w_ap, decide_eq_true, decide_eq_false, Bool.true_or, Bool.or_true, Bool.false_or, Bool.or_false, Bool.and_true, Bool.true_and, Bool.false_and, Bool.and_false, Bool.not_true, Bool.not_false, q1, p1, h0, hx] at e
        have hs4 : Scr M2 (j_row M2 11 (va_cpy (M2 9) (M2 11) 0 0 n)) := Scr.row (fun _ => rfl)
        obtain ⟨M', r1, r2, r3⟩ := X_rests_l hd hw j (k + 1) (wg a n k) _ (by omega) ((h.scr hs).scr hs4) ⟨by simp only [j_row_ap]; exact p2.1, by simp only [j_row_ap]; exact p2.2.1, by simp only [j_row_ap]; exact p2.2.2.1, fun i hi => by simp only [j_row_ap]; exact p2.2.2.2 i hi⟩ (fun q hq i hi => by
          rw [hff] at hq
          cases hq
          rw [j_row_ap, if_pos rfl, pk_cpy_in (by omega) (by omega), Nat.zero_add, Nat.sub_zero]
          exact p2.2.2.2 i hi)
        rw [hcn, h0] at r1
        rw [h0]
        exact ⟨M', e.trans r1, r2, hs.tr (hs4.tr r3)⟩
      · simp (disch := omega) only [z0, z1, z2, z3, z4, z5, z6, z7, z8, z9, z10, z11, z12, z13, z14, z15, z16, z17, z18, z19, z20, z24, z26, z30, z31, z40, z41, z50, z54, z60, z70, z80, z81, z99, z100, z200, z255, z599, z1000, z1299, z4096, z1000000, lw0, lw1, lw2, lw3, lw4, lw5, lw6, lw7, lw12, lw50, lw99, lw255, lw599, lw4096, bI_ok, ble_t, Int.cast_ofNat_Int,  decide_true, decide_false, bI_0, bI_1, b_tf, b_ft, eq_self, n_1, n_2, n_3, n_4, n_5, n_6, n_7, n_8, if_true, if_false, jin, ncl, cond_true, cond_false, Option.bind_some, j_ov, j_oi, j_ol, nle, nlt, neq, nI_add, nmul, nsub, ndiv, nrem2, if_pos, if_neg, Nat.zero_add, Nat.add_zero, j_w_ap, decide_eq_true, decide_eq_false, Bool.true_or, Bool.or_true, Bool.false_or, Bool.or_false, Bool.and_true, Bool.true_and, Bool.false_and, Bool.and_false, Bool.not_true, Bool.not_false, q1, p1, hx] at e
        obtain ⟨M', r1, r2, r3⟩ := X_rests_l hd hw j (k + 1) (wg a n k) M2 (by omega) (h.scr hs) p2 (fun q hq i hi => by
          have : ff (rp n a) k = some q := by
            rw [hff] at hq
            cases hfk : ff (rp n a) k with
            | some w => rw [hfk] at hq; exact hq
            | none => exact absurd ((ff_cn k).mp hfk) h0
          rw [f11]
          exact hf q this i hi)
        rw [hcn] at r1
        exact ⟨M', e.trans r1, r2, hs.tr r3⟩
/-- what the reference keeps for the one asked -/
def fo (n : Nat) (a : Nat → Nat) (o : Option Nat) (k : Nat) : Int32 := match ff (rp n a) k, o with
  | some w, some j => nI (wg a n w j)
  | _, _ => -nI 2
theorem M_rests_l {w : Nat} {o : Option Nat} (hd : 10 ≤ d) (hw : w ≤ 4096) (ho : ∀ j, o = some j → j < n) : ∀ (j k : Nat) (M : j_M), k + j = w → IG n a M → M 46 12 = nI n → ∃ M', R d kX11_rests 68 [.ref 46, .int (oI o), .int (nI w), .int (nI (cn (rp n a) k)), .int (fo n a o k), .int (nI k), .null, .null] [] (S0, M, N) = some (some (.int (match o with | none => nI (cn (rp n a) w) | some _ => fo n a o w)), (S0, M', N)) ∧ Scr M M'
  | 0, k, M, hk, h, h12 => by
    have hn := h.n6
    obtain rfl : k = w := by omega
    have e := bX11_rests_68 d (oI o) (nI k) (nI (cn (rp n a) k)) (fo n a o k) (nI k) M N
    cases o with
    | none =>
      rw [show oI none = -nI 1 from rfl] at e
      simp (disch := omega) only [z0, z1, z2, z3, z4, z5, z6, z7, z8, z9, z10, z11, z12, z13, z14, z15, z16, z17, z18, z19, z20, z24, z26, z30, z31, z40, z41, z50, z54, z60, z70, z80, z81, z99, z100, z200, z255, z599, z1000, z1299, z4096, z1000000, lw0, lw1, lw2, lw3, lw4, lw5, lw6, lw7, lw12, lw50, lw99, lw255, lw599, lw4096, bI_ok, ble_t, Int.cast_ofNat_Int,  decide_true, decide_false, bI_0, bI_1, b_tf, b_ft, eq_self, n_1, n_2, n_3, n_4, n_5, n_6, n_7, n_8, if_true, if_false, jin, ncl, cond_true, cond_false, Option.bind_some, j_ov, j_oi, j_ol, nle, nlt, neq, nI_add, nmul, nsub, ndiv, nrem2, if_pos, if_neg, Nat.zero_add, Nat.add_zero, j_w_ap, decide_eq_true, decide_eq_false, Bool.true_or, Bool.or_true, Bool.false_or, Bool.or_false, Bool.and_true, Bool.true_and, Bool.false_and, Bool.and_false, Bool.not_true, Bool.not_false] at e
      exact ⟨M, e, Scr.rf⟩
    | some j =>
      have hj := ho j rfl
      rw [show oI (some j) = nI j from rfl] at e
      simp (disch := omega) only [z0, z1, z2, z3, z4, z5, z6, z7, z8, z9, z10, z11, z12, z13, z14, z15, z16, z17, z18, z19, z20, z24, z26, z30, z31, z40, z41, z50, z54, z60, z70, z80, z81, z99, z100, z200, z255, z599, z1000, z1299, z4096, z1000000, lw0, lw1, lw2, lw3, lw4, lw5, lw6, lw7, lw12, lw50, lw99, lw255, lw599, lw4096, bI_ok, ble_t, Int.cast_ofNat_Int,  decide_true, decide_false, bI_0, bI_1, b_tf, b_ft, eq_self, n_1, n_2, n_3, n_4, n_5, n_6, n_7, n_8, if_true, if_false, jin, ncl, cond_true, cond_false, Option.bind_some, j_ov, j_oi, j_ol, nle, nlt, neq, nI_add, nmul, nsub, ndiv, nrem2, if_pos, if_neg, Nat.zero_add, Nat.add_zero, j_w_ap, decide_eq_true, decide_eq_false, Bool.true_or, Bool.or_true, Bool.false_or, Bool.or_false, Bool.and_true, Bool.true_and, Bool.false_and, Bool.and_false, Bool.not_true, Bool.not_false] at e
      exact ⟨M, e, Scr.rf⟩
  | j + 1, k, M, hk, h, h12 => by
    have hn := h.n6
    have hc := cn_le (P := rp n a) k
    have e := bX11_rests_68 d (oI o) (nI w) (nI (cn (rp n a) k)) (fo n a o k) (nI k) M N
    have hm6 := h.m6
    rw [hm6, z1, pd_sub] at e
    obtain ⟨M1, q1, q2, -, q3⟩ := M_lay86 (d := d) (N := N) (x1 := oI o) (x2 := nI w) (x3 := nI (cn (rp n a) k)) (x4 := fo n a o k) (x5 := nI k) (by omega) n k M hn (by omega) h
    have hs1 : Scr M M1 := Scr.fr q3 (fun c hc k => by rw [List.mem_singleton] at hc; rw [hc]; rfl)
    have hst := h.st1
    have hg9 : ∀ q, q < n → wg a n k q ≤ 99 := fun q hq => Nat.le_trans (wg_le hst n k q hq) (h.pu99 q (by omega))
    obtain ⟨M2, p1, p2, p3⟩ := M_firstWho (d := d) (N := N) (by omega) hg9 (by have := h.bi599; omega) h.ru4 rfl rfl (h.scr hs1) ⟨by rw [q3 46 (by decide)]; exact h12, q2⟩
    have hs := hs1.tr p3
    have e2 := bX11_rests_86 d (oI o) (nI w) (nI (cn (rp n a) k)) (fo n a o k) (nI k) (nI (lf a n k)) (pd 0) M1 N
    have hcn : cn (rp n a) (k + 1) = cn (rp n a) k + (bif rp n a k then 1 else 0) := rfl
    have hff : ff (rp n a) (k + 1) = (match ff (rp n a) k with
      | some w => some w
      | none => bif rp n a k then some k else none) := rfl
    rw [q1] at e
    rw [show pd 0 = -nI 1 from rfl] at e e2
    cases hfs : fst (wc n (wg a n k) (a 24) (a 25) a) n 0 with
    | some z =>
      have hz := fst_some hfs
      have hrp : rp n a k = false := by unfold rp; rw [hfs]; rfl
      rw [hfs] at p1
      unfold oM at p1
      simp (disch := omega) only [z0, z1, z2, z3, z4, z5, z6, z7, z8, z9, z10, z11, z12, z13, z14, z15, z16, z17, z18, z19, z20, z24, z26, z30, z31, z40, z41, z50, z54, z60, z70, z80, z81, z99, z100, z200, z255, z599, z1000, z1299, z4096, z1000000, lw0, lw1, lw2, lw3, lw4, lw5, lw6, lw7, lw12, lw50, lw99, lw255, lw599, lw4096, bI_ok, ble_t, Int.cast_ofNat_Int,  decide_true, decide_false, bI_0, bI_1, b_tf, b_ft, eq_self, n_1, n_2, n_3, n_4, n_5, n_6, n_7, n_8, if_true, if_false, jin, ncl, cond_true, cond_false, Option.bind_some, j_ov, j_oi, j_ol, nle, nlt, neq, nI_add, nmul, nsub, ndiv, nrem2, if_pos, if_neg, Nat.zero_add, Nat.add_zero, j_w_ap, decide_eq_true, decide_eq_false, Bool.true_or, Bool.or_true, Bool.false_or, Bool.or_false, Bool.and_true, Bool.true_and, Bool.false_and, Bool.and_false, Bool.not_true, Bool.not_false, p1] at e e2
      rw [hrp] at hcn hff
      rw [cond_false] at hcn hff
      obtain ⟨M', r1, r2⟩ := M_rests_l hd hw ho j (k + 1) M2 (by omega) (h.scr hs) p2.1
      rw [hcn, show fo n a o (k + 1) = fo n a o k from by
        unfold fo
        rw [hff]
        cases ff (rp n a) k <;> rfl] at r1
      exact ⟨M', e.trans (e2.trans r1), hs.tr r2⟩
    | none =>
      have hrp : rp n a k = true := by unfold rp; rw [hfs]; rfl
      rw [hfs] at p1
      unfold oM at p1
      rw [hrp] at hcn hff
      rw [cond_true] at hcn hff
      by_cases h0 : cn (rp n a) k = 0
      · have hfk := (ff_cn k).mpr h0
        rw [hfk] at hff
        dsimp only at hff
        cases o with
        | none =>
          rw [show oI none = -nI 1 from rfl] at e e2
          simp (disch := omega) only [z0, z1, z2, z3, z4, z5, z6, z7, z8, z9, z10, z11, z12, z13, z14, z15, z16, z17, z18, z19, z20, z24, z26, z30, z31, z40, z41, z50, z54, z60, z70, z80, z81, z99, z100, z200, z255, z599, z1000, z1299, z4096, z1000000, lw0, lw1, lw2, lw3, lw4, lw5, lw6, lw7, lw12, lw50, lw99, lw255, lw599, lw4096, bI_ok, ble_t, Int.cast_ofNat_Int,  decide_true, decide_false, bI_0, bI_1, b_tf, b_ft, eq_self, n_1, n_2, n_3, n_4, n_5, n_6, n_7, n_8, if_true, if_false, jin, ncl, cond_true, cond_false, Option.bind_some, j_ov, j_oi, j_ol, nle, nlt, neq, nI_add, nmul, nsub, ndiv, nrem2, if_pos, if_neg, Nat.zero_add, Nat.add_zero, j_w_ap, decide_eq_true, decide_eq_false, Bool.true_or, Bool.or_true, Bool.false_or, Bool.or_false, Bool.and_true, Bool.true_and, Bool.false_and, Bool.and_false, Bool.not_true, Bool.not_false, p1, h0] at e e2
          obtain ⟨M', r1, r2⟩ := M_rests_l hd hw ho j (k + 1) M2 (by omega) (h.scr hs) p2.1
          rw [hcn, h0, show fo n a none (k + 1) = fo n a none k from by
            unfold fo
            rw [hff, hfk]] at r1
          rw [h0]
          exact ⟨M', e.trans (e2.trans r1), hs.tr r2⟩
        | some q =>
          have hq := ho q rfl
          rw [show oI (some q) = nI q from rfl] at e e2
          have h53 := p2.2 q hq
          simp (disch := omega) only [z0, z1, z2, z3, z4, z5, z6, z7, z8, z9, z10, z11, z12, z13, z14, z15, z16, z17, z18, z19, z20, z24, z26, z30, z31, z40, z41, z50, z54, z60, z70, z80, z81, z99, z100, z200, z255, z599, z1000, z1299, z4096, z1000000, lw0, lw1, lw2, lw3, lw4, lw5, lw6, lw7, lw12, lw50, lw99, lw255, lw599, lw4096, bI_ok, ble_t, Int.cast_ofNat_Int,  decide_true, decide_false, bI_0, bI_1, b_tf, b_ft, eq_self, n_1, n_2, n_3, n_4, n_5, n_6, n_7, n_8, if_true, if_false, jin, ncl, cond_true, cond_false, Option.bind_some, j_ov, j_oi, j_ol, nle, nlt, neq, nI_add, nmul, nsub, ndiv, nrem2, if_pos, if_neg, Nat.zero_add, Nat.add_zero, j_w_ap, decide_eq_true, decide_eq_false, Bool.true_or, Bool.or_true, Bool.false_or, Bool.or_false, Bool.and_true, Bool.true_and, Bool.false_and, Bool.and_false, Bool.not_true, Bool.not_false, p1, h0, h53] at e e2
          obtain ⟨M', r1, r2⟩ := M_rests_l hd hw ho j (k + 1) M2 (by omega) (h.scr hs) p2.1
          rw [hcn, h0, show fo n a (some q) (k + 1) = nI (wg a n k q) from by
            unfold fo
            rw [hff]] at r1
          rw [h0]
          exact ⟨M', e.trans (e2.trans r1), hs.tr r2⟩
      · simp (disch := omega) only [z0, z1, z2, z3, z4, z5, z6, z7, z8, z9, z10, z11, z12, z13, z14, z15, z16, z17, z18, z19, z20, z24, z26, z30, z31, z40, z41, z50, z54, z60, z70, z80, z81, z99, z100, z200, z255, z599, z1000, z1299, z4096, z1000000, lw0, lw1, lw2, lw3, lw4, lw5, lw6, lw7, lw12, lw50, lw99, lw255, lw599, lw4096, bI_ok, ble_t, Int.cast_ofNat_Int,  decide_true, decide_false, bI_0, bI_1, b_tf, b_ft, eq_self, n_1, n_2, n_3, n_4, n_5, n_6, n_7, n_8, if_true, if_false, jin, ncl, cond_true, cond_false, Option.bind_some, j_ov, j_oi, j_ol, nle, nlt, neq, nI_add, nmul, nsub, ndiv, nrem2, if_pos, if_neg, Nat.zero_add, Nat.add_zero, j_w_ap, decide_eq_true, decide_eq_false, Bool.true_or, Bool.or_true, Bool.false_or, Bool.or_false, Bool.and_true, Bool.true_and, Bool.false_and, Bool.and_false, Bool.not_true, Bool.not_false, p1] at e e2
        obtain ⟨M', r1, r2⟩ := M_rests_l hd hw ho j (k + 1) M2 (by omega) (h.scr hs) p2.1
        rw [hcn, show fo n a o (k + 1) = fo n a o k from by
          unfold fo
          rw [hff]
          cases hfk : ff (rp n a) k with
          | some w => rfl
          | none => exact absurd ((ff_cn k).mp hfk) h0] at r1
        exact ⟨M', e.trans (e2.trans r1), hs.tr r2⟩
end RE
