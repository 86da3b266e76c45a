/-! ===== mean, bestMean, stranger (own text) ===== -/
section MD
variable {d n bill rule p v s : Nat} {g a : Nat → Nat} {M : j_M} {N : j_N} {x y w : Int32}
theorem mt62 (h : IG n a M) (hv : v ≤ 99) : mt n a (a 24) (a 25) p v (2 ^ n) < 4611686018427387904 := by
  have hn := h.n6
  have h1 := mt_le (n := n) (bill := a 24) (rule := a 25) (p := p) (v := v) (a := a) hn hv (by have := h.bi599; omega) h.od12 (2 ^ n)
  have h2 : 2 ^ n ≤ 2 ^ 6 := Nat.pow_le_pow_right (by omega) hn
  have h3 : 2 ^ n * 3600000000 ≤ 2 ^ 6 * 3600000000 := Nat.mul_le_mul_right _ h2
  omega
theorem Q_mean (hd : 20 ≤ d) (h : IG n a M) : ∃ r M1 M2, C d 116 [.ref 0, .int x, .int y, .int w] S0 M N = some (some (.long r), M1, N) ∧ C d 183 [.ref 46, .int x, .int y, .int w] S0 M1 N = some (some (.long r), M2, N) ∧ Scr M M2 := by
  have hn := h.n6
  have hh := fun x => X_has (d := d - 1) (N := N) (x := x) (by omega) h.x6 (by omega)
  have hh2 : ∀ M1, Scr M M1 → ∀ x, C (d - 1) 160 [.ref 46, .int x] S0 M1 N = some (some (.int (bI (ib x 0 ((n : Int) - 1)))), M1, N) := fun M1 hs x => M_isGuest (by omega) (h.scr hs).m6 (by omega)
  have hg9 : ∀ q, q < n → gf a q ≤ 99 := fun q hq => h.gi99 q (by omega)
  have hb9 := h.bi599
  have e1 := bX10_mean_0 (d - 1) x y w M N
  have e2 := fun M1 => bX11_mean_0 (d - 1) x y w M1 N
  cases h1 : ib x 0 ((n : Int) - 1) with
  | false =>
    have e2 := e2 M
    have hh2 := hh2 M Scr.rf
    simp (disch := omega) only [z0, z1, z2, z3, z4, z5, z6, z7, z8, z9, z10, z11, z12, z13, z14, z15, z16, z17, z18, z19, z20, z24, z26, z30, z31, z40, z41, z50, z54, z60, z70, z80, z81, z99, z100, z200, z255, z599, z1000, z1299, z4096, z1000000, lw0, lw1, lw2, lw3, lw4, lw5, lw6, lw7, lw12, lw50, lw99, lw255, lw599, lw4096, bI_ok, ble_t, Int.cast_ofNat_Int,  decide_true, decide_false, bI_0, bI_1, b_tf, b_ft, eq_self, n_1, n_2, n_3, n_4, n_5, n_6, n_7, n_8, if_true, if_false, jin, ncl, cond_true, cond_false, Option.bind_some, j_ov, j_oi, j_ol, nle, nlt, neq, nI_add, nmul, nsub, ndiv, nrem2, if_pos, if_neg, Nat.zero_add, Nat.add_zero, j_w_ap, decide_eq_true, decide_eq_false, Bool.true_or, Bool.or_true, Bool.false_or, Bool.or_false, Bool.and_true, Bool.true_and, Bool.false_and, Bool.and_false, Bool.not_true, Bool.not_false, hh, h1] at e1
    simp (disch := omega) only [z0, z1, z2, z3, z4, z5, z6, z7, z8, z9, z10, z11, z12, z13, z14, z15, z16, z17, z18, z19, z20, z24, z26, z30, z31, z40, z41, z50, z54, z60, z70, z80, z81, z99, z100, z200, z255, z599, z1000, z1299, z4096, z1000000, lw0, lw1, lw2, lw3, lw4, lw5, lw6, lw7, lw12, lw50, lw99, lw255, lw599, lw4096, bI_ok, ble_t, Int.cast_ofNat_Int,  decide_true, decide_false, bI_0, bI_1, b_tf, b_ft, eq_self, n_1, n_2, n_3, n_4, n_5, n_6, n_7, n_8, if_true, if_false, jin, ncl, cond_true, cond_false, Option.bind_some, j_ov, j_oi, j_ol, nle, nlt, neq, nI_add, nmul, nsub, ndiv, nrem2, if_pos, if_neg, Nat.zero_add, Nat.add_zero, j_w_ap, decide_eq_true, decide_eq_false, Bool.true_or, Bool.or_true, Bool.false_or, Bool.or_false, Bool.and_true, Bool.true_and, Bool.false_and, Bool.and_false, Bool.not_true, Bool.not_false, hh2, h1] at e2
    exact ⟨_, _, _, eX10_mean (by omega) e1, eX11_mean (by omega) e2, Scr.rf⟩
  | true =>
    obtain ⟨i, hi, rfl⟩ := ib_g h1 (by omega)
    have hpu := h.pu
    have hp9 := h.pu99 i (by omega)
    have hmv := fun (M1 : j_M) (y : Int32) => M_withinV (d := d - 1) (M := M1) (N := N) (x := y) (x1 := nI (a i)) (lo := 0) (by omega) (by omega)
    rw [nI_toInt (by omega)] at hmv
    have hxw := fun (M1 : j_M) (y : Int32) => X_within (d := d - 1) (M := M1) (N := N) (x := y) (lo := 0) (hi := a i) (by omega) (by omega) (by omega)
    cases h2 : ib y 0 (a i) with
    | false =>
      have e2 := e2 M
      have hh2 := hh2 M Scr.rf
      have hm := h.may
      simp (disch := omega) only [z0, z1, z2, z3, z4, z5, z6, z7, z8, z9, z10, z11, z12, z13, z14, z15, z16, z17, z18, z19, z20, z24, z26, z30, z31, z40, z41, z50, z54, z60, z70, z80, z81, z99, z100, z200, z255, z599, z1000, z1299, z4096, z1000000, lw0, lw1, lw2, lw3, lw4, lw5, lw6, lw7, lw12, lw50, lw99, lw255, lw599, lw4096, bI_ok, ble_t, Int.cast_ofNat_Int,  decide_true, decide_false, bI_0, bI_1, b_tf, b_ft, eq_self, n_1, n_2, n_3, n_4, n_5, n_6, n_7, n_8, if_true, if_false, jin, ncl, cond_true, cond_false, Option.bind_some, j_ov, j_oi, j_ol, nle, nlt, neq, nI_add, nmul, nsub, ndiv, nrem2, if_pos, if_neg, Nat.zero_add, Nat.add_zero, j_w_ap, decide_eq_true, decide_eq_false, Bool.true_or, Bool.or_true, Bool.false_or, Bool.or_false, Bool.and_true, Bool.true_and, Bool.false_and, Bool.and_false, Bool.not_true, Bool.not_false, hh, h1, hpu, hxw, h2] at e1
      simp (disch := omega) only [z0, z1, z2, z3, z4, z5, z6, z7, z8, z9, z10, z11, z12, z13, z14, z15, z16, z17, z18, z19, z20, z24, z26, z30, z31, z40, z41, z50, z54, z60, z70, z80, z81, z99, z100, z200, z255, z599, z1000, z1299, z4096, z1000000, lw0, lw1, lw2, lw3, lw4, lw5, lw6, lw7, lw12, lw50, lw99, lw255, lw599, lw4096, bI_ok, ble_t, Int.cast_ofNat_Int,  decide_true, decide_false, bI_0, bI_1, b_tf, b_ft, eq_self, n_1, n_2, n_3, n_4, n_5, n_6, n_7, n_8, if_true, if_false, jin, ncl, cond_true, cond_false, Option.bind_some, j_ov, j_oi, j_ol, nle, nlt, neq, nI_add, nmul, nsub, ndiv, nrem2, if_pos, if_neg, Nat.zero_add, Nat.add_zero, j_w_ap, decide_eq_true, decide_eq_false, Bool.true_or, Bool.or_true, Bool.false_or, Bool.or_false, Bool.and_true, Bool.true_and, Bool.false_and, Bool.and_false, Bool.not_true, Bool.not_false, hh2, h1, hm, hmv, h2] at e2
      exact ⟨_, _, _, eX10_mean (by omega) e1, eX11_mean (by omega) e2, Scr.rf⟩
    | true =>
      cases h3 : ib w 0 1 with
      | false =>
        have e2 := e2 M
        have hh2 := hh2 M Scr.rf
        have hm := h.may
        simp (disch := omega) only [z0, z1, z2, z3, z4, z5, z6, z7, z8, z9, z10, z11, z12, z13, z14, z15, z16, z17, z18, z19, z20, z24, z26, z30, z31, z40, z41, z50, z54, z60, z70, z80, z81, z99, z100, z200, z255, z599, z1000, z1299, z4096, z1000000, lw0, lw1, lw2, lw3, lw4, lw5, lw6, lw7, lw12, lw50, lw99, lw255, lw599, lw4096, bI_ok, ble_t, Int.cast_ofNat_Int,  decide_true, decide_false, bI_0, bI_1, b_tf, b_ft, eq_self, n_1, n_2, n_3, n_4, n_5, n_6, n_7, n_8, if_true, if_false, jin, ncl, cond_true, cond_false, Option.bind_some, j_ov, j_oi, j_ol, nle, nlt, neq, nI_add, nmul, nsub, ndiv, nrem2, if_pos, if_neg, Nat.zero_add, Nat.add_zero, j_w_ap, decide_eq_true, decide_eq_false, Bool.true_or, Bool.or_true, Bool.false_or, Bool.or_false, Bool.and_true, Bool.true_and, Bool.false_and, Bool.and_false, Bool.not_true, Bool.not_false, hh, h1, hpu, hxw, h2, X_within, h3] at e1
        simp (disch := omega) only [z0, z1, z2, z3, z4, z5, z6, z7, z8, z9, z10, z11, z12, z13, z14, z15, z16, z17, z18, z19, z20, z24, z26, z30, z31, z40, z41, z50, z54, z60, z70, z80, z81, z99, z100, z200, z255, z599, z1000, z1299, z4096, z1000000, lw0, lw1, lw2, lw3, lw4, lw5, lw6, lw7, lw12, lw50, lw99, lw255, lw599, lw4096, bI_ok, ble_t, Int.cast_ofNat_Int,  decide_true, decide_false, bI_0, bI_1, b_tf, b_ft, eq_self, n_1, n_2, n_3, n_4, n_5, n_6, n_7, n_8, if_true, if_false, jin, ncl, cond_true, cond_false, Option.bind_some, j_ov, j_oi, j_ol, nle, nlt, neq, nI_add, nmul, nsub, ndiv, nrem2, if_pos, if_neg, Nat.zero_add, Nat.add_zero, j_w_ap, decide_eq_true, decide_eq_false, Bool.true_or, Bool.or_true, Bool.false_or, Bool.or_false, Bool.and_true, Bool.true_and, Bool.false_and, Bool.and_false, Bool.not_true, Bool.not_false, hh2, h1, hm, hmv, h2, M_within, h3] at e2
        exact ⟨_, _, _, eX10_mean (by omega) e1, eX11_mean (by omega) e2, Scr.rf⟩
      | true =>
        obtain ⟨v, -, hv, rfl⟩ := ib_ex (lo := 0) (hi := a i) h2 (by omega)
        obtain ⟨q, -, hq, rfl⟩ := ib_ex (lo := 0) (hi := 1) h3 (by omega)
        obtain ⟨M1, q1, q2⟩ := X_weighedCost (d := d - 1) (N := N) (p := i) (v := v) (by omega) hi (by omega) h
        have q3 := X_allWeights (d := d - 1) (N := N) (by omega) (h.scr q2)
        obtain ⟨M2, p1, p2⟩ := M_meanOf (d := d - 1) (N := N) (p := i) (v := v) (by omega) hi (by omega) (h.scr q2)
        have p3 := M_wholeOf (d := d - 1) (N := N) (by omega) (h.scr (q2.tr p2))
        have hm62 := mt62 (p := i) (v := v) h (by omega)
        have h12 : 12 ^ (n - 1) ≤ 12 ^ 6 := Nat.pow_le_pow_right (by omega) (by omega)
        have h120 : 0 < 12 ^ (n - 1) := Nat.pow_pos (by omega)
        have q4 := X_fraction (d := d - 1) (M := M1) (N := N) (by omega) hm62 (show 12 ^ (n - 1) < 4611686018427387904 by omega) h120 hq
        have p4 := M_partOf (d := d - 1) (M := M2) (N := N) (by omega) hm62 (show 12 ^ (n - 1) < 4611686018427387904 by omega) h120 hq
        have e2 := e2 M1
        have hh2 := hh2 M1 q2
        have hm := (h.scr q2).may
        simp (disch := omega) only [z0, z1, z2, z3, z4, z5, z6, z7, z8, z9, z10, z11, z12, z13, z14, z15, z16, z17, z18, z19, z20, z24, z26, z30, z31, z40, z41, z50, z54, z60, z70, z80, z81, z99, z100, z200, z255, z599, z1000, z1299, z4096, z1000000, lw0, lw1, lw2, lw3, lw4, lw5, lw6, lw7, lw12, lw50, lw99, lw255, lw599, lw4096, bI_ok, ble_t, Int.cast_ofNat_Int,  decide_true, decide_false, bI_0, bI_1, b_tf, b_ft, eq_self, n_1, n_2, n_3, n_4, n_5, n_6, n_7, n_8, if_true, if_false, jin, ncl, cond_true, cond_false, Option.bind_some, j_ov, j_oi, j_ol, nle, nlt, neq, nI_add, nmul, nsub, ndiv, nrem2, if_pos, if_neg, Nat.zero_add, Nat.add_zero, j_w_ap, decide_eq_true, decide_eq_false, Bool.true_or, Bool.or_true, Bool.false_or, Bool.or_false, Bool.and_true, Bool.true_and, Bool.false_and, Bool.and_false, Bool.not_true, Bool.not_false, hh, h1, hpu, hxw, h2, X_within, h3, q1, q3, q4] at e1
        simp (disch := omega) only [z0, z1, z2, z3, z4, z5, z6, z7, z8, z9, z10, z11, z12, z13, z14, z15, z16, z17, z18, z19, z20, z24, z26, z30, z31, z40, z41, z50, z54, z60, z70, z80, z81, z99, z100, z200, z255, z599, z1000, z1299, z4096, z1000000, lw0, lw1, lw2, lw3, lw4, lw5, lw6, lw7, lw12, lw50, lw99, lw255, lw599, lw4096, bI_ok, ble_t, Int.cast_ofNat_Int,  decide_true, decide_false, bI_0, bI_1, b_tf, b_ft, eq_self, n_1, n_2, n_3, n_4, n_5, n_6, n_7, n_8, if_true, if_false, jin, ncl, cond_true, cond_false, Option.bind_some, j_ov, j_oi, j_ol, nle, nlt, neq, nI_add, nmul, nsub, ndiv, nrem2, if_pos, if_neg, Nat.zero_add, Nat.add_zero, j_w_ap, decide_eq_true, decide_eq_false, Bool.true_or, Bool.or_true, Bool.false_or, Bool.or_false, Bool.and_true, Bool.true_and, Bool.false_and, Bool.and_false, Bool.not_true, Bool.not_false, hh2, h1, hm, hmv, h2, M_within, h3, p1, p3, p4] at e2
        exact ⟨_, _, _, eX10_mean (by omega) e1, eX11_mean (by omega) e2, q2.tr p2⟩
/-- the sum of the least mean: the first among the least -/
def bmi (f : Nat → Nat) : Nat → Nat
  | 0 => 0
  | k + 1 => if f (k + 1) < f (bmi f k) then k + 1 else bmi f k
theorem bmi_le {f : Nat → Nat} : ∀ k, bmi f k ≤ k
  | 0 => Nat.le_refl _
  | k + 1 => by
    have := bmi_le (f := f) k
    unfold bmi
    split <;> omega
def mf (n : Nat) (a : Nat → Nat) (p : Nat) : Nat → Nat := fun k => mt n a (a 24) (a 25) p (k * a 26) (2 ^ n)
theorem X_bm_l (hd : 14 ≤ d) (hp : p < n) : ∀ (j k : Nat) (M : j_M), k + j = a p / a 26 + 1 → 1 ≤ k → IG n a M → ∃ M', R d kX6_sumOfLeastMean 19 [.ref 10, .int (nI p), .int (nI (bmi (mf n a p) (k - 1) * a 26)), .long (lN (mf n a p (bmi (mf n a p) (k - 1)))), .null, .int (nI (a p / a 26 + 1)), .int (nI k), .null, .null] [] (S0, M, N) = some (some (.int (nI (bmi (mf n a p) (a p / a 26) * a 26))), (S0, M', N)) ∧ Scr M M'
  | 0, k, M, hk, hk1, h => by
    have hn := h.n6
    have h9 := h.pu99 p (by omega)
    have h10 := Nat.div_le_self (a p) (a 26)
    obtain rfl : k = a p / a 26 + 1 := by omega
    have e := bX6_sumOfLeastMean_19 d (nI p) (nI (bmi (mf n a p) (a p / a 26 + 1 - 1) * a 26)) (lN (mf n a p (bmi (mf n a p) (a p / a 26 + 1 - 1)))) (nI (a p / a 26 + 1)) (nI (a p / a 26 + 1)) M N
    rw [if_pos (nI_le (Nat.le_refl _) (by omega))] at e
    exact ⟨M, e, Scr.rf⟩
  | j + 1, k, M, hk, hk1, h => by
    have hn := h.n6
    have h9 := h.pu99 p (by omega)
    have h10 := Nat.div_le_self (a p) (a 26)
    have hst1 := h.st1
    have hv : k * a 26 ≤ a p := (kst hst1).mpr (by omega)
    have hv2 : bmi (mf n a p) (k - 1) * a 26 ≤ a p := (kst hst1).mpr (by have := bmi_le (f := mf n a p) (k - 1); omega)
    have e := bX6_sumOfLeastMean_19 d (nI p) (nI (bmi (mf n a p) (k - 1) * a 26)) (lN (mf n a p (bmi (mf n a p) (k - 1)))) (nI (a p / a 26 + 1)) (nI k) M N
    obtain ⟨M1, q1, q2⟩ := X_weighedCost (d := d) (N := N) (p := p) (v := k * a 26) (by omega) hp (by omega) h
    have hx := h.st
    have hx2 := (h.scr q2).st
    have q1 : C d 83 [.ref 10, .int (nI p), .int (nI (k * a 26))] S0 M N = some (some (.long (lN (mf n a p k))), M1, N) := q1
    have b1 : mf n a p k < 4611686018427387904 := mt62 h (by omega)
    have b2 : mf n a p (bmi (mf n a p) (k - 1)) < 4611686018427387904 := mt62 h (by omega)
    have hk2 : k = (k - 1) + 1 := by omega
    obtain ⟨M', r1, r2⟩ := X_bm_l hd hp j (k + 1) M1 (by omega) (by omega) (h.scr q2)
    have hbm : bmi (mf n a p) (k + 1 - 1) = if mf n a p k < mf n a p (bmi (mf n a p) (k - 1)) then k else bmi (mf n a p) (k - 1) := by
      rw [Nat.add_sub_cancel, hk2, bmi, ← hk2]
    rw [hbm] at r1
    simp (disch := omega) only [z0, z1, z2, z3, z4, z5, z6, z7, z8, z9, z10, z11, z12, z13, z14, z15, z16, z17, z18, z19, z20, z24, z26, z30, z31, z40, z41, z50, z54, z60, z70, z80, z81, z99, z100, z200, z255, z599, z1000, z1299, z4096, z1000000, lw0, lw1, lw2, lw3, lw4, lw5, lw6, lw7, lw12, lw50, lw99, lw255, lw599, lw4096, bI_ok, ble_t, Int.cast_ofNat_Int,  decide_true, decide_false, bI_0, bI_1, b_tf, b_ft, eq_self, n_1, n_2, n_3, n_4, n_5, n_6, n_7, n_8, if_true, if_false, jin, ncl, cond_true, cond_false, Option.bind_some, j_ov, j_oi, j_ol, nle, nlt, neq, nI_add, nmul, nsub, ndiv, nrem2, if_pos, if_neg, Nat.zero_add, Nat.add_zero, j_w_ap, decide_eq_true, decide_eq_false, Bool.true_or, Bool.or_true, Bool.false_or, Bool.or_false, Bool.and_true, Bool.true_and, Bool.false_and, Bool.and_false, Bool.not_true, Bool.not_false, hx, hx2, q1, lgc_ge, lle] at e
    by_cases hlt : mf n a p k < mf n a p (bmi (mf n a p) (k - 1))
    · rw [if_neg (by omega)] at e
      rw [if_pos hlt] at r1
      exact ⟨M', e.trans r1, q2.tr r2⟩
    · rw [if_pos (by omega)] at e
      rw [if_neg hlt] at r1
      exact ⟨M', e.trans r1, q2.tr r2⟩
theorem M_bm_l (hd : 14 ≤ d) (hp : p < n) : ∀ (j k : Nat) (M : j_M), k + j = a p / a 26 + 1 → 1 ≤ k → IG n a M → ∃ M', R d kX11_bestMean 28 [.ref 46, .int (nI p), .int (nI (bmi (mf n a p) (k - 1) * a 26)), .long (lN (mf n a p (bmi (mf n a p) (k - 1)))), .null, .int (nI (k * a 26)), .null, .null] [] (S0, M, N) = some (some (.int (nI (bmi (mf n a p) (a p / a 26) * a 26))), (S0, M', N)) ∧ Scr M M'
  | 0, k, M, hk, hk1, h => by
    have hn := h.n6
    have h9 := h.pu99 p (by omega)
    have h10 := Nat.div_mul_le_self (a p) (a 26)
    have hst1 := h.st1
    have hst9 := h.st99
    obtain rfl : k = a p / a 26 + 1 := by omega
    have hlt : a p < (a p / a 26 + 1) * a 26 := by
      have := (kst (p := a p) hst1 (k := a p / a 26 + 1))
      omega
    have hlt2 : (a p / a 26 + 1) * a 26 ≤ 1000 := by rw [Nat.add_mul]; omega
    have hx := h.may
    have e := bX11_bestMean_28 d (nI p) (nI (bmi (mf n a p) (a p / a 26 + 1 - 1) * a 26)) (lN (mf n a p (bmi (mf n a p) (a p / a 26 + 1 - 1)))) (nI ((a p / a 26 + 1) * a 26)) M N
    simp (disch := omega) only [z0, z1, z2, z3, z4, z5, z6, z7, z8, z9, z10, z11, z12, z13, z14, z15, z16, z17, z18, z19, z20, z24, z26, z30, z31, z40, z41, z50, z54, z60, z70, z80, z81, z99, z100, z200, z255, z599, z1000, z1299, z4096, z1000000, lw0, lw1, lw2, lw3, lw4, lw5, lw6, lw7, lw12, lw50, lw99, lw255, lw599, lw4096, bI_ok, ble_t, Int.cast_ofNat_Int,  decide_true, decide_false, bI_0, bI_1, b_tf, b_ft, eq_self, n_1, n_2, n_3, n_4, n_5, n_6, n_7, n_8, if_true, if_false, jin, ncl, cond_true, cond_false, Option.bind_some, j_ov, j_oi, j_ol, nle, nlt, neq, nI_add, nmul, nsub, ndiv, nrem2, if_pos, if_neg, Nat.zero_add, Nat.add_zero, j_w_ap, decide_eq_true, decide_eq_false, Bool.true_or, Bool.or_true, Bool.false_or, Bool.or_false, Bool.and_true, Bool.true_and, Bool.false_and, Bool.and_false, Bool.not_true, Bool.not_false, hx] at e
    exact ⟨M, e, Scr.rf⟩
  | j + 1, k, M, hk, hk1, h => by
    have hn := h.n6
    have h9 := h.pu99 p (by omega)
    have hst1 := h.st1
    have hv : k * a 26 ≤ a p := (kst hst1).mpr (by omega)
    have hv2 : bmi (mf n a p) (k - 1) * a 26 ≤ a p := (kst hst1).mpr (by have := bmi_le (f := mf n a p) (k - 1); omega)
    have e := bX11_bestMean_28 d (nI p) (nI (bmi (mf n a p) (k - 1) * a 26)) (lN (mf n a p (bmi (mf n a p) (k - 1)))) (nI (k * a 26)) M N
    obtain ⟨M1, q1, q2⟩ := M_meanOf (d := d) (N := N) (p := p) (v := k * a 26) (by omega) hp (by omega) h
    have hx := h.may
    have hx2 := (h.scr q2).may
    have q1 : C d 181 [.ref 46, .int (nI p), .int (nI (k * a 26))] S0 M N = some (some (.long (lN (mf n a p k))), M1, N) := q1
    have b1 : mf n a p k < 4611686018427387904 := mt62 h (by omega)
    have b2 : mf n a p (bmi (mf n a p) (k - 1)) < 4611686018427387904 := mt62 h (by omega)
    have hk2 : k = (k - 1) + 1 := by omega
    obtain ⟨M', r1, r2⟩ := M_bm_l hd hp j (k + 1) M1 (by omega) (by omega) (h.scr q2)
    have hbm : bmi (mf n a p) (k + 1 - 1) = if mf n a p k < mf n a p (bmi (mf n a p) (k - 1)) then k else bmi (mf n a p) (k - 1) := by
      rw [Nat.add_sub_cancel, hk2, bmi, ← hk2]
    rw [hbm, Nat.succ_mul] at r1
    simp (disch := omega) only [z0, z1, z2, z3, z4, z5, z6, z7, z8, z9, z10, z11, z12, z13, z14, z15, z16, z17, z18, z19, z20, z24, z26, z30, z31, z40, z41, z50, z54, z60, z70, z80, z81, z99, z100, z200, z255, z599, z1000, z1299, z4096, z1000000, lw0, lw1, lw2, lw3, lw4, lw5, lw6, lw7, lw12, lw50, lw99, lw255, lw599, lw4096, bI_ok, ble_t, Int.cast_ofNat_Int,  decide_true, decide_false, bI_0, bI_1, b_tf, b_ft, eq_self, n_1, n_2, n_3, n_4, n_5, n_6, n_7, n_8, if_true, if_false, jin, ncl, cond_true, cond_false, Option.bind_some, j_ov, j_oi, j_ol, nle, nlt, neq, nI_add, nmul, nsub, ndiv, nrem2, if_pos, if_neg, Nat.zero_add, Nat.add_zero, j_w_ap, decide_eq_true, decide_eq_false, Bool.true_or, Bool.or_true, Bool.false_or, Bool.or_false, Bool.and_true, Bool.true_and, Bool.false_and, Bool.and_false, Bool.not_true, Bool.not_false, hx, hx2, q1, lgc_ge, lle] at e
    by_cases hlt : mf n a p k < mf n a p (bmi (mf n a p) (k - 1))
    · rw [if_neg (by omega)] at e
      rw [if_pos hlt] at r1
      exact ⟨M', e.trans r1, q2.tr r2⟩
    · rw [if_pos (by omega)] at e
      rw [if_neg hlt] at r1
      exact ⟨M', e.trans r1, q2.tr r2⟩
theorem Q_bestMean (hd : 20 ≤ d) (h : IG n a M) : ∃ r M1 M2, C d 117 [.ref 0, .int x] S0 M N = some (some (.int r), M1, N) ∧ C d 184 [.ref 46, .int x] S0 M1 N = some (some (.int r), M2, N) ∧ Scr M M2 := by
  have hn := h.n6
  have hh := fun x => X_has (d := d - 1) (N := N) (x := x) (by omega) h.x6 (by omega)
  have hh2 : ∀ M1, Scr M M1 → ∀ x, C (d - 1) 160 [.ref 46, .int x] S0 M1 N = some (some (.int (bI (ib x 0 ((n : Int) - 1)))), M1, N) := fun M1 hs x => M_isGuest (by omega) (h.scr hs).m6 (by omega)
  have hg9 : ∀ q, q < n → gf a q ≤ 99 := fun q hq => h.gi99 q (by omega)
  have hb9 := h.bi599
  have e1 := bX10_bestMean_0 (d - 1) x M N
  have e2 := fun M1 => bX11_bestMean_0 (d - 1) x M1 N
  cases h1 : ib x 0 ((n : Int) - 1) with
  | false =>
    have e2 := e2 M
    have hh2 := hh2 M Scr.rf
    simp (disch := omega) only [z0, z1, z2, z3, z4, z5, z6, z7, z8, z9, z10, z11, z12, z13, z14, z15, z16, z17, z18, z19, z20, z24, z26, z30, z31, z40, z41, z50, z54, z60, z70, z80, z81, z99, z100, z200, z255, z599, z1000, z1299, z4096, z1000000, lw0, lw1, lw2, lw3, lw4, lw5, lw6, lw7, lw12, lw50, lw99, lw255, lw599, lw4096, bI_ok, ble_t, Int.cast_ofNat_Int,  decide_true, decide_false, bI_0, bI_1, b_tf, b_ft, eq_self, n_1, n_2, n_3, n_4, n_5, n_6, n_7, n_8, if_true, if_false, jin, ncl, cond_true, cond_false, Option.bind_some, j_ov, j_oi, j_ol, nle, nlt, neq, nI_add, nmul, nsub, ndiv, nrem2, if_pos, if_neg, Nat.zero_add, Nat.add_zero, j_w_ap, decide_eq_true, decide_eq_false, Bool.true_or, Bool.or_true, Bool.false_or, Bool.or_false, Bool.and_true, Bool.true_and, Bool.false_and, Bool.and_false, Bool.not_true, Bool.not_false, hh, h1] at e1
    simp (disch := omega) only [z0, z1, z2, z3, z4, z5, z6, z7, z8, z9, z10, z11, z12, z13, z14, z15, z16, z17, z18, z19, z20, z24, z26, z30, z31, z40, z41, z50, z54, z60, z70, z80, z81, z99, z100, z200, z255, z599, z1000, z1299, z4096, z1000000, lw0, lw1, lw2, lw3, lw4, lw5, lw6, lw7, lw12, lw50, lw99, lw255, lw599, lw4096, bI_ok, ble_t, Int.cast_ofNat_Int,  decide_true, decide_false, bI_0, bI_1, b_tf, b_ft, eq_self, n_1, n_2, n_3, n_4, n_5, n_6, n_7, n_8, if_true, if_false, jin, ncl, cond_true, cond_false, Option.bind_some, j_ov, j_oi, j_ol, nle, nlt, neq, nI_add, nmul, nsub, ndiv, nrem2, if_pos, if_neg, Nat.zero_add, Nat.add_zero, j_w_ap, decide_eq_true, decide_eq_false, Bool.true_or, Bool.or_true, Bool.false_or, Bool.or_false, Bool.and_true, Bool.true_and, Bool.false_and, Bool.and_false, Bool.not_true, Bool.not_false, hh2, h1] at e2
    exact ⟨_, _, _, eX10_bestMean (by omega) e1, eX11_bestMean (by omega) e2, Scr.rf⟩
  | true =>
    obtain ⟨i, hi, rfl⟩ := ib_g h1 (by omega)
    obtain ⟨M1, q1, q2⟩ := X_weighedCost (d := d - 1 - 1) (N := N) (p := i) (v := 0) (by omega) hi (by omega) h
    have q3 := X_sumsOf (d := d - 1 - 1) (N := N) (by omega) (h.scr q2) (show i < 6 by omega)
    obtain ⟨M2, r1, r2⟩ := X_bm_l (d := d - 1 - 1) (N := N) (p := i) (by omega) hi (a i / a 26) 1 M1 (by omega) (by omega) (h.scr q2)
    have hmf : mf n a i 0 = mt n a (a 24) (a 25) i 0 (2 ^ n) := by unfold mf; rw [Nat.zero_mul]
    rw [Nat.sub_self, show bmi (mf n a i) 0 = 0 from rfl, Nat.zero_mul, hmf] at r1
    have c1 : C (d - 1) 85 [.ref 10, .int (nI i)] S0 M N = some (some (.int (nI (bmi (mf n a i) (a i / a 26) * a 26))), M2, N) := by
      refine eX6_sumOfLeastMean (by omega) ?_
      have e := bX6_sumOfLeastMean_0 (d - 1 - 1) (nI i) M N
      simp (disch := omega) only [z0, z1, z2, z3, z4, z5, z6, z7, z8, z9, z10, z11, z12, z13, z14, z15, z16, z17, z18, z19, z20, z24, z26, z30, z31, z40, z41, z50, z54, z60, z70, z80, z81, z99, z100, z200, z255, z599, z1000, z1299, z4096, z1000000, lw0, lw1, lw2, lw3, lw4, lw5, lw6, lw7, lw12, lw50, lw99, lw255, lw599, lw4096, bI_ok, ble_t, Int.cast_ofNat_Int,  decide_true, decide_false, bI_0, bI_1, b_tf, b_ft, eq_self, n_1, n_2, n_3, n_4, n_5, n_6, n_7, n_8, if_true, if_false, jin, ncl, cond_true, cond_false, Option.bind_some, j_ov, j_oi, j_ol, nle, nlt, neq, nI_add, nmul, nsub, ndiv, nrem2, if_pos, if_neg, Nat.zero_add, Nat.add_zero, j_w_ap, decide_eq_true, decide_eq_false, Bool.true_or, Bool.or_true, Bool.false_or, Bool.or_false, Bool.and_true, Bool.true_and, Bool.false_and, Bool.and_false, Bool.not_true, Bool.not_false, q1, q3] at e
      exact e.trans r1
    have hs := q2.tr r2
    obtain ⟨M3, p1, p2⟩ := M_meanOf (d := d - 1) (N := N) (p := i) (v := 0) (by omega) hi (by omega) (h.scr hs)
    obtain ⟨M4, t1, t2⟩ := M_bm_l (d := d - 1) (N := N) (p := i) (by omega) hi (a i / a 26) 1 M3 (by omega) (by omega) (h.scr (hs.tr p2))
    rw [Nat.sub_self, show bmi (mf n a i) 0 = 0 from rfl, Nat.zero_mul, hmf, Nat.one_mul] at t1
    have e2 := e2 M2
    have hh2 := hh2 M2 hs
    have hm := (h.scr (hs.tr p2)).may
    simp (disch := omega) only [z0, z1, z2, z3, z4, z5, z6, z7, z8, z9, z10, z11, z12, z13, z14, z15, z16, z17, z18, z19, z20, z24, z26, z30, z31, z40, z41, z50, z54, z60, z70, z80, z81, z99, z100, z200, z255, z599, z1000, z1299, z4096, z1000000, lw0, lw1, lw2, lw3, lw4, lw5, lw6, lw7, lw12, lw50, lw99, lw255, lw599, lw4096, bI_ok, ble_t, Int.cast_ofNat_Int,  decide_true, decide_false, bI_0, bI_1, b_tf, b_ft, eq_self, n_1, n_2, n_3, n_4, n_5, n_6, n_7, n_8, if_true, if_false, jin, ncl, cond_true, cond_false, Option.bind_some, j_ov, j_oi, j_ol, nle, nlt, neq, nI_add, nmul, nsub, ndiv, nrem2, if_pos, if_neg, Nat.zero_add, Nat.add_zero, j_w_ap, decide_eq_true, decide_eq_false, Bool.true_or, Bool.or_true, Bool.false_or, Bool.or_false, Bool.and_true, Bool.true_and, Bool.false_and, Bool.and_false, Bool.not_true, Bool.not_false, hh, h1, c1] at e1
    simp (disch := omega) only [z0, z1, z2, z3, z4, z5, z6, z7, z8, z9, z10, z11, z12, z13, z14, z15, z16, z17, z18, z19, z20, z24, z26, z30, z31, z40, z41, z50, z54, z60, z70, z80, z81, z99, z100, z200, z255, z599, z1000, z1299, z4096, z1000000, lw0, lw1, lw2, lw3, lw4, lw5, lw6, lw7, lw12, lw50, lw99, lw255, lw599, lw4096, bI_ok, ble_t, Int.cast_ofNat_Int,  decide_true, decide_false, bI_0, bI_1, b_tf, b_ft, eq_self, n_1, n_2, n_3, n_4, n_5, n_6, n_7, n_8, if_true, if_false, jin, ncl, cond_true, cond_false, Option.bind_some, j_ov, j_oi, j_ol, nle, nlt, neq, nI_add, nmul, nsub, ndiv, nrem2, if_pos, if_neg, Nat.zero_add, Nat.add_zero, j_w_ap, decide_eq_true, decide_eq_false, Bool.true_or, Bool.or_true, Bool.false_or, Bool.or_false, Bool.and_true, Bool.true_and, Bool.false_and, Bool.and_false, Bool.not_true, Bool.not_false, hh2, h1, p1, hm] at e2
    exact ⟨_, _, _, eX10_bestMean (by omega) e1, eX11_bestMean (by omega) (e2.trans t1), (hs.tr p2).tr t2⟩
theorem Q_stranger (hd : 20 ≤ d) (h : IG n a M) : ∃ r M1 M2, C d 127 [.ref 0, .int x, .int y, .int w] S0 M N = some (some (.long r), M1, N) ∧ C d 214 [.ref 46, .int x, .int y, .int w] S0 M1 N = some (some (.long r), M2, N) ∧ Scr M M2 := by
  have hn := h.n6
  have hh := fun x => X_has (d := d - 1) (N := N) (x := x) (by omega) h.x6 (by omega)
  have hh2 : ∀ M1, Scr M M1 → ∀ x, C (d - 1) 160 [.ref 46, .int x] S0 M1 N = some (some (.int (bI (ib x 0 ((n : Int) - 1)))), M1, N) := fun M1 hs x => M_isGuest (by omega) (h.scr hs).m6 (by omega)
  have hg9 : ∀ q, q < n → gf a q ≤ 99 := fun q hq => h.gi99 q (by omega)
  have hb9 := h.bi599
  have e1 := bX10_stranger_0 (d - 1) x y w M N
  have e2 := fun M1 => bX11_stranger_0 (d - 1) x y w M1 N
  cases h1 : ib x 0 ((n : Int) - 1) with
  | false =>
    have e2 := e2 M
    have hh2 := hh2 M Scr.rf
    simp (disch := omega) only [z0, z1, z2, z3, z4, z5, z6, z7, z8, z9, z10, z11, z12, z13, z14, z15, z16, z17, z18, z19, z20, z24, z26, z30, z31, z40, z41, z50, z54, z60, z70, z80, z81, z99, z100, z200, z255, z599, z1000, z1299, z4096, z1000000, lw0, lw1, lw2, lw3, lw4, lw5, lw6, lw7, lw12, lw50, lw99, lw255, lw599, lw4096, bI_ok, ble_t, Int.cast_ofNat_Int,  decide_true, decide_false, bI_0, bI_1, b_tf, b_ft, eq_self, n_1, n_2, n_3, n_4, n_5, n_6, n_7, n_8, if_true, if_false, jin, ncl, cond_true, cond_false, Option.bind_some, j_ov, j_oi, j_ol, nle, nlt, neq, nI_add, nmul, nsub, ndiv, nrem2, if_pos, if_neg, Nat.zero_add, Nat.add_zero, j_w_ap, decide_eq_true, decide_eq_false, Bool.true_or, Bool.or_true, Bool.false_or, Bool.or_false, Bool.and_true, Bool.true_and, Bool.false_and, Bool.and_false, Bool.not_true, Bool.not_false, hh, h1] at e1
    simp (disch := omega) only [z0, z1, z2, z3, z4, z5, z6, z7, z8, z9, z10, z11, z12, z13, z14, z15, z16, z17, z18, z19, z20, z24, z26, z30, z31, z40, z41, z50, z54, z60, z70, z80, z81, z99, z100, z200, z255, z599, z1000, z1299, z4096, z1000000, lw0, lw1, lw2, lw3, lw4, lw5, lw6, lw7, lw12, lw50, lw99, lw255, lw599, lw4096, bI_ok, ble_t, Int.cast_ofNat_Int,  decide_true, decide_false, bI_0, bI_1, b_tf, b_ft, eq_self, n_1, n_2, n_3, n_4, n_5, n_6, n_7, n_8, if_true, if_false, jin, ncl, cond_true, cond_false, Option.bind_some, j_ov, j_oi, j_ol, nle, nlt, neq, nI_add, nmul, nsub, ndiv, nrem2, if_pos, if_neg, Nat.zero_add, Nat.add_zero, j_w_ap, decide_eq_true, decide_eq_false, Bool.true_or, Bool.or_true, Bool.false_or, Bool.or_false, Bool.and_true, Bool.true_and, Bool.false_and, Bool.and_false, Bool.not_true, Bool.not_false, hh2, h1] at e2
    exact ⟨_, _, _, eX10_stranger (by omega) e1, eX11_stranger (by omega) e2, Scr.rf⟩
  | true =>
    obtain ⟨i, hi, rfl⟩ := ib_g h1 (by omega)
    cases h2 : ib y 0 1299 with
    | false =>
      have e2 := e2 M
      have hh2 := hh2 M Scr.rf
      simp (disch := omega) only [z0, z1, z2, z3, z4, z5, z6, z7, z8, z9, z10, z11, z12, z13, z14, z15, z16, z17, z18, z19, z20, z24, z26, z30, z31, z40, z41, z50, z54, z60, z70, z80, z81, z99, z100, z200, z255, z599, z1000, z1299, z4096, z1000000, lw0, lw1, lw2, lw3, lw4, lw5, lw6, lw7, lw12, lw50, lw99, lw255, lw599, lw4096, bI_ok, ble_t, Int.cast_ofNat_Int,  decide_true, decide_false, bI_0, bI_1, b_tf, b_ft, eq_self, n_1, n_2, n_3, n_4, n_5, n_6, n_7, n_8, if_true, if_false, jin, ncl, cond_true, cond_false, Option.bind_some, j_ov, j_oi, j_ol, nle, nlt, neq, nI_add, nmul, nsub, ndiv, nrem2, if_pos, if_neg, Nat.zero_add, Nat.add_zero, j_w_ap, decide_eq_true, decide_eq_false, Bool.true_or, Bool.or_true, Bool.false_or, Bool.or_false, Bool.and_true, Bool.true_and, Bool.false_and, Bool.and_false, Bool.not_true, Bool.not_false, hh, h1, X_within, h2] at e1
      by_cases hy : y < nI 0
      · simp (disch := omega) only [z0, z1, z2, z3, z4, z5, z6, z7, z8, z9, z10, z11, z12, z13, z14, z15, z16, z17, z18, z19, z20, z24, z26, z30, z31, z40, z41, z50, z54, z60, z70, z80, z81, z99, z100, z200, z255, z599, z1000, z1299, z4096, z1000000, lw0, lw1, lw2, lw3, lw4, lw5, lw6, lw7, lw12, lw50, lw99, lw255, lw599, lw4096, bI_ok, ble_t, Int.cast_ofNat_Int,  decide_true, decide_false, bI_0, bI_1, b_tf, b_ft, eq_self, n_1, n_2, n_3, n_4, n_5, n_6, n_7, n_8, if_true, if_false, jin, ncl, cond_true, cond_false, Option.bind_some, j_ov, j_oi, j_ol, nle, nlt, neq, nI_add, nmul, nsub, ndiv, nrem2, if_pos, if_neg, Nat.zero_add, Nat.add_zero, j_w_ap, decide_eq_true, decide_eq_false, Bool.true_or, Bool.or_true, Bool.false_or, Bool.or_false, Bool.and_true, Bool.true_and, Bool.false_and, Bool.and_false, Bool.not_true, Bool.not_false, hh2, h1, hy] at e2
        exact ⟨_, _, _, eX10_stranger (by omega) e1, eX11_stranger (by omega) e2, Scr.rf⟩
      · obtain ⟨v, hv, rfl⟩ := nI_of hy
        have hv2 : ¬ v ≤ 1299 := fun z => by
          rw [ib_nI (by omega), decide_eq_true (by omega), decide_eq_true (by omega)] at h2
          cases h2
        simp (disch := omega) only [z0, z1, z2, z3, z4, z5, z6, z7, z8, z9, z10, z11, z12, z13, z14, z15, z16, z17, z18, z19, z20, z24, z26, z30, z31, z40, z41, z50, z54, z60, z70, z80, z81, z99, z100, z200, z255, z599, z1000, z1299, z4096, z1000000, lw0, lw1, lw2, lw3, lw4, lw5, lw6, lw7, lw12, lw50, lw99, lw255, lw599, lw4096, bI_ok, ble_t, Int.cast_ofNat_Int,  decide_true, decide_false, bI_0, bI_1, b_tf, b_ft, eq_self, n_1, n_2, n_3, n_4, n_5, n_6, n_7, n_8, if_true, if_false, jin, ncl, cond_true, cond_false, Option.bind_some, j_ov, j_oi, j_ol, nle, nlt, neq, nI_add, nmul, nsub, ndiv, nrem2, if_pos, if_neg, Nat.zero_add, Nat.add_zero, j_w_ap, decide_eq_true, decide_eq_false, Bool.true_or, Bool.or_true, Bool.false_or, Bool.or_false, Bool.and_true, Bool.true_and, Bool.false_and, Bool.and_false, Bool.not_true, Bool.not_false, hh2, h1] at e2
        exact ⟨_, _, _, eX10_stranger (by omega) e1, eX11_stranger (by omega) e2, Scr.rf⟩
    | true =>
      obtain ⟨v, -, hv, rfl⟩ := ib_ex (lo := 0) (hi := 1299) h2 (by omega)
      have hvm : v - v / 100 * 100 = v % 100 := by omega
      cases h3 : ib w 0 1 with
      | false =>
        have e2 := e2 M
        have hh2 := hh2 M Scr.rf
        simp (disch := omega) only [z0, z1, z2, z3, z4, z5, z6, z7, z8, z9, z10, z11, z12, z13, z14, z15, z16, z17, z18, z19, z20, z24, z26, z30, z31, z40, z41, z50, z54, z60, z70, z80, z81, z99, z100, z200, z255, z599, z1000, z1299, z4096, z1000000, lw0, lw1, lw2, lw3, lw4, lw5, lw6, lw7, lw12, lw50, lw99, lw255, lw599, lw4096, bI_ok, ble_t, Int.cast_ofNat_Int,  decide_true, decide_false, bI_0, bI_1, b_tf, b_ft, eq_self, n_1, n_2, n_3, n_4, n_5, n_6, n_7, n_8, if_true, if_false, jin, ncl, cond_true, cond_false, Option.bind_some, j_ov, j_oi, j_ol, nle, nlt, neq, nI_add, nmul, nsub, ndiv, nrem2, if_pos, if_neg, Nat.zero_add, Nat.add_zero, j_w_ap, decide_eq_true, decide_eq_false, Bool.true_or, Bool.or_true, Bool.false_or, Bool.or_false, Bool.and_true, Bool.true_and, Bool.false_and, Bool.and_false, Bool.not_true, Bool.not_false, hh, h1, X_within, h2, h3] at e1
        simp (disch := omega) only [z0, z1, z2, z3, z4, z5, z6, z7, z8, z9, z10, z11, z12, z13, z14, z15, z16, z17, z18, z19, z20, z24, z26, z30, z31, z40, z41, z50, z54, z60, z70, z80, z81, z99, z100, z200, z255, z599, z1000, z1299, z4096, z1000000, lw0, lw1, lw2, lw3, lw4, lw5, lw6, lw7, lw12, lw50, lw99, lw255, lw599, lw4096, bI_ok, ble_t, Int.cast_ofNat_Int,  decide_true, decide_false, bI_0, bI_1, b_tf, b_ft, eq_self, n_1, n_2, n_3, n_4, n_5, n_6, n_7, n_8, if_true, if_false, jin, ncl, cond_true, cond_false, Option.bind_some, j_ov, j_oi, j_ol, nle, nlt, neq, nI_add, nmul, nsub, ndiv, nrem2, if_pos, if_neg, Nat.zero_add, Nat.add_zero, j_w_ap, decide_eq_true, decide_eq_false, Bool.true_or, Bool.or_true, Bool.false_or, Bool.or_false, Bool.and_true, Bool.true_and, Bool.false_and, Bool.and_false, Bool.not_true, Bool.not_false, hh2, h1, M_within, h3] at e2
        exact ⟨_, _, _, eX10_stranger (by omega) e1, eX11_stranger (by omega) e2, Scr.rf⟩
      | true =>
        obtain ⟨q, -, hq, rfl⟩ := ib_ex (lo := 0) (hi := 1) h3 (by omega)
        obtain ⟨M1, q1, q2, q3, q4⟩ := X_lay (d := d - 1) (N := N) (by omega) h
        have q5 := X_cost (d := d - 1) (N := N) (i := i) (by omega) (by omega) hg9 (by omega) q2 q3 h.ru4 hi
        have hg7 : ∀ k, k < n + 1 → up (gf a) n (v % 100) k ≤ 99 := by
          intro k hk
          unfold up
          by_cases hkn : k = n
          · rw [if_pos hkn]; omega
          · rw [if_neg hkn]; exact hg9 k (by omega)
        have hl := q2.l q3
        obtain ⟨M2, s1, s2, s3, s4⟩ := X_weigh (d := d - 1 - 1) (N := N) (M := j_w (j_w M1 9 n (nI (v % 100))) 8 1 (nI (n + 1))) (n := n + 1) (g := up (gf a) n (v % 100)) (bill := a 24) (by omega) (by omega) hg7 (by omega) (by simp (disch := omega) only [z0, z1, z2, z3, z4, z5, z6, z7, z8, z9, z10, z11, z12, z13, z14, z15, z16, z17, z18, z19, z20, z24, z26, z30, z31, z40, z41, z50, z54, z60, z70, z80, z81, z99, z100, z200, z255, z599, z1000, z1299, z4096, z1000000, lw0, lw1, lw2, lw3, lw4, lw5, lw6, lw7, lw12, lw50, lw99, lw255, lw599, lw4096, bI_ok, ble_t, Int.cast_ofNat_Int,  decide_true, decide_false, bI_0, bI_1, b_tf, b_ft, eq_self, n_1, n_2, n_3, n_4, n_5, n_6, n_7, n_8, if_true, if_false, jin, ncl, cond_true, cond_false, Option.bind_some, j_ov, j_oi, j_ol, nle, nlt, neq, nI_add, nmul, nsub, ndiv, nrem2, if_pos, if_neg, Nat.zero_add, Nat.add_zero, j_w_ap, decide_eq_true, decide_eq_false, Bool.true_or, Bool.or_true, Bool.false_or, Bool.or_false, Bool.and_true, Bool.true_and, Bool.false_and, Bool.and_false, Bool.not_true, Bool.not_false]) (fun k hk => by
          unfold up
          by_cases hkn : k = n
          · simp (disch := omega) only [z0, z1, z2, z3, z4, z5, z6, z7, z8, z9, z10, z11, z12, z13, z14, z15, z16, z17, z18, z19, z20, z24, z26, z30, z31, z40, z41, z50, z54, z60, z70, z80, z81, z99, z100, z200, z255, z599, z1000, z1299, z4096, z1000000, lw0, lw1, lw2, lw3, lw4, lw5, lw6, lw7, lw12, lw50, lw99, lw255, lw599, lw4096, bI_ok, ble_t, Int.cast_ofNat_Int,  decide_true, decide_false, bI_0, bI_1, b_tf, b_ft, eq_self, n_1, n_2, n_3, n_4, n_5, n_6, n_7, n_8, if_true, if_false, jin, ncl, cond_true, cond_false, Option.bind_some, j_ov, j_oi, j_ol, nle, nlt, neq, nI_add, nmul, nsub, ndiv, nrem2, if_pos, if_neg, Nat.zero_add, Nat.add_zero, j_w_ap, decide_eq_true, decide_eq_false, Bool.true_or, Bool.or_true, Bool.false_or, Bool.or_false, Bool.and_true, Bool.true_and, Bool.false_and, Bool.and_false, Bool.not_true, Bool.not_false, hkn]
          · simp (disch := omega) only [z0, z1, z2, z3, z4, z5, z6, z7, z8, z9, z10, z11, z12, z13, z14, z15, z16, z17, z18, z19, z20, z24, z26, z30, z31, z40, z41, z50, z54, z60, z70, z80, z81, z99, z100, z200, z255, z599, z1000, z1299, z4096, z1000000, lw0, lw1, lw2, lw3, lw4, lw5, lw6, lw7, lw12, lw50, lw99, lw255, lw599, lw4096, bI_ok, ble_t, Int.cast_ofNat_Int,  decide_true, decide_false, bI_0, bI_1, b_tf, b_ft, eq_self, n_1, n_2, n_3, n_4, n_5, n_6, n_7, n_8, if_true, if_false, jin, ncl, cond_true, cond_false, Option.bind_some, j_ov, j_oi, j_ol, nle, nlt, neq, nI_add, nmul, nsub, ndiv, nrem2, if_pos, if_neg, Nat.zero_add, Nat.add_zero, j_w_ap, decide_eq_true, decide_eq_false, Bool.true_or, Bool.or_true, Bool.false_or, Bool.or_false, Bool.and_true, Bool.true_and, Bool.false_and, Bool.and_false, Bool.not_true, Bool.not_false, hl.2.2.2 k (by omega)]) (by simp (disch := omega) only [z0, z1, z2, z3, z4, z5, z6, z7, z8, z9, z10, z11, z12, z13, z14, z15, z16, z17, z18, z19, z20, z24, z26, z30, z31, z40, z41, z50, z54, z60, z70, z80, z81, z99, z100, z200, z255, z599, z1000, z1299, z4096, z1000000, lw0, lw1, lw2, lw3, lw4, lw5, lw6, lw7, lw12, lw50, lw99, lw255, lw599, lw4096, bI_ok, ble_t, Int.cast_ofNat_Int,  decide_true, decide_false, bI_0, bI_1, b_tf, b_ft, eq_self, n_1, n_2, n_3, n_4, n_5, n_6, n_7, n_8, if_true, if_false, jin, ncl, cond_true, cond_false, Option.bind_some, j_ov, j_oi, j_ol, nle, nlt, neq, nI_add, nmul, nsub, ndiv, nrem2, if_pos, if_neg, Nat.zero_add, Nat.add_zero, j_w_ap, decide_eq_true, decide_eq_false, Bool.true_or, Bool.or_true, Bool.false_or, Bool.or_false, Bool.and_true, Bool.true_and, Bool.false_and, Bool.and_false, Bool.not_true, Bool.not_false, hl.2.2.1])
        have hr2 : M2 8 2 = nI (a 25) := by rw [s4]; simp (disch := omega) only [z0, z1, z2, z3, z4, z5, z6, z7, z8, z9, z10, z11, z12, z13, z14, z15, z16, z17, z18, z19, z20, z24, z26, z30, z31, z40, z41, z50, z54, z60, z70, z80, z81, z99, z100, z200, z255, z599, z1000, z1299, z4096, z1000000, lw0, lw1, lw2, lw3, lw4, lw5, lw6, lw7, lw12, lw50, lw99, lw255, lw599, lw4096, bI_ok, ble_t, Int.cast_ofNat_Int,  decide_true, decide_false, bI_0, bI_1, b_tf, b_ft, eq_self, n_1, n_2, n_3, n_4, n_5, n_6, n_7, n_8, if_true, if_false, jin, ncl, cond_true, cond_false, Option.bind_some, j_ov, j_oi, j_ol, nle, nlt, neq, nI_add, nmul, nsub, ndiv, nrem2, if_pos, if_neg, Nat.zero_add, Nat.add_zero, j_w_ap, decide_eq_true, decide_eq_false, Bool.true_or, Bool.or_true, Bool.false_or, Bool.or_false, Bool.and_true, Bool.true_and, Bool.false_and, Bool.and_false, Bool.not_true, Bool.not_false, hl.2.1]
        have hs2 : Scr M1 M2 := ((Scr.w rfl).tr (Scr.w rfl)).tr (Scr.fr8 s3)
        have c1 : C (d - 1) 23 [.ref 8, .int (nI (v % 100))] S0 M1 N = some (none, M2, N) := by
          refine eX3_join (by omega) ?_
          have e := bX3_join_0 (d - 1 - 1) (nI (v % 100)) M1 N
          have h81 := hl.1
          simp (disch := omega) only [z0, z1, z2, z3, z4, z5, z6, z7, z8, z9, z10, z11, z12, z13, z14, z15, z16, z17, z18, z19, z20, z24, z26, z30, z31, z40, z41, z50, z54, z60, z70, z80, z81, z99, z100, z200, z255, z599, z1000, z1299, z4096, z1000000, lw0, lw1, lw2, lw3, lw4, lw5, lw6, lw7, lw12, lw50, lw99, lw255, lw599, lw4096, bI_ok, ble_t, Int.cast_ofNat_Int,  decide_true, decide_false, bI_0, bI_1, b_tf, b_ft, eq_self, n_1, n_2, n_3, n_4, n_5, n_6, n_7, n_8, if_true, if_false, jin, ncl, cond_true, cond_false, Option.bind_some, j_ov, j_oi, j_ol, nle, nlt, neq, nI_add, nmul, nsub, ndiv, nrem2, if_pos, if_neg, Nat.zero_add, Nat.add_zero, j_w_ap, decide_eq_true, decide_eq_false, Bool.true_or, Bool.or_true, Bool.false_or, Bool.or_false, Bool.and_true, Bool.true_and, Bool.false_and, Bool.and_false, Bool.not_true, Bool.not_false, h81, s1] at e
          exact e
        have s5 := X_cost (d := d - 1) (N := N) (i := i) (by omega) (by omega) hg7 (by omega) s2 hr2 h.ru4 (show i < n + 1 by omega)
        have hs := q4.tr hs2
        have k1 := s_cost_le (n := n) (bill := a 24) (rule := a 25) (hg9 i hi)
        have k2 := s_cost_le (n := n + 1) (bill := a 24) (rule := a 25) (hg7 i (by omega))
        have k3 : v / 100 * s_cost (n + 1) (up (gf a) n (v % 100)) (a 24) (a 25) i ≤ 12 * 1000 := Nat.mul_le_mul (by omega) (by omega)
        have k4 : (12 - v / 100) * s_cost n (gf a) (a 24) (a 25) i ≤ 12 * 1000 := Nat.mul_le_mul (by omega) (by omega)
        have q6 := X_fraction (d := d - 1) (M := M2) (N := N) (A := v / 100 * s_cost (n + 1) (up (gf a) n (v % 100)) (a 24) (a 25) i + (12 - v / 100) * s_cost n (gf a) (a 24) (a 25) i) (B := 12) (by omega) (by omega) (by omega) (by omega) hq
        obtain ⟨M3, t1, t2, t3⟩ := M_lay (d := d - 1) (N := N) (by omega) (h.scr hs)
        have hm3 := (h.scr (hs.tr t3)).may
        obtain ⟨M4, u1, u2, u3⟩ := M_nightAsIs (d := d - 1) (N := N) (by omega) (by omega) hg9 (by omega) h.ru4 t2 (hm3 24 (by omega)) (hm3 25 (by omega))
        have u4 := M_costIn (d := d - 1) (N := N) (by omega) (by omega) u2 hi
        have hs4 := (hs.tr t3).tr (Scr.fn u3)
        have hm6 := (h.scr hs4).m6
        have hs5 : Scr M4 (j_w (j_w M4 53 n (nI (v % 100))) 46 12 (nI (n + 1))) := (Scr.w rfl).tr (Scr.w rfl)
        have hm5 := (h.scr (hs4.tr hs5)).may
        obtain ⟨M5, y1, y2, y3⟩ := M_nightAsIs (d := d - 1) (N := N) (n := n + 1) (g := up (gf a) n (v % 100)) (M := j_w (j_w M4 53 n (nI (v % 100))) 46 12 (nI (n + 1))) (by omega) (by omega) hg7 (by omega) h.ru4 ⟨by simp (disch := omega) only [z0, z1, z2, z3, z4, z5, z6, z7, z8, z9, z10, z11, z12, z13, z14, z15, z16, z17, z18, z19, z20, z24, z26, z30, z31, z40, z41, z50, z54, z60, z70, z80, z81, z99, z100, z200, z255, z599, z1000, z1299, z4096, z1000000, lw0, lw1, lw2, lw3, lw4, lw5, lw6, lw7, lw12, lw50, lw99, lw255, lw599, lw4096, bI_ok, ble_t, Int.cast_ofNat_Int,  decide_true, decide_false, bI_0, bI_1, b_tf, b_ft, eq_self, n_1, n_2, n_3, n_4, n_5, n_6, n_7, n_8, if_true, if_false, jin, ncl, cond_true, cond_false, Option.bind_some, j_ov, j_oi, j_ol, nle, nlt, neq, nI_add, nmul, nsub, ndiv, nrem2, if_pos, if_neg, Nat.zero_add, Nat.add_zero, j_w_ap, decide_eq_true, decide_eq_false, Bool.true_or, Bool.or_true, Bool.false_or, Bool.or_false, Bool.and_true, Bool.true_and, Bool.false_and, Bool.and_false, Bool.not_true, Bool.not_false], fun k hk => by
          unfold up
          by_cases hkn : k = n
          · simp (disch := omega) only [z0, z1, z2, z3, z4, z5, z6, z7, z8, z9, z10, z11, z12, z13, z14, z15, z16, z17, z18, z19, z20, z24, z26, z30, z31, z40, z41, z50, z54, z60, z70, z80, z81, z99, z100, z200, z255, z599, z1000, z1299, z4096, z1000000, lw0, lw1, lw2, lw3, lw4, lw5, lw6, lw7, lw12, lw50, lw99, lw255, lw599, lw4096, bI_ok, ble_t, Int.cast_ofNat_Int,  decide_true, decide_false, bI_0, bI_1, b_tf, b_ft, eq_self, n_1, n_2, n_3, n_4, n_5, n_6, n_7, n_8, if_true, if_false, jin, ncl, cond_true, cond_false, Option.bind_some, j_ov, j_oi, j_ol, nle, nlt, neq, nI_add, nmul, nsub, ndiv, nrem2, if_pos, if_neg, Nat.zero_add, Nat.add_zero, j_w_ap, decide_eq_true, decide_eq_false, Bool.true_or, Bool.or_true, Bool.false_or, Bool.or_false, Bool.and_true, Bool.true_and, Bool.false_and, Bool.and_false, Bool.not_true, Bool.not_false, hkn]
          · simp (disch := omega) only [z0, z1, z2, z3, z4, z5, z6, z7, z8, z9, z10, z11, z12, z13, z14, z15, z16, z17, z18, z19, z20, z24, z26, z30, z31, z40, z41, z50, z54, z60, z70, z80, z81, z99, z100, z200, z255, z599, z1000, z1299, z4096, z1000000, lw0, lw1, lw2, lw3, lw4, lw5, lw6, lw7, lw12, lw50, lw99, lw255, lw599, lw4096, bI_ok, ble_t, Int.cast_ofNat_Int,  decide_true, decide_false, bI_0, bI_1, b_tf, b_ft, eq_self, n_1, n_2, n_3, n_4, n_5, n_6, n_7, n_8, if_true, if_false, jin, ncl, cond_true, cond_false, Option.bind_some, j_ov, j_oi, j_ol, nle, nlt, neq, nI_add, nmul, nsub, ndiv, nrem2, if_pos, if_neg, Nat.zero_add, Nat.add_zero, j_w_ap, decide_eq_true, decide_eq_false, Bool.true_or, Bool.or_true, Bool.false_or, Bool.or_false, Bool.and_true, Bool.true_and, Bool.false_and, Bool.and_false, Bool.not_true, Bool.not_false, u2.1.2 k (by omega)]⟩ (hm5 24 (by omega)) (hm5 25 (by omega))
        have y4 := M_costIn (d := d - 1) (N := N) (i := i) (by omega) (by omega) y2 (by omega)
        have p6 := M_partOf (d := d - 1) (M := M5) (N := N) (A := v / 100 * s_cost (n + 1) (up (gf a) n (v % 100)) (a 24) (a 25) i + (12 - v / 100) * s_cost n (gf a) (a 24) (a 25) i) (B := 12) (by omega) (by omega) (by omega) (by omega) hq
        have e2 := e2 M2
        have hh2 := hh2 M2 hs
        simp (disch := omega) only [z0, z1, z2, z3, z4, z5, z6, z7, z8, z9, z10, z11, z12, z13, z14, z15, z16, z17, z18, z19, z20, z24, z26, z30, z31, z40, z41, z50, z54, z60, z70, z80, z81, z99, z100, z200, z255, z599, z1000, z1299, z4096, z1000000, lw0, lw1, lw2, lw3, lw4, lw5, lw6, lw7, lw12, lw50, lw99, lw255, lw599, lw4096, bI_ok, ble_t, Int.cast_ofNat_Int,  decide_true, decide_false, bI_0, bI_1, b_tf, b_ft, eq_self, n_1, n_2, n_3, n_4, n_5, n_6, n_7, n_8, if_true, if_false, jin, ncl, cond_true, cond_false, Option.bind_some, j_ov, j_oi, j_ol, nle, nlt, neq, nI_add, nmul, nsub, ndiv, nrem2, if_pos, if_neg, Nat.zero_add, Nat.add_zero, j_w_ap, decide_eq_true, decide_eq_false, Bool.true_or, Bool.or_true, Bool.false_or, Bool.or_false, Bool.and_true, Bool.true_and, Bool.false_and, Bool.and_false, Bool.not_true, Bool.not_false, hvm, hh, h1, X_within, h2, h3, q1, q5, c1, s5, nI_l, lN_mul, lN_add, q6] at e1
        simp (disch := omega) only [z0, z1, z2, z3, z4, z5, z6, z7, z8, z9, z10, z11, z12, z13, z14, z15, z16, z17, z18, z19, z20, z24, z26, z30, z31, z40, z41, z50, z54, z60, z70, z80, z81, z99, z100, z200, z255, z599, z1000, z1299, z4096, z1000000, lw0, lw1, lw2, lw3, lw4, lw5, lw6, lw7, lw12, lw50, lw99, lw255, lw599, lw4096, bI_ok, ble_t, Int.cast_ofNat_Int,  decide_true, decide_false, bI_0, bI_1, b_tf, b_ft, eq_self, n_1, n_2, n_3, n_4, n_5, n_6, n_7, n_8, if_true, if_false, jin, ncl, cond_true, cond_false, Option.bind_some, j_ov, j_oi, j_ol, nle, nlt, neq, nI_add, nmul, nsub, ndiv, nrem2, if_pos, if_neg, Nat.zero_add, Nat.add_zero, j_w_ap, decide_eq_true, decide_eq_false, Bool.true_or, Bool.or_true, Bool.false_or, Bool.or_false, Bool.and_true, Bool.true_and, Bool.false_and, Bool.and_false, Bool.not_true, Bool.not_false, hvm, hh2, h1, M_within, h3, t1, u1, u4, hm6, y1, y4] at e2
        simp (disch := omega) only [nI_l, lN_mul, lN_add, p6, Option.bind_some, j_ol] at e2
        exact ⟨_, _, _, eX10_stranger (by omega) e1, eX11_stranger (by omega) e2, hs4.tr (hs5.tr (Scr.fn y3))⟩
end MD
