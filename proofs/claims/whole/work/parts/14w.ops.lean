/-! ===== guests: one step of the class (own text) ===== -/
section OW
variable {d n s l q k x : Nat} {M : j_M} {N : j_N} {w w2 : Int32}
theorem nI64 (h : k < 2147483648) : (nI k).toInt64 = lN k := by
  rw [← Int64.toInt_inj, Int32.toInt_toInt64, nI_toInt h, pk_lT (by omega)]
theorem lN_ad {a b : Nat} : lN a + lN b = lN (a + b) := (Int64.ofNat_add a b).symm
theorem lN_ml {a b : Nat} : lN a * lN b = lN (a * b) := (Int64.ofNat_mul a b).symm
theorem lY (hx : x < 2147483648) (hk : k < 2147483648) : (nI x).toInt64 + 2 * (nI k).toInt64 = lN (x + 2 * k) := by
  rw [nI64 hx, nI64 hk, show (2 : Int64) = lN 2 from rfl, lN_ml, lN_ad]
theorem l32 (h : q < 2147483648) : (lN q).toInt32 = nI q := by
  rw [← Int32.toInt_inj, Int64.toInt_toInt32, pk_lT (by omega), nI_toInt h]
  exact Int.bmod_eq_of_le (by omega) (by omega)
theorem X_cf0 (hd : 10 ≤ d) (hs : s < 6) (hl : l ≤ 60) (h2 : M (34 + 2 * s) 2 = nI l) (hn : n ≤ 6) (hx : M 1 6 = nI n) (hq : q < 8589934592) (hb : n = 6 ∨ l ≤ q + 1) : C d 149 [.ref 0, .ref (34 + 2 * s), .long (lN q)] S0 M N = some (some (.int (nI 0)), M, N) := by
  refine eX10_comesFrom (by omega) ?_
  have e := bX10_comesFrom_0 (d - 1) (34 + 2 * s) (lN q) M N
  simp only [lg_cmp_lt] at e
  rw [hx] at e
  by_cases h6 : n = 6
  · rw [if_pos (show 6 ≤ nI n by rw [h6]; decide)] at e
    exact e
  · rw [if_neg (show ¬ 6 ≤ nI n by rw [show (6 : Int32) = nI 6 from rfl, nle (by omega) (by omega)]; omega)] at e
    rw [if_neg (show ¬ lN q < 0 by rw [show (0 : Int64) = lN 0 from rfl, pk_lLT (by omega) (by omega)]; omega)] at e
    rw [b12 hs, cond_true, h2, nI64 (by omega), show (1 : Int64) = lN 1 from rfl, lN_ad] at e
    rw [if_neg (show ¬ lN (q + 1) < lN l by rw [pk_lLT (by omega) (by omega)]; omega)] at e
    exact e
theorem X_cf (hd : 10 ≤ d) (hs : s < 6) (hl : l ≤ 60) (h2 : M (34 + 2 * s) 2 = nI l) (hn : n < 6) (hx : M 1 6 = nI n) (hq : q + 1 < l) (hw : N (35 + 2 * s) q = w.toInt64) (hw2 : N (35 + 2 * s) (q + 1) = w2.toInt64) : ∃ b : Bool, (C d 149 [.ref 0, .ref (34 + 2 * s), .long (lN q)] S0 M N = some (some (.int (bI b)), if b = true then j_w (j_w (j_w (j_w M 2 n w) 3 n w2) 6 n (-nI 1)) 1 6 (nI (n + 1)) else M, N)) ∧ b = (ib w 0 99 && ib w2 0 w.toInt) := by
  have e := bX10_comesFrom_0 (d - 1) (34 + 2 * s) (lN q) M N
  simp only [lg_cmp_lt] at e
  have g1 := X_get (d := d - 1) (N := N) (k := q) (by omega) hs hl h2 (by omega)
  have g2 := X_get (d := d - 1) (N := N) (k := q + 1) (by omega) hs hl h2 (by omega)
  rw [hw] at g1
  rw [hw2] at g2
  rw [hx, if_neg (show ¬ 6 ≤ nI n by rw [show (6 : Int32) = nI 6 from rfl, nle (by omega) (by omega)]; omega)] at e
  rw [if_neg (show ¬ lN q < 0 by rw [show (0 : Int64) = lN 0 from rfl, pk_lLT (by omega) (by omega)]; omega)] at e
  rw [b12 hs, cond_true, h2, nI64 (by omega), show (1 : Int64) = lN 1 from rfl, lN_ad, l32 (by omega), show nI q + 1 = nI (q + 1) from nI_1 q] at e
  rw [if_pos (show lN (q + 1) < lN l by rw [pk_lLT (by omega) (by omega)]; omega), Bool.true_and, show Nat.ble 0 8 = true from rfl, cond_true, g1, Option.bind_some, j_ol] at e
  dsimp only at e
  rw [cond_true, g2, Option.bind_some, j_ol] at e
  dsimp only at e
  rw [Int32.toInt32_toInt64, Int32.toInt32_toInt64] at e
  rw [X_within0 (by omega), Option.bind_some, j_oi] at e
  dsimp only at e
  rw [show (0 : Int32).toInt = 0 from rfl, show (99 : Int32).toInt = 99 from rfl] at e
  cases c1 : ib w 0 99 with
  | false =>
    rw [c1, if_pos (by decide)] at e
    exact ⟨false, eX10_comesFrom (by omega) e, rfl⟩
  | true =>
    rw [c1, if_neg (by decide), X_within0 (by omega), Option.bind_some, j_oi] at e
    dsimp only at e
    rw [show (0 : Int32).toInt = 0 from rfl] at e
    cases c2 : ib w2 0 w.toInt with
    | false =>
      rw [c2, if_pos (by decide)] at e
      exact ⟨false, eX10_comesFrom (by omega) e, rfl⟩
    | true =>
      rw [c2, if_neg (by decide)] at e
      have e0 := bX2_welcome_0 (d - 1 - 1) w w2 M N
      simp (disch := omega) only [z0, z1, z2, z3, z4, z5, z6, z7, z8, z9, z10, z11, z12, z13, z14, z15, z16, z17, z18, z19, z20, z24, z26, z30, z31, z40, z41, z50, z54, z60, z70, z80, z81, z99, z100, z200, z255, z599, z1000, z1299, z4096, z1000000, lw0, lw1, lw2, lw3, lw4, lw5, lw6, lw7, lw12, lw50, lw99, lw255, lw599, lw4096, bI_ok, ble_t, Int.cast_ofNat_Int,  decide_true, decide_false, bI_0, bI_1, b_tf, b_ft, eq_self, n_1, n_2, n_3, n_4, n_5, n_6, n_7, n_8, if_true, if_false, jin, ncl, cond_true, cond_false, Option.bind_some, j_ov, j_oi, j_ol, nle, nlt, neq, nI_add, nmul, nsub, ndiv, nrem2, if_pos, if_neg, Nat.zero_add, Nat.add_zero, j_w_ap, decide_eq_true, decide_eq_false, Bool.true_or, Bool.or_true, Bool.false_or, Bool.or_false, Bool.and_true, Bool.true_and, Bool.false_and, Bool.and_false, Bool.not_true, Bool.not_false, hx] at e0
      have q0 := eX2_welcome (d := d - 1) (by omega) e0
      rw [q0, Option.bind_some, j_ov] at e
      dsimp only at e
      exact ⟨true, eX10_comesFrom (by omega) e, rfl⟩
end OW
