/-! ===== guests: one step of the reference (own text) ===== -/
section OX
variable {d n s l q k x c v g : Nat} {M : j_M} {N : j_N} {w w2 : Int32}
theorem M_stop {y : Int32} : R d kX11_guests 69 [.ref 46, .int (nI s), .int y, .int (nI c), .int (nI k), .int (nI 0), .null] [] (S0, M, N) = some (some (.int (nI k)), (S0, M, N)) := by
  have e := bX11_guests_69 d (nI s) y (nI c) (nI k) (nI 0) M N
  rw [if_pos (by decide)] at e
  exact e
theorem M_st176 {y z : Int32} : R d kX11_guests 176 [.ref 46, .int (nI s), .int y, .int (nI c), .int (nI k), .null, .int z] [.int (nI 0)] (S0, M, N) = some (some (.int (nI k)), (S0, M, N)) := by
  have e := bX11_guests_176 d (nI s) y (nI c) (nI k) z (nI 0) M N
  rw [if_pos (by decide)] at e
  exact e.trans M_stop
theorem M_st111 {y : Int32} : R d kX11_guests 111 [.ref 46, .int (nI s), .int y, .int (nI c), .int (nI k), .null, .null] [.int (nI 0)] (S0, M, N) = some (some (.int (nI k)), (S0, M, N)) := by
  have e := bX11_guests_111 d (nI s) y (nI c) (nI k) (nI 0) M N
  rw [if_pos (by decide)] at e
  exact e.trans M_st176
theorem M_go (hs : s < 6) (hl : l ≤ 60) (hk : k ≤ 6) (hc : c ≤ 6) (hkc : k < c) (hx : x < 2147483648) (h67 : M 67 s = nI l) (h6 : M 46 6 = nI n) (hn : n ≤ 6) : R d kX11_guests 69 [.ref 46, .int (nI s), .int (nI x), .int (nI c), .int (nI k), .int (nI 1), .null] [] (S0, M, N) = if n = 6 ∨ l ≤ x + 2 * k + 1 then some (some (.int (nI k)), (S0, M, N)) else R d kX11_guests 111 [.ref 46, .int (nI s), .int (nI x), .int (nI c), .int (nI k), .null, .null] [.int (nI 1)] (S0, M, N) := by
  have e := bX11_guests_69 d (nI s) (nI x) (nI c) (nI k) (nI 1) M N
  have a1 : (nI s).toNatClampNeg = s := by simp (disch := omega) only [z0, z1, z2, z3, z4, z5, z6, z7, z8, z9, z10, z11, z12, z13, z14, z15, z16, z17, z18, z19, z20, z24, z26, z30, z31, z40, z41, z50, z54, z60, z70, z80, z81, z99, z100, z200, z255, z599, z1000, z1299, z4096, z1000000, lw0, lw1, lw2, lw3, lw4, lw5, lw6, lw7, lw12, lw50, lw99, lw255, lw599, lw4096, bI_ok, ble_t, Int.cast_ofNat_Int,  decide_true, decide_false, bI_0, bI_1, b_tf, b_ft, eq_self, n_1, n_2, n_3, n_4, n_5, n_6, n_7, n_8, if_true, if_false, jin, ncl, cond_true, cond_false, Option.bind_some, j_ov, j_oi, j_ol, nle, nlt, neq, nI_add, nmul, nsub, ndiv, nrem2, if_pos, if_neg, Nat.zero_add, Nat.add_zero, j_w_ap, decide_eq_true, decide_eq_false, Bool.true_or, Bool.or_true, Bool.false_or, Bool.or_false, Bool.and_true, Bool.true_and, Bool.false_and, Bool.and_false, Bool.not_true, Bool.not_false]
  have a3 : j_in (nI s) 6 = true := by simp (disch := omega) only [z0, z1, z2, z3, z4, z5, z6, z7, z8, z9, z10, z11, z12, z13, z14, z15, z16, z17, z18, z19, z20, z24, z26, z30, z31, z40, z41, z50, z54, z60, z70, z80, z81, z99, z100, z200, z255, z599, z1000, z1299, z4096, z1000000, lw0, lw1, lw2, lw3, lw4, lw5, lw6, lw7, lw12, lw50, lw99, lw255, lw599, lw4096, bI_ok, ble_t, Int.cast_ofNat_Int,  decide_true, decide_false, bI_0, bI_1, b_tf, b_ft, eq_self, n_1, n_2, n_3, n_4, n_5, n_6, n_7, n_8, if_true, if_false, jin, ncl, cond_true, cond_false, Option.bind_some, j_ov, j_oi, j_ol, nle, nlt, neq, nI_add, nmul, nsub, ndiv, nrem2, if_pos, if_neg, Nat.zero_add, Nat.add_zero, j_w_ap, decide_eq_true, decide_eq_false, Bool.true_or, Bool.or_true, Bool.false_or, Bool.or_false, Bool.and_true, Bool.true_and, Bool.false_and, Bool.and_false, Bool.not_true, Bool.not_false]
  have a4 : (2 : Int32) * nI k = nI (2 * k) := by simp (disch := omega) only [z0, z1, z2, z3, z4, z5, z6, z7, z8, z9, z10, z11, z12, z13, z14, z15, z16, z17, z18, z19, z20, z24, z26, z30, z31, z40, z41, z50, z54, z60, z70, z80, z81, z99, z100, z200, z255, z599, z1000, z1299, z4096, z1000000, lw0, lw1, lw2, lw3, lw4, lw5, lw6, lw7, lw12, lw50, lw99, lw255, lw599, lw4096, bI_ok, ble_t, Int.cast_ofNat_Int,  decide_true, decide_false, bI_0, bI_1, b_tf, b_ft, eq_self, n_1, n_2, n_3, n_4, n_5, n_6, n_7, n_8, if_true, if_false, jin, ncl, cond_true, cond_false, Option.bind_some, j_ov, j_oi, j_ol, nle, nlt, neq, nI_add, nmul, nsub, ndiv, nrem2, if_pos, if_neg, Nat.zero_add, Nat.add_zero, j_w_ap, decide_eq_true, decide_eq_false, Bool.true_or, Bool.or_true, Bool.false_or, Bool.or_false, Bool.and_true, Bool.true_and, Bool.false_and, Bool.and_false, Bool.not_true, Bool.not_false]
  rw [if_neg (show ¬ nI 1 = 0 by decide), if_neg (show ¬ nI c ≤ nI k by rw [nle (by omega) (by omega)]; omega), a3, cond_true, a1, h67, h6, a4] at e
  have hsub : (nI l - 2 - nI (2 * k)).toInt = (l : Int) - 2 - 2 * k := by
    rw [Int32.toInt_sub, show (2 : Int32) = nI 2 from rfl, pk_sub_toInt (by omega) (by omega), nI_toInt (by omega)]
    rw [Int.bmod_eq_of_le (by omega) (by omega)]
    omega
  by_cases c1 : nI l - 2 - nI (2 * k) < nI x
  · rw [if_pos c1] at e
    rw [Int32.lt_iff_toInt_lt, hsub, nI_toInt hx] at c1
    rw [if_pos (by omega)]
    exact e.trans M_st111
  · rw [if_neg c1] at e
    rw [Int32.lt_iff_toInt_lt, hsub, nI_toInt hx] at c1
    by_cases c2 : n = 6
    · rw [if_pos (show 6 ≤ nI n by rw [c2]; decide)] at e
      rw [if_pos (Or.inl c2)]
      exact e.trans M_st111
    · rw [if_neg (show ¬ 6 ≤ nI n by rw [show (6 : Int32) = nI 6 from rfl, nle (by omega) (by omega)]; omega)] at e
      rw [if_neg (by omega)]
      exact e
end OX
