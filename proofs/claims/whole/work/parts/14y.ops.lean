/-! ===== guests: the reference takes one (own text) ===== -/
section OY
variable {d n s l q k x c v g : Nat} {M : j_M} {N : j_N} {w w2 : Int32}
theorem M_tk (hd : 1 ≤ d) (hs : s < 6) (hk : k ≤ 6) (hc : c ≤ 6) (hq : x + 2 * k + 1 < 60) (h6 : M 46 6 = nI n) (hn : n < 6) (hw : N 68 (60 * s + x + 2 * k) = w.toInt64) (hw2 : N 68 (60 * s + x + 2 * k + 1) = w2.toInt64) : R d kX11_guests 111 [.ref 46, .int (nI s), .int (nI x), .int (nI c), .int (nI k), .null, .null] [.int (nI 1)] (S0, M, N) = if (ib w 0 99 && ib w2 0 w.toInt) = true then R d kX11_guests 69 [.ref 46, .int (nI s), .int (nI x), .int (nI c), .int (nI (k + 1)), .int (nI 1), .null] [] (S0, j_w (j_w (j_w M 47 n w) 47 (6 + n) w2) 46 6 (nI (n + 1)), N) else some (some (.int (nI k)), (S0, M, N)) := by
  have e := bX11_guests_111 d (nI s) (nI x) (nI c) (nI k) (nI 1) M N
  have a5 : 60 * nI s + nI x + 2 * nI k = nI (60 * s + x + 2 * k) := by simp (disch := omega) only [z0, z1, z2, z3, z4, z5, z6, z7, z8, z9, z10, z11, z12, z13, z14, z15, z16, z17, z18, z19, z20, z24, z26, z30, z31, z40, z41, z50, z54, z60, z70, z80, z81, z99, z100, z200, z255, z599, z1000, z1299, z4096, z1000000, lw0, lw1, lw2, lw3, lw4, lw5, lw6, lw7, lw12, lw50, lw99, lw255, lw599, lw4096, bI_ok, ble_t, Int.cast_ofNat_Int,  decide_true, decide_false, bI_0, bI_1, b_tf, b_ft, eq_self, n_1, n_2, n_3, n_4, n_5, n_6, n_7, n_8, if_true, if_false, jin, ncl, cond_true, cond_false, Option.bind_some, j_ov, j_oi, j_ol, nle, nlt, neq, nI_add, nmul, nsub, ndiv, nrem2, if_pos, if_neg, Nat.zero_add, Nat.add_zero, j_w_ap, decide_eq_true, decide_eq_false, Bool.true_or, Bool.or_true, Bool.false_or, Bool.or_false, Bool.and_true, Bool.true_and, Bool.false_and, Bool.and_false, Bool.not_true, Bool.not_false]
  have a6 : j_in (nI (60 * s + x + 2 * k)) 360 = true := by simp (disch := omega) only [z0, z1, z2, z3, z4, z5, z6, z7, z8, z9, z10, z11, z12, z13, z14, z15, z16, z17, z18, z19, z20, z24, z26, z30, z31, z40, z41, z50, z54, z60, z70, z80, z81, z99, z100, z200, z255, z599, z1000, z1299, z4096, z1000000, lw0, lw1, lw2, lw3, lw4, lw5, lw6, lw7, lw12, lw50, lw99, lw255, lw599, lw4096, bI_ok, ble_t, Int.cast_ofNat_Int,  decide_true, decide_false, bI_0, bI_1, b_tf, b_ft, eq_self, n_1, n_2, n_3, n_4, n_5, n_6, n_7, n_8, if_true, if_false, jin, ncl, cond_true, cond_false, Option.bind_some, j_ov, j_oi, j_ol, nle, nlt, neq, nI_add, nmul, nsub, ndiv, nrem2, if_pos, if_neg, Nat.zero_add, Nat.add_zero, j_w_ap, decide_eq_true, decide_eq_false, Bool.true_or, Bool.or_true, Bool.false_or, Bool.or_false, Bool.and_true, Bool.true_and, Bool.false_and, Bool.and_false, Bool.not_true, Bool.not_false]
  have a7 : (nI (60 * s + x + 2 * k)).toNatClampNeg = 60 * s + x + 2 * k := by simp (disch := omega) only [z0, z1, z2, z3, z4, z5, z6, z7, z8, z9, z10, z11, z12, z13, z14, z15, z16, z17, z18, z19, z20, z24, z26, z30, z31, z40, z41, z50, z54, z60, z70, z80, z81, z99, z100, z200, z255, z599, z1000, z1299, z4096, z1000000, lw0, lw1, lw2, lw3, lw4, lw5, lw6, lw7, lw12, lw50, lw99, lw255, lw599, lw4096, bI_ok, ble_t, Int.cast_ofNat_Int,  decide_true, decide_false, bI_0, bI_1, b_tf, b_ft, eq_self, n_1, n_2, n_3, n_4, n_5, n_6, n_7, n_8, if_true, if_false, jin, ncl, cond_true, cond_false, Option.bind_some, j_ov, j_oi, j_ol, nle, nlt, neq, nI_add, nmul, nsub, ndiv, nrem2, if_pos, if_neg, Nat.zero_add, Nat.add_zero, j_w_ap, decide_eq_true, decide_eq_false, Bool.true_or, Bool.or_true, Bool.false_or, Bool.or_false, Bool.and_true, Bool.true_and, Bool.false_and, Bool.and_false, Bool.not_true, Bool.not_false]
  have a8 : nI (60 * s + x + 2 * k) + 1 = nI (60 * s + x + 2 * k + 1) := nI_1 _
  have a9 : j_in (nI (60 * s + x + 2 * k + 1)) 360 = true := by simp (disch := omega) only [z0, z1, z2, z3, z4, z5, z6, z7, z8, z9, z10, z11, z12, z13, z14, z15, z16, z17, z18, z19, z20, z24, z26, z30, z31, z40, z41, z50, z54, z60, z70, z80, z81, z99, z100, z200, z255, z599, z1000, z1299, z4096, z1000000, lw0, lw1, lw2, lw3, lw4, lw5, lw6, lw7, lw12, lw50, lw99, lw255, lw599, lw4096, bI_ok, ble_t, Int.cast_ofNat_Int,  decide_true, decide_false, bI_0, bI_1, b_tf, b_ft, eq_self, n_1, n_2, n_3, n_4, n_5, n_6, n_7, n_8, if_true, if_false, jin, ncl, cond_true, cond_false, Option.bind_some, j_ov, j_oi, j_ol, nle, nlt, neq, nI_add, nmul, nsub, ndiv, nrem2, if_pos, if_neg, Nat.zero_add, Nat.add_zero, j_w_ap, decide_eq_true, decide_eq_false, Bool.true_or, Bool.or_true, Bool.false_or, Bool.or_false, Bool.and_true, Bool.true_and, Bool.false_and, Bool.and_false, Bool.not_true, Bool.not_false]
  have a10 : (nI (60 * s + x + 2 * k + 1)).toNatClampNeg = 60 * s + x + 2 * k + 1 := by simp (disch := omega) only [z0, z1, z2, z3, z4, z5, z6, z7, z8, z9, z10, z11, z12, z13, z14, z15, z16, z17, z18, z19, z20, z24, z26, z30, z31, z40, z41, z50, z54, z60, z70, z80, z81, z99, z100, z200, z255, z599, z1000, z1299, z4096, z1000000, lw0, lw1, lw2, lw3, lw4, lw5, lw6, lw7, lw12, lw50, lw99, lw255, lw599, lw4096, bI_ok, ble_t, Int.cast_ofNat_Int,  decide_true, decide_false, bI_0, bI_1, b_tf, b_ft, eq_self, n_1, n_2, n_3, n_4, n_5, n_6, n_7, n_8, if_true, if_false, jin, ncl, cond_true, cond_false, Option.bind_some, j_ov, j_oi, j_ol, nle, nlt, neq, nI_add, nmul, nsub, ndiv, nrem2, if_pos, if_neg, Nat.zero_add, Nat.add_zero, j_w_ap, decide_eq_true, decide_eq_false, Bool.true_or, Bool.or_true, Bool.false_or, Bool.or_false, Bool.and_true, Bool.true_and, Bool.false_and, Bool.and_false, Bool.not_true, Bool.not_false]
  have v1 := M_within (d := d) (M := M) (N := N) (x := w) (lo := 0) (hi := 99) hd (by omega) (by omega)
  have v2 := M_withinV (d := d) (M := M) (N := N) (x := w2) (x1 := w) (lo := 0) hd (by omega)
  rw [if_neg (show ¬ nI 1 = 0 by decide), a5, a6, cond_true, a7, hw, show (0 : Int64) = lN 0 from rfl, show (99 : Int64) = lN 99 from rfl, v1, Option.bind_some, j_oi] at e
  dsimp only at e
  have i99 : ib w ((0 : Nat) : Int) ((99 : Nat) : Int) = ib w 0 99 := rfl
  have i0 : ib w2 ((0 : Nat) : Int) w.toInt = ib w2 0 w.toInt := rfl
  rw [i99] at e
  cases c1 : ib w 0 99 with
  | false =>
    rw [c1, if_pos (by decide)] at e
    rw [Bool.false_and, if_neg (by decide)]
    exact e.trans M_st176
  | true =>
    rw [c1, if_neg (by decide), a8, a9, cond_true, cond_true, a10, hw, hw2, v2, Option.bind_some, j_oi] at e
    dsimp only at e
    rw [i0] at e
    cases c2 : ib w2 0 w.toInt with
    | false =>
      rw [c2, if_pos (by decide)] at e
      rw [if_neg (by decide)]
      exact e.trans M_st176
    | true =>
      rw [c2, if_neg (by decide)] at e
      rw [if_pos (by decide)]
      refine e.trans ?_
      have f := bX11_guests_176 d (nI s) (nI x) (nI c) (nI k) (nI (60 * s + x + 2 * k)) (nI 1) M N
      rw [if_neg (show ¬ nI 1 = 0 by decide), a6, a8, a9, a7, a10, hw, hw2, Int32.toInt32_toInt64, Int32.toInt32_toInt64] at f
      simp (disch := omega) only [z0, z1, z2, z3, z4, z5, z6, z7, z8, z9, z10, z11, z12, z13, z14, z15, z16, z17, z18, z19, z20, z24, z26, z30, z31, z40, z41, z50, z54, z60, z70, z80, z81, z99, z100, z200, z255, z599, z1000, z1299, z4096, z1000000, lw0, lw1, lw2, lw3, lw4, lw5, lw6, lw7, lw12, lw50, lw99, lw255, lw599, lw4096, bI_ok, ble_t, Int.cast_ofNat_Int,  decide_true, decide_false, bI_0, bI_1, b_tf, b_ft, eq_self, n_1, n_2, n_3, n_4, n_5, n_6, n_7, n_8, if_true, if_false, jin, ncl, cond_true, cond_false, Option.bind_some, j_ov, j_oi, j_ol, nle, nlt, neq, nI_add, nmul, nsub, ndiv, nrem2, if_pos, if_neg, Nat.zero_add, Nat.add_zero, j_w_ap, decide_eq_true, decide_eq_false, Bool.true_or, Bool.or_true, Bool.false_or, Bool.or_false, Bool.and_true, Bool.true_and, Bool.false_and, Bool.and_false, Bool.not_true, Bool.not_false, h6] at f
      exact f
end OY
