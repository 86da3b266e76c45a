/-! ===== bodies: who runs (own text) ===== -/
section OL
variable {d n r : Nat} {M : j_M} {N : j_N} {x y z u : Int32}
theorem t0_0 : j_tg j_T0 0 = -nI 1 := rfl
theorem t0_1 : j_tg j_T0 1 = nI 0 := rfl
theorem t0_2 : j_tg j_T0 2 = nI 0 := rfl
theorem t0_3 : j_tg j_T0 3 = nI 2 := rfl
theorem t0_4 : j_tg j_T0 4 = nI 1 := rfl
theorem t0_5 : j_tg j_T0 5 = nI 3 := rfl
theorem t0_6 : j_tg j_T0 6 = nI 0 := rfl
theorem t0_7 : j_tg j_T0 7 = nI 4 := rfl
theorem t1_0 : j_tg j_T1 0 = nI 1 := rfl
theorem t1_1 : j_tg j_T1 1 = nI 10 := rfl
theorem t1_2 : j_tg j_T1 2 = nI 11 := rfl
theorem t1_3 : j_tg j_T1 3 = nI 2 := rfl
theorem t1_4 : j_tg j_T1 4 = nI 20 := rfl
theorem t1_5 : j_tg j_T1 5 = nI 0 := rfl
theorem t1_6 : j_tg j_T1 6 = nI 0 := rfl
theorem t1_7 : j_tg j_T1 7 = nI 0 := rfl
theorem t1_8 : j_tg j_T1 8 = nI 0 := rfl
theorem t1_9 : j_tg j_T1 9 = nI 30 := rfl
theorem t1_10 : j_tg j_T1 10 = nI 0 := rfl
theorem t1_11 : j_tg j_T1 11 = nI 0 := rfl
theorem t1_12 : j_tg j_T1 12 = nI 0 := rfl
theorem t1_13 : j_tg j_T1 13 = nI 41 := rfl
theorem t1_14 : j_tg j_T1 14 = nI 40 := rfl
theorem t1_15 : j_tg j_T1 15 = nI 0 := rfl
theorem t1_16 : j_tg j_T1 16 = nI 0 := rfl
theorem t1_17 : j_tg j_T1 17 = nI 0 := rfl
theorem t1_18 : j_tg j_T1 18 = nI 50 := rfl
theorem t1_19 : j_tg j_T1 19 = nI 0 := rfl
theorem t1_20 : j_tg j_T1 20 = nI 0 := rfl
theorem t1_21 : j_tg j_T1 21 = nI 0 := rfl
theorem t1_22 : j_tg j_T1 22 = nI 0 := rfl
theorem t1_23 : j_tg j_T1 23 = nI 60 := rfl
theorem t1_24 : j_tg j_T1 24 = nI 70 := rfl
theorem t1_25 : j_tg j_T1 25 = nI 0 := rfl
theorem t1_26 : j_tg j_T1 26 = nI 0 := rfl
theorem t1_27 : j_tg j_T1 27 = nI 0 := rfl
theorem t1_28 : j_tg j_T1 28 = nI 0 := rfl
theorem t1_29 : j_tg j_T1 29 = nI 80 := rfl
theorem t1_30 : j_tg j_T1 30 = nI 0 := rfl
theorem t1_31 : j_tg j_T1 31 = nI 81 := rfl
def rnT : List Nat := [1, 20, 1, 1, 20, 1, 70, 20, 10, 10, 30, 41, 10, 41, 10, 80, 11, 11, 11, 40, 50, 40, 11, 50, 2, 2, 2, 2, 2, 60, 2, 81]
def rn (k c : Nat) : Nat := rnT.getD (8 * c + k) 0

theorem P_body : OpI 137 226 [.int x] := by
  intro d M N hd hI
  have hI0 := hI
  obtain ⟨n, a, m, pr, jo, nb, h1, h2, h3, h4, h5, h6, ⟨b1, b2, b3, b4, b5, b6⟩, h8⟩ := hI
  have e1 := bX10_body_0 (d - 1) x M N
  have e2 := fun M1 => bX11_body_0 (d - 1) x M1 N
  have e0 := bX0_add_0 (d - 1 - 1) x M N
  cases hx : ib x 0 7 with
  | false =>
    have e2 := e2 M
    simp (disch := omega) only [z0, z1, z2, z3, z4, z5, z6, z7, z8, z9, z10, z11, z12, z13, z14, z15, z16, z17, z18, z19, z20, z24, z26, z30, z31, z40, z41, z50, z54, z60, z70, z80, z81, z99, z100, z200, z255, z599, z1000, z1299, z4096, z1000000, lw0, lw1, lw2, lw3, lw4, lw5, lw6, lw7, lw12, lw50, lw99, lw255, lw599, lw4096, bI_ok, ble_t, Int.cast_ofNat_Int,  decide_true, decide_false, bI_0, bI_1, b_tf, b_ft, eq_self, n_1, n_2, n_3, n_4, n_5, n_6, n_7, n_8, if_true, if_false, jin, ncl, cond_true, cond_false, Option.bind_some, j_ov, j_oi, j_ol, nle, nlt, neq, nI_add, nmul, nsub, ndiv, nrem2, if_pos, if_neg, Nat.zero_add, Nat.add_zero, j_w_ap, decide_eq_true, decide_eq_false, Bool.true_or, Bool.or_true, Bool.false_or, Bool.or_false, Bool.and_true, Bool.true_and, Bool.false_and, Bool.and_false, Bool.not_true, Bool.not_false, X_within, hx] at e1
    simp (disch := omega) only [z0, z1, z2, z3, z4, z5, z6, z7, z8, z9, z10, z11, z12, z13, z14, z15, z16, z17, z18, z19, z20, z24, z26, z30, z31, z40, z41, z50, z54, z60, z70, z80, z81, z99, z100, z200, z255, z599, z1000, z1299, z4096, z1000000, lw0, lw1, lw2, lw3, lw4, lw5, lw6, lw7, lw12, lw50, lw99, lw255, lw599, lw4096, bI_ok, ble_t, Int.cast_ofNat_Int,  decide_true, decide_false, bI_0, bI_1, b_tf, b_ft, eq_self, n_1, n_2, n_3, n_4, n_5, n_6, n_7, n_8, if_true, if_false, jin, ncl, cond_true, cond_false, Option.bind_some, j_ov, j_oi, j_ol, nle, nlt, neq, nI_add, nmul, nsub, ndiv, nrem2, if_pos, if_neg, Nat.zero_add, Nat.add_zero, j_w_ap, decide_eq_true, decide_eq_false, Bool.true_or, Bool.or_true, Bool.false_or, Bool.or_false, Bool.and_true, Bool.true_and, Bool.false_and, Bool.and_false, Bool.not_true, Bool.not_false, M_within, hx] at e2
    exact ⟨_, _, _, _, _, eX10_body (by omega) e1, eX11_body (by omega) e2, hI0⟩
  | true =>
    obtain ⟨k, -, hk, rfl⟩ := ib_ex (lo := 0) (hi := 7) hx (by omega)
    by_cases h50 : nb = 50
    · simp (disch := omega) only [z0, z1, z2, z3, z4, z5, z6, z7, z8, z9, z10, z11, z12, z13, z14, z15, z16, z17, z18, z19, z20, z24, z26, z30, z31, z40, z41, z50, z54, z60, z70, z80, z81, z99, z100, z200, z255, z599, z1000, z1299, z4096, z1000000, lw0, lw1, lw2, lw3, lw4, lw5, lw6, lw7, lw12, lw50, lw99, lw255, lw599, lw4096, bI_ok, ble_t, Int.cast_ofNat_Int,  decide_true, decide_false, bI_0, bI_1, b_tf, b_ft, eq_self, n_1, n_2, n_3, n_4, n_5, n_6, n_7, n_8, if_true, if_false, jin, ncl, cond_true, cond_false, Option.bind_some, j_ov, j_oi, j_ol, nle, nlt, neq, nI_add, nmul, nsub, ndiv, nrem2, if_pos, if_neg, Nat.zero_add, Nat.add_zero, j_w_ap, decide_eq_true, decide_eq_false, Bool.true_or, Bool.or_true, Bool.false_or, Bool.or_false, Bool.and_true, Bool.true_and, Bool.false_and, Bool.and_false, Bool.not_true, Bool.not_false, b2, h50] at e0
      have q := eX0_add (d := d - 1) (by omega) e0
      simp (disch := omega) only [z0, z1, z2, z3, z4, z5, z6, z7, z8, z9, z10, z11, z12, z13, z14, z15, z16, z17, z18, z19, z20, z24, z26, z30, z31, z40, z41, z50, z54, z60, z70, z80, z81, z99, z100, z200, z255, z599, z1000, z1299, z4096, z1000000, lw0, lw1, lw2, lw3, lw4, lw5, lw6, lw7, lw12, lw50, lw99, lw255, lw599, lw4096, bI_ok, ble_t, Int.cast_ofNat_Int,  decide_true, decide_false, bI_0, bI_1, b_tf, b_ft, eq_self, n_1, n_2, n_3, n_4, n_5, n_6, n_7, n_8, if_true, if_false, jin, ncl, cond_true, cond_false, Option.bind_some, j_ov, j_oi, j_ol, nle, nlt, neq, nI_add, nmul, nsub, ndiv, nrem2, if_pos, if_neg, Nat.zero_add, Nat.add_zero, j_w_ap, decide_eq_true, decide_eq_false, Bool.true_or, Bool.or_true, Bool.false_or, Bool.or_false, Bool.and_true, Bool.true_and, Bool.false_and, Bool.and_false, Bool.not_true, Bool.not_false, X_within, hx, q] at e1
      have e2 := e2 M
      simp (disch := omega) only [z0, z1, z2, z3, z4, z5, z6, z7, z8, z9, z10, z11, z12, z13, z14, z15, z16, z17, z18, z19, z20, z24, z26, z30, z31, z40, z41, z50, z54, z60, z70, z80, z81, z99, z100, z200, z255, z599, z1000, z1299, z4096, z1000000, lw0, lw1, lw2, lw3, lw4, lw5, lw6, lw7, lw12, lw50, lw99, lw255, lw599, lw4096, bI_ok, ble_t, Int.cast_ofNat_Int,  decide_true, decide_false, bI_0, bI_1, b_tf, b_ft, eq_self, n_1, n_2, n_3, n_4, n_5, n_6, n_7, n_8, if_true, if_false, jin, ncl, cond_true, cond_false, Option.bind_some, j_ov, j_oi, j_ol, nle, nlt, neq, nI_add, nmul, nsub, ndiv, nrem2, if_pos, if_neg, Nat.zero_add, Nat.add_zero, j_w_ap, decide_eq_true, decide_eq_false, Bool.true_or, Bool.or_true, Bool.false_or, Bool.or_false, Bool.and_true, Bool.true_and, Bool.false_and, Bool.and_false, Bool.not_true, Bool.not_false, M_within, hx, b3, h50] at e2
      exact ⟨_, _, _, _, _, eX10_body (by omega) e1, eX11_body (by omega) e2, hI0⟩
    · simp (disch := omega) only [z0, z1, z2, z3, z4, z5, z6, z7, z8, z9, z10, z11, z12, z13, z14, z15, z16, z17, z18, z19, z20, z24, z26, z30, z31, z40, z41, z50, z54, z60, z70, z80, z81, z99, z100, z200, z255, z599, z1000, z1299, z4096, z1000000, lw0, lw1, lw2, lw3, lw4, lw5, lw6, lw7, lw12, lw50, lw99, lw255, lw599, lw4096, bI_ok, ble_t, Int.cast_ofNat_Int,  decide_true, decide_false, bI_0, bI_1, b_tf, b_ft, eq_self, n_1, n_2, n_3, n_4, n_5, n_6, n_7, n_8, if_true, if_false, jin, ncl, cond_true, cond_false, Option.bind_some, j_ov, j_oi, j_ol, nle, nlt, neq, nI_add, nmul, nsub, ndiv, nrem2, if_pos, if_neg, Nat.zero_add, Nat.add_zero, j_w_ap, decide_eq_true, decide_eq_false, Bool.true_or, Bool.or_true, Bool.false_or, Bool.or_false, Bool.and_true, Bool.true_and, Bool.false_and, Bool.and_false, Bool.not_true, Bool.not_false, b2] at e0
      have q := eX0_add (d := d - 1) (by omega) e0
      simp (disch := omega) only [z0, z1, z2, z3, z4, z5, z6, z7, z8, z9, z10, z11, z12, z13, z14, z15, z16, z17, z18, z19, z20, z24, z26, z30, z31, z40, z41, z50, z54, z60, z70, z80, z81, z99, z100, z200, z255, z599, z1000, z1299, z4096, z1000000, lw0, lw1, lw2, lw3, lw4, lw5, lw6, lw7, lw12, lw50, lw99, lw255, lw599, lw4096, bI_ok, ble_t, Int.cast_ofNat_Int,  decide_true, decide_false, bI_0, bI_1, b_tf, b_ft, eq_self, n_1, n_2, n_3, n_4, n_5, n_6, n_7, n_8, if_true, if_false, jin, ncl, cond_true, cond_false, Option.bind_some, j_ov, j_oi, j_ol, nle, nlt, neq, nI_add, nmul, nsub, ndiv, nrem2, if_pos, if_neg, Nat.zero_add, Nat.add_zero, j_w_ap, decide_eq_true, decide_eq_false, Bool.true_or, Bool.or_true, Bool.false_or, Bool.or_false, Bool.and_true, Bool.true_and, Bool.false_and, Bool.and_false, Bool.not_true, Bool.not_false, X_within, hx, q] at e1
      have e2 := e2 (j_w (j_w M 31 nb (nI k)) 30 2 (nI (nb + 1)))
      simp (disch := omega) only [z0, z1, z2, z3, z4, z5, z6, z7, z8, z9, z10, z11, z12, z13, z14, z15, z16, z17, z18, z19, z20, z24, z26, z30, z31, z40, z41, z50, z54, z60, z70, z80, z81, z99, z100, z200, z255, z599, z1000, z1299, z4096, z1000000, lw0, lw1, lw2, lw3, lw4, lw5, lw6, lw7, lw12, lw50, lw99, lw255, lw599, lw4096, bI_ok, ble_t, Int.cast_ofNat_Int,  decide_true, decide_false, bI_0, bI_1, b_tf, b_ft, eq_self, n_1, n_2, n_3, n_4, n_5, n_6, n_7, n_8, if_true, if_false, jin, ncl, cond_true, cond_false, Option.bind_some, j_ov, j_oi, j_ol, nle, nlt, neq, nI_add, nmul, nsub, ndiv, nrem2, if_pos, if_neg, Nat.zero_add, Nat.add_zero, j_w_ap, decide_eq_true, decide_eq_false, Bool.true_or, Bool.or_true, Bool.false_or, Bool.or_false, Bool.and_true, Bool.true_and, Bool.false_and, Bool.and_false, Bool.not_true, Bool.not_false, M_within, hx, b3] at e2
      have hf : Fg [7] M (j_w (j_w (j_w (j_w M 31 nb (nI k)) 30 2 (nI (nb + 1))) 64 nb (nI k)) 46 37 (nI (nb + 1))) := (((Fg.w rfl).tr (Fg.w rfl)).tr (Fg.w rfl)).tr (Fg.w rfl)
      obtain ⟨r, r1, r2, r3⟩ := b5
      refine ⟨_, _, _, _, _, eX10_body (by omega) e1, eX11_body (by omega) e2, n, a, m, pr, jo, nb + 1, h1.g (hf.sg (by decide) rfl), h2.g (hf.sg (by decide) rfl), h3.g (hf.sg (by decide) rfl), h4.g (hf.sg (by decide) rfl), h5.g (hf.sg (by decide) rfl), h6.g (hf.sg (by decide) rfl), ⟨by omega, rfl, rfl, fun i hi => ?_, ⟨r, r1, r2, r3⟩, b6⟩, IS.mono (h8.g (hf.sg (by decide) rfl)) (by omega)⟩
      by_cases hin : i = nb
      · rw [hin]
        refine ⟨k, by omega, ?_, ?_⟩
        · simp (disch := omega) only [z0, z1, z2, z3, z4, z5, z6, z7, z8, z9, z10, z11, z12, z13, z14, z15, z16, z17, z18, z19, z20, z24, z26, z30, z31, z40, z41, z50, z54, z60, z70, z80, z81, z99, z100, z200, z255, z599, z1000, z1299, z4096, z1000000, lw0, lw1, lw2, lw3, lw4, lw5, lw6, lw7, lw12, lw50, lw99, lw255, lw599, lw4096, bI_ok, ble_t, Int.cast_ofNat_Int,  decide_true, decide_false, bI_0, bI_1, b_tf, b_ft, eq_self, n_1, n_2, n_3, n_4, n_5, n_6, n_7, n_8, if_true, if_false, jin, ncl, cond_true, cond_false, Option.bind_some, j_ov, j_oi, j_ol, nle, nlt, neq, nI_add, nmul, nsub, ndiv, nrem2, if_pos, if_neg, Nat.zero_add, Nat.add_zero, j_w_ap, decide_eq_true, decide_eq_false, Bool.true_or, Bool.or_true, Bool.false_or, Bool.or_false, Bool.and_true, Bool.true_and, Bool.false_and, Bool.and_false, Bool.not_true, Bool.not_false]
        · simp (disch := omega) only [z0, z1, z2, z3, z4, z5, z6, z7, z8, z9, z10, z11, z12, z13, z14, z15, z16, z17, z18, z19, z20, z24, z26, z30, z31, z40, z41, z50, z54, z60, z70, z80, z81, z99, z100, z200, z255, z599, z1000, z1299, z4096, z1000000, lw0, lw1, lw2, lw3, lw4, lw5, lw6, lw7, lw12, lw50, lw99, lw255, lw599, lw4096, bI_ok, ble_t, Int.cast_ofNat_Int,  decide_true, decide_false, bI_0, bI_1, b_tf, b_ft, eq_self, n_1, n_2, n_3, n_4, n_5, n_6, n_7, n_8, if_true, if_false, jin, ncl, cond_true, cond_false, Option.bind_some, j_ov, j_oi, j_ol, nle, nlt, neq, nI_add, nmul, nsub, ndiv, nrem2, if_pos, if_neg, Nat.zero_add, Nat.add_zero, j_w_ap, decide_eq_true, decide_eq_false, Bool.true_or, Bool.or_true, Bool.false_or, Bool.or_false, Bool.and_true, Bool.true_and, Bool.false_and, Bool.and_false, Bool.not_true, Bool.not_false]
      · obtain ⟨k2, k3, k4, k5⟩ := b4 i (by omega)
        refine ⟨k2, k3, ?_, ?_⟩
        · simp (disch := omega) only [z0, z1, z2, z3, z4, z5, z6, z7, z8, z9, z10, z11, z12, z13, z14, z15, z16, z17, z18, z19, z20, z24, z26, z30, z31, z40, z41, z50, z54, z60, z70, z80, z81, z99, z100, z200, z255, z599, z1000, z1299, z4096, z1000000, lw0, lw1, lw2, lw3, lw4, lw5, lw6, lw7, lw12, lw50, lw99, lw255, lw599, lw4096, bI_ok, ble_t, Int.cast_ofNat_Int,  decide_true, decide_false, bI_0, bI_1, b_tf, b_ft, eq_self, n_1, n_2, n_3, n_4, n_5, n_6, n_7, n_8, if_true, if_false, jin, ncl, cond_true, cond_false, Option.bind_some, j_ov, j_oi, j_ol, nle, nlt, neq, nI_add, nmul, nsub, ndiv, nrem2, if_pos, if_neg, Nat.zero_add, Nat.add_zero, j_w_ap, decide_eq_true, decide_eq_false, Bool.true_or, Bool.or_true, Bool.false_or, Bool.or_false, Bool.and_true, Bool.true_and, Bool.false_and, Bool.and_false, Bool.not_true, Bool.not_false, k4]
        · simp (disch := omega) only [z0, z1, z2, z3, z4, z5, z6, z7, z8, z9, z10, z11, z12, z13, z14, z15, z16, z17, z18, z19, z20, z24, z26, z30, z31, z40, z41, z50, z54, z60, z70, z80, z81, z99, z100, z200, z255, z599, z1000, z1299, z4096, z1000000, lw0, lw1, lw2, lw3, lw4, lw5, lw6, lw7, lw12, lw50, lw99, lw255, lw599, lw4096, bI_ok, ble_t, Int.cast_ofNat_Int,  decide_true, decide_false, bI_0, bI_1, b_tf, b_ft, eq_self, n_1, n_2, n_3, n_4, n_5, n_6, n_7, n_8, if_true, if_false, jin, ncl, cond_true, cond_false, Option.bind_some, j_ov, j_oi, j_ol, nle, nlt, neq, nI_add, nmul, nsub, ndiv, nrem2, if_pos, if_neg, Nat.zero_add, Nat.add_zero, j_w_ap, decide_eq_true, decide_eq_false, Bool.true_or, Bool.or_true, Bool.false_or, Bool.or_false, Bool.and_true, Bool.true_and, Bool.false_and, Bool.and_false, Bool.not_true, Bool.not_false, k5]
theorem P_trace : OpI 139 234 [.int x] := by
  intro d M N hd hI
  have hI0 := hI
  obtain ⟨n, a, m, pr, jo, nb, h1, h2, h3, h4, h5, h6, ⟨b1, b2, b3, b4, ⟨r, r1, r2, r3⟩, b6⟩, h8⟩ := hI
  have e1 := bX10_trace_0 (d - 1) x M N
  have e0 := bX0_ranAt_0 (d - 1 - 1) x M N
  have e2 := bX11_trace_0 (d - 1) x M N
  by_cases c0 : x < 0
  · rw [if_pos c0] at e0 e2
    have q := eX0_ranAt (d := d - 1) (by omega) e0
    rw [q] at e1
    exact ⟨_, _, _, _, _, eX10_trace (by omega) e1, eX11_trace (by omega) e2, hI0⟩
  rw [if_neg c0] at e0 e2
  rw [r2] at e0
  rw [r3] at e2
  by_cases c1 : nI r ≤ x
  · rw [if_pos c1] at e0 e2
    have q := eX0_ranAt (d := d - 1) (by omega) e0
    rw [q] at e1
    exact ⟨_, _, _, _, _, eX10_trace (by omega) e1, eX11_trace (by omega) e2, hI0⟩
  rw [if_neg c1] at e0 e2
  by_cases c2 : 24 ≤ x
  · rw [if_pos c2] at e0 e2
    have q := eX0_ranAt (d := d - 1) (by omega) e0
    rw [q] at e1
    exact ⟨_, _, _, _, _, eX10_trace (by omega) e1, eX11_trace (by omega) e2, hI0⟩
  rw [if_neg c2] at e0 e2
  have hx : ∃ i : Nat, i < 24 ∧ x = nI i := by
    rw [Int32.lt_iff_toInt_lt] at c0
    rw [Int32.le_iff_toInt_le] at c2
    have t0 : (0 : Int32).toInt = 0 := rfl
    have t24 : (24 : Int32).toInt = 24 := rfl
    refine ⟨x.toInt.toNat, by omega, ?_⟩
    rw [← Int32.toInt_inj, nI_toInt (by omega)]
    omega
  obtain ⟨i, hi, rfl⟩ := hx
  have c3 : nI i < M 30 3 := by
    rw [r2]
    rw [Int32.le_iff_toInt_le, nI_toInt (by omega), nI_toInt (by omega)] at c1
    rw [Int32.lt_iff_toInt_lt, nI_toInt (by omega), nI_toInt (by omega)]
    omega
  have b6 := b6 i hi c3
  simp (disch := omega) only [z0, z1, z2, z3, z4, z5, z6, z7, z8, z9, z10, z11, z12, z13, z14, z15, z16, z17, z18, z19, z20, z24, z26, z30, z31, z40, z41, z50, z54, z60, z70, z80, z81, z99, z100, z200, z255, z599, z1000, z1299, z4096, z1000000, lw0, lw1, lw2, lw3, lw4, lw5, lw6, lw7, lw12, lw50, lw99, lw255, lw599, lw4096, bI_ok, ble_t, Int.cast_ofNat_Int,  decide_true, decide_false, bI_0, bI_1, b_tf, b_ft, eq_self, n_1, n_2, n_3, n_4, n_5, n_6, n_7, n_8, if_true, if_false, jin, ncl, cond_true, cond_false, Option.bind_some, j_ov, j_oi, j_ol, nle, nlt, neq, nI_add, nmul, nsub, ndiv, nrem2, if_pos, if_neg, Nat.zero_add, Nat.add_zero, j_w_ap, decide_eq_true, decide_eq_false, Bool.true_or, Bool.or_true, Bool.false_or, Bool.or_false, Bool.and_true, Bool.true_and, Bool.false_and, Bool.and_false, Bool.not_true, Bool.not_false, b6] at e0
  simp (disch := omega) only [z0, z1, z2, z3, z4, z5, z6, z7, z8, z9, z10, z11, z12, z13, z14, z15, z16, z17, z18, z19, z20, z24, z26, z30, z31, z40, z41, z50, z54, z60, z70, z80, z81, z99, z100, z200, z255, z599, z1000, z1299, z4096, z1000000, lw0, lw1, lw2, lw3, lw4, lw5, lw6, lw7, lw12, lw50, lw99, lw255, lw599, lw4096, bI_ok, ble_t, Int.cast_ofNat_Int,  decide_true, decide_false, bI_0, bI_1, b_tf, b_ft, eq_self, n_1, n_2, n_3, n_4, n_5, n_6, n_7, n_8, if_true, if_false, jin, ncl, cond_true, cond_false, Option.bind_some, j_ov, j_oi, j_ol, nle, nlt, neq, nI_add, nmul, nsub, ndiv, nrem2, if_pos, if_neg, Nat.zero_add, Nat.add_zero, j_w_ap, decide_eq_true, decide_eq_false, Bool.true_or, Bool.or_true, Bool.false_or, Bool.or_false, Bool.and_true, Bool.true_and, Bool.false_and, Bool.and_false, Bool.not_true, Bool.not_false] at e2
  have q := eX0_ranAt (d := d - 1) (by omega) e0
  rw [q] at e1
  exact ⟨_, _, _, _, _, eX10_trace (by omega) e1, eX11_trace (by omega) e2, hI0⟩
end OL
