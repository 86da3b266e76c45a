/-! ===== rests, turns (own text) ===== -/
section TU
variable {d n bill rule : Nat} {g a : Nat → Nat} {M : j_M} {N : j_N} {x : Int32}
theorem X_goThrough (hd : 12 ≤ d) (h : IG n a M) (hw : wp a n ≤ 4096) : ∃ M', C d 77 [.ref 10] S0 M N = some (some (.int (nI (cn (rp n a) (wp a n)))), M', N) ∧ (∀ q, ff (rp n a) (wp a n) = some q → ∀ i, i < n → M' 11 i = nI (wg a n q i)) ∧ Scr M M' := by
  obtain ⟨M1, q1, q2, q3, q4⟩ := X_lay (d := d - 1) (N := N) (by omega) h
  have p1 := X_ways (d := d - 1) (N := N) (by omega) (h.scr q4)
  obtain ⟨M', r1, r2, r3⟩ := X_rests_l (d := d - 1) (N := N) (by omega) hw (wp a n) 0 (gf a) M1 (by omega) (h.scr q4) (q2.l q3) (fun q hq => by cases hq)
  refine ⟨M', eX6_goThroughWays (by omega) ?_, r2, q4.tr r3⟩
  have e := bX6_goThroughWays_0 (d - 1) M N
  simp (disch := omega) only [z0, z1, z2, z3, z4, z5, z6, z7, z8, z9, z10, z11, z12, z13, z14, z15, z16, z17, z18, z19, z20, z24, z26, z30, z31, z40, z41, z50, z54, z60, z70, z80, z81, z99, z100, z200, z255, z599, z1000, z1299, z4096, z1000000, lw0, lw1, lw2, lw3, lw4, lw5, lw6, lw7, lw12, lw50, lw99, lw255, lw599, lw4096, bI_ok, ble_t, Int.cast_ofNat_Int,  decide_true, decide_false, bI_0, bI_1, b_tf, b_ft, eq_self, n_1, n_2, n_3, n_4, n_5, n_6, n_7, n_8, if_true, if_false, jin, ncl, cond_true, cond_false, Option.bind_some, j_ov, j_oi, j_ol, nle, nlt, neq, nI_add, nmul, nsub, ndiv, nrem2, if_pos, if_neg, Nat.zero_add, Nat.add_zero, j_w_ap, decide_eq_true, decide_eq_false, Bool.true_or, Bool.or_true, Bool.false_or, Bool.or_false, Bool.and_true, Bool.true_and, Bool.false_and, Bool.and_false, Bool.not_true, Bool.not_false, q1, p1, llt, lN_i] at e
  exact e.trans r1
theorem wpL : ∀ (j k : Nat), k + j = n → wp a k ≤ wp a n := fun j k hk => by
  have := wp_mono (a := a) (k := k) j
  rw [hk] at this
  exact this
/-- the reference multiplies the ways -/
theorem M_ways_l (hd : 2 ≤ d) (h : IG n a M) : ∀ (j k : Nat), k + j = n → wp a k ≤ 4096 → R d kX11_rests 19 [.ref 46, .int x, .int (nI (wp a k)), .int (nI k), .null, .null, .null, .null] [] (S0, M, N) = if wp a n ≤ 4096 then R d kX11_rests 68 [.ref 46, .int x, .int (nI (wp a n)), .int (nI 0), .int (-nI 2), .int (nI 0), .null, .null] [] (S0, (j_w M 46 12 (nI n)), N) else some (some (.int (-nI 5)), (S0, M, N))
  | 0, k, hk, hw => by
    have hn := h.n6
    obtain rfl : k = n := by omega
    have e := bX11_rests_19 d x (nI (wp a k)) (nI k) M N
    have hx := h.m6
    simp (disch := omega) only [z0, z1, z2, z3, z4, z5, z6, z7, z8, z9, z10, z11, z12, z13, z14, z15, z16, z17, z18, z19, z20, z24, z26, z30, z31, z40, z41, z50, z54, z60, z70, z80, z81, z99, z100, z200, z255, z599, z1000, z1299, z4096, z1000000, lw0, lw1, lw2, lw3, lw4, lw5, lw6, lw7, lw12, lw50, lw99, lw255, lw599, lw4096, bI_ok, ble_t, Int.cast_ofNat_Int,  decide_true, decide_false, bI_0, bI_1, b_tf, b_ft, eq_self, n_1, n_2, n_3, n_4, n_5, n_6, n_7, n_8, if_true, if_false, jin, ncl, cond_true, cond_false, Option.bind_some, j_ov, j_oi, j_ol, nle, nlt, neq, nI_add, nmul, nsub, ndiv, nrem2, if_pos, if_neg, Nat.zero_add, Nat.add_zero, j_w_ap, decide_eq_true, decide_eq_false, Bool.true_or, Bool.or_true, Bool.false_or, Bool.or_false, Bool.and_true, Bool.true_and, Bool.false_and, Bool.and_false, Bool.not_true, Bool.not_false, hx] at e
    rw [if_pos hw]
    exact e
  | j + 1, k, hk, hw => by
    have hn := h.n6
    have e := bX11_rests_19 d x (nI (wp a k)) (nI k) M N
    have hx := h.m6
    have q := M_sumsOf (d := d) (N := N) (by omega) h (show k < 6 by omega)
    have h9 := h.pu99 k (by omega)
    have h10 := Nat.div_le_self (a k) (a 26)
    have h11 : wp a k * (a k / a 26 + 1) ≤ 4096 * 100 := Nat.mul_le_mul hw (by omega)
    simp (disch := omega) only [z0, z1, z2, z3, z4, z5, z6, z7, z8, z9, z10, z11, z12, z13, z14, z15, z16, z17, z18, z19, z20, z24, z26, z30, z31, z40, z41, z50, z54, z60, z70, z80, z81, z99, z100, z200, z255, z599, z1000, z1299, z4096, z1000000, lw0, lw1, lw2, lw3, lw4, lw5, lw6, lw7, lw12, lw50, lw99, lw255, lw599, lw4096, bI_ok, ble_t, Int.cast_ofNat_Int,  decide_true, decide_false, bI_0, bI_1, b_tf, b_ft, eq_self, n_1, n_2, n_3, n_4, n_5, n_6, n_7, n_8, if_true, if_false, jin, ncl, cond_true, cond_false, Option.bind_some, j_ov, j_oi, j_ol, nle, nlt, neq, nI_add, nmul, nsub, ndiv, nrem2, if_pos, if_neg, Nat.zero_add, Nat.add_zero, j_w_ap, decide_eq_true, decide_eq_false, Bool.true_or, Bool.or_true, Bool.false_or, Bool.or_false, Bool.and_true, Bool.true_and, Bool.false_and, Bool.and_false, Bool.not_true, Bool.not_false, hx, q] at e
    rw [show wp a k * (a k / a 26 + 1) = wp a (k + 1) from rfl] at e h11
    by_cases h12 : wp a (k + 1) ≤ 4096
    · rw [if_pos h12] at e
      exact e.trans (M_ways_l hd h j (k + 1) (by omega) h12)
    · rw [if_neg h12] at e
      have := wpL (a := a) j (k + 1) (n := n) (by omega)
      rw [if_neg (show ¬ wp a n ≤ 4096 by omega)]
      exact e
theorem Q_rests (hd : 20 ≤ d) (h : IG n a M) : ∃ r M1 M2, C d 119 [.ref 0, .int x] S0 M N = some (some (.int r), M1, N) ∧ C d 189 [.ref 46, .int x] S0 M1 N = some (some (.int r), M2, N) ∧ Scr M M2 := by
  have hn := h.n6
  have hh := fun x => X_has (d := d - 1) (N := N) (x := x) (by omega) h.x6 (by omega)
  have hh2 : ∀ M1, Scr M M1 → ∀ x, C (d - 1) 160 [.ref 46, .int x] S0 M1 N = some (some (.int (bI (ib x 0 ((n : Int) - 1)))), M1, N) := fun M1 hs x => M_isGuest (by omega) (h.scr hs).m6 (by omega)
  have hg9 : ∀ q, q < n → gf a q ≤ 99 := fun q hq => h.gi99 q (by omega)
  have hb9 := h.bi599
  have e1 := bX10_rests_0 (d - 1) x M N
  have e2 := fun M1 => bX11_rests_0 (d - 1) x M1 N
  have hfew := X_fewWays (d := d - 1) (N := N) (by omega) h
  have hwl := fun M1 hs => M_ways_l (d := d - 1) (N := N) (x := x) (n := n) (a := a) (by omega) (M := M1) (h.scr hs) n 0 (by omega) (Nat.le_of_ble_eq_true rfl)
  by_cases hw : wp a n ≤ 4096
  · obtain ⟨M1, q1, q2, q3⟩ := X_goThrough (d := d - 1) (N := N) (by omega) h hw
    rw [ble_t hw] at hfew
    by_cases hx1 : x = -nI 1
    · subst hx1
      have e2 := e2 M1
      have hwl := hwl M1 q3
      rw [if_pos hw] at hwl
      obtain ⟨M2, r1, r2⟩ := M_rests_l (d := d - 1) (N := N) (a := a) (n := n) (w := wp a n) (o := none) (by omega) hw (fun j hj => by cases hj) (wp a n) 0 (j_w M1 46 12 (nI n)) (by omega) (h.scr (q3.tr (Scr.w rfl))) (by simp (disch := omega) only [z0, z1, z2, z3, z4, z5, z6, z7, z8, z9, z10, z11, z12, z13, z14, z15, z16, z17, z18, z19, z20, z24, z26, z30, z31, z40, z41, z50, z54, z60, z70, z80, z81, z99, z100, z200, z255, z599, z1000, z1299, z4096, z1000000, lw0, lw1, lw2, lw3, lw4, lw5, lw6, lw7, lw12, lw50, lw99, lw255, lw599, lw4096, bI_ok, ble_t, Int.cast_ofNat_Int,  decide_true, decide_false, bI_0, bI_1, b_tf, b_ft, eq_self, n_1, n_2, n_3, n_4, n_5, n_6, n_7, n_8, if_true, if_false, jin, ncl, cond_true, cond_false, Option.bind_some, j_ov, j_oi, j_ol, nle, nlt, neq, nI_add, nmul, nsub, ndiv, nrem2, if_pos, if_neg, Nat.zero_add, Nat.add_zero, j_w_ap, decide_eq_true, decide_eq_false, Bool.true_or, Bool.or_true, Bool.false_or, Bool.or_false, Bool.and_true, Bool.true_and, Bool.false_and, Bool.and_false, Bool.not_true, Bool.not_false])
      simp (disch := omega) only [z0, z1, z2, z3, z4, z5, z6, z7, z8, z9, z10, z11, z12, z13, z14, z15, z16, z17, z18, z19, z20, z24, z26, z30, z31, z40, z41, z50, z54, z60, z70, z80, z81, z99, z100, z200, z255, z599, z1000, z1299, z4096, z1000000, lw0, lw1, lw2, lw3, lw4, lw5, lw6, lw7, lw12, lw50, lw99, lw255, lw599, lw4096, bI_ok, ble_t, Int.cast_ofNat_Int,  decide_true, decide_false, bI_0, bI_1, b_tf, b_ft, eq_self, n_1, n_2, n_3, n_4, n_5, n_6, n_7, n_8, if_true, if_false, jin, ncl, cond_true, cond_false, Option.bind_some, j_ov, j_oi, j_ol, nle, nlt, neq, nI_add, nmul, nsub, ndiv, nrem2, if_pos, if_neg, Nat.zero_add, Nat.add_zero, j_w_ap, decide_eq_true, decide_eq_false, Bool.true_or, Bool.or_true, Bool.false_or, Bool.or_false, Bool.and_true, Bool.true_and, Bool.false_and, Bool.and_false, Bool.not_true, Bool.not_false, hfew, q1] at e1
      simp (disch := omega) only [z0, z1, z2, z3, z4, z5, z6, z7, z8, z9, z10, z11, z12, z13, z14, z15, z16, z17, z18, z19, z20, z24, z26, z30, z31, z40, z41, z50, z54, z60, z70, z80, z81, z99, z100, z200, z255, z599, z1000, z1299, z4096, z1000000, lw0, lw1, lw2, lw3, lw4, lw5, lw6, lw7, lw12, lw50, lw99, lw255, lw599, lw4096, bI_ok, ble_t, Int.cast_ofNat_Int,  decide_true, decide_false, bI_0, bI_1, b_tf, b_ft, eq_self, n_1, n_2, n_3, n_4, n_5, n_6, n_7, n_8, if_true, if_false, jin, ncl, cond_true, cond_false, Option.bind_some, j_ov, j_oi, j_ol, nle, nlt, neq, nI_add, nmul, nsub, ndiv, nrem2, if_pos, if_neg, Nat.zero_add, Nat.add_zero, j_w_ap, decide_eq_true, decide_eq_false, Bool.true_or, Bool.or_true, Bool.false_or, Bool.or_false, Bool.and_true, Bool.true_and, Bool.false_and, Bool.and_false, Bool.not_true, Bool.not_false] at e2
      exact ⟨_, _, _, eX10_rests (by omega) e1, eX11_rests (by omega) (e2.trans (hwl.trans r1)), q3.tr ((Scr.w rfl).tr r2)⟩
    · cases h1 : ib x 0 ((n : Int) - 1) with
      | false =>
        have e2 := e2 M
        have hh2 := hh2 M Scr.rf
        simp (disch := omega) only [z0, z1, z2, z3, z4, z5, z6, z7, z8, z9, z10, z11, z12, z13, z14, z15, z16, z17, z18, z19, z20, z24, z26, z30, z31, z40, z41, z50, z54, z60, z70, z80, z81, z99, z100, z200, z255, z599, z1000, z1299, z4096, z1000000, lw0, lw1, lw2, lw3, lw4, lw5, lw6, lw7, lw12, lw50, lw99, lw255, lw599, lw4096, bI_ok, ble_t, Int.cast_ofNat_Int,  decide_true, decide_false, bI_0, bI_1, b_tf, b_ft, eq_self, n_1, n_2, n_3, n_4, n_5, n_6, n_7, n_8, if_true, if_false, jin, ncl, cond_true, cond_false, Option.bind_some, j_ov, j_oi, j_ol, nle, nlt, neq, nI_add, nmul, nsub, ndiv, nrem2, if_pos, if_neg, Nat.zero_add, Nat.add_zero, j_w_ap, decide_eq_true, decide_eq_false, Bool.true_or, Bool.or_true, Bool.false_or, Bool.or_false, Bool.and_true, Bool.true_and, Bool.false_and, Bool.and_false, Bool.not_true, Bool.not_false, hx1, hh, h1] at e1
        simp (disch := omega) only [z0, z1, z2, z3, z4, z5, z6, z7, z8, z9, z10, z11, z12, z13, z14, z15, z16, z17, z18, z19, z20, z24, z26, z30, z31, z40, z41, z50, z54, z60, z70, z80, z81, z99, z100, z200, z255, z599, z1000, z1299, z4096, z1000000, lw0, lw1, lw2, lw3, lw4, lw5, lw6, lw7, lw12, lw50, lw99, lw255, lw599, lw4096, bI_ok, ble_t, Int.cast_ofNat_Int,  decide_true, decide_false, bI_0, bI_1, b_tf, b_ft, eq_self, n_1, n_2, n_3, n_4, n_5, n_6, n_7, n_8, if_true, if_false, jin, ncl, cond_true, cond_false, Option.bind_some, j_ov, j_oi, j_ol, nle, nlt, neq, nI_add, nmul, nsub, ndiv, nrem2, if_pos, if_neg, Nat.zero_add, Nat.add_zero, j_w_ap, decide_eq_true, decide_eq_false, Bool.true_or, Bool.or_true, Bool.false_or, Bool.or_false, Bool.and_true, Bool.true_and, Bool.false_and, Bool.and_false, Bool.not_true, Bool.not_false, hx1, hh2, h1] at e2
        exact ⟨_, _, _, eX10_rests (by omega) e1, eX11_rests (by omega) e2, Scr.rf⟩
      | true =>
        have e2 := e2 M1
        have hh2 := hh2 M1 q3
        have hwl := hwl M1 q3
        rw [if_pos hw] at hwl
        simp (disch := omega) only [z0, z1, z2, z3, z4, z5, z6, z7, z8, z9, z10, z11, z12, z13, z14, z15, z16, z17, z18, z19, z20, z24, z26, z30, z31, z40, z41, z50, z54, z60, z70, z80, z81, z99, z100, z200, z255, z599, z1000, z1299, z4096, z1000000, lw0, lw1, lw2, lw3, lw4, lw5, lw6, lw7, lw12, lw50, lw99, lw255, lw599, lw4096, bI_ok, ble_t, Int.cast_ofNat_Int,  decide_true, decide_false, bI_0, bI_1, b_tf, b_ft, eq_self, n_1, n_2, n_3, n_4, n_5, n_6, n_7, n_8, if_true, if_false, jin, ncl, cond_true, cond_false, Option.bind_some, j_ov, j_oi, j_ol, nle, nlt, neq, nI_add, nmul, nsub, ndiv, nrem2, if_pos, if_neg, Nat.zero_add, Nat.add_zero, j_w_ap, decide_eq_true, decide_eq_false, Bool.true_or, Bool.or_true, Bool.false_or, Bool.or_false, Bool.and_true, Bool.true_and, Bool.false_and, Bool.and_false, Bool.not_true, Bool.not_false, hx1, hh, h1, hfew, q1] at e1
        simp (disch := omega) only [z0, z1, z2, z3, z4, z5, z6, z7, z8, z9, z10, z11, z12, z13, z14, z15, z16, z17, z18, z19, z20, z24, z26, z30, z31, z40, z41, z50, z54, z60, z70, z80, z81, z99, z100, z200, z255, z599, z1000, z1299, z4096, z1000000, lw0, lw1, lw2, lw3, lw4, lw5, lw6, lw7, lw12, lw50, lw99, lw255, lw599, lw4096, bI_ok, ble_t, Int.cast_ofNat_Int,  decide_true, decide_false, bI_0, bI_1, b_tf, b_ft, eq_self, n_1, n_2, n_3, n_4, n_5, n_6, n_7, n_8, if_true, if_false, jin, ncl, cond_true, cond_false, Option.bind_some, j_ov, j_oi, j_ol, nle, nlt, neq, nI_add, nmul, nsub, ndiv, nrem2, if_pos, if_neg, Nat.zero_add, Nat.add_zero, j_w_ap, decide_eq_true, decide_eq_false, Bool.true_or, Bool.or_true, Bool.false_or, Bool.or_false, Bool.and_true, Bool.true_and, Bool.false_and, Bool.and_false, Bool.not_true, Bool.not_false, hx1, hh2, h1] at e2
        obtain ⟨i, hi, rfl⟩ := ib_g h1 (by omega)
        obtain ⟨M2, r1, r2⟩ := M_rests_l (d := d - 1) (N := N) (a := a) (n := n) (w := wp a n) (o := some i) (by omega) hw (fun j hj => by cases hj; exact hi) (wp a n) 0 (j_w M1 46 12 (nI n)) (by omega) (h.scr (q3.tr (Scr.w rfl))) (by simp (disch := omega) only [z0, z1, z2, z3, z4, z5, z6, z7, z8, z9, z10, z11, z12, z13, z14, z15, z16, z17, z18, z19, z20, z24, z26, z30, z31, z40, z41, z50, z54, z60, z70, z80, z81, z99, z100, z200, z255, z599, z1000, z1299, z4096, z1000000, lw0, lw1, lw2, lw3, lw4, lw5, lw6, lw7, lw12, lw50, lw99, lw255, lw599, lw4096, bI_ok, ble_t, Int.cast_ofNat_Int,  decide_true, decide_false, bI_0, bI_1, b_tf, b_ft, eq_self, n_1, n_2, n_3, n_4, n_5, n_6, n_7, n_8, if_true, if_false, jin, ncl, cond_true, cond_false, Option.bind_some, j_ov, j_oi, j_ol, nle, nlt, neq, nI_add, nmul, nsub, ndiv, nrem2, if_pos, if_neg, Nat.zero_add, Nat.add_zero, j_w_ap, decide_eq_true, decide_eq_false, Bool.true_or, Bool.or_true, Bool.false_or, Bool.or_false, Bool.and_true, Bool.true_and, Bool.false_and, Bool.and_false, Bool.not_true, Bool.not_false])
        have hcc := cn_le (P := rp n a) (wp a n)
        by_cases h0 : cn (rp n a) (wp a n) = 0
        · simp (disch := omega) only [z0, z1, z2, z3, z4, z5, z6, z7, z8, z9, z10, z11, z12, z13, z14, z15, z16, z17, z18, z19, z20, z24, z26, z30, z31, z40, z41, z50, z54, z60, z70, z80, z81, z99, z100, z200, z255, z599, z1000, z1299, z4096, z1000000, lw0, lw1, lw2, lw3, lw4, lw5, lw6, lw7, lw12, lw50, lw99, lw255, lw599, lw4096, bI_ok, ble_t, Int.cast_ofNat_Int,  decide_true, decide_false, bI_0, bI_1, b_tf, b_ft, eq_self, n_1, n_2, n_3, n_4, n_5, n_6, n_7, n_8, if_true, if_false, jin, ncl, cond_true, cond_false, Option.bind_some, j_ov, j_oi, j_ol, nle, nlt, neq, nI_add, nmul, nsub, ndiv, nrem2, if_pos, if_neg, Nat.zero_add, Nat.add_zero, j_w_ap, decide_eq_true, decide_eq_false, Bool.true_or, Bool.or_true, Bool.false_or, Bool.or_false, Bool.and_true, Bool.true_and, Bool.false_and, Bool.and_false, Bool.not_true, Bool.not_false, h0] at e1
          have hf0 := (ff_cn (P := rp n a) (wp a n)).mpr h0
          refine ⟨_, _, _, eX10_rests (by omega) e1, eX11_rests (by omega) (e2.trans (hwl.trans (r1.trans ?_))), q3.tr ((Scr.w rfl).tr r2)⟩
          unfold fo
          rw [hf0]
        · cases hf0 : ff (rp n a) (wp a n) with
          | none => exact absurd ((ff_cn (P := rp n a) (wp a n)).mp hf0) h0
          | some w =>
            have h11 := q2 w hf0 i hi
            simp (disch := omega) only [z0, z1, z2, z3, z4, z5, z6, z7, z8, z9, z10, z11, z12, z13, z14, z15, z16, z17, z18, z19, z20, z24, z26, z30, z31, z40, z41, z50, z54, z60, z70, z80, z81, z99, z100, z200, z255, z599, z1000, z1299, z4096, z1000000, lw0, lw1, lw2, lw3, lw4, lw5, lw6, lw7, lw12, lw50, lw99, lw255, lw599, lw4096, bI_ok, ble_t, Int.cast_ofNat_Int,  decide_true, decide_false, bI_0, bI_1, b_tf, b_ft, eq_self, n_1, n_2, n_3, n_4, n_5, n_6, n_7, n_8, if_true, if_false, jin, ncl, cond_true, cond_false, Option.bind_some, j_ov, j_oi, j_ol, nle, nlt, neq, nI_add, nmul, nsub, ndiv, nrem2, if_pos, if_neg, Nat.zero_add, Nat.add_zero, j_w_ap, decide_eq_true, decide_eq_false, Bool.true_or, Bool.or_true, Bool.false_or, Bool.or_false, Bool.and_true, Bool.true_and, Bool.false_and, Bool.and_false, Bool.not_true, Bool.not_false, h11] at e1
            refine ⟨_, _, _, eX10_rests (by omega) e1, eX11_rests (by omega) (e2.trans (hwl.trans (r1.trans ?_))), q3.tr ((Scr.w rfl).tr r2)⟩
            unfold fo
            rw [hf0]
  · rw [show Nat.ble (wp a n) 4096 = false from by
      cases hb : Nat.ble (wp a n) 4096 with
      | false => rfl
      | true => exact absurd (Nat.le_of_ble_eq_true hb) hw] at hfew
    have e2 := e2 M
    have hwl := hwl M Scr.rf
    rw [if_neg hw] at hwl
    have hh2 := hh2 M Scr.rf
    by_cases hx1 : x = -nI 1
    · subst hx1
      simp (disch := omega) only [z0, z1, z2, z3, z4, z5, z6, z7, z8, z9, z10, z11, z12, z13, z14, z15, z16, z17, z18, z19, z20, z24, z26, z30, z31, z40, z41, z50, z54, z60, z70, z80, z81, z99, z100, z200, z255, z599, z1000, z1299, z4096, z1000000, lw0, lw1, lw2, lw3, lw4, lw5, lw6, lw7, lw12, lw50, lw99, lw255, lw599, lw4096, bI_ok, ble_t, Int.cast_ofNat_Int,  decide_true, decide_false, bI_0, bI_1, b_tf, b_ft, eq_self, n_1, n_2, n_3, n_4, n_5, n_6, n_7, n_8, if_true, if_false, jin, ncl, cond_true, cond_false, Option.bind_some, j_ov, j_oi, j_ol, nle, nlt, neq, nI_add, nmul, nsub, ndiv, nrem2, if_pos, if_neg, Nat.zero_add, Nat.add_zero, j_w_ap, decide_eq_true, decide_eq_false, Bool.true_or, Bool.or_true, Bool.false_or, Bool.or_false, Bool.and_true, Bool.true_and, Bool.false_and, Bool.and_false, Bool.not_true, Bool.not_false, hfew] at e1
      simp (disch := omega) only [z0, z1, z2, z3, z4, z5, z6, z7, z8, z9, z10, z11, z12, z13, z14, z15, z16, z17, z18, z19, z20, z24, z26, z30, z31, z40, z41, z50, z54, z60, z70, z80, z81, z99, z100, z200, z255, z599, z1000, z1299, z4096, z1000000, lw0, lw1, lw2, lw3, lw4, lw5, lw6, lw7, lw12, lw50, lw99, lw255, lw599, lw4096, bI_ok, ble_t, Int.cast_ofNat_Int,  decide_true, decide_false, bI_0, bI_1, b_tf, b_ft, eq_self, n_1, n_2, n_3, n_4, n_5, n_6, n_7, n_8, if_true, if_false, jin, ncl, cond_true, cond_false, Option.bind_some, j_ov, j_oi, j_ol, nle, nlt, neq, nI_add, nmul, nsub, ndiv, nrem2, if_pos, if_neg, Nat.zero_add, Nat.add_zero, j_w_ap, decide_eq_true, decide_eq_false, Bool.true_or, Bool.or_true, Bool.false_or, Bool.or_false, Bool.and_true, Bool.true_and, Bool.false_and, Bool.and_false, Bool.not_true, Bool.not_false] at e2
      exact ⟨_, _, _, eX10_rests (by omega) e1, eX11_rests (by omega) (e2.trans hwl), Scr.rf⟩
    · cases h1 : ib x 0 ((n : Int) - 1) with
      | false =>
        simp (disch := omega) only [z0, z1, z2, z3, z4, z5, z6, z7, z8, z9, z10, z11, z12, z13, z14, z15, z16, z17, z18, z19, z20, z24, z26, z30, z31, z40, z41, z50, z54, z60, z70, z80, z81, z99, z100, z200, z255, z599, z1000, z1299, z4096, z1000000, lw0, lw1, lw2, lw3, lw4, lw5, lw6, lw7, lw12, lw50, lw99, lw255, lw599, lw4096, bI_ok, ble_t, Int.cast_ofNat_Int,  decide_true, decide_false, bI_0, bI_1, b_tf, b_ft, eq_self, n_1, n_2, n_3, n_4, n_5, n_6, n_7, n_8, if_true, if_false, jin, ncl, cond_true, cond_false, Option.bind_some, j_ov, j_oi, j_ol, nle, nlt, neq, nI_add, nmul, nsub, ndiv, nrem2, if_pos, if_neg, Nat.zero_add, Nat.add_zero, j_w_ap, decide_eq_true, decide_eq_false, Bool.true_or, Bool.or_true, Bool.false_or, Bool.or_false, Bool.and_true, Bool.true_and, Bool.false_and, Bool.and_false, Bool.not_true, Bool.not_false, hx1, hh, h1] at e1
        simp (disch := omega) only [z0, z1, z2, z3, z4, z5, z6, z7, z8, z9, z10, z11, z12, z13, z14, z15, z16, z17, z18, z19, z20, z24, z26, z30, z31, z40, z41, z50, z54, z60, z70, z80, z81, z99, z100, z200, z255, z599, z1000, z1299, z4096, z1000000, lw0, lw1, lw2, lw3, lw4, lw5, lw6, lw7, lw12, lw50, lw99, lw255, lw599, lw4096, bI_ok, ble_t, Int.cast_ofNat_Int,  decide_true, decide_false, bI_0, bI_1, b_tf, b_ft, eq_self, n_1, n_2, n_3, n_4, n_5, n_6, n_7, n_8, if_true, if_false, jin, ncl, cond_true, cond_false, Option.bind_some, j_ov, j_oi, j_ol, nle, nlt, neq, nI_add, nmul, nsub, ndiv, nrem2, if_pos, if_neg, Nat.zero_add, Nat.add_zero, j_w_ap, decide_eq_true, decide_eq_false, Bool.true_or, Bool.or_true, Bool.false_or, Bool.or_false, Bool.and_true, Bool.true_and, Bool.false_and, Bool.and_false, Bool.not_true, Bool.not_false, hx1, hh2, h1] at e2
        exact ⟨_, _, _, eX10_rests (by omega) e1, eX11_rests (by omega) e2, Scr.rf⟩
      | true =>
        simp (disch := omega) only [z0, z1, z2, z3, z4, z5, z6, z7, z8, z9, z10, z11, z12, z13, z14, z15, z16, z17, z18, z19, z20, z24, z26, z30, z31, z40, z41, z50, z54, z60, z70, z80, z81, z99, z100, z200, z255, z599, z1000, z1299, z4096, z1000000, lw0, lw1, lw2, lw3, lw4, lw5, lw6, lw7, lw12, lw50, lw99, lw255, lw599, lw4096, bI_ok, ble_t, Int.cast_ofNat_Int,  decide_true, decide_false, bI_0, bI_1, b_tf, b_ft, eq_self, n_1, n_2, n_3, n_4, n_5, n_6, n_7, n_8, if_true, if_false, jin, ncl, cond_true, cond_false, Option.bind_some, j_ov, j_oi, j_ol, nle, nlt, neq, nI_add, nmul, nsub, ndiv, nrem2, if_pos, if_neg, Nat.zero_add, Nat.add_zero, j_w_ap, decide_eq_true, decide_eq_false, Bool.true_or, Bool.or_true, Bool.false_or, Bool.or_false, Bool.and_true, Bool.true_and, Bool.false_and, Bool.and_false, Bool.not_true, Bool.not_false, hx1, hh, h1, hfew] at e1
        simp (disch := omega) only [z0, z1, z2, z3, z4, z5, z6, z7, z8, z9, z10, z11, z12, z13, z14, z15, z16, z17, z18, z19, z20, z24, z26, z30, z31, z40, z41, z50, z54, z60, z70, z80, z81, z99, z100, z200, z255, z599, z1000, z1299, z4096, z1000000, lw0, lw1, lw2, lw3, lw4, lw5, lw6, lw7, lw12, lw50, lw99, lw255, lw599, lw4096, bI_ok, ble_t, Int.cast_ofNat_Int,  decide_true, decide_false, bI_0, bI_1, b_tf, b_ft, eq_self, n_1, n_2, n_3, n_4, n_5, n_6, n_7, n_8, if_true, if_false, jin, ncl, cond_true, cond_false, Option.bind_some, j_ov, j_oi, j_ol, nle, nlt, neq, nI_add, nmul, nsub, ndiv, nrem2, if_pos, if_neg, Nat.zero_add, Nat.add_zero, j_w_ap, decide_eq_true, decide_eq_false, Bool.true_or, Bool.or_true, Bool.false_or, Bool.or_false, Bool.and_true, Bool.true_and, Bool.false_and, Bool.and_false, Bool.not_true, Bool.not_false, hx1, hh2, h1] at e2
        exact ⟨_, _, _, eX10_rests (by omega) e1, eX11_rests (by omega) (e2.trans hwl), Scr.rf⟩
/-- one's gift when it has changed -/
def nxt (n : Nat) (g : Nat → Nat) (bill rule : Nat) (a : Nat → Nat) (i : Nat) : Nat → Nat := up g i (sbi (cf n g bill rule i (a 26)) (a i / a 26 + 1) * a 26)
theorem cf_up {i st w : Nat} : cf n (up g i w) bill rule i st = cf n g bill rule i st := by
  funext k
  unfold cf
  rw [up_up]
theorem cf_0 {i st : Nat} (hb : bill ≤ 1000) : cf n g bill rule i st 0 < 1000000 := by
  have := cf_le (n := n) (g := g) (bill := bill) (rule := rule) (i := i) (st := st) (k := 0) (by omega)
  omega
theorem wc_nxt {i : Nat} (hb : bill ≤ 1000) : wc n (nxt n g bill rule a i) bill rule a i = false := by
  unfold wc nxt
  rw [cf_up]
  have h1 := sbc_at (cf_0 (n := n) (g := g) (rule := rule) (i := i) (st := a 26) hb) (k := a i / a 26 + 1) (Nat.le_add_left 1 _)
  have h2 : s_cost n (up g i (sbi (cf n g bill rule i (a 26)) (a i / a 26 + 1) * a 26)) bill rule i = cf n g bill rule i (a 26) (sbi (cf n g bill rule i (a 26)) (a i / a 26 + 1)) := rfl
  rw [h1, h2]
  cases hb : Nat.blt (cf n g bill rule i (a 26) (sbi (cf n g bill rule i (a 26)) (a i / a 26 + 1))) (cf n g bill rule i (a 26) (sbi (cf n g bill rule i (a 26)) (a i / a 26 + 1))) with
  | false => rfl
  | true => exact absurd (Nat.le_of_ble_eq_true hb) (by omega)
theorem nxt_le {i : Nat} (hs : 1 ≤ a 26) (hi : a i ≤ 99) (hg : ∀ q, q < n → g q ≤ 99) : ∀ q, q < n → nxt n g bill rule a i q ≤ 99 := by
  unfold nxt
  refine up_le hg ?_
  have := (sb_lt (f := cf n g bill rule i (a 26)) (k := a i / a 26 + 1)).2 (Nat.le_add_left 1 _)
  have := (kst (p := a i) hs).mpr this
  omega
def cur1 (n c : Nat) : Nat := if c + 1 < n then c + 1 else 0
theorem cur_mod {c : Nat} (h : c < n) : (c + 1) % n = cur1 n c := by
  unfold cur1
  by_cases hc : c + 1 < n
  · rw [if_pos hc, Nat.mod_eq_of_lt hc]
  · rw [if_neg hc, show c + 1 = n by omega, Nat.mod_self]
theorem cur1_lt {c : Nat} (h : c < n) : cur1 n c < n := by
  unfold cur1
  split <;> omega
def trn (n bill rule : Nat) (a : Nat → Nat) : Nat → Nat → Nat → Nat → (Nat → Nat) → Int32 × (Nat → Nat)
  | 0, ch, _, _, g => (nI ch, g)
  | f + 1, ch, st, cur, g => if n ≤ st then (nI ch, g) else bif wc n g bill rule a cur then (if ch = 60 then (-nI 2, g) else trn n bill rule a f (ch + 1) 1 (cur1 n cur) (nxt n g bill rule a cur)) else trn n bill rule a f ch (st + 1) (cur1 n cur) g
def tres (o : Option Nat) (p : Int32 × (Nat → Nat)) : Int32 := match o with
  | none => p.1
  | some j => nI (p.2 j)
theorem M_turns_l {o : Option Nat} (hd : 10 ≤ d) (hb : bill ≤ 1000) (hr4 : rule ≤ 4) (ebi : a 24 = bill) (eru : a 25 = rule) (ho : ∀ j, o = some j → j < n) : ∀ (f ch st cur : Nat) (g : Nat → Nat) (M : j_M), ch ≤ 60 → st ≤ n → (st < n → cur < n) → (61 - ch) * 7 + (n - st) < f → (∀ q, q < n → g q ≤ 99) → IG n a M → lay n g M → ∃ M', R d kX11_turns 26 [.ref 46, .int (oI o), .int (nI ch), .int (nI st), .int (nI cur), .null] [] (S0, M, N) = some (some (.int (tres o (trn n bill rule a f ch st cur g))), (S0, M', N)) ∧ Scr M M'
  | 0, ch, st, cur, g, M, hch, hst, hcur, hf, hg, h, hl => by omega
  | f + 1, ch, st, cur, g, M, hch, hst, hcur, hf, hg, h, hl => by
    have hn := h.n6
    have e := bX11_turns_26 d (oI o) (nI ch) (nI st) (nI cur) M N
    have hx := h.m6
    have hoo : (o = none ∧ oI o = -nI 1) ∨ ∃ j, o = some j ∧ oI o = nI j ∧ j < n ∧ M 53 j = nI (g j) := by
      cases o with
      | none => exact Or.inl ⟨rfl, rfl⟩
      | some j => exact Or.inr ⟨j, rfl, rfl, ho j rfl, hl.2 j (ho j rfl)⟩
    unfold trn
    by_cases h1 : n ≤ st
    · rw [if_pos h1]
      rcases hoo with ⟨rfl, h2⟩ | ⟨j, rfl, h2, h3, h4⟩
      · simp (disch := omega) only [z0, z1, z2, z3, z4, z5, z6, z7, z8, z9, z10, z11, z12, z13, z14, z15, z16, z17, z18, z19, z20, z24, z26, z30, z31, z40, z41, z50, z54, z60, z70, z80, z81, z99, z100, z200, z255, z599, z1000, z1299, z4096, z1000000, lw0, lw1, lw2, lw3, lw4, lw5, lw6, lw7, lw12, lw50, lw99, lw255, lw599, lw4096, bI_ok, ble_t, Int.cast_ofNat_Int,  decide_true, decide_false, bI_0, bI_1, b_tf, b_ft, eq_self, n_1, n_2, n_3, n_4, n_5, n_6, n_7, n_8, if_true, if_false, jin, ncl, cond_true, cond_false, Option.bind_some, j_ov, j_oi, j_ol, nle, nlt, neq, nI_add, nmul, nsub, ndiv, nrem2, if_pos, if_neg, Nat.zero_add, Nat.add_zero, j_w_ap, decide_eq_true, decide_eq_false, Bool.true_or, Bool.or_true, Bool.false_or, Bool.or_false, Bool.and_true, Bool.true_and, Bool.false_and, Bool.and_false, Bool.not_true, Bool.not_false, h2, hx] at e
        exact ⟨M, by rw [h2]; exact e, Scr.rf⟩
      · simp (disch := omega) only [z0, z1, z2, z3, z4, z5, z6, z7, z8, z9, z10, z11, z12, z13, z14, z15, z16, z17, z18, z19, z20, z24, z26, z30, z31, z40, z41, z50, z54, z60, z70, z80, z81, z99, z100, z200, z255, z599, z1000, z1299, z4096, z1000000, lw0, lw1, lw2, lw3, lw4, lw5, lw6, lw7, lw12, lw50, lw99, lw255, lw599, lw4096, bI_ok, ble_t, Int.cast_ofNat_Int,  decide_true, decide_false, bI_0, bI_1, b_tf, b_ft, eq_self, n_1, n_2, n_3, n_4, n_5, n_6, n_7, n_8, if_true, if_false, jin, ncl, cond_true, cond_false, Option.bind_some, j_ov, j_oi, j_ol, nle, nlt, neq, nI_add, nmul, nsub, ndiv, nrem2, if_pos, if_neg, Nat.zero_add, Nat.add_zero, j_w_ap, decide_eq_true, decide_eq_false, Bool.true_or, Bool.or_true, Bool.false_or, Bool.or_false, Bool.and_true, Bool.true_and, Bool.false_and, Bool.and_false, Bool.not_true, Bool.not_false, h2, hx, h4] at e
        exact ⟨M, by rw [h2]; exact e, Scr.rf⟩
    · rw [if_neg h1]
      have hcur := hcur (by omega)
      obtain ⟨M1, q1, q2, q3⟩ := M_wouldChange (d := d) (N := N) (by omega) hg hb hr4 hcur ebi eru h hl
      have hx1 := (h.scr q3).m6
      cases hw : wc n g bill rule a cur with
      | false =>
        rw [hw] at q1
        rw [cond_false]
        obtain ⟨M', r1, r2⟩ := M_turns_l hd hb hr4 ebi eru ho f ch (st + 1) (cur1 n cur) g M1 hch (by omega) (fun _ => cur1_lt hcur) (by omega) hg (h.scr q3) q2
        simp (disch := omega) only [z0, z1, z2, z3, z4, z5, z6, z7, z8, z9, z10, z11, z12, z13, z14, z15, z16, z17, z18, z19, z20, z24, z26, z30, z31, z40, z41, z50, z54, z60, z70, z80, z81, z99, z100, z200, z255, z599, z1000, z1299, z4096, z1000000, lw0, lw1, lw2, lw3, lw4, lw5, lw6, lw7, lw12, lw50, lw99, lw255, lw599, lw4096, bI_ok, ble_t, Int.cast_ofNat_Int,  decide_true, decide_false, bI_0, bI_1, b_tf, b_ft, eq_self, n_1, n_2, n_3, n_4, n_5, n_6, n_7, n_8, if_true, if_false, jin, ncl, cond_true, cond_false, Option.bind_some, j_ov, j_oi, j_ol, nle, nlt, neq, nI_add, nmul, nsub, ndiv, nrem2, if_pos, if_neg, Nat.zero_add, Nat.add_zero, j_w_ap, decide_eq_true, decide_eq_false, Bool.true_or, Bool.or_true, Bool.false_or, Bool.or_false, Bool.and_true, Bool.true_and, Bool.false_and, Bool.and_false, Bool.not_true, Bool.not_false, hx, q1, hx1, cur_mod hcur] at e
        exact ⟨M', e.trans r1, q3.tr r2⟩
      | true =>
        rw [hw] at q1
        rw [cond_true]
        by_cases h60 : ch = 60
        · rw [if_pos h60]
          rcases hoo with ⟨rfl, h2⟩ | ⟨j, rfl, h2, h3, h4⟩
          · simp (disch := omega) only [z0, z1, z2, z3, z4, z5, z6, z7, z8, z9, z10, z11, z12, z13, z14, z15, z16, z17, z18, z19, z20, z24, z26, z30, z31, z40, z41, z50, z54, z60, z70, z80, z81, z99, z100, z200, z255, z599, z1000, z1299, z4096, z1000000, lw0, lw1, lw2, lw3, lw4, lw5, lw6, lw7, lw12, lw50, lw99, lw255, lw599, lw4096, bI_ok, ble_t, Int.cast_ofNat_Int,  decide_true, decide_false, bI_0, bI_1, b_tf, b_ft, eq_self, n_1, n_2, n_3, n_4, n_5, n_6, n_7, n_8, if_true, if_false, jin, ncl, cond_true, cond_false, Option.bind_some, j_ov, j_oi, j_ol, nle, nlt, neq, nI_add, nmul, nsub, ndiv, nrem2, if_pos, if_neg, Nat.zero_add, Nat.add_zero, j_w_ap, decide_eq_true, decide_eq_false, Bool.true_or, Bool.or_true, Bool.false_or, Bool.or_false, Bool.and_true, Bool.true_and, Bool.false_and, Bool.and_false, Bool.not_true, Bool.not_false, h2, hx, q1, h60] at e
            exact ⟨M1, by rw [h2, h60]; exact e, q3⟩
          · have h5 := q2.2 j h3
            simp (disch := omega) only [z0, z1, z2, z3, z4, z5, z6, z7, z8, z9, z10, z11, z12, z13, z14, z15, z16, z17, z18, z19, z20, z24, z26, z30, z31, z40, z41, z50, z54, z60, z70, z80, z81, z99, z100, z200, z255, z599, z1000, z1299, z4096, z1000000, lw0, lw1, lw2, lw3, lw4, lw5, lw6, lw7, lw12, lw50, lw99, lw255, lw599, lw4096, bI_ok, ble_t, Int.cast_ofNat_Int,  decide_true, decide_false, bI_0, bI_1, b_tf, b_ft, eq_self, n_1, n_2, n_3, n_4, n_5, n_6, n_7, n_8, if_true, if_false, jin, ncl, cond_true, cond_false, Option.bind_some, j_ov, j_oi, j_ol, nle, nlt, neq, nI_add, nmul, nsub, ndiv, nrem2, if_pos, if_neg, Nat.zero_add, Nat.add_zero, j_w_ap, decide_eq_true, decide_eq_false, Bool.true_or, Bool.or_true, Bool.false_or, Bool.or_false, Bool.and_true, Bool.true_and, Bool.false_and, Bool.and_false, Bool.not_true, Bool.not_false, h2, hx, q1, h60, h5] at e
            exact ⟨M1, by rw [h2, h60]; exact e, q3⟩
        · rw [if_neg h60]
          obtain ⟨M2, p1, p2, p3, p4⟩ := M_leastCost (d := d) (N := N) (by omega) hg hb hr4 hcur ebi eru (h.scr q3) q2
          have hx2 := ((h.scr q3).scr p4).m6
          have hsb := (sb_lt (f := cf n g bill rule cur (a 26)) (k := a cur / a 26 + 1)).2 (Nat.le_add_left 1 _)
          obtain ⟨M', r1, r2⟩ := M_turns_l hd hb hr4 ebi eru ho f (ch + 1) 1 (cur1 n cur) (nxt n g bill rule a cur) (j_w M2 53 cur (nI (sbi (cf n g bill rule cur (a 26)) (a cur / a 26 + 1) * a 26))) (by omega) (by omega) (fun _ => cur1_lt hcur) (by omega) (nxt_le h.st1 (h.pu99 cur (by omega)) hg) ((h.scr q3).scr (p4.tr (Scr.w rfl))) (by
            refine ⟨by simp (disch := omega) only [z0, z1, z2, z3, z4, z5, z6, z7, z8, z9, z10, z11, z12, z13, z14, z15, z16, z17, z18, z19, z20, z24, z26, z30, z31, z40, z41, z50, z54, z60, z70, z80, z81, z99, z100, z200, z255, z599, z1000, z1299, z4096, z1000000, lw0, lw1, lw2, lw3, lw4, lw5, lw6, lw7, lw12, lw50, lw99, lw255, lw599, lw4096, bI_ok, ble_t, Int.cast_ofNat_Int,  decide_true, decide_false, bI_0, bI_1, b_tf, b_ft, eq_self, n_1, n_2, n_3, n_4, n_5, n_6, n_7, n_8, if_true, if_false, jin, ncl, cond_true, cond_false, Option.bind_some, j_ov, j_oi, j_ol, nle, nlt, neq, nI_add, nmul, nsub, ndiv, nrem2, if_pos, if_neg, Nat.zero_add, Nat.add_zero, j_w_ap, decide_eq_true, decide_eq_false, Bool.true_or, Bool.or_true, Bool.false_or, Bool.or_false, Bool.and_true, Bool.true_and, Bool.false_and, Bool.and_false, Bool.not_true, Bool.not_false, p2.1], fun k hk => ?_⟩
            unfold nxt up
            by_cases hik : k = cur
            · simp (disch := omega) only [z0, z1, z2, z3, z4, z5, z6, z7, z8, z9, z10, z11, z12, z13, z14, z15, z16, z17, z18, z19, z20, z24, z26, z30, z31, z40, z41, z50, z54, z60, z70, z80, z81, z99, z100, z200, z255, z599, z1000, z1299, z4096, z1000000, lw0, lw1, lw2, lw3, lw4, lw5, lw6, lw7, lw12, lw50, lw99, lw255, lw599, lw4096, bI_ok, ble_t, Int.cast_ofNat_Int,  decide_true, decide_false, bI_0, bI_1, b_tf, b_ft, eq_self, n_1, n_2, n_3, n_4, n_5, n_6, n_7, n_8, if_true, if_false, jin, ncl, cond_true, cond_false, Option.bind_some, j_ov, j_oi, j_ol, nle, nlt, neq, nI_add, nmul, nsub, ndiv, nrem2, if_pos, if_neg, Nat.zero_add, Nat.add_zero, j_w_ap, decide_eq_true, decide_eq_false, Bool.true_or, Bool.or_true, Bool.false_or, Bool.or_false, Bool.and_true, Bool.true_and, Bool.false_and, Bool.and_false, Bool.not_true, Bool.not_false, hik]
            · have := p2.2 k hk
              simp (disch := omega) only [z0, z1, z2, z3, z4, z5, z6, z7, z8, z9, z10, z11, z12, z13, z14, z15, z16, z17, z18, z19, z20, z24, z26, z30, z31, z40, z41, z50, z54, z60, z70, z80, z81, z99, z100, z200, z255, z599, z1000, z1299, z4096, z1000000, lw0, lw1, lw2, lw3, lw4, lw5, lw6, lw7, lw12, lw50, lw99, lw255, lw599, lw4096, bI_ok, ble_t, Int.cast_ofNat_Int,  decide_true, decide_false, bI_0, bI_1, b_tf, b_ft, eq_self, n_1, n_2, n_3, n_4, n_5, n_6, n_7, n_8, if_true, if_false, jin, ncl, cond_true, cond_false, Option.bind_some, j_ov, j_oi, j_ol, nle, nlt, neq, nI_add, nmul, nsub, ndiv, nrem2, if_pos, if_neg, Nat.zero_add, Nat.add_zero, j_w_ap, decide_eq_true, decide_eq_false, Bool.true_or, Bool.or_true, Bool.false_or, Bool.or_false, Bool.and_true, Bool.true_and, Bool.false_and, Bool.and_false, Bool.not_true, Bool.not_false, this])
          simp (disch := omega) only [z0, z1, z2, z3, z4, z5, z6, z7, z8, z9, z10, z11, z12, z13, z14, z15, z16, z17, z18, z19, z20, z24, z26, z30, z31, z40, z41, z50, z54, z60, z70, z80, z81, z99, z100, z200, z255, z599, z1000, z1299, z4096, z1000000, lw0, lw1, lw2, lw3, lw4, lw5, lw6, lw7, lw12, lw50, lw99, lw255, lw599, lw4096, bI_ok, ble_t, Int.cast_ofNat_Int,  decide_true, decide_false, bI_0, bI_1, b_tf, b_ft, eq_self, n_1, n_2, n_3, n_4, n_5, n_6, n_7, n_8, if_true, if_false, jin, ncl, cond_true, cond_false, Option.bind_some, j_ov, j_oi, j_ol, nle, nlt, neq, nI_add, nmul, nsub, ndiv, nrem2, if_pos, if_neg, Nat.zero_add, Nat.add_zero, j_w_ap, decide_eq_true, decide_eq_false, Bool.true_or, Bool.or_true, Bool.false_or, Bool.or_false, Bool.and_true, Bool.true_and, Bool.false_and, Bool.and_false, Bool.not_true, Bool.not_false, hx, q1, p1, p3, hx2, cur_mod hcur] at e
          exact ⟨M', e.trans r1, q3.tr (p4.tr ((Scr.w rfl).tr r2))⟩
theorem X_turns_l (hd : 10 ≤ d) (hb : bill ≤ 1000) (hr4 : rule ≤ 4) : ∀ (f ch st cur : Nat) (g : Nat → Nat) (M : j_M) (tu qu : Nat), ch ≤ 60 → st ≤ n → (0 < n → cur < n) → (61 - ch) * 7 + (n - st) < f → (∀ q, q < n → g q ≤ 99) → tu ≤ ch * 6 + qu → (ch = 0 ∧ qu = st ∨ (∃ L, st = qu + 1 ∧ L < n ∧ wc n g bill rule a L = false ∧ (L + st = cur ∨ L + st = cur + n))) → IG n a M → hatL n g bill rule M → ∃ M', R d kX6_takeTurns 20 [.ref 10, .int (nI ch), .int (nI qu), .int (nI cur), .int (nI tu), .null] [] (S0, M, N) = some (some (.int (trn n bill rule a f ch st cur g).1), (S0, M', N)) ∧ hatL n (trn n bill rule a f ch st cur g).2 bill rule M' ∧ Scr M M'
  | 0, ch, st, cur, g, M, tu, qu, hch, hst, hcur, hf, hg, htu, hL, h, hl => by omega
  | f + 1, ch, st, cur, g, M, tu, qu, hch, hst, hcur, hf, hg, htu, hL, h, hl => by
    have hn := h.n6
    have hqu : qu ≤ st := by rcases hL with ⟨-, h2⟩ | ⟨L, h2, -⟩ <;> omega
    have e := bX6_takeTurns_20 d (nI ch) (nI qu) (nI cur) (nI tu) M N
    have hx := h.x6
    -- one turn of one who is quiet, and of one who changes
    have step : ∀ (c : Nat), c = cur → qu < n → cur < n → ∃ M2, hatL n g bill rule M2 ∧ Scr M M2 ∧ M2 10 3 = nI (sbi (cf n g bill rule cur (a 26)) (a cur / a 26 + 1) * a 26) ∧ R d kX6_takeTurns 20 [.ref 10, .int (nI ch), .int (nI qu), .int (nI cur), .int (nI tu), .null] [] (S0, M, N) = (bif wc n g bill rule a cur then (if ch = 60 then some (some (.int (-nI 2)), (S0, M2, N)) else R d kX6_takeTurns 20 [.ref 10, .int (nI (ch + 1)), .int (nI 0), .int (nI (cur1 n cur)), .int (nI (tu + 1)), .null] [] (S0, j_w M2 9 cur (M2 10 3), N)) else R d kX6_takeTurns 20 [.ref 10, .int (nI ch), .int (nI (qu + 1)), .int (nI (cur1 n cur)), .int (nI (tu + 1)), .null] [] (S0, M2, N)) := by
      intro c _ hq hcur
      have hgc := hl.2.2.2 cur hcur
      obtain ⟨M1, q1, q2, q3, q4⟩ := X_costBy (d := d) (N := N) (v := g cur) (by omega) (by omega) hg (hg cur hcur) hb hr4 hcur hl
      rw [up_self] at q1 q2
      obtain ⟨M2, p1, p2, p3, p4, p5⟩ := X_search (d := d) (N := N) (by omega) hg hb hr4 hcur (h.scr (Scr.fr89 q4)) (q2.l q3)
      have hx2 := ((h.scr (Scr.fr89 q4)).scr p5).x6
      have hc := s_cost_le (n := n) (bill := bill) (rule := rule) (hg cur hcur)
      have hsb := (sb_lt (f := cf n g bill rule cur (a 26)) (k := a cur / a 26 + 1)).1
      refine ⟨M2, p2, (Scr.fr89 q4).tr p5, p3, ?_⟩
      unfold wc cur1
      by_cases hlt : sbc (cf n g bill rule cur (a 26)) (a cur / a 26 + 1) < s_cost n g bill rule cur
      · rw [show Nat.blt (sbc (cf n g bill rule cur (a 26)) (a cur / a 26 + 1)) (s_cost n g bill rule cur) = true from Nat.ble_eq_true_of_le hlt, cond_true]
        by_cases h60 : ch = 60
        · simp (disch := omega) only [z0, z1, z2, z3, z4, z5, z6, z7, z8, z9, z10, z11, z12, z13, z14, z15, z16, z17, z18, z19, z20, z24, z26, z30, z31, z40, z41, z50, z54, z60, z70, z80, z81, z99, z100, z200, z255, z599, z1000, z1299, z4096, z1000000, lw0, lw1, lw2, lw3, lw4, lw5, lw6, lw7, lw12, lw50, lw99, lw255, lw599, lw4096, bI_ok, ble_t, Int.cast_ofNat_Int,  decide_true, decide_false, bI_0, bI_1, b_tf, b_ft, eq_self, n_1, n_2, n_3, n_4, n_5, n_6, n_7, n_8, if_true, if_false, jin, ncl, cond_true, cond_false, Option.bind_some, j_ov, j_oi, j_ol, nle, nlt, neq, nI_add, nmul, nsub, ndiv, nrem2, if_pos, if_neg, Nat.zero_add, Nat.add_zero, j_w_ap, decide_eq_true, decide_eq_false, Bool.true_or, Bool.or_true, Bool.false_or, Bool.or_false, Bool.and_true, Bool.true_and, Bool.false_and, Bool.and_false, Bool.not_true, Bool.not_false, hx, hgc, q1, p1, p4, h60] at e
          simp (disch := omega) only [z0, z1, z2, z3, z4, z5, z6, z7, z8, z9, z10, z11, z12, z13, z14, z15, z16, z17, z18, z19, z20, z24, z26, z30, z31, z40, z41, z50, z54, z60, z70, z80, z81, z99, z100, z200, z255, z599, z1000, z1299, z4096, z1000000, lw0, lw1, lw2, lw3, lw4, lw5, lw6, lw7, lw12, lw50, lw99, lw255, lw599, lw4096, bI_ok, ble_t, Int.cast_ofNat_Int,  decide_true, decide_false, bI_0, bI_1, b_tf, b_ft, eq_self, n_1, n_2, n_3, n_4, n_5, n_6, n_7, n_8, if_true, if_false, jin, ncl, cond_true, cond_false, Option.bind_some, j_ov, j_oi, j_ol, nle, nlt, neq, nI_add, nmul, nsub, ndiv, nrem2, if_pos, if_neg, Nat.zero_add, Nat.add_zero, j_w_ap, decide_eq_true, decide_eq_false, Bool.true_or, Bool.or_true, Bool.false_or, Bool.or_false, Bool.and_true, Bool.true_and, Bool.false_and, Bool.and_false, Bool.not_true, Bool.not_false, h60]
          exact e
        · by_cases hcc : cur + 1 < n
          · simp (disch := omega) only [z0, z1, z2, z3, z4, z5, z6, z7, z8, z9, z10, z11, z12, z13, z14, z15, z16, z17, z18, z19, z20, z24, z26, z30, z31, z40, z41, z50, z54, z60, z70, z80, z81, z99, z100, z200, z255, z599, z1000, z1299, z4096, z1000000, lw0, lw1, lw2, lw3, lw4, lw5, lw6, lw7, lw12, lw50, lw99, lw255, lw599, lw4096, bI_ok, ble_t, Int.cast_ofNat_Int,  decide_true, decide_false, bI_0, bI_1, b_tf, b_ft, eq_self, n_1, n_2, n_3, n_4, n_5, n_6, n_7, n_8, if_true, if_false, jin, ncl, cond_true, cond_false, Option.bind_some, j_ov, j_oi, j_ol, nle, nlt, neq, nI_add, nmul, nsub, ndiv, nrem2, if_pos, if_neg, Nat.zero_add, Nat.add_zero, j_w_ap, decide_eq_true, decide_eq_false, Bool.true_or, Bool.or_true, Bool.false_or, Bool.or_false, Bool.and_true, Bool.true_and, Bool.false_and, Bool.and_false, Bool.not_true, Bool.not_false, hx, hgc, q1, p1, p4, hx2] at e
            simp (disch := omega) only [z0, z1, z2, z3, z4, z5, z6, z7, z8, z9, z10, z11, z12, z13, z14, z15, z16, z17, z18, z19, z20, z24, z26, z30, z31, z40, z41, z50, z54, z60, z70, z80, z81, z99, z100, z200, z255, z599, z1000, z1299, z4096, z1000000, lw0, lw1, lw2, lw3, lw4, lw5, lw6, lw7, lw12, lw50, lw99, lw255, lw599, lw4096, bI_ok, ble_t, Int.cast_ofNat_Int,  decide_true, decide_false, bI_0, bI_1, b_tf, b_ft, eq_self, n_1, n_2, n_3, n_4, n_5, n_6, n_7, n_8, if_true, if_false, jin, ncl, cond_true, cond_false, Option.bind_some, j_ov, j_oi, j_ol, nle, nlt, neq, nI_add, nmul, nsub, ndiv, nrem2, if_pos, if_neg, Nat.zero_add, Nat.add_zero, j_w_ap, decide_eq_true, decide_eq_false, Bool.true_or, Bool.or_true, Bool.false_or, Bool.or_false, Bool.and_true, Bool.true_and, Bool.false_and, Bool.and_false, Bool.not_true, Bool.not_false]
            exact e
          · simp (disch := omega) only [z0, z1, z2, z3, z4, z5, z6, z7, z8, z9, z10, z11, z12, z13, z14, z15, z16, z17, z18, z19, z20, z24, z26, z30, z31, z40, z41, z50, z54, z60, z70, z80, z81, z99, z100, z200, z255, z599, z1000, z1299, z4096, z1000000, lw0, lw1, lw2, lw3, lw4, lw5, lw6, lw7, lw12, lw50, lw99, lw255, lw599, lw4096, bI_ok, ble_t, Int.cast_ofNat_Int,  decide_true, decide_false, bI_0, bI_1, b_tf, b_ft, eq_self, n_1, n_2, n_3, n_4, n_5, n_6, n_7, n_8, if_true, if_false, jin, ncl, cond_true, cond_false, Option.bind_some, j_ov, j_oi, j_ol, nle, nlt, neq, nI_add, nmul, nsub, ndiv, nrem2, if_pos, if_neg, Nat.zero_add, Nat.add_zero, j_w_ap, decide_eq_true, decide_eq_false, Bool.true_or, Bool.or_true, Bool.false_or, Bool.or_false, Bool.and_true, Bool.true_and, Bool.false_and, Bool.and_false, Bool.not_true, Bool.not_false, hx, hgc, q1, p1, p4, hx2] at e
            simp (disch := omega) only [z0, z1, z2, z3, z4, z5, z6, z7, z8, z9, z10, z11, z12, z13, z14, z15, z16, z17, z18, z19, z20, z24, z26, z30, z31, z40, z41, z50, z54, z60, z70, z80, z81, z99, z100, z200, z255, z599, z1000, z1299, z4096, z1000000, lw0, lw1, lw2, lw3, lw4, lw5, lw6, lw7, lw12, lw50, lw99, lw255, lw599, lw4096, bI_ok, ble_t, Int.cast_ofNat_Int,  decide_true, decide_false, bI_0, bI_1, b_tf, b_ft, eq_self, n_1, n_2, n_3, n_4, n_5, n_6, n_7, n_8, if_true, if_false, jin, ncl, cond_true, cond_false, Option.bind_some, j_ov, j_oi, j_ol, nle, nlt, neq, nI_add, nmul, nsub, ndiv, nrem2, if_pos, if_neg, Nat.zero_add, Nat.add_zero, j_w_ap, decide_eq_true, decide_eq_false, Bool.true_or, Bool.or_true, Bool.false_or, Bool.or_false, Bool.and_true, Bool.true_and, Bool.false_and, Bool.and_false, Bool.not_true, Bool.not_false]
            exact e
      · rw [show Nat.blt (sbc (cf n g bill rule cur (a 26)) (a cur / a 26 + 1)) (s_cost n g bill rule cur) = false from by
          cases hb : Nat.blt (sbc (cf n g bill rule cur (a 26)) (a cur / a 26 + 1)) (s_cost n g bill rule cur) with
          | false => rfl
          | true => exact absurd (Nat.le_of_ble_eq_true hb) hlt, cond_false]
        by_cases hcc : cur + 1 < n
        · simp (disch := omega) only [z0, z1, z2, z3, z4, z5, z6, z7, z8, z9, z10, z11, z12, z13, z14, z15, z16, z17, z18, z19, z20, z24, z26, z30, z31, z40, z41, z50, z54, z60, z70, z80, z81, z99, z100, z200, z255, z599, z1000, z1299, z4096, z1000000, lw0, lw1, lw2, lw3, lw4, lw5, lw6, lw7, lw12, lw50, lw99, lw255, lw599, lw4096, bI_ok, ble_t, Int.cast_ofNat_Int,  decide_true, decide_false, bI_0, bI_1, b_tf, b_ft, eq_self, n_1, n_2, n_3, n_4, n_5, n_6, n_7, n_8, if_true, if_false, jin, ncl, cond_true, cond_false, Option.bind_some, j_ov, j_oi, j_ol, nle, nlt, neq, nI_add, nmul, nsub, ndiv, nrem2, if_pos, if_neg, Nat.zero_add, Nat.add_zero, j_w_ap, decide_eq_true, decide_eq_false, Bool.true_or, Bool.or_true, Bool.false_or, Bool.or_false, Bool.and_true, Bool.true_and, Bool.false_and, Bool.and_false, Bool.not_true, Bool.not_false, hx, hgc, q1, p1, p4, hx2] at e
          simp (disch := omega) only [z0, z1, z2, z3, z4, z5, z6, z7, z8, z9, z10, z11, z12, z13, z14, z15, z16, z17, z18, z19, z20, z24, z26, z30, z31, z40, z41, z50, z54, z60, z70, z80, z81, z99, z100, z200, z255, z599, z1000, z1299, z4096, z1000000, lw0, lw1, lw2, lw3, lw4, lw5, lw6, lw7, lw12, lw50, lw99, lw255, lw599, lw4096, bI_ok, ble_t, Int.cast_ofNat_Int,  decide_true, decide_false, bI_0, bI_1, b_tf, b_ft, eq_self, n_1, n_2, n_3, n_4, n_5, n_6, n_7, n_8, if_true, if_false, jin, ncl, cond_true, cond_false, Option.bind_some, j_ov, j_oi, j_ol, nle, nlt, neq, nI_add, nmul, nsub, ndiv, nrem2, if_pos, if_neg, Nat.zero_add, Nat.add_zero, j_w_ap, decide_eq_true, decide_eq_false, Bool.true_or, Bool.or_true, Bool.false_or, Bool.or_false, Bool.and_true, Bool.true_and, Bool.false_and, Bool.and_false, Bool.not_true, Bool.not_false]
          exact e
        · simp (disch := omega) only [z0, z1, z2, z3, z4, z5, z6, z7, z8, z9, z10, z11, z12, z13, z14, z15, z16, z17, z18, z19, z20, z24, z26, z30, z31, z40, z41, z50, z54, z60, z70, z80, z81, z99, z100, z200, z255, z599, z1000, z1299, z4096, z1000000, lw0, lw1, lw2, lw3, lw4, lw5, lw6, lw7, lw12, lw50, lw99, lw255, lw599, lw4096, bI_ok, ble_t, Int.cast_ofNat_Int,  decide_true, decide_false, bI_0, bI_1, b_tf, b_ft, eq_self, n_1, n_2, n_3, n_4, n_5, n_6, n_7, n_8, if_true, if_false, jin, ncl, cond_true, cond_false, Option.bind_some, j_ov, j_oi, j_ol, nle, nlt, neq, nI_add, nmul, nsub, ndiv, nrem2, if_pos, if_neg, Nat.zero_add, Nat.add_zero, j_w_ap, decide_eq_true, decide_eq_false, Bool.true_or, Bool.or_true, Bool.false_or, Bool.or_false, Bool.and_true, Bool.true_and, Bool.false_and, Bool.and_false, Bool.not_true, Bool.not_false, hx, hgc, q1, p1, p4, hx2] at e
          simp (disch := omega) only [z0, z1, z2, z3, z4, z5, z6, z7, z8, z9, z10, z11, z12, z13, z14, z15, z16, z17, z18, z19, z20, z24, z26, z30, z31, z40, z41, z50, z54, z60, z70, z80, z81, z99, z100, z200, z255, z599, z1000, z1299, z4096, z1000000, lw0, lw1, lw2, lw3, lw4, lw5, lw6, lw7, lw12, lw50, lw99, lw255, lw599, lw4096, bI_ok, ble_t, Int.cast_ofNat_Int,  decide_true, decide_false, bI_0, bI_1, b_tf, b_ft, eq_self, n_1, n_2, n_3, n_4, n_5, n_6, n_7, n_8, if_true, if_false, jin, ncl, cond_true, cond_false, Option.bind_some, j_ov, j_oi, j_ol, nle, nlt, neq, nI_add, nmul, nsub, ndiv, nrem2, if_pos, if_neg, Nat.zero_add, Nat.add_zero, j_w_ap, decide_eq_true, decide_eq_false, Bool.true_or, Bool.or_true, Bool.false_or, Bool.or_false, Bool.and_true, Bool.true_and, Bool.false_and, Bool.and_false, Bool.not_true, Bool.not_false]
          exact e
    unfold trn
    by_cases h1 : n ≤ st
    · rw [if_pos h1]
      rcases hL with ⟨h0, hq⟩ | ⟨L, hq, hLn, hwl, hLc⟩
      · simp (disch := omega) only [z0, z1, z2, z3, z4, z5, z6, z7, z8, z9, z10, z11, z12, z13, z14, z15, z16, z17, z18, z19, z20, z24, z26, z30, z31, z40, z41, z50, z54, z60, z70, z80, z81, z99, z100, z200, z255, z599, z1000, z1299, z4096, z1000000, lw0, lw1, lw2, lw3, lw4, lw5, lw6, lw7, lw12, lw50, lw99, lw255, lw599, lw4096, bI_ok, ble_t, Int.cast_ofNat_Int,  decide_true, decide_false, bI_0, bI_1, b_tf, b_ft, eq_self, n_1, n_2, n_3, n_4, n_5, n_6, n_7, n_8, if_true, if_false, jin, ncl, cond_true, cond_false, Option.bind_some, j_ov, j_oi, j_ol, nle, nlt, neq, nI_add, nmul, nsub, ndiv, nrem2, if_pos, if_neg, Nat.zero_add, Nat.add_zero, j_w_ap, decide_eq_true, decide_eq_false, Bool.true_or, Bool.or_true, Bool.false_or, Bool.or_false, Bool.and_true, Bool.true_and, Bool.false_and, Bool.and_false, Bool.not_true, Bool.not_false, hx] at e
        exact ⟨M, e, hl, Scr.rf⟩
      · have hcur := hcur (by omega)
        obtain rfl : L = cur := by omega
        obtain ⟨M2, p1, p2, p3, p4⟩ := step L rfl (by omega) hcur
        rw [hwl, cond_false] at p4
        have e2 := bX6_takeTurns_20 d (nI ch) (nI (qu + 1)) (nI (cur1 n L)) (nI (tu + 1)) M2 N
        have hx2 := (h.scr p2).x6
        simp (disch := omega) only [z0, z1, z2, z3, z4, z5, z6, z7, z8, z9, z10, z11, z12, z13, z14, z15, z16, z17, z18, z19, z20, z24, z26, z30, z31, z40, z41, z50, z54, z60, z70, z80, z81, z99, z100, z200, z255, z599, z1000, z1299, z4096, z1000000, lw0, lw1, lw2, lw3, lw4, lw5, lw6, lw7, lw12, lw50, lw99, lw255, lw599, lw4096, bI_ok, ble_t, Int.cast_ofNat_Int,  decide_true, decide_false, bI_0, bI_1, b_tf, b_ft, eq_self, n_1, n_2, n_3, n_4, n_5, n_6, n_7, n_8, if_true, if_false, jin, ncl, cond_true, cond_false, Option.bind_some, j_ov, j_oi, j_ol, nle, nlt, neq, nI_add, nmul, nsub, ndiv, nrem2, if_pos, if_neg, Nat.zero_add, Nat.add_zero, j_w_ap, decide_eq_true, decide_eq_false, Bool.true_or, Bool.or_true, Bool.false_or, Bool.or_false, Bool.and_true, Bool.true_and, Bool.false_and, Bool.and_false, Bool.not_true, Bool.not_false, hx2, ite_self] at e2
        exact ⟨M2, p4.trans e2, p1, p2⟩
    · rw [if_neg h1]
      have hcur := hcur (by omega)
      obtain ⟨M2, p1, p2, p3, p4⟩ := step cur rfl (by omega) hcur
      rw [p4]
      cases hw : wc n g bill rule a cur with
      | false =>
        rw [cond_false, cond_false]
        obtain ⟨M', r1, r2, r3⟩ := X_turns_l hd hb hr4 f ch (st + 1) (cur1 n cur) g M2 (tu + 1) (qu + 1) hch (by omega) (fun _ => cur1_lt hcur) (by omega) hg (by omega) (by
          rcases hL with ⟨h0, hq⟩ | ⟨L, hq, hLn, hwl, hLc⟩
          · exact Or.inl ⟨h0, by omega⟩
          · refine Or.inr ⟨L, by omega, hLn, hwl, ?_⟩
            unfold cur1
            split <;> omega) (h.scr p2) p1
        exact ⟨M', r1, r2, p2.tr r3⟩
      | true =>
        rw [cond_true, cond_true]
        by_cases h60 : ch = 60
        · rw [if_pos h60, if_pos h60]
          exact ⟨M2, rfl, p1, p2⟩
        · rw [if_neg h60, if_neg h60, p3]
          obtain ⟨M', r1, r2, r3⟩ := X_turns_l hd hb hr4 f (ch + 1) 1 (cur1 n cur) (nxt n g bill rule a cur) (j_w M2 9 cur (nI (sbi (cf n g bill rule cur (a 26)) (a cur / a 26 + 1) * a 26))) (tu + 1) 0 (by omega) (by omega) (fun _ => cur1_lt hcur) (by omega) (nxt_le h.st1 (h.pu99 cur (by omega)) hg) (by omega) (Or.inr ⟨cur, by omega, hcur, wc_nxt hb, by unfold cur1; split <;> omega⟩) (h.scr (p2.tr (Scr.w rfl))) p1.w
          exact ⟨M', r1, r2, p2.tr ((Scr.w rfl).tr r3)⟩
theorem Q_turns (hd : 20 ≤ d) (h : IG n a M) : ∃ r M1 M2, C d 120 [.ref 0, .int x] S0 M N = some (some (.int r), M1, N) ∧ C d 190 [.ref 46, .int x] S0 M1 N = some (some (.int r), M2, N) ∧ Scr M M2 := by
  have hn := h.n6
  have hh := fun x => X_has (d := d - 1) (N := N) (x := x) (by omega) h.x6 (by omega)
  have hh2 : ∀ M1, Scr M M1 → ∀ x, C (d - 1) 160 [.ref 46, .int x] S0 M1 N = some (some (.int (bI (ib x 0 ((n : Int) - 1)))), M1, N) := fun M1 hs x => M_isGuest (by omega) (h.scr hs).m6 (by omega)
  have hg9 : ∀ q, q < n → gf a q ≤ 99 := fun q hq => h.gi99 q (by omega)
  have hb9 := h.bi599
  have e1 := bX10_turns_0 (d - 1) x M N
  have e2 := fun M1 => bX11_turns_0 (d - 1) x M1 N
  obtain ⟨M0, q1, q2, q3, q4⟩ := X_lay (d := d - 2) (N := N) (by omega) h
  obtain ⟨M1, p1, p2, p3⟩ := X_turns_l (d := d - 2) (N := N) (by omega) (by omega) h.ru4 1000 0 0 0 (gf a) M0 0 0 (by omega) (by omega) (fun z => z) (by omega) hg9 (by omega) (Or.inl ⟨rfl, rfl⟩) (h.scr q4) (q2.l q3)
  have hs := q4.tr p3
  have c1 : C (d - 1) 79 [.ref 10] S0 M N = some (some (.int (trn n (a 24) (a 25) a 1000 0 0 0 (gf a)).1), M1, N) := by
    refine eX6_takeTurns (by omega) ?_
    have e := bX6_takeTurns_0 (d - 1 - 1) M N
    rw [show d - 1 - 1 = d - 2 by omega] at e ⊢
    simp (disch := omega) only [z0, z1, z2, z3, z4, z5, z6, z7, z8, z9, z10, z11, z12, z13, z14, z15, z16, z17, z18, z19, z20, z24, z26, z30, z31, z40, z41, z50, z54, z60, z70, z80, z81, z99, z100, z200, z255, z599, z1000, z1299, z4096, z1000000, lw0, lw1, lw2, lw3, lw4, lw5, lw6, lw7, lw12, lw50, lw99, lw255, lw599, lw4096, bI_ok, ble_t, Int.cast_ofNat_Int,  decide_true, decide_false, bI_0, bI_1, b_tf, b_ft, eq_self, n_1, n_2, n_3, n_4, n_5, n_6, n_7, n_8, if_true, if_false, jin, ncl, cond_true, cond_false, Option.bind_some, j_ov, j_oi, j_ol, nle, nlt, neq, nI_add, nmul, nsub, ndiv, nrem2, if_pos, if_neg, Nat.zero_add, Nat.add_zero, j_w_ap, decide_eq_true, decide_eq_false, Bool.true_or, Bool.or_true, Bool.false_or, Bool.or_false, Bool.and_true, Bool.true_and, Bool.false_and, Bool.and_false, Bool.not_true, Bool.not_false, q1] at e
    exact e.trans p1
  obtain ⟨M3, s1, s2, s3⟩ := M_lay (d := d - 1) (N := N) (by omega) (h.scr hs)
  have hs3 := hs.tr s3
  have e2 := e2 M1
  have hh2 := hh2 M1 hs
  by_cases hx1 : x = -nI 1
  · subst hx1
    obtain ⟨M4, t1, t2⟩ := M_turns_l (d := d - 1) (N := N) (o := none) (by omega) (by omega) h.ru4 rfl rfl (fun j hj => by cases hj) 1000 0 0 0 (gf a) M3 (by omega) (by omega) (fun z => z) (by omega) hg9 (h.scr hs3) s2
    simp (disch := omega) only [z0, z1, z2, z3, z4, z5, z6, z7, z8, z9, z10, z11, z12, z13, z14, z15, z16, z17, z18, z19, z20, z24, z26, z30, z31, z40, z41, z50, z54, z60, z70, z80, z81, z99, z100, z200, z255, z599, z1000, z1299, z4096, z1000000, lw0, lw1, lw2, lw3, lw4, lw5, lw6, lw7, lw12, lw50, lw99, lw255, lw599, lw4096, bI_ok, ble_t, Int.cast_ofNat_Int,  decide_true, decide_false, bI_0, bI_1, b_tf, b_ft, eq_self, n_1, n_2, n_3, n_4, n_5, n_6, n_7, n_8, if_true, if_false, jin, ncl, cond_true, cond_false, Option.bind_some, j_ov, j_oi, j_ol, nle, nlt, neq, nI_add, nmul, nsub, ndiv, nrem2, if_pos, if_neg, Nat.zero_add, Nat.add_zero, j_w_ap, decide_eq_true, decide_eq_false, Bool.true_or, Bool.or_true, Bool.false_or, Bool.or_false, Bool.and_true, Bool.true_and, Bool.false_and, Bool.and_false, Bool.not_true, Bool.not_false, c1] at e1
    simp (disch := omega) only [z0, z1, z2, z3, z4, z5, z6, z7, z8, z9, z10, z11, z12, z13, z14, z15, z16, z17, z18, z19, z20, z24, z26, z30, z31, z40, z41, z50, z54, z60, z70, z80, z81, z99, z100, z200, z255, z599, z1000, z1299, z4096, z1000000, lw0, lw1, lw2, lw3, lw4, lw5, lw6, lw7, lw12, lw50, lw99, lw255, lw599, lw4096, bI_ok, ble_t, Int.cast_ofNat_Int,  decide_true, decide_false, bI_0, bI_1, b_tf, b_ft, eq_self, n_1, n_2, n_3, n_4, n_5, n_6, n_7, n_8, if_true, if_false, jin, ncl, cond_true, cond_false, Option.bind_some, j_ov, j_oi, j_ol, nle, nlt, neq, nI_add, nmul, nsub, ndiv, nrem2, if_pos, if_neg, Nat.zero_add, Nat.add_zero, j_w_ap, decide_eq_true, decide_eq_false, Bool.true_or, Bool.or_true, Bool.false_or, Bool.or_false, Bool.and_true, Bool.true_and, Bool.false_and, Bool.and_false, Bool.not_true, Bool.not_false, s1] at e2
    exact ⟨_, _, _, eX10_turns (by omega) e1, eX11_turns (by omega) (e2.trans t1), hs3.tr t2⟩
  · cases h1 : ib x 0 ((n : Int) - 1) with
    | false =>
      simp (disch := omega) only [z0, z1, z2, z3, z4, z5, z6, z7, z8, z9, z10, z11, z12, z13, z14, z15, z16, z17, z18, z19, z20, z24, z26, z30, z31, z40, z41, z50, z54, z60, z70, z80, z81, z99, z100, z200, z255, z599, z1000, z1299, z4096, z1000000, lw0, lw1, lw2, lw3, lw4, lw5, lw6, lw7, lw12, lw50, lw99, lw255, lw599, lw4096, bI_ok, ble_t, Int.cast_ofNat_Int,  decide_true, decide_false, bI_0, bI_1, b_tf, b_ft, eq_self, n_1, n_2, n_3, n_4, n_5, n_6, n_7, n_8, if_true, if_false, jin, ncl, cond_true, cond_false, Option.bind_some, j_ov, j_oi, j_ol, nle, nlt, neq, nI_add, nmul, nsub, ndiv, nrem2, if_pos, if_neg, Nat.zero_add, Nat.add_zero, j_w_ap, decide_eq_true, decide_eq_false, Bool.true_or, Bool.or_true, Bool.false_or, Bool.or_false, Bool.and_true, Bool.true_and, Bool.false_and, Bool.and_false, Bool.not_true, Bool.not_false, hx1, hh, h1] at e1
      have hh3 := M_isGuest (d := d - 1) (N := N) (x := x) (M := M) (by omega) h.m6 (by omega)
      have e3 := bX11_turns_0 (d - 1) x M N
      simp (disch := omega) only [z0, z1, z2, z3, z4, z5, z6, z7, z8, z9, z10, z11, z12, z13, z14, z15, z16, z17, z18, z19, z20, z24, z26, z30, z31, z40, z41, z50, z54, z60, z70, z80, z81, z99, z100, z200, z255, z599, z1000, z1299, z4096, z1000000, lw0, lw1, lw2, lw3, lw4, lw5, lw6, lw7, lw12, lw50, lw99, lw255, lw599, lw4096, bI_ok, ble_t, Int.cast_ofNat_Int,  decide_true, decide_false, bI_0, bI_1, b_tf, b_ft, eq_self, n_1, n_2, n_3, n_4, n_5, n_6, n_7, n_8, if_true, if_false, jin, ncl, cond_true, cond_false, Option.bind_some, j_ov, j_oi, j_ol, nle, nlt, neq, nI_add, nmul, nsub, ndiv, nrem2, if_pos, if_neg, Nat.zero_add, Nat.add_zero, j_w_ap, decide_eq_true, decide_eq_false, Bool.true_or, Bool.or_true, Bool.false_or, Bool.or_false, Bool.and_true, Bool.true_and, Bool.false_and, Bool.and_false, Bool.not_true, Bool.not_false, hx1, hh3, h1] at e3
      exact ⟨_, _, _, eX10_turns (by omega) e1, eX11_turns (by omega) e3, Scr.rf⟩
    | true =>
      simp (disch := omega) only [z0, z1, z2, z3, z4, z5, z6, z7, z8, z9, z10, z11, z12, z13, z14, z15, z16, z17, z18, z19, z20, z24, z26, z30, z31, z40, z41, z50, z54, z60, z70, z80, z81, z99, z100, z200, z255, z599, z1000, z1299, z4096, z1000000, lw0, lw1, lw2, lw3, lw4, lw5, lw6, lw7, lw12, lw50, lw99, lw255, lw599, lw4096, bI_ok, ble_t, Int.cast_ofNat_Int,  decide_true, decide_false, bI_0, bI_1, b_tf, b_ft, eq_self, n_1, n_2, n_3, n_4, n_5, n_6, n_7, n_8, if_true, if_false, jin, ncl, cond_true, cond_false, Option.bind_some, j_ov, j_oi, j_ol, nle, nlt, neq, nI_add, nmul, nsub, ndiv, nrem2, if_pos, if_neg, Nat.zero_add, Nat.add_zero, j_w_ap, decide_eq_true, decide_eq_false, Bool.true_or, Bool.or_true, Bool.false_or, Bool.or_false, Bool.and_true, Bool.true_and, Bool.false_and, Bool.and_false, Bool.not_true, Bool.not_false, hx1, hh, h1, c1] at e1
      simp (disch := omega) only [z0, z1, z2, z3, z4, z5, z6, z7, z8, z9, z10, z11, z12, z13, z14, z15, z16, z17, z18, z19, z20, z24, z26, z30, z31, z40, z41, z50, z54, z60, z70, z80, z81, z99, z100, z200, z255, z599, z1000, z1299, z4096, z1000000, lw0, lw1, lw2, lw3, lw4, lw5, lw6, lw7, lw12, lw50, lw99, lw255, lw599, lw4096, bI_ok, ble_t, Int.cast_ofNat_Int,  decide_true, decide_false, bI_0, bI_1, b_tf, b_ft, eq_self, n_1, n_2, n_3, n_4, n_5, n_6, n_7, n_8, if_true, if_false, jin, ncl, cond_true, cond_false, Option.bind_some, j_ov, j_oi, j_ol, nle, nlt, neq, nI_add, nmul, nsub, ndiv, nrem2, if_pos, if_neg, Nat.zero_add, Nat.add_zero, j_w_ap, decide_eq_true, decide_eq_false, Bool.true_or, Bool.or_true, Bool.false_or, Bool.or_false, Bool.and_true, Bool.true_and, Bool.false_and, Bool.and_false, Bool.not_true, Bool.not_false, hx1, hh2, h1, s1] at e2
      obtain ⟨i, hi, rfl⟩ := ib_g h1 (by omega)
      have h9 := p2.2.2.2 i hi
      obtain ⟨M4, t1, t2⟩ := M_turns_l (d := d - 1) (N := N) (o := some i) (by omega) (by omega) h.ru4 rfl rfl (fun j hj => by cases hj; exact hi) 1000 0 0 0 (gf a) M3 (by omega) (by omega) (fun z => z) (by omega) hg9 (h.scr hs3) s2
      simp (disch := omega) only [z0, z1, z2, z3, z4, z5, z6, z7, z8, z9, z10, z11, z12, z13, z14, z15, z16, z17, z18, z19, z20, z24, z26, z30, z31, z40, z41, z50, z54, z60, z70, z80, z81, z99, z100, z200, z255, z599, z1000, z1299, z4096, z1000000, lw0, lw1, lw2, lw3, lw4, lw5, lw6, lw7, lw12, lw50, lw99, lw255, lw599, lw4096, bI_ok, ble_t, Int.cast_ofNat_Int,  decide_true, decide_false, bI_0, bI_1, b_tf, b_ft, eq_self, n_1, n_2, n_3, n_4, n_5, n_6, n_7, n_8, if_true, if_false, jin, ncl, cond_true, cond_false, Option.bind_some, j_ov, j_oi, j_ol, nle, nlt, neq, nI_add, nmul, nsub, ndiv, nrem2, if_pos, if_neg, Nat.zero_add, Nat.add_zero, j_w_ap, decide_eq_true, decide_eq_false, Bool.true_or, Bool.or_true, Bool.false_or, Bool.or_false, Bool.and_true, Bool.true_and, Bool.false_and, Bool.and_false, Bool.not_true, Bool.not_false, h9] at e1
      exact ⟨_, _, _, eX10_turns (by omega) e1, eX11_turns (by omega) (e2.trans t1), hs3.tr t2⟩
end TU
