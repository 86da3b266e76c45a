/-! ===== fits (own text) ===== -/
def fb (F : Nat → Int32) : Nat → Nat → Int32 → Int32
  | 0, _, acc => acc
  | j + 1, k, acc => if F k = -2 then fb F j (k + 1) (acc ||| ((1) <<< (nI k &&& 31))) else fb F j (k + 1) (acc ||| 0)
section OU
variable {d n nb s l k t rule : Nat} {a : Nat → Nat} {M M' : j_M} {N : j_N} {x y z : Int32}
theorem X_fb (hd : 10 ≤ d) (hs : s < 6) (hl : l ≤ 60) : ∀ (j k : Nat) (acc : Int32) (M : j_M), k + j = 5 → IG n a M → M (34 + 2 * s) 2 = nI l → ∃ M', R d kX7_rulesThatFit 4 [.ref 21, .ref (34 + 2 * s), .int acc, .int (nI k)] [] (S0, M, N) = some (some (.int (fb (fun r => fwr (N (35 + 2 * s)) (s_cost n (gf a) (a 24) r) (mn n l) 0) j k acc)), (S0, M', N)) ∧ Scr M M'
  | 0, k, acc, M, hk, h, h2 => by
    have e := bX7_rulesThatFit_4 d (34 + 2 * s) acc (nI k) M N
    rw [if_pos (show 5 ≤ nI k by rw [show (5 : Int32) = nI 5 from rfl, nle (by omega) (by omega)]; omega)] at e
    exact ⟨M, e, Scr.rf⟩
  | j + 1, k, acc, M, hk, h, h2 => by
    have e := bX7_rulesThatFit_4 d (34 + 2 * s) acc (nI k) M N
    obtain ⟨M1, q1, q2⟩ := X_fw (d := d) (N := N) (rule := k) hd h hs hl h2 (by omega)
    have m2 : M1 (34 + 2 * s) 2 = nI l := ((Fg.ofs (gs := []) q2).sg (i := 8) (by decide) rfl _ _ (grp_sh hs)).trans h2
    rw [if_neg (show ¬ 5 ≤ nI k by rw [show (5 : Int32) = nI 5 from rfl, nle (by omega) (by omega)]; omega), q1, Option.bind_some, j_oi] at e
    dsimp only at e
    rw [show nI k + 1 = nI (k + 1) from nI_1 k] at e
    by_cases c : fwr (N (35 + 2 * s)) (s_cost n (gf a) (a 24) k) (mn n l) 0 = -2
    · obtain ⟨M2, p1, p2⟩ := X_fb hd hs hl j (k + 1) (acc ||| ((1) <<< (nI k &&& 31))) M1 (by omega) (h.scr q2) m2
      rw [if_pos c, p1] at e
      refine ⟨M2, e.trans ?_, q2.tr p2⟩
      show _ = some (some (Value.int (if fwr (N (35 + 2 * s)) (s_cost n (gf a) (a 24) k) (mn n l) 0 = -2 then _ else _)), (S0, M2, N))
      rw [if_pos c]
    · obtain ⟨M2, p1, p2⟩ := X_fb hd hs hl j (k + 1) (acc ||| 0) M1 (by omega) (h.scr q2) m2
      rw [if_neg c, p1] at e
      refine ⟨M2, e.trans ?_, q2.tr p2⟩
      show _ = some (some (Value.int (if fwr (N (35 + 2 * s)) (s_cost n (gf a) (a 24) k) (mn n l) 0 = -2 then _ else _)), (S0, M2, N))
      rw [if_neg c]
theorem M_fb (hd : 10 ≤ d) (hs : s < 6) (hl : l ≤ 60) : ∀ (j k : Nat) (acc : Int32) (M : j_M), k + j = 5 → IG n a M → M 67 s = nI l → ∃ M', R d kX11_fits 18 [.ref 46, .int (nI s), .int acc, .int (nI k)] [] (S0, M, N) = some (some (.int (fb (fun r => fwr (fun i => N 68 (60 * s + i)) (s_cost n (gf a) (a 24) r) (mn n l) 0) j k acc)), (S0, M', N)) ∧ Scr M M'
  | 0, k, acc, M, hk, h, h2 => by
    have e := bX11_fits_18 d (nI s) acc (nI k) M N
    rw [if_pos (show 5 ≤ nI k by rw [show (5 : Int32) = nI 5 from rfl, nle (by omega) (by omega)]; omega)] at e
    exact ⟨M, e, Scr.rf⟩
  | j + 1, k, acc, M, hk, h, h2 => by
    have e := bX11_fits_18 d (nI s) acc (nI k) M N
    obtain ⟨M1, q1, q2⟩ := M_fw (d := d) (N := N) (rule := k) hd h hs hl h2 (by omega)
    have m2 : M1 67 s = nI l := ((Fg.ofs (gs := []) q2).sg (i := 8) (by decide) rfl 67 s rfl).trans h2
    rw [if_neg (show ¬ 5 ≤ nI k by rw [show (5 : Int32) = nI 5 from rfl, nle (by omega) (by omega)]; omega), q1, Option.bind_some, j_oi] at e
    dsimp only at e
    rw [show nI k + 1 = nI (k + 1) from nI_1 k] at e
    by_cases c : fwr (fun i => N 68 (60 * s + i)) (s_cost n (gf a) (a 24) k) (mn n l) 0 = -2
    · obtain ⟨M2, p1, p2⟩ := M_fb hd hs hl j (k + 1) (acc ||| ((1) <<< (nI k &&& 31))) M1 (by omega) (h.scr q2) m2
      rw [if_pos c, p1] at e
      refine ⟨M2, e.trans ?_, q2.tr p2⟩
      show _ = some (some (Value.int (if fwr (fun i => N 68 (60 * s + i)) (s_cost n (gf a) (a 24) k) (mn n l) 0 = -2 then _ else _)), (S0, M2, N))
      rw [if_pos c]
    · obtain ⟨M2, p1, p2⟩ := M_fb hd hs hl j (k + 1) (acc ||| 0) M1 (by omega) (h.scr q2) m2
      rw [if_neg c, p1] at e
      refine ⟨M2, e.trans ?_, q2.tr p2⟩
      show _ = some (some (Value.int (if fwr (fun i => N 68 (60 * s + i)) (s_cost n (gf a) (a 24) k) (mn n l) 0 = -2 then _ else _)), (S0, M2, N))
      rw [if_neg c]
theorem P_fits : OpI 131 220 [.int x] := by
  intro d M N hd hI
  have hI0 := hI
  obtain ⟨n, a, m, pr, jo, nb, h1, h2, h3, h4, h5, h6, h7, h8⟩ := hI
  have e1 := bX10_fits_0 (d - 1) x M N
  have e2 := fun M1 => bX11_fits_0 (d - 1) x M1 N
  cases hx : ib x 0 5 with
  | false =>
    have e2 := e2 M
    have t1 := bX10_refusalOfTold_0 (d - 1 - 1) x M N
    have t2 := bX11_hatIs_0 (d - 1 - 1) x M N
    simp (disch := omega) only [z0, z1, z2, z3, z4, z5, z6, z7, z8, z9, z10, z11, z12, z13, z14, z15, z16, z17, z18, z19, z20, z24, z26, z30, z31, z40, z41, z50, z54, z60, z70, z80, z81, z99, z100, z200, z255, z599, z1000, z1299, z4096, z1000000, lw0, lw1, lw2, lw3, lw4, lw5, lw6, lw7, lw12, lw50, lw99, lw255, lw599, lw4096, bI_ok, ble_t, Int.cast_ofNat_Int,  decide_true, decide_false, bI_0, bI_1, b_tf, b_ft, eq_self, n_1, n_2, n_3, n_4, n_5, n_6, n_7, n_8, if_true, if_false, jin, ncl, cond_true, cond_false, Option.bind_some, j_ov, j_oi, j_ol, nle, nlt, neq, nI_add, nmul, nsub, ndiv, nrem2, if_pos, if_neg, Nat.zero_add, Nat.add_zero, j_w_ap, decide_eq_true, decide_eq_false, Bool.true_or, Bool.or_true, Bool.false_or, Bool.or_false, Bool.and_true, Bool.true_and, Bool.false_and, Bool.and_false, Bool.not_true, Bool.not_false, X_isShelf, hx] at t1
    simp (disch := omega) only [z0, z1, z2, z3, z4, z5, z6, z7, z8, z9, z10, z11, z12, z13, z14, z15, z16, z17, z18, z19, z20, z24, z26, z30, z31, z40, z41, z50, z54, z60, z70, z80, z81, z99, z100, z200, z255, z599, z1000, z1299, z4096, z1000000, lw0, lw1, lw2, lw3, lw4, lw5, lw6, lw7, lw12, lw50, lw99, lw255, lw599, lw4096, bI_ok, ble_t, Int.cast_ofNat_Int,  decide_true, decide_false, bI_0, bI_1, b_tf, b_ft, eq_self, n_1, n_2, n_3, n_4, n_5, n_6, n_7, n_8, if_true, if_false, jin, ncl, cond_true, cond_false, Option.bind_some, j_ov, j_oi, j_ol, nle, nlt, neq, nI_add, nmul, nsub, ndiv, nrem2, if_pos, if_neg, Nat.zero_add, Nat.add_zero, j_w_ap, decide_eq_true, decide_eq_false, Bool.true_or, Bool.or_true, Bool.false_or, Bool.or_false, Bool.and_true, Bool.true_and, Bool.false_and, Bool.and_false, Bool.not_true, Bool.not_false, M_isShelf, hx] at t2
    have t1 := eX10_refusalOfTold (d := d - 1) (by omega) t1
    have t2 := eX11_hatIs (d := d - 1) (by omega) t2
    simp (disch := omega) only [z0, z1, z2, z3, z4, z5, z6, z7, z8, z9, z10, z11, z12, z13, z14, z15, z16, z17, z18, z19, z20, z24, z26, z30, z31, z40, z41, z50, z54, z60, z70, z80, z81, z99, z100, z200, z255, z599, z1000, z1299, z4096, z1000000, lw0, lw1, lw2, lw3, lw4, lw5, lw6, lw7, lw12, lw50, lw99, lw255, lw599, lw4096, bI_ok, ble_t, Int.cast_ofNat_Int,  decide_true, decide_false, bI_0, bI_1, b_tf, b_ft, eq_self, n_1, n_2, n_3, n_4, n_5, n_6, n_7, n_8, if_true, if_false, jin, ncl, cond_true, cond_false, Option.bind_some, j_ov, j_oi, j_ol, nle, nlt, neq, nI_add, nmul, nsub, ndiv, nrem2, if_pos, if_neg, Nat.zero_add, Nat.add_zero, j_w_ap, decide_eq_true, decide_eq_false, Bool.true_or, Bool.or_true, Bool.false_or, Bool.or_false, Bool.and_true, Bool.true_and, Bool.false_and, Bool.and_false, Bool.not_true, Bool.not_false, t1] at e1
    simp (disch := omega) only [z0, z1, z2, z3, z4, z5, z6, z7, z8, z9, z10, z11, z12, z13, z14, z15, z16, z17, z18, z19, z20, z24, z26, z30, z31, z40, z41, z50, z54, z60, z70, z80, z81, z99, z100, z200, z255, z599, z1000, z1299, z4096, z1000000, lw0, lw1, lw2, lw3, lw4, lw5, lw6, lw7, lw12, lw50, lw99, lw255, lw599, lw4096, bI_ok, ble_t, Int.cast_ofNat_Int,  decide_true, decide_false, bI_0, bI_1, b_tf, b_ft, eq_self, n_1, n_2, n_3, n_4, n_5, n_6, n_7, n_8, if_true, if_false, jin, ncl, cond_true, cond_false, Option.bind_some, j_ov, j_oi, j_ol, nle, nlt, neq, nI_add, nmul, nsub, ndiv, nrem2, if_pos, if_neg, Nat.zero_add, Nat.add_zero, j_w_ap, decide_eq_true, decide_eq_false, Bool.true_or, Bool.or_true, Bool.false_or, Bool.or_false, Bool.and_true, Bool.true_and, Bool.false_and, Bool.and_false, Bool.not_true, Bool.not_false, t2] at e2
    exact ⟨_, _, _, _, _, eX10_fits (by omega) e1, eX11_fits (by omega) e2, hI0⟩
  | true =>
    obtain ⟨s, -, hs, rfl⟩ := ib_ex (lo := 0) (hi := 5) hx (by omega)
    have hs6 : s < 6 := by omega
    rcases O_told (d := d - 1) (by omega) h7.1 hs6 (h8 s hs6) with ⟨k, k0, k20, t1, t2⟩ | ⟨t1, t2⟩
    · have e2 := e2 M
      simp (disch := omega) only [z0, z1, z2, z3, z4, z5, z6, z7, z8, z9, z10, z11, z12, z13, z14, z15, z16, z17, z18, z19, z20, z24, z26, z30, z31, z40, z41, z50, z54, z60, z70, z80, z81, z99, z100, z200, z255, z599, z1000, z1299, z4096, z1000000, lw0, lw1, lw2, lw3, lw4, lw5, lw6, lw7, lw12, lw50, lw99, lw255, lw599, lw4096, bI_ok, ble_t, Int.cast_ofNat_Int,  decide_true, decide_false, bI_0, bI_1, b_tf, b_ft, eq_self, n_1, n_2, n_3, n_4, n_5, n_6, n_7, n_8, if_true, if_false, jin, ncl, cond_true, cond_false, Option.bind_some, j_ov, j_oi, j_ol, nle, nlt, neq, nI_add, nmul, nsub, ndiv, nrem2, if_pos, if_neg, Nat.zero_add, Nat.add_zero, j_w_ap, decide_eq_true, decide_eq_false, Bool.true_or, Bool.or_true, Bool.false_or, Bool.or_false, Bool.and_true, Bool.true_and, Bool.false_and, Bool.and_false, Bool.not_true, Bool.not_false, t1] at e1
      simp (disch := omega) only [z0, z1, z2, z3, z4, z5, z6, z7, z8, z9, z10, z11, z12, z13, z14, z15, z16, z17, z18, z19, z20, z24, z26, z30, z31, z40, z41, z50, z54, z60, z70, z80, z81, z99, z100, z200, z255, z599, z1000, z1299, z4096, z1000000, lw0, lw1, lw2, lw3, lw4, lw5, lw6, lw7, lw12, lw50, lw99, lw255, lw599, lw4096, bI_ok, ble_t, Int.cast_ofNat_Int,  decide_true, decide_false, bI_0, bI_1, b_tf, b_ft, eq_self, n_1, n_2, n_3, n_4, n_5, n_6, n_7, n_8, if_true, if_false, jin, ncl, cond_true, cond_false, Option.bind_some, j_ov, j_oi, j_ol, nle, nlt, neq, nI_add, nmul, nsub, ndiv, nrem2, if_pos, if_neg, Nat.zero_add, Nat.add_zero, j_w_ap, decide_eq_true, decide_eq_false, Bool.true_or, Bool.or_true, Bool.false_or, Bool.or_false, Bool.and_true, Bool.true_and, Bool.false_and, Bool.and_false, Bool.not_true, Bool.not_false, t2] at e2
      exact ⟨_, _, _, _, _, eX10_fits (by omega) e1, eX11_fits (by omega) e2, hI0⟩
    · obtain ⟨⟨l, l1, l2, l3⟩, hN, -⟩ := h8 s hs6
      obtain ⟨M1, q1, q2⟩ := X_fb (d := d - 1 - 1) (n := n) (a := a) (N := N) (by omega) hs6 l1 5 0 (nI 0) M (by omega) h1 l2
      have q0 := eX7_rulesThatFit (d := d - 1) (by omega) ((bX7_rulesThatFit_0 (d - 1 - 1) (34 + 2 * s) M N).trans q1)
      have e2 := e2 M1
      have m66 : M1 66 s = M 66 s := (Fg.ofs (gs := []) q2).sg (i := 8) (by decide) rfl 66 s rfl
      have m67 : M1 67 s = nI l := ((Fg.ofs (gs := []) q2).sg (i := 8) (by decide) rfl 67 s rfl).trans l3
      have t2 := t2 M1 m66
      obtain ⟨M2, p1, p2⟩ := M_fb (d := d - 1) (n := n) (a := a) (N := N) (by omega) hs6 l1 5 0 (nI 0) M1 (by omega) (h1.scr q2) m67
      have hF : (fun r => fwr (N (35 + 2 * s)) (s_cost n (gf a) (a 24) r) (mn n l) 0) = fun r => fwr (fun i => N 68 (60 * s + i)) (s_cost n (gf a) (a 24) r) (mn n l) 0 := funext fun r => fwr_eq (mn n l) 0 (fun q hq => hN q (by unfold mn at hq; split at hq <;> omega))
      rw [hF] at q0
      simp (disch := omega) only [z0, z1, z2, z3, z4, z5, z6, z7, z8, z9, z10, z11, z12, z13, z14, z15, z16, z17, z18, z19, z20, z24, z26, z30, z31, z40, z41, z50, z54, z60, z70, z80, z81, z99, z100, z200, z255, z599, z1000, z1299, z4096, z1000000, lw0, lw1, lw2, lw3, lw4, lw5, lw6, lw7, lw12, lw50, lw99, lw255, lw599, lw4096, bI_ok, ble_t, Int.cast_ofNat_Int,  decide_true, decide_false, bI_0, bI_1, b_tf, b_ft, eq_self, n_1, n_2, n_3, n_4, n_5, n_6, n_7, n_8, if_true, if_false, jin, ncl, cond_true, cond_false, Option.bind_some, j_ov, j_oi, j_ol, nle, nlt, neq, nI_add, nmul, nsub, ndiv, nrem2, if_pos, if_neg, Nat.zero_add, Nat.add_zero, j_w_ap, decide_eq_true, decide_eq_false, Bool.true_or, Bool.or_true, Bool.false_or, Bool.or_false, Bool.and_true, Bool.true_and, Bool.false_and, Bool.and_false, Bool.not_true, Bool.not_false, t1, shc, iss, gtd, q0] at e1
      simp (disch := omega) only [z0, z1, z2, z3, z4, z5, z6, z7, z8, z9, z10, z11, z12, z13, z14, z15, z16, z17, z18, z19, z20, z24, z26, z30, z31, z40, z41, z50, z54, z60, z70, z80, z81, z99, z100, z200, z255, z599, z1000, z1299, z4096, z1000000, lw0, lw1, lw2, lw3, lw4, lw5, lw6, lw7, lw12, lw50, lw99, lw255, lw599, lw4096, bI_ok, ble_t, Int.cast_ofNat_Int,  decide_true, decide_false, bI_0, bI_1, b_tf, b_ft, eq_self, n_1, n_2, n_3, n_4, n_5, n_6, n_7, n_8, if_true, if_false, jin, ncl, cond_true, cond_false, Option.bind_some, j_ov, j_oi, j_ol, nle, nlt, neq, nI_add, nmul, nsub, ndiv, nrem2, if_pos, if_neg, Nat.zero_add, Nat.add_zero, j_w_ap, decide_eq_true, decide_eq_false, Bool.true_or, Bool.or_true, Bool.false_or, Bool.or_false, Bool.and_true, Bool.true_and, Bool.false_and, Bool.and_false, Bool.not_true, Bool.not_false, t2, p1] at e2
      exact ⟨_, _, _, _, _, eX10_fits (by omega) e1, eX11_fits (by omega) e2, hI0.scr (q2.tr p2)⟩
end OU
