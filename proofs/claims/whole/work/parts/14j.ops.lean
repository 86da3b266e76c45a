/-! ===== mend (own text) ===== -/
section OJ
variable {d n g b bill rule dn o v w m nb : Nat} {a pr jo : Nat → Nat} {M : j_M} {N : j_N} {x y z u : Int32}
theorem O_chg {e : Nat} (hd : 10 ≤ d) (he : 1 ≤ e) (h1 : IG n a M) (h2 : IP n M) (h3 : IM m pr jo M) (h4 : IL M) (h5 : IC n M) (h6 : II n M) (h7 : IB nb M) (h8 : IS nb M N) (ho : okw n w v) (ho2 : okw n w (a w)) (hne : a w ≠ v) : ∃ A B, C d 20 [.ref 1, .int (nI (nu w)), .int (nI (wh' w)), .int (nI v)] S0 M N = some (none, tw M w (nI v), N) ∧ C d 11 [.ref 22, .int (nI (nu w)), .int (nI (wh' w)), .int (nI (a w)), .int (nI v)] S0 (tw M w (nI v)) N = some (none, A, N) ∧ C e 157 [.ref 46, .int (nI w), .int (nI v)] S0 A N = some (some (.int (nI (a w))), B, N) ∧ Inv B N ∧ A 46 6 = nI n ∧ ∀ k, k < 27 → A 47 k = nI (a k) := by
  obtain ⟨dn, kp, c1, c2, c3, c4, c5, c6, c7⟩ := h5
  have hw := ho.1
  have t := X_tell (d := d) (M := M) (N := N) (x := nI v) (by omega) hw
  have rl : ∀ k, k < 27 → Rg k < 1000 := fun k hk => by unfold Rg; split <;> (try split) <;> (try split) <;> (try split) <;> (try split) <;> omega
  have r1 := rl w hw
  have r2 := ho.2.2.1
  have r3 := ho2.2.2.1
  obtain ⟨A, q1, q2, q3, q4, q5, q6, q7, q8, q9⟩ := X_note (d := d) (N := N) (dn := dn) (M := tw M w (nI v)) (x := nI (nu w)) (y := nI (wh' w)) (z := nI (a w)) (u := nI v) (by omega) (by omega) ((tw_off (c := 22) (k := 4) hw (by decide)).trans c3)
  have hm := h1.may w hw
  have Aoff : ∀ c k, grp c k ≠ 1 → c < 22 ∨ 26 < c → A c k = M c k := fun c k hg hc => (q4 c k hc).trans (tw_off hw hg)
  have a47' : ∀ k, k < 27 → A 47 k = nI (a k) := fun k hk => by
    have hm := h1.may k hk
    rw [q4 47 k (by omega)]
    unfold tw
    split <;> (try split) <;> (try split) <;> (try split) <;> (try split) <;> (try split) <;> rw [j_w_ap, if_neg (by omega)] <;> exact hm
  have a47 := a47' w hw
  have a466 : A 46 6 = nI n := by
    rw [q4 46 6 (by omega)]
    unfold tw
    split <;> (try split) <;> (try split) <;> (try split) <;> (try split) <;> (try split) <;> rw [j_w_ap, if_neg (by omega)] <;> exact h1.2.2.2.2.1
  obtain ⟨B, p1, p2, p3, p4, p5, p6, p7, p8⟩ := M_becomes (d := e) (N := N) (dn := dn) (M := A) (o := a w) (v := v) (by omega) (by omega) hw ((Aoff 46 5 (by decide) (by omega)).trans c5) a47 (fun z => hne (by rw [← Int32.toInt_inj, nI_toInt (by omega), nI_toInt (by omega)] at z; omega))
  have key : ∀ c k, grp c k ≠ 5 → B c k = j_w (tw M w (nI v)) 47 w (nI v) c k := fun c k hg => by
    rw [p4 c k (fun z => hg (by rw [z]; rfl)) (fun z => hg (by rw [z]; rfl)) (fun z => hg (by rw [z]; rfl)) (fun z => hg (by rw [z.1]; rcases z.2 with z | z <;> rw [z] <;> rfl))]
    rw [j_w_ap, j_w_ap, q4 c k]
    have z1 : ∀ e, (e = 22 ∨ e = 23 ∨ e = 24 ∨ e = 25 ∨ e = 26) → c ≠ e := fun e he hc => hg (by rw [hc]; rcases he with rfl | rfl | rfl | rfl | rfl <;> rfl)
    have z2 := z1 22 (by omega)
    have z3 := z1 23 (by omega)
    have z4 := z1 24 (by omega)
    have z5 := z1 25 (by omega)
    have z6 := z1 26 (by omega)
    omega
  have hf : Fg [1, 5] M B := by
    intro c k hg0 hg
    have g1 : grp c k ≠ 1 := fun z => by rw [z] at hg; cases hg
    have g5 : grp c k ≠ 5 := fun z => by rw [z] at hg; cases hg
    rw [key c k g5, j_w_ap, if_neg (fun z => g1 (by rw [z]; rfl)), tw_off hw g1]
  have hpn : pN dn < 40 := by unfold pN; split <;> omega
  refine ⟨A, B, t, q1, p1, ⟨n, up a w v, m, pr, jo, nb, (h1.told ho).g (fun c k hg => key c k (by omega)), h2.g (hf.sg (by decide) rfl), h3.g (hf.sg (by decide) rfl), h4.g (hf.sg (by decide) rfl), ⟨pN dn + 1, pN dn + 1, by omega, by omega, ?_, ?_, p2, p3, fun q hq => ?_⟩, h6.g (hf.sg (by decide) rfl), h7.g (hf.sg (by decide) rfl), h8.g (hf.sg (by decide) rfl)⟩, a466, a47'⟩
  · rw [p4 22 4 (by omega) (by omega) (by omega) (by omega), j_w_ap, if_neg (by omega)]; exact q2
  · rw [p4 22 5 (by omega) (by omega) (by omega) (by omega), j_w_ap, if_neg (by omega)]; exact q3
  · have hB : ∀ c k, 23 ≤ c → c ≤ 26 → B c k = A c k := fun c k z1 z2 => by
      rw [p4 c k (by omega) (by omega) (by omega) (by omega), j_w_ap, if_neg (by omega)]
    by_cases hqp : q = pN dn
    · rw [hqp]
      refine ⟨w, a w, v, ho2, ho, p5, p6, p7, ?_, ?_, ?_, ?_⟩
      · rw [hB 25 _ (by omega) (by omega)]; exact q7
      · rw [hB 26 _ (by omega) (by omega)]; exact q8
      · rw [hB 24 _ (by omega) (by omega)]; exact q6
      · rw [hB 23 _ (by omega) (by omega)]; exact q5
    · have hq2 : q < pN dn := by omega
      have hs : sN dn q < kp := by
        unfold pN at hq2
        unfold sN
        split
        · rename_i hz; rw [if_pos hz] at hq2; omega
        · rename_i hz; rw [if_neg hz] at hq2; omega
      obtain ⟨w2, was2, is2, y1, y2, y3, y4, y5, y6, y7, y8, y9⟩ := c7 (sN dn q) hs
      have hA : ∀ c k, grp c k ≠ 1 → 23 ≤ c → c ≤ 26 → B c q = M c (sN dn q) := fun c k hg z1 z2 => by
        rw [hB c q z1 z2, q9 c q z1 z2 hq2]
        refine tw_off hw (fun z => ?_)
        have z3 : c = 23 ∨ c = 24 ∨ c = 25 ∨ c = 26 := by omega
        rcases z3 with rfl | rfl | rfl | rfl <;> cases z
      have hM : ∀ c, (c = 48 ∨ c = 49 ∨ c = 50) → B c q = M c (sN dn q) := fun c hc => by
        rw [p8 c q hc hq2]
        refine Aoff c _ (fun z => ?_) (by omega)
        rcases hc with rfl | rfl | rfl <;> cases z
      exact ⟨w2, was2, is2, y1, y2, (hM 48 (by omega)).trans y3, (hM 49 (by omega)).trans y4, (hM 50 (by omega)).trans y5, (hA 25 0 (show (5 : Nat) ≠ 1 by omega) (by omega) (by omega)).trans y6, (hA 26 0 (show (5 : Nat) ≠ 1 by omega) (by omega) (by omega)).trans y7, (hA 24 0 (show (5 : Nat) ≠ 1 by omega) (by omega) (by omega)).trans y8, (hA 23 0 (show (5 : Nat) ≠ 1 by omega) (by omega) (by omega)).trans y9⟩
/-- both sides of a mending that is allowed -/
theorem O_mend (hd : 20 ≤ d) (h1 : IG n a M) (h2 : IP n M) (h3 : IM m pr jo M) (h4 : IL M) (h5 : IC n M) (h6 : II n M) (h7 : IB nb M) (h8 : IS nb M N) (ho : okw n w v) (ho2 : okw n w (a w)) (hal : C (d - 1) 18 [.ref 1, .int (nI (nu w)), .int (nI (wh' w)), .int (nI v)] S0 M N = some (some (.int (nI 1)), M, N)) : ∃ A B, C d 110 [.ref 0, .int (nI (nu w)), .int (nI (wh' w)), .int (nI v)] S0 M N = some (some (.int (nI (a w))), A, N) ∧ C (d - 1) 157 [.ref 46, .int (nI w), .int (nI v)] S0 A N = some (some (.int (nI (a w))), B, N) ∧ Inv B N ∧ A 46 6 = nI n ∧ ∀ k, k < 27 → A 47 k = nI (a k) := by
  have hw := ho.1
  have e := bX10_mend_0 (d - 1) (nI (nu w)) (nI (wh' w)) (nI v) M N
  have tl := X_told (d := d - 1) (N := N) (by omega) hw h1
  have rl : ∀ k, k < 27 → Rg k < 1000 := fun k hk => by unfold Rg; split <;> (try split) <;> (try split) <;> (try split) <;> (try split) <;> omega
  have r1 := rl w hw
  have r2 := ho.2.2.1
  have r3 := ho2.2.2.1
  by_cases hne : a w = v
  · simp (disch := omega) only [z0, z1, z2, z3, z4, z5, z6, z7, z8, z9, z10, z11, z12, z13, z14, z15, z16, z17, z18, z19, z20, z24, z26, z30, z31, z40, z41, z50, z54, z60, z70, z80, z81, z99, z100, z200, z255, z599, z1000, z1299, z4096, z1000000, lw0, lw1, lw2, lw3, lw4, lw5, lw6, lw7, lw12, lw50, lw99, lw255, lw599, lw4096, bI_ok, ble_t, Int.cast_ofNat_Int,  decide_true, decide_false, bI_0, bI_1, b_tf, b_ft, eq_self, n_1, n_2, n_3, n_4, n_5, n_6, n_7, n_8, if_true, if_false, jin, ncl, cond_true, cond_false, Option.bind_some, j_ov, j_oi, j_ol, nle, nlt, neq, nI_add, nmul, nsub, ndiv, nrem2, if_pos, if_neg, Nat.zero_add, Nat.add_zero, j_w_ap, decide_eq_true, decide_eq_false, Bool.true_or, Bool.or_true, Bool.false_or, Bool.or_false, Bool.and_true, Bool.true_and, Bool.false_and, Bool.and_false, Bool.not_true, Bool.not_false, hal, tl, hne] at e
    have e2 := bX11_becomes_0 (d - 1 - 1) (nI w) (nI v) M N
    have hm := h1.may w hw
    simp (disch := omega) only [z0, z1, z2, z3, z4, z5, z6, z7, z8, z9, z10, z11, z12, z13, z14, z15, z16, z17, z18, z19, z20, z24, z26, z30, z31, z40, z41, z50, z54, z60, z70, z80, z81, z99, z100, z200, z255, z599, z1000, z1299, z4096, z1000000, lw0, lw1, lw2, lw3, lw4, lw5, lw6, lw7, lw12, lw50, lw99, lw255, lw599, lw4096, bI_ok, ble_t, Int.cast_ofNat_Int,  decide_true, decide_false, bI_0, bI_1, b_tf, b_ft, eq_self, n_1, n_2, n_3, n_4, n_5, n_6, n_7, n_8, if_true, if_false, jin, ncl, cond_true, cond_false, Option.bind_some, j_ov, j_oi, j_ol, nle, nlt, neq, nI_add, nmul, nsub, ndiv, nrem2, if_pos, if_neg, Nat.zero_add, Nat.add_zero, j_w_ap, decide_eq_true, decide_eq_false, Bool.true_or, Bool.or_true, Bool.false_or, Bool.or_false, Bool.and_true, Bool.true_and, Bool.false_and, Bool.and_false, Bool.not_true, Bool.not_false, hm, hne] at e2
    rw [hne]
    exact ⟨_, _, eX10_mend (by omega) e, eX11_becomes (by omega) e2, ⟨n, a, m, pr, jo, nb, h1, h2, h3, h4, h5, h6, h7, h8⟩, h1.2.2.2.2.1, fun k hk => h1.may k hk⟩
  · obtain ⟨A, B, q1, q2, q3, q4, q5, q6⟩ := O_chg (d := d - 1) (e := d - 1) (by omega) (by omega) h1 h2 h3 h4 h5 h6 h7 h8 ho ho2 hne
    simp (disch := omega) only [z0, z1, z2, z3, z4, z5, z6, z7, z8, z9, z10, z11, z12, z13, z14, z15, z16, z17, z18, z19, z20, z24, z26, z30, z31, z40, z41, z50, z54, z60, z70, z80, z81, z99, z100, z200, z255, z599, z1000, z1299, z4096, z1000000, lw0, lw1, lw2, lw3, lw4, lw5, lw6, lw7, lw12, lw50, lw99, lw255, lw599, lw4096, bI_ok, ble_t, Int.cast_ofNat_Int,  decide_true, decide_false, bI_0, bI_1, b_tf, b_ft, eq_self, n_1, n_2, n_3, n_4, n_5, n_6, n_7, n_8, if_true, if_false, jin, ncl, cond_true, cond_false, Option.bind_some, j_ov, j_oi, j_ol, nle, nlt, neq, nI_add, nmul, nsub, ndiv, nrem2, if_pos, if_neg, Nat.zero_add, Nat.add_zero, j_w_ap, decide_eq_true, decide_eq_false, Bool.true_or, Bool.or_true, Bool.false_or, Bool.or_false, Bool.and_true, Bool.true_and, Bool.false_and, Bool.and_false, Bool.not_true, Bool.not_false, hal, tl, hne, q1, q2] at e
    exact ⟨A, B, eX10_mend (by omega) e, q3, q4, q5, q6⟩
end OJ
