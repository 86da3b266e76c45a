/-! ===== undo, redo, mend (own text) ===== -/
section OH
variable {d n g b bill rule : Nat} {a : Nat → Nat} {M : j_M} {N : j_N} {x y z u : Int32}
theorem sw5 {X : j_M} {w k5 : Nat} (h5 : k5 = 5 ∨ k5 = 4) : Sg 1 (j_w X 47 w z) (j_w (j_w X 46 k5 y) 47 w z) := by
  intro c k hg
  have hne : ¬ (c = 46 ∧ k = k5) := fun ⟨h1, h2⟩ => by
    rw [h1, h2] at hg
    rcases h5 with rfl | rfl <;> cases hg
  have key : j_w X 46 k5 y c k = X c k := by
    rw [j_w_ap]
    by_cases hc : c = 46
    · rw [if_pos hc, if_neg (fun hz => hne ⟨hc, hz⟩)]
    · rw [if_neg hc]
  rw [j_w_ap (j_w X 46 k5 y), key, j_w_ap X 47]
theorem tw_off {w c k : Nat} (hw : w < 27) (hc : grp c k ≠ 1) : tw M w x c k = M c k := by
  unfold tw
  have h2 : ¬ c = 2 := fun h => hc (by rw [h]; rfl)
  have h3 : ¬ c = 3 := fun h => hc (by rw [h]; rfl)
  have h4 : ¬ c = 4 := fun h => hc (by rw [h]; rfl)
  have h5 : ¬ c = 5 := fun h => hc (by rw [h]; rfl)
  have h1 : ∀ j, (j = 7 ∨ j = 8 ∨ j = 9) → ¬ (c = 1 ∧ k = j) := fun j hj ⟨z1, z2⟩ => hc (by rw [z1, z2]; rcases hj with rfl | rfl | rfl <;> rfl)
  have hh : ∀ j, (j = 7 ∨ j = 8 ∨ j = 9) → j_w M 1 j x c k = M c k := fun j hj => by
    rw [j_w_ap]
    by_cases hc1 : c = 1
    · rw [if_pos hc1, if_neg (fun z => h1 j hj ⟨hc1, z⟩)]
    · rw [if_neg hc1]
  rcases w7 hw with h | ⟨h0, h⟩ | ⟨h0, h⟩ | ⟨h0, h⟩ | h | h | h
  · rw [if_pos h, j_w_ap, if_neg h2]
  · rw [if_neg (by omega), if_pos h, j_w_ap, if_neg h3]
  · rw [if_neg (by omega), if_neg (by omega), if_pos h, j_w_ap, if_neg h4]
  · rw [if_neg (by omega), if_neg (by omega), if_neg (by omega), if_pos h, j_w_ap, if_neg h5]
  · rw [h]; exact hh 7 (by omega)
  · rw [h]; exact hh 8 (by omega)
  · rw [h]; exact hh 9 (by omega)
theorem P_undo : OpI 135 158 [] := by
  intro d M N hd hI
  obtain ⟨n, a, m, pr, jo, nb, h1, h2, h3, h4, ⟨dn, kp, c1, c2, c3, c4, c5, c6, c7⟩, h6, h7, h8⟩ := hI
  have e1 := bX10_undo_0 (d - 1) M N
  have e0 := bX1_takeBack_0 (d - 1 - 1) M N
  by_cases hd0 : dn = 0
  · simp (disch := omega) only [z0, z1, z2, z3, z4, z5, z6, z7, z8, z9, z10, z11, z12, z13, z14, z15, z16, z17, z18, z19, z20, z24, z26, z30, z31, z40, z41, z50, z54, z60, z70, z80, z81, z99, z100, z200, z255, z599, z1000, z1299, z4096, z1000000, lw0, lw1, lw2, lw3, lw4, lw5, lw6, lw7, lw12, lw50, lw99, lw255, lw599, lw4096, bI_ok, ble_t, Int.cast_ofNat_Int,  decide_true, decide_false, bI_0, bI_1, b_tf, b_ft, eq_self, n_1, n_2, n_3, n_4, n_5, n_6, n_7, n_8, if_true, if_false, jin, ncl, cond_true, cond_false, Option.bind_some, j_ov, j_oi, j_ol, nle, nlt, neq, nI_add, nmul, nsub, ndiv, nrem2, if_pos, if_neg, Nat.zero_add, Nat.add_zero, j_w_ap, decide_eq_true, decide_eq_false, Bool.true_or, Bool.or_true, Bool.false_or, Bool.or_false, Bool.and_true, Bool.true_and, Bool.false_and, Bool.and_false, Bool.not_true, Bool.not_false, c3] at e0
    have q := eX1_takeBack (d := d - 1) (by omega) e0
    simp (disch := omega) only [z0, z1, z2, z3, z4, z5, z6, z7, z8, z9, z10, z11, z12, z13, z14, z15, z16, z17, z18, z19, z20, z24, z26, z30, z31, z40, z41, z50, z54, z60, z70, z80, z81, z99, z100, z200, z255, z599, z1000, z1299, z4096, z1000000, lw0, lw1, lw2, lw3, lw4, lw5, lw6, lw7, lw12, lw50, lw99, lw255, lw599, lw4096, bI_ok, ble_t, Int.cast_ofNat_Int,  decide_true, decide_false, bI_0, bI_1, b_tf, b_ft, eq_self, n_1, n_2, n_3, n_4, n_5, n_6, n_7, n_8, if_true, if_false, jin, ncl, cond_true, cond_false, Option.bind_some, j_ov, j_oi, j_ol, nle, nlt, neq, nI_add, nmul, nsub, ndiv, nrem2, if_pos, if_neg, Nat.zero_add, Nat.add_zero, j_w_ap, decide_eq_true, decide_eq_false, Bool.true_or, Bool.or_true, Bool.false_or, Bool.or_false, Bool.and_true, Bool.true_and, Bool.false_and, Bool.and_false, Bool.not_true, Bool.not_false, q] at e1
    have e2 := bX11_undo_0 (d - 1) M N
    simp (disch := omega) only [z0, z1, z2, z3, z4, z5, z6, z7, z8, z9, z10, z11, z12, z13, z14, z15, z16, z17, z18, z19, z20, z24, z26, z30, z31, z40, z41, z50, z54, z60, z70, z80, z81, z99, z100, z200, z255, z599, z1000, z1299, z4096, z1000000, lw0, lw1, lw2, lw3, lw4, lw5, lw6, lw7, lw12, lw50, lw99, lw255, lw599, lw4096, bI_ok, ble_t, Int.cast_ofNat_Int,  decide_true, decide_false, bI_0, bI_1, b_tf, b_ft, eq_self, n_1, n_2, n_3, n_4, n_5, n_6, n_7, n_8, if_true, if_false, jin, ncl, cond_true, cond_false, Option.bind_some, j_ov, j_oi, j_ol, nle, nlt, neq, nI_add, nmul, nsub, ndiv, nrem2, if_pos, if_neg, Nat.zero_add, Nat.add_zero, j_w_ap, decide_eq_true, decide_eq_false, Bool.true_or, Bool.or_true, Bool.false_or, Bool.or_false, Bool.and_true, Bool.true_and, Bool.false_and, Bool.and_false, Bool.not_true, Bool.not_false, c5] at e2
    exact ⟨_, _, _, _, _, eX10_undo (by omega) e1, eX11_undo (by omega) e2, n, a, m, pr, jo, nb, h1, h2, h3, h4, ⟨dn, kp, c1, c2, c3, c4, c5, c6, c7⟩, h6, h7, h8⟩
  · obtain ⟨w, was, is, o1, o2, k48, k49, k50, k25, k26, k24, k23⟩ := c7 (dn - 1) (by omega)
    have t := X_tell (d := d - 1 - 1) (M := j_w M 22 4 (nI (dn - 1))) (N := N) (x := nI was) (by omega) o1.1
    have t22 : tw (j_w M 22 4 (nI (dn - 1))) w (nI was) 22 4 = nI (dn - 1) := by rw [tw_off o1.1 (by decide)]; simp (disch := omega) only [z0, z1, z2, z3, z4, z5, z6, z7, z8, z9, z10, z11, z12, z13, z14, z15, z16, z17, z18, z19, z20, z24, z26, z30, z31, z40, z41, z50, z54, z60, z70, z80, z81, z99, z100, z200, z255, z599, z1000, z1299, z4096, z1000000, lw0, lw1, lw2, lw3, lw4, lw5, lw6, lw7, lw12, lw50, lw99, lw255, lw599, lw4096, bI_ok, ble_t, Int.cast_ofNat_Int,  decide_true, decide_false, bI_0, bI_1, b_tf, b_ft, eq_self, n_1, n_2, n_3, n_4, n_5, n_6, n_7, n_8, if_true, if_false, jin, ncl, cond_true, cond_false, Option.bind_some, j_ov, j_oi, j_ol, nle, nlt, neq, nI_add, nmul, nsub, ndiv, nrem2, if_pos, if_neg, Nat.zero_add, Nat.add_zero, j_w_ap, decide_eq_true, decide_eq_false, Bool.true_or, Bool.or_true, Bool.false_or, Bool.or_false, Bool.and_true, Bool.true_and, Bool.false_and, Bool.and_false, Bool.not_true, Bool.not_false]
    simp (disch := omega) only [z0, z1, z2, z3, z4, z5, z6, z7, z8, z9, z10, z11, z12, z13, z14, z15, z16, z17, z18, z19, z20, z24, z26, z30, z31, z40, z41, z50, z54, z60, z70, z80, z81, z99, z100, z200, z255, z599, z1000, z1299, z4096, z1000000, lw0, lw1, lw2, lw3, lw4, lw5, lw6, lw7, lw12, lw50, lw99, lw255, lw599, lw4096, bI_ok, ble_t, Int.cast_ofNat_Int,  decide_true, decide_false, bI_0, bI_1, b_tf, b_ft, eq_self, n_1, n_2, n_3, n_4, n_5, n_6, n_7, n_8, if_true, if_false, jin, ncl, cond_true, cond_false, Option.bind_some, j_ov, j_oi, j_ol, nle, nlt, neq, nI_add, nmul, nsub, ndiv, nrem2, if_pos, if_neg, Nat.zero_add, Nat.add_zero, j_w_ap, decide_eq_true, decide_eq_false, Bool.true_or, Bool.or_true, Bool.false_or, Bool.or_false, Bool.and_true, Bool.true_and, Bool.false_and, Bool.and_false, Bool.not_true, Bool.not_false, c3, k23, k24, k25, t, t22] at e0
    have q := eX1_takeBack (d := d - 1) (by omega) e0
    simp (disch := omega) only [z0, z1, z2, z3, z4, z5, z6, z7, z8, z9, z10, z11, z12, z13, z14, z15, z16, z17, z18, z19, z20, z24, z26, z30, z31, z40, z41, z50, z54, z60, z70, z80, z81, z99, z100, z200, z255, z599, z1000, z1299, z4096, z1000000, lw0, lw1, lw2, lw3, lw4, lw5, lw6, lw7, lw12, lw50, lw99, lw255, lw599, lw4096, bI_ok, ble_t, Int.cast_ofNat_Int,  decide_true, decide_false, bI_0, bI_1, b_tf, b_ft, eq_self, n_1, n_2, n_3, n_4, n_5, n_6, n_7, n_8, if_true, if_false, jin, ncl, cond_true, cond_false, Option.bind_some, j_ov, j_oi, j_ol, nle, nlt, neq, nI_add, nmul, nsub, ndiv, nrem2, if_pos, if_neg, Nat.zero_add, Nat.add_zero, j_w_ap, decide_eq_true, decide_eq_false, Bool.true_or, Bool.or_true, Bool.false_or, Bool.or_false, Bool.and_true, Bool.true_and, Bool.false_and, Bool.and_false, Bool.not_true, Bool.not_false, q] at e1
    generalize hA : tw (j_w M 22 4 (nI (dn - 1))) w (nI was) = A at e1
    have f1 : Fg [1, 5] M A := by
      rw [← hA]
      exact (Fg.w rfl).tr (fun c k z1 z2 => (tw_g o1.1) c k z1 (by
        cases hm : j_mem (grp c k) [1] with
        | false => rfl
        | true =>
          have := mem_c hm
          simp only [List.mem_cons, List.not_mem_nil, or_false] at this
          rw [this] at z2; cases z2))
    have Aoff : ∀ c k, grp c k ≠ 1 → c ≠ 22 → A c k = M c k := fun c k hg hc => by
      rw [← hA, tw_off o1.1 hg, j_w_ap, if_neg hc]
    have a5 : A 46 5 = nI dn := by rw [Aoff 46 5 (by decide) (by omega)]; exact c5
    have a48 : A 48 (dn - 1) = nI w := by rw [Aoff 48 _ (show (5 : Nat) ≠ 1 by omega) (by omega)]; exact k48
    have a49 : A 49 (dn - 1) = nI was := by rw [Aoff 49 _ (show (5 : Nat) ≠ 1 by omega) (by omega)]; exact k49
    have hw := o1.1
    have e2 := bX11_undo_0 (d - 1) A N
    simp (disch := omega) only [z0, z1, z2, z3, z4, z5, z6, z7, z8, z9, z10, z11, z12, z13, z14, z15, z16, z17, z18, z19, z20, z24, z26, z30, z31, z40, z41, z50, z54, z60, z70, z80, z81, z99, z100, z200, z255, z599, z1000, z1299, z4096, z1000000, lw0, lw1, lw2, lw3, lw4, lw5, lw6, lw7, lw12, lw50, lw99, lw255, lw599, lw4096, bI_ok, ble_t, Int.cast_ofNat_Int,  decide_true, decide_false, bI_0, bI_1, b_tf, b_ft, eq_self, n_1, n_2, n_3, n_4, n_5, n_6, n_7, n_8, if_true, if_false, jin, ncl, cond_true, cond_false, Option.bind_some, j_ov, j_oi, j_ol, nle, nlt, neq, nI_add, nmul, nsub, ndiv, nrem2, if_pos, if_neg, Nat.zero_add, Nat.add_zero, j_w_ap, decide_eq_true, decide_eq_false, Bool.true_or, Bool.or_true, Bool.false_or, Bool.or_false, Bool.and_true, Bool.true_and, Bool.false_and, Bool.and_false, Bool.not_true, Bool.not_false, a5, a48, a49] at e2
    have f2 : Fg [1, 5] A (j_w (j_w A 46 5 (nI (dn - 1))) 47 w (nI was)) := (Fg.w rfl).tr (Fg.w rfl)
    have hf := f1.tr f2
    have hig : IG n (up a w was) (j_w A 47 w (nI was)) := by
      rw [← hA]
      exact (h1.g ((Fg.w (gs := [5]) (c := 22) (k := 4) rfl).sg (by decide) rfl)).told o1
    refine ⟨_, _, _, _, _, eX10_undo (by omega) e1, eX11_undo (by omega) e2, n, up a w was, m, pr, jo, nb, hig.g (sw5 (Or.inl rfl)), h2.g (hf.sg (by decide) rfl), h3.g (hf.sg (by decide) rfl), h4.g (hf.sg (by decide) rfl), ⟨dn - 1, kp, by omega, c2, ?_, ?_, ?_, ?_, fun q hq => ?_⟩, h6.g (hf.sg (by decide) rfl), h7.g (hf.sg (by decide) rfl), h8.g (hf.sg (by decide) rfl)⟩
    · rw [j_w_ap, if_neg (by omega), j_w_ap, if_neg (by omega), ← hA]; exact t22
    · rw [j_w_ap, if_neg (by omega), j_w_ap, if_neg (by omega), ← hA, tw_off o1.1 (by decide)]; simp (disch := omega) only [z0, z1, z2, z3, z4, z5, z6, z7, z8, z9, z10, z11, z12, z13, z14, z15, z16, z17, z18, z19, z20, z24, z26, z30, z31, z40, z41, z50, z54, z60, z70, z80, z81, z99, z100, z200, z255, z599, z1000, z1299, z4096, z1000000, lw0, lw1, lw2, lw3, lw4, lw5, lw6, lw7, lw12, lw50, lw99, lw255, lw599, lw4096, bI_ok, ble_t, Int.cast_ofNat_Int,  decide_true, decide_false, bI_0, bI_1, b_tf, b_ft, eq_self, n_1, n_2, n_3, n_4, n_5, n_6, n_7, n_8, if_true, if_false, jin, ncl, cond_true, cond_false, Option.bind_some, j_ov, j_oi, j_ol, nle, nlt, neq, nI_add, nmul, nsub, ndiv, nrem2, if_pos, if_neg, Nat.zero_add, Nat.add_zero, j_w_ap, decide_eq_true, decide_eq_false, Bool.true_or, Bool.or_true, Bool.false_or, Bool.or_false, Bool.and_true, Bool.true_and, Bool.false_and, Bool.and_false, Bool.not_true, Bool.not_false, c4]
    · simp (disch := omega) only [z0, z1, z2, z3, z4, z5, z6, z7, z8, z9, z10, z11, z12, z13, z14, z15, z16, z17, z18, z19, z20, z24, z26, z30, z31, z40, z41, z50, z54, z60, z70, z80, z81, z99, z100, z200, z255, z599, z1000, z1299, z4096, z1000000, lw0, lw1, lw2, lw3, lw4, lw5, lw6, lw7, lw12, lw50, lw99, lw255, lw599, lw4096, bI_ok, ble_t, Int.cast_ofNat_Int,  decide_true, decide_false, bI_0, bI_1, b_tf, b_ft, eq_self, n_1, n_2, n_3, n_4, n_5, n_6, n_7, n_8, if_true, if_false, jin, ncl, cond_true, cond_false, Option.bind_some, j_ov, j_oi, j_ol, nle, nlt, neq, nI_add, nmul, nsub, ndiv, nrem2, if_pos, if_neg, Nat.zero_add, Nat.add_zero, j_w_ap, decide_eq_true, decide_eq_false, Bool.true_or, Bool.or_true, Bool.false_or, Bool.or_false, Bool.and_true, Bool.true_and, Bool.false_and, Bool.and_false, Bool.not_true, Bool.not_false]
    · rw [j_w_ap, if_neg (by omega), j_w_ap, if_pos rfl, if_neg (by omega), Aoff 46 4 (by decide) (by omega)]; exact c6
    · obtain ⟨w2, was2, is2, y1, y2, y3, y4, y5, y6, y7, y8, y9⟩ := c7 q hq
      have hoff : ∀ c k, grp c k = 5 → c ≠ 22 → c ≠ 46 → j_w (j_w A 46 5 (nI (dn - 1))) 47 w (nI was) c k = M c k := fun c k hg z1 z2 => by
        rw [j_w_ap, if_neg (fun z => by rw [z] at hg; cases hg), j_w_ap, if_neg z2, Aoff c k (by omega) z1]
      exact ⟨w2, was2, is2, y1, y2, (hoff 48 q rfl (by omega) (by omega)).trans y3, (hoff 49 q rfl (by omega) (by omega)).trans y4, (hoff 50 q rfl (by omega) (by omega)).trans y5, (hoff 25 q rfl (by omega) (by omega)).trans y6, (hoff 26 q rfl (by omega) (by omega)).trans y7, (hoff 24 q rfl (by omega) (by omega)).trans y8, (hoff 23 q rfl (by omega) (by omega)).trans y9⟩
theorem P_redo : OpI 136 159 [] := by
  intro d M N hd hI
  obtain ⟨n, a, m, pr, jo, nb, h1, h2, h3, h4, ⟨dn, kp, c1, c2, c3, c4, c5, c6, c7⟩, h6, h7, h8⟩ := hI
  have e1 := bX10_redo_0 (d - 1) M N
  have e0 := bX1_doAgain_0 (d - 1 - 1) M N
  by_cases hd0 : dn = kp
  · simp (disch := omega) only [z0, z1, z2, z3, z4, z5, z6, z7, z8, z9, z10, z11, z12, z13, z14, z15, z16, z17, z18, z19, z20, z24, z26, z30, z31, z40, z41, z50, z54, z60, z70, z80, z81, z99, z100, z200, z255, z599, z1000, z1299, z4096, z1000000, lw0, lw1, lw2, lw3, lw4, lw5, lw6, lw7, lw12, lw50, lw99, lw255, lw599, lw4096, bI_ok, ble_t, Int.cast_ofNat_Int,  decide_true, decide_false, bI_0, bI_1, b_tf, b_ft, eq_self, n_1, n_2, n_3, n_4, n_5, n_6, n_7, n_8, if_true, if_false, jin, ncl, cond_true, cond_false, Option.bind_some, j_ov, j_oi, j_ol, nle, nlt, neq, nI_add, nmul, nsub, ndiv, nrem2, if_pos, if_neg, Nat.zero_add, Nat.add_zero, j_w_ap, decide_eq_true, decide_eq_false, Bool.true_or, Bool.or_true, Bool.false_or, Bool.or_false, Bool.and_true, Bool.true_and, Bool.false_and, Bool.and_false, Bool.not_true, Bool.not_false, c3, c4] at e0
    have q := eX1_doAgain (d := d - 1) (by omega) e0
    simp (disch := omega) only [z0, z1, z2, z3, z4, z5, z6, z7, z8, z9, z10, z11, z12, z13, z14, z15, z16, z17, z18, z19, z20, z24, z26, z30, z31, z40, z41, z50, z54, z60, z70, z80, z81, z99, z100, z200, z255, z599, z1000, z1299, z4096, z1000000, lw0, lw1, lw2, lw3, lw4, lw5, lw6, lw7, lw12, lw50, lw99, lw255, lw599, lw4096, bI_ok, ble_t, Int.cast_ofNat_Int,  decide_true, decide_false, bI_0, bI_1, b_tf, b_ft, eq_self, n_1, n_2, n_3, n_4, n_5, n_6, n_7, n_8, if_true, if_false, jin, ncl, cond_true, cond_false, Option.bind_some, j_ov, j_oi, j_ol, nle, nlt, neq, nI_add, nmul, nsub, ndiv, nrem2, if_pos, if_neg, Nat.zero_add, Nat.add_zero, j_w_ap, decide_eq_true, decide_eq_false, Bool.true_or, Bool.or_true, Bool.false_or, Bool.or_false, Bool.and_true, Bool.true_and, Bool.false_and, Bool.and_false, Bool.not_true, Bool.not_false, q] at e1
    have e2 := bX11_redo_0 (d - 1) M N
    simp (disch := omega) only [z0, z1, z2, z3, z4, z5, z6, z7, z8, z9, z10, z11, z12, z13, z14, z15, z16, z17, z18, z19, z20, z24, z26, z30, z31, z40, z41, z50, z54, z60, z70, z80, z81, z99, z100, z200, z255, z599, z1000, z1299, z4096, z1000000, lw0, lw1, lw2, lw3, lw4, lw5, lw6, lw7, lw12, lw50, lw99, lw255, lw599, lw4096, bI_ok, ble_t, Int.cast_ofNat_Int,  decide_true, decide_false, bI_0, bI_1, b_tf, b_ft, eq_self, n_1, n_2, n_3, n_4, n_5, n_6, n_7, n_8, if_true, if_false, jin, ncl, cond_true, cond_false, Option.bind_some, j_ov, j_oi, j_ol, nle, nlt, neq, nI_add, nmul, nsub, ndiv, nrem2, if_pos, if_neg, Nat.zero_add, Nat.add_zero, j_w_ap, decide_eq_true, decide_eq_false, Bool.true_or, Bool.or_true, Bool.false_or, Bool.or_false, Bool.and_true, Bool.true_and, Bool.false_and, Bool.and_false, Bool.not_true, Bool.not_false, c5, c6] at e2
    exact ⟨_, _, _, _, _, eX10_redo (by omega) e1, eX11_redo (by omega) e2, n, a, m, pr, jo, nb, h1, h2, h3, h4, ⟨dn, kp, c1, c2, c3, c4, c5, c6, c7⟩, h6, h7, h8⟩
  · obtain ⟨w, was, is, o1, o2, k48, k49, k50, k25, k26, k24, k23⟩ := c7 dn (by omega)
    have t := X_tell (d := d - 1 - 1) (M := M) (N := N) (x := nI is) (by omega) o1.1
    have t22 : tw M w (nI is) 22 4 = nI dn := by rw [tw_off o1.1 (by decide)]; exact c3
    have t225 : tw M w (nI is) 22 5 = nI kp := by rw [tw_off o1.1 (by decide)]; exact c4
    simp (disch := omega) only [z0, z1, z2, z3, z4, z5, z6, z7, z8, z9, z10, z11, z12, z13, z14, z15, z16, z17, z18, z19, z20, z24, z26, z30, z31, z40, z41, z50, z54, z60, z70, z80, z81, z99, z100, z200, z255, z599, z1000, z1299, z4096, z1000000, lw0, lw1, lw2, lw3, lw4, lw5, lw6, lw7, lw12, lw50, lw99, lw255, lw599, lw4096, bI_ok, ble_t, Int.cast_ofNat_Int,  decide_true, decide_false, bI_0, bI_1, b_tf, b_ft, eq_self, n_1, n_2, n_3, n_4, n_5, n_6, n_7, n_8, if_true, if_false, jin, ncl, cond_true, cond_false, Option.bind_some, j_ov, j_oi, j_ol, nle, nlt, neq, nI_add, nmul, nsub, ndiv, nrem2, if_pos, if_neg, Nat.zero_add, Nat.add_zero, j_w_ap, decide_eq_true, decide_eq_false, Bool.true_or, Bool.or_true, Bool.false_or, Bool.or_false, Bool.and_true, Bool.true_and, Bool.false_and, Bool.and_false, Bool.not_true, Bool.not_false, c3, c4, k23, k24, k26, t, t22, t225] at e0
    have q := eX1_doAgain (d := d - 1) (by omega) e0
    simp (disch := omega) only [z0, z1, z2, z3, z4, z5, z6, z7, z8, z9, z10, z11, z12, z13, z14, z15, z16, z17, z18, z19, z20, z24, z26, z30, z31, z40, z41, z50, z54, z60, z70, z80, z81, z99, z100, z200, z255, z599, z1000, z1299, z4096, z1000000, lw0, lw1, lw2, lw3, lw4, lw5, lw6, lw7, lw12, lw50, lw99, lw255, lw599, lw4096, bI_ok, ble_t, Int.cast_ofNat_Int,  decide_true, decide_false, bI_0, bI_1, b_tf, b_ft, eq_self, n_1, n_2, n_3, n_4, n_5, n_6, n_7, n_8, if_true, if_false, jin, ncl, cond_true, cond_false, Option.bind_some, j_ov, j_oi, j_ol, nle, nlt, neq, nI_add, nmul, nsub, ndiv, nrem2, if_pos, if_neg, Nat.zero_add, Nat.add_zero, j_w_ap, decide_eq_true, decide_eq_false, Bool.true_or, Bool.or_true, Bool.false_or, Bool.or_false, Bool.and_true, Bool.true_and, Bool.false_and, Bool.and_false, Bool.not_true, Bool.not_false, q] at e1
    generalize hA : j_w (tw M w (nI is)) 22 4 (nI (dn + 1)) = A at e1
    have f1 : Fg [1, 5] M A := by
      rw [← hA]
      exact Fg.tr (fun c k z1 z2 => (tw_g o1.1) c k z1 (by
        cases hm : j_mem (grp c k) [1] with
        | false => rfl
        | true =>
          have := mem_c hm
          simp only [List.mem_cons, List.not_mem_nil, or_false] at this
          rw [this] at z2; cases z2)) (Fg.w rfl)
    have Aoff : ∀ c k, grp c k ≠ 1 → c ≠ 22 → A c k = M c k := fun c k hg hc => by
      rw [← hA, j_w_ap, if_neg hc, tw_off o1.1 hg]
    have a5 : A 46 5 = nI dn := by rw [Aoff 46 5 (by decide) (by omega)]; exact c5
    have a4 : A 46 4 = nI kp := by rw [Aoff 46 4 (by decide) (by omega)]; exact c6
    have a48 : A 48 dn = nI w := by rw [Aoff 48 _ (show (5 : Nat) ≠ 1 by omega) (by omega)]; exact k48
    have a50 : A 50 dn = nI is := by rw [Aoff 50 _ (show (5 : Nat) ≠ 1 by omega) (by omega)]; exact k50
    have hw := o1.1
    have e2 := bX11_redo_0 (d - 1) A N
    simp (disch := omega) only [z0, z1, z2, z3, z4, z5, z6, z7, z8, z9, z10, z11, z12, z13, z14, z15, z16, z17, z18, z19, z20, z24, z26, z30, z31, z40, z41, z50, z54, z60, z70, z80, z81, z99, z100, z200, z255, z599, z1000, z1299, z4096, z1000000, lw0, lw1, lw2, lw3, lw4, lw5, lw6, lw7, lw12, lw50, lw99, lw255, lw599, lw4096, bI_ok, ble_t, Int.cast_ofNat_Int,  decide_true, decide_false, bI_0, bI_1, b_tf, b_ft, eq_self, n_1, n_2, n_3, n_4, n_5, n_6, n_7, n_8, if_true, if_false, jin, ncl, cond_true, cond_false, Option.bind_some, j_ov, j_oi, j_ol, nle, nlt, neq, nI_add, nmul, nsub, ndiv, nrem2, if_pos, if_neg, Nat.zero_add, Nat.add_zero, j_w_ap, decide_eq_true, decide_eq_false, Bool.true_or, Bool.or_true, Bool.false_or, Bool.or_false, Bool.and_true, Bool.true_and, Bool.false_and, Bool.and_false, Bool.not_true, Bool.not_false, a5, a4, a48, a50] at e2
    have f2 : Fg [1, 5] A (j_w (j_w A 47 w (nI is)) 46 5 (nI (dn + 1))) := (Fg.w rfl).tr (Fg.w rfl)
    have hf := f1.tr f2
    have hig : IG n (up a w is) (j_w (tw M w (nI is)) 47 w (nI is)) := h1.told o2
    have hsg : Sg 1 (j_w (tw M w (nI is)) 47 w (nI is)) (j_w (j_w A 47 w (nI is)) 46 5 (nI (dn + 1))) := by
      intro c k hg
      rw [j_w_ap]
      have h22 : c ≠ 22 := fun z => by rw [z] at hg; cases hg
      have key : j_w A 47 w (nI is) c k = j_w (tw M w (nI is)) 47 w (nI is) c k := by
        rw [j_w_ap, j_w_ap]
        have : A c k = tw M w (nI is) c k := by rw [← hA, j_w_ap, if_neg h22]
        rw [this]
      by_cases hc : c = 46
      · rw [if_pos hc, if_neg (fun z => by rw [hc, z] at hg; cases hg)]; exact key
      · rw [if_neg hc]; exact key
    refine ⟨_, _, _, _, _, eX10_redo (by omega) e1, eX11_redo (by omega) e2, n, up a w is, m, pr, jo, nb, hig.g hsg, h2.g (hf.sg (by decide) rfl), h3.g (hf.sg (by decide) rfl), h4.g (hf.sg (by decide) rfl), ⟨dn + 1, kp, by omega, c2, ?_, ?_, ?_, ?_, fun q hq => ?_⟩, h6.g (hf.sg (by decide) rfl), h7.g (hf.sg (by decide) rfl), h8.g (hf.sg (by decide) rfl)⟩
    · rw [j_w_ap, if_neg (by omega), j_w_ap, if_neg (by omega), ← hA]; simp (disch := omega) only [z0, z1, z2, z3, z4, z5, z6, z7, z8, z9, z10, z11, z12, z13, z14, z15, z16, z17, z18, z19, z20, z24, z26, z30, z31, z40, z41, z50, z54, z60, z70, z80, z81, z99, z100, z200, z255, z599, z1000, z1299, z4096, z1000000, lw0, lw1, lw2, lw3, lw4, lw5, lw6, lw7, lw12, lw50, lw99, lw255, lw599, lw4096, bI_ok, ble_t, Int.cast_ofNat_Int,  decide_true, decide_false, bI_0, bI_1, b_tf, b_ft, eq_self, n_1, n_2, n_3, n_4, n_5, n_6, n_7, n_8, if_true, if_false, jin, ncl, cond_true, cond_false, Option.bind_some, j_ov, j_oi, j_ol, nle, nlt, neq, nI_add, nmul, nsub, ndiv, nrem2, if_pos, if_neg, Nat.zero_add, Nat.add_zero, j_w_ap, decide_eq_true, decide_eq_false, Bool.true_or, Bool.or_true, Bool.false_or, Bool.or_false, Bool.and_true, Bool.true_and, Bool.false_and, Bool.and_false, Bool.not_true, Bool.not_false]
    · rw [j_w_ap, if_neg (by omega), j_w_ap, if_neg (by omega), ← hA, j_w_ap, if_pos rfl, if_neg (by omega)]; exact t225
    · simp (disch := omega) only [z0, z1, z2, z3, z4, z5, z6, z7, z8, z9, z10, z11, z12, z13, z14, z15, z16, z17, z18, z19, z20, z24, z26, z30, z31, z40, z41, z50, z54, z60, z70, z80, z81, z99, z100, z200, z255, z599, z1000, z1299, z4096, z1000000, lw0, lw1, lw2, lw3, lw4, lw5, lw6, lw7, lw12, lw50, lw99, lw255, lw599, lw4096, bI_ok, ble_t, Int.cast_ofNat_Int,  decide_true, decide_false, bI_0, bI_1, b_tf, b_ft, eq_self, n_1, n_2, n_3, n_4, n_5, n_6, n_7, n_8, if_true, if_false, jin, ncl, cond_true, cond_false, Option.bind_some, j_ov, j_oi, j_ol, nle, nlt, neq, nI_add, nmul, nsub, ndiv, nrem2, if_pos, if_neg, Nat.zero_add, Nat.add_zero, j_w_ap, decide_eq_true, decide_eq_false, Bool.true_or, Bool.or_true, Bool.false_or, Bool.or_false, Bool.and_true, Bool.true_and, Bool.false_and, Bool.and_false, Bool.not_true, Bool.not_false]
    · rw [j_w_ap, if_pos rfl, if_neg (by omega), j_w_ap, if_neg (by omega)]; exact a4
    · obtain ⟨w2, was2, is2, y1, y2, y3, y4, y5, y6, y7, y8, y9⟩ := c7 q hq
      have hoff : ∀ c k, grp c k = 5 → c ≠ 22 → c ≠ 46 → j_w (j_w A 47 w (nI is)) 46 5 (nI (dn + 1)) c k = M c k := fun c k hg z1 z2 => by
        rw [j_w_ap, if_neg z2, j_w_ap, if_neg (fun z => by rw [z] at hg; cases hg), Aoff c k (by omega) z1]
      exact ⟨w2, was2, is2, y1, y2, (hoff 48 q rfl (by omega) (by omega)).trans y3, (hoff 49 q rfl (by omega) (by omega)).trans y4, (hoff 50 q rfl (by omega) (by omega)).trans y5, (hoff 25 q rfl (by omega) (by omega)).trans y6, (hoff 26 q rfl (by omega) (by omega)).trans y7, (hoff 24 q rfl (by omega) (by omega)).trans y8, (hoff 23 q rfl (by omega) (by omega)).trans y9⟩
end OH
