/-! ===== the law: the two signs ahead of one, all levels (own text) ===== -/
section LQ
variable {T : Nat → Nat} {L pos d op dd : Nat} {fl : Option Nat} {D : List Int32} {M : j_M} {N : j_N} {b : Bool} {e : Nat → Int32} {x : Int32}
theorem J_op_un {c k : Nat} (hT : ∀ i, i < L → T i ≤ 255) (hL : L ≤ 120) (hpl : pos < L) (hc : T pos = c) (hck : (c = 33 ∧ k = 16) ∨ (c = 45 ∧ k = 17)) (hop : op < 6) (hdd : 4 ≤ dd) (H : J T L 44 207 dd (op + 1) (pos + 1)) : J T L 44 207 (dd + 1) op pos := by
  obtain ⟨p1, f1, c1, g1, g2, g3, g4, g5, gx, ge⟩ := H
  refine ⟨p1, f1, c1 ++ [-nI k], by omega, g2, by rw [List.length_append, List.length_singleton]; omega, fun z => by have := g4 z; omega, g5, fun d M N D hd h hD => ?_, fun d M N b e hd h => ?_⟩
  · have q := X_letter (d := d - 1) (N := N) (by omega) hL (by omega) (fun f hf => by cases hf) h
    unfold lt at q
    dsimp only at q
    rw [if_pos hpl, hc] at q
    have q4 : C (d - 1) 48 [.int (nI c)] S0 M N = some (some (.int (nI 0)), M, N) := X_nam_f (by omega) (by omega) (fun k z => by unfold NM at z; omega)
    have q5 : C (d - 1) 47 [.int (nI c)] S0 M N = some (some (.int (nI 0)), M, N) := X_dig_f (by omega) (by omega) (by omega)
    have hf : ∀ f : Nat, (none : Option Nat) = some f → f ≤ L := fun f hf => by cases hf
    have k0 := X_takes_f (d := d - 1) (N := N) (by omega) hL (by omega) hT (show 40 < 256 by omega) hf (fun z => by have := z.2.2; omega) h
    obtain ⟨M1, q1, q2, q3⟩ := gx (d - 1) _ N D (by omega) h.adv (by omega)
    obtain ⟨M2, r1, r2, r3⟩ := X_write (d := d - 1) (N := N) (x := -nI k) (by omega) (by rw [List.length_append]; omega) q2
    rw [List.append_assoc] at r2
    refine ⟨M2, eX4_readOperand (by omega) ?_, r2, (FX.w (by omega)).tr (q3.tr r3)⟩
    have e := bX4_readOperand_0 (d - 1) (nI op) M N
    rw [q, Option.bind_some, j_oi] at e
    dsimp only at e
    rw [q4, Option.bind_some, j_oi] at e
    dsimp only at e
    rw [q5, Option.bind_some, j_oi] at e
    dsimp only at e
    rw [if_pos (show nI 0 = 0 from by decide), if_pos (show nI 0 = 0 from by decide), if_pos (show nI op < 6 from by rw [z6, nlt (by omega) (by omega)]; omega), z40, k0, Option.bind_some, j_oi] at e
    dsimp only at e
    rw [if_pos (show nI 0 = 0 from by decide)] at e
    rcases hck with ⟨rfl, rfl⟩ | ⟨rfl, rfl⟩
    · have k1 := X_takes_t (d := d - 1) (N := N) (by omega) hL (show 33 < 256 by omega) ⟨rfl, hpl, hc⟩ h
      simp (disch := omega) only [z33, z37, z38, z42, z43, z45, z47, z48, z57, z59, z61, z62, z63, z98, z107, z110, z112, z114, z120, z122, z124, z0, z1, z2, z3, z4, z5, z6, z7, z8, z9, z10, z11, z12, z13, z14, z15, z16, z17, z18, z19, z20, z24, z26, z30, z31, z40, z41, z50, z54, z60, z70, z80, z81, z99, z100, z200, z255, z599, z1000, z1299, z4096, z1000000, lw0, lw1, lw2, lw3, lw4, lw5, lw6, lw7, lw12, lw50, lw99, lw255, lw599, lw4096, bI_ok, ble_t, Int.cast_ofNat_Int,  decide_true, decide_false, bI_0, bI_1, b_tf, b_ft, eq_self, n_1, n_2, n_3, n_4, n_5, n_6, n_7, n_8, if_true, if_false, jin, ncl, cond_true, cond_false, Option.bind_some, j_ov, j_oi, j_ol, nle, nlt, neq, nI_add, nmul, nsub, ndiv, nrem2, if_pos, if_neg, Nat.zero_add, Nat.add_zero, j_w_ap, decide_eq_true, decide_eq_false, Bool.true_or, Bool.or_true, Bool.false_or, Bool.or_false, Bool.and_true, Bool.true_and, Bool.false_and, Bool.and_false, Bool.not_true, Bool.not_false, k1, q1, r1] at e
      exact e
    · have k1 := X_takes_f (d := d - 1) (N := N) (by omega) hL (by omega) hT (show 33 < 256 by omega) hf (fun z => by have := z.2.2; omega) h
      have k2 := X_takes_t (d := d - 1) (N := N) (by omega) hL (show 45 < 256 by omega) ⟨rfl, hpl, hc⟩ h
      simp (disch := omega) only [z33, z37, z38, z42, z43, z45, z47, z48, z57, z59, z61, z62, z63, z98, z107, z110, z112, z114, z120, z122, z124, z0, z1, z2, z3, z4, z5, z6, z7, z8, z9, z10, z11, z12, z13, z14, z15, z16, z17, z18, z19, z20, z24, z26, z30, z31, z40, z41, z50, z54, z60, z70, z80, z81, z99, z100, z200, z255, z599, z1000, z1299, z4096, z1000000, lw0, lw1, lw2, lw3, lw4, lw5, lw6, lw7, lw12, lw50, lw99, lw255, lw599, lw4096, bI_ok, ble_t, Int.cast_ofNat_Int,  decide_true, decide_false, bI_0, bI_1, b_tf, b_ft, eq_self, n_1, n_2, n_3, n_4, n_5, n_6, n_7, n_8, if_true, if_false, jin, ncl, cond_true, cond_false, Option.bind_some, j_ov, j_oi, j_ol, nle, nlt, neq, nI_add, nmul, nsub, ndiv, nrem2, if_pos, if_neg, Nat.zero_add, Nat.add_zero, j_w_ap, decide_eq_true, decide_eq_false, Bool.true_or, Bool.or_true, Bool.false_or, Bool.or_false, Bool.and_true, Bool.true_and, Bool.false_and, Bool.and_false, Bool.not_true, Bool.not_false, k1, k2, q1, r1] at e
      exact e
  · have q := M_byte (d := d - 1) (N := N) (by omega) hL (by omega) h
    rw [if_pos hpl, hc] at q
    have h2 := h.2.1
    have h3 := h.2.2.1
    have h6 := h.2.2.2.2.2 rfl
    rw [show oI none = -nI 1 from rfl] at h3
    obtain ⟨M1, v, q1, q2, q3, q4⟩ := ge (d - 1) _ N b e (by omega) h.opn
    have e1 := bX11_one_0 (d - 1) M N
    have e2 := bX11_one_32 (d - 1) (nI c) M N
    have e3 := bX11_one_83 (d - 1) (nI c) v M1 N
    have hset : ES T L b e p1 f1 op (j_w M1 46 29 (M1 46 29 - nI 1)) := q2.set (fun z => by rw [q2.2.2.2.2.2 z, nsub (by omega)]; rfl)
    have hfe : FE M (j_w M1 46 29 (M1 46 29 - nI 1)) := (((FE.w (by omega)).tr (FE.w (by omega))).tr q3).tr (FE.w (by omega))
    rcases hck with ⟨rfl, rfl⟩ | ⟨rfl, rfl⟩
    · simp (disch := omega) only [z33, z37, z38, z42, z43, z45, z47, z48, z57, z59, z61, z62, z63, z98, z107, z110, z112, z114, z120, z122, z124, z0, z1, z2, z3, z4, z5, z6, z7, z8, z9, z10, z11, z12, z13, z14, z15, z16, z17, z18, z19, z20, z24, z26, z30, z31, z40, z41, z50, z54, z60, z70, z80, z81, z99, z100, z200, z255, z599, z1000, z1299, z4096, z1000000, lw0, lw1, lw2, lw3, lw4, lw5, lw6, lw7, lw12, lw50, lw99, lw255, lw599, lw4096, bI_ok, ble_t, Int.cast_ofNat_Int,  decide_true, decide_false, bI_0, bI_1, b_tf, b_ft, eq_self, n_1, n_2, n_3, n_4, n_5, n_6, n_7, n_8, if_true, if_false, jin, ncl, cond_true, cond_false, Option.bind_some, j_ov, j_oi, j_ol, nle, nlt, neq, nI_add, nmul, nsub, ndiv, nrem2, if_pos, if_neg, Nat.zero_add, Nat.add_zero, j_w_ap, decide_eq_true, decide_eq_false, Bool.true_or, Bool.or_true, Bool.false_or, Bool.or_false, Bool.and_true, Bool.true_and, Bool.false_and, Bool.and_false, Bool.not_true, Bool.not_false, q, h3] at e1
      simp (disch := omega) only [z33, z37, z38, z42, z43, z45, z47, z48, z57, z59, z61, z62, z63, z98, z107, z110, z112, z114, z120, z122, z124, z0, z1, z2, z3, z4, z5, z6, z7, z8, z9, z10, z11, z12, z13, z14, z15, z16, z17, z18, z19, z20, z24, z26, z30, z31, z40, z41, z50, z54, z60, z70, z80, z81, z99, z100, z200, z255, z599, z1000, z1299, z4096, z1000000, lw0, lw1, lw2, lw3, lw4, lw5, lw6, lw7, lw12, lw50, lw99, lw255, lw599, lw4096, bI_ok, ble_t, Int.cast_ofNat_Int,  decide_true, decide_false, bI_0, bI_1, b_tf, b_ft, eq_self, n_1, n_2, n_3, n_4, n_5, n_6, n_7, n_8, if_true, if_false, jin, ncl, cond_true, cond_false, Option.bind_some, j_ov, j_oi, j_ol, nle, nlt, neq, nI_add, nmul, nsub, ndiv, nrem2, if_pos, if_neg, Nat.zero_add, Nat.add_zero, j_w_ap, decide_eq_true, decide_eq_false, Bool.true_or, Bool.or_true, Bool.false_or, Bool.or_false, Bool.and_true, Bool.true_and, Bool.false_and, Bool.and_false, Bool.not_true, Bool.not_false, h6, h2, q1] at e2
      by_cases hv : v = nI 0
      · simp (disch := omega) only [z33, z37, z38, z42, z43, z45, z47, z48, z57, z59, z61, z62, z63, z98, z107, z110, z112, z114, z120, z122, z124, z0, z1, z2, z3, z4, z5, z6, z7, z8, z9, z10, z11, z12, z13, z14, z15, z16, z17, z18, z19, z20, z24, z26, z30, z31, z40, z41, z50, z54, z60, z70, z80, z81, z99, z100, z200, z255, z599, z1000, z1299, z4096, z1000000, lw0, lw1, lw2, lw3, lw4, lw5, lw6, lw7, lw12, lw50, lw99, lw255, lw599, lw4096, bI_ok, ble_t, Int.cast_ofNat_Int,  decide_true, decide_false, bI_0, bI_1, b_tf, b_ft, eq_self, n_1, n_2, n_3, n_4, n_5, n_6, n_7, n_8, if_true, if_false, jin, ncl, cond_true, cond_false, Option.bind_some, j_ov, j_oi, j_ol, nle, nlt, neq, nI_add, nmul, nsub, ndiv, nrem2, if_pos, if_neg, Nat.zero_add, Nat.add_zero, j_w_ap, decide_eq_true, decide_eq_false, Bool.true_or, Bool.or_true, Bool.false_or, Bool.or_false, Bool.and_true, Bool.true_and, Bool.false_and, Bool.and_false, Bool.not_true, Bool.not_false, hv] at e3
        rw [hv] at e2
        refine ⟨_, nI 1, eX11_one (by omega) (e1.trans (e2.trans e3)), hset, hfe, fun z st => ?_⟩
        rw [ev_app, q4 z]
        show ev1 e (-nI 16) (v :: st) = _
        rw [ev1_inv, if_pos (by rw [hv]; rfl)]
      · simp (disch := omega) only [z33, z37, z38, z42, z43, z45, z47, z48, z57, z59, z61, z62, z63, z98, z107, z110, z112, z114, z120, z122, z124, z0, z1, z2, z3, z4, z5, z6, z7, z8, z9, z10, z11, z12, z13, z14, z15, z16, z17, z18, z19, z20, z24, z26, z30, z31, z40, z41, z50, z54, z60, z70, z80, z81, z99, z100, z200, z255, z599, z1000, z1299, z4096, z1000000, lw0, lw1, lw2, lw3, lw4, lw5, lw6, lw7, lw12, lw50, lw99, lw255, lw599, lw4096, bI_ok, ble_t, Int.cast_ofNat_Int,  decide_true, decide_false, bI_0, bI_1, b_tf, b_ft, eq_self, n_1, n_2, n_3, n_4, n_5, n_6, n_7, n_8, if_true, if_false, jin, ncl, cond_true, cond_false, Option.bind_some, j_ov, j_oi, j_ol, nle, nlt, neq, nI_add, nmul, nsub, ndiv, nrem2, if_pos, if_neg, Nat.zero_add, Nat.add_zero, j_w_ap, decide_eq_true, decide_eq_false, Bool.true_or, Bool.or_true, Bool.false_or, Bool.or_false, Bool.and_true, Bool.true_and, Bool.false_and, Bool.and_false, Bool.not_true, Bool.not_false, hv] at e3
        refine ⟨_, nI 0, eX11_one (by omega) (e1.trans (e2.trans e3)), hset, hfe, fun z st => ?_⟩
        rw [ev_app, q4 z]
        show ev1 e (-nI 16) (v :: st) = _
        rw [ev1_inv, if_neg (fun z => hv (by rw [z]; rfl))]
    · simp (disch := omega) only [z33, z37, z38, z42, z43, z45, z47, z48, z57, z59, z61, z62, z63, z98, z107, z110, z112, z114, z120, z122, z124, z0, z1, z2, z3, z4, z5, z6, z7, z8, z9, z10, z11, z12, z13, z14, z15, z16, z17, z18, z19, z20, z24, z26, z30, z31, z40, z41, z50, z54, z60, z70, z80, z81, z99, z100, z200, z255, z599, z1000, z1299, z4096, z1000000, lw0, lw1, lw2, lw3, lw4, lw5, lw6, lw7, lw12, lw50, lw99, lw255, lw599, lw4096, bI_ok, ble_t, Int.cast_ofNat_Int,  decide_true, decide_false, bI_0, bI_1, b_tf, b_ft, eq_self, n_1, n_2, n_3, n_4, n_5, n_6, n_7, n_8, if_true, if_false, jin, ncl, cond_true, cond_false, Option.bind_some, j_ov, j_oi, j_ol, nle, nlt, neq, nI_add, nmul, nsub, ndiv, nrem2, if_pos, if_neg, Nat.zero_add, Nat.add_zero, j_w_ap, decide_eq_true, decide_eq_false, Bool.true_or, Bool.or_true, Bool.false_or, Bool.or_false, Bool.and_true, Bool.true_and, Bool.false_and, Bool.and_false, Bool.not_true, Bool.not_false, q, h3] at e1
      simp (disch := omega) only [z33, z37, z38, z42, z43, z45, z47, z48, z57, z59, z61, z62, z63, z98, z107, z110, z112, z114, z120, z122, z124, z0, z1, z2, z3, z4, z5, z6, z7, z8, z9, z10, z11, z12, z13, z14, z15, z16, z17, z18, z19, z20, z24, z26, z30, z31, z40, z41, z50, z54, z60, z70, z80, z81, z99, z100, z200, z255, z599, z1000, z1299, z4096, z1000000, lw0, lw1, lw2, lw3, lw4, lw5, lw6, lw7, lw12, lw50, lw99, lw255, lw599, lw4096, bI_ok, ble_t, Int.cast_ofNat_Int,  decide_true, decide_false, bI_0, bI_1, b_tf, b_ft, eq_self, n_1, n_2, n_3, n_4, n_5, n_6, n_7, n_8, if_true, if_false, jin, ncl, cond_true, cond_false, Option.bind_some, j_ov, j_oi, j_ol, nle, nlt, neq, nI_add, nmul, nsub, ndiv, nrem2, if_pos, if_neg, Nat.zero_add, Nat.add_zero, j_w_ap, decide_eq_true, decide_eq_false, Bool.true_or, Bool.or_true, Bool.false_or, Bool.or_false, Bool.and_true, Bool.true_and, Bool.false_and, Bool.and_false, Bool.not_true, Bool.not_false, h6, h2, q1] at e2
      simp (disch := omega) only [z33, z37, z38, z42, z43, z45, z47, z48, z57, z59, z61, z62, z63, z98, z107, z110, z112, z114, z120, z122, z124, z0, z1, z2, z3, z4, z5, z6, z7, z8, z9, z10, z11, z12, z13, z14, z15, z16, z17, z18, z19, z20, z24, z26, z30, z31, z40, z41, z50, z54, z60, z70, z80, z81, z99, z100, z200, z255, z599, z1000, z1299, z4096, z1000000, lw0, lw1, lw2, lw3, lw4, lw5, lw6, lw7, lw12, lw50, lw99, lw255, lw599, lw4096, bI_ok, ble_t, Int.cast_ofNat_Int,  decide_true, decide_false, bI_0, bI_1, b_tf, b_ft, eq_self, n_1, n_2, n_3, n_4, n_5, n_6, n_7, n_8, if_true, if_false, jin, ncl, cond_true, cond_false, Option.bind_some, j_ov, j_oi, j_ol, nle, nlt, neq, nI_add, nmul, nsub, ndiv, nrem2, if_pos, if_neg, Nat.zero_add, Nat.add_zero, j_w_ap, decide_eq_true, decide_eq_false, Bool.true_or, Bool.or_true, Bool.false_or, Bool.or_false, Bool.and_true, Bool.true_and, Bool.false_and, Bool.and_false, Bool.not_true, Bool.not_false] at e3
      refine ⟨_, -v, eX11_one (by omega) (e1.trans (e2.trans e3)), hset, hfe, fun z st => ?_⟩
      rw [ev_app, q4 z]
      show ev1 e (-nI 17) (v :: st) = _
      rw [ev1_neg]
theorem J_operand (hT : ∀ i, i < L → T i ≤ 255) (hL : L ≤ 120) (hp : pos ≤ L) (hop : op ≤ 6) (hdd : 4 ≤ dd) (hE : op < 6 → ∀ p, pos < p → p ≤ L → J T L 37 201 dd (op + 1) p) (hO : op < 6 → ∀ p, pos < p → p ≤ L → J T L 44 207 dd (op + 1) p) : J T L 44 207 (dd + 1) op pos := by
  by_cases hdg : dgt T L pos
  · exact J_op_num hT hL hdg hdd
  · by_cases hnm : pos < L ∧ ∃ k, NM (T pos) k
    · obtain ⟨h1, k, h2⟩ := hnm
      exact J_op_nam hT hL h1 h2 hdd
    · have hnm2 : pos < L → ∀ k, ¬ NM (T pos) k := fun h k z => hnm ⟨h, k, z⟩
      by_cases h6 : op = 6
      · exact J_op_fail hT hL hp hop hdg hnm2 (Or.inl h6) hdd
      · by_cases hpl : pos < L
        · by_cases c1 : T pos = 40
          · exact J_op_par hT hL hpl c1 (by omega) hdd (hE (by omega) (pos + 1) (by omega) (by omega))
          · by_cases c2 : T pos = 33
            · exact J_op_un hT hL hpl c2 (Or.inl ⟨rfl, rfl⟩) (by omega) hdd (hO (by omega) (pos + 1) (by omega) (by omega))
            · by_cases c3 : T pos = 45
              · exact J_op_un hT hL hpl c3 (Or.inr ⟨rfl, rfl⟩) (by omega) hdd (hO (by omega) (pos + 1) (by omega) (by omega))
              · exact J_op_fail hT hL hp hop hdg hnm2 (Or.inr fun _ => ⟨c1, c2, c3⟩) hdd
        · exact J_op_fail hT hL hp hop hdg hnm2 (Or.inr fun z => absurd z hpl) hdd
def d0 (op : Nat) : Nat := 5 + 6 * (6 - op)
def JA (T : Nat → Nat) (L op pos : Nat) : Prop := J T L 44 207 (d0 op) op pos ∧ J T L 42 205 (d0 op + 1) op pos ∧ J T L 40 204 (d0 op + 2) op pos ∧ J T L 39 203 (d0 op + 3) op pos ∧ J T L 38 202 (d0 op + 4) op pos ∧ J T L 37 201 (d0 op + 5) op pos
theorem JA_step (hT : ∀ i, i < L → T i ≤ 255) (hL : L ≤ 120) (hp : pos ≤ L) (H : ∀ p, pos < p → p ≤ L → ∀ op, op ≤ 6 → JA T L op p) (hop : op ≤ 6) : JA T L op pos := by
  have hd0 : 5 ≤ d0 op := by unfold d0; omega
  have h1 : J T L 44 207 (d0 op) op pos := by
    have := J_operand (dd := d0 op - 1) hT hL hp hop (by omega) (fun h6 p hp1 hp2 => (H p hp1 hp2 (op + 1) (by omega)).2.2.2.2.2.mono (by unfold d0; omega)) (fun h6 p hp1 hp2 => (H p hp1 hp2 (op + 1) (by omega)).1.mono (by unfold d0; omega))
    rw [show d0 op - 1 + 1 = d0 op by omega] at this
    exact this
  have h2 := J_p hT hL (by omega) hp h1 (fun p hp1 hp2 => (H p hp1 hp2 op hop).1)
  have h3 := J_s hT hL (by omega) hp h2 (fun p hp1 hp2 => (H p hp1 hp2 op hop).2.1)
  have h4 := J_compared hT hL (by omega) hp h3 (fun p hp1 hp2 => (H p hp1 hp2 op hop).2.2.1)
  have h5 := J_both hT hL (by omega) hp h4 (fun p hp1 hp2 => (H p hp1 hp2 op hop).2.2.2.1)
  have h6 := J_either hT hL (by omega) hp h5 (fun p hp1 hp2 => (H p hp1 hp2 op hop).2.2.2.2.1)
  exact ⟨h1, h2, h3, h4, h5, h6⟩
theorem JA_all (hT : ∀ i, i < L → T i ≤ 255) (hL : L ≤ 120) : ∀ (r pos : Nat), L - pos ≤ r → pos ≤ L → ∀ op, op ≤ 6 → JA T L op pos := by
  intro r
  induction r with
  | zero =>
    intro pos hr hp op hop
    exact JA_step hT hL hp (fun p hp1 hp2 => by omega) hop
  | succ r ih =>
    intro pos hr hp op hop
    exact JA_step hT hL hp (fun p hp1 hp2 op hop => ih p (by omega) hp2 op hop) hop
theorem J_top (hT : ∀ i, i < L → T i ≤ 255) (hL : L ≤ 120) (hp : pos ≤ L) : J T L 37 201 46 0 pos := (JA_all hT hL (L - pos) pos (Nat.le_refl _) hp 0 (by omega)).2.2.2.2.2
end LQ
