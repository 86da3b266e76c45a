/-! ===== the law: ands, sums, products side by side (own text; the ands are printed out of the ors) ===== -/
section LM
variable {T : Nat → Nat} {L pos d op dd : Nat} {fl : Option Nat} {D : List Int32} {M : j_M} {N : j_N} {b : Bool} {e : Nat → Int32} {x : Int32}
/-- the loop of the ands, at its head -/
def LB (T : Nat → Nat) (L dd op pos : Nat) : Prop := ∃ pos' fl cs, pos ≤ pos' ∧ pos' ≤ L ∧ pos + cs.length ≤ pos' ∧ (∀ f, fl = some f → f ≤ L) ∧
  (∀ (d i : Nat) (M : j_M) (N : j_N) (D : List Int32), dd ≤ d → XS T L pos none D M → D.length ≤ pos → i ≤ pos → ∃ M', R d kX4_readBoth 7 [.ref 16, .int (nI op), .int (nI i)] [] (S0, M, N) = some (none, (S0, M', N)) ∧ XS T L pos' fl (D ++ cs) M' ∧ FX M M') ∧
  (∀ (d : Nat) (M : j_M) (N : j_N) (b : Bool) (e : Nat → Int32) (x : Int32), dd ≤ d → ES T L b e pos none op M → ∃ M' v, R d kX11_both 5 [.ref 46, .int x, .null] [] (S0, M, N) = some (some (.int v), (S0, M', N)) ∧ ES T L b e pos' fl op M' ∧ FE M M' ∧ (fl = none → ∀ st, ev e cs (x :: st) = v :: st))
theorem X_bo_end {i : Nat} (hd : 2 ≤ d) (hL : L ≤ 120) (hp : pos ≤ L) (hT : ∀ i, i < L → T i ≤ 255) (hf : ∀ f, fl = some f → f ≤ L) (ht : ¬ tk T L pos fl 38) (h : XS T L pos fl D M) : R d kX4_readBoth 7 [.ref 16, .int (nI op), .int (nI i)] [] (S0, M, N) = some (none, (S0, M, N)) := by
  have q := X_takes_f (d := d) (N := N) hd hL hp hT (by omega) hf ht h
  have e := bX4_readBoth_7 d (nI op) (nI i) M N
  simp (disch := omega) only [z33, z37, z38, z42, z43, z45, z47, z48, z57, z59, z61, z62, z63, z98, z107, z110, z112, z114, z120, z122, z124, z0, z1, z2, z3, z4, z5, z6, z7, z8, z9, z10, z11, z12, z13, z14, z15, z16, z17, z18, z19, z20, z24, z26, z30, z31, z40, z41, z50, z54, z60, z70, z80, z81, z99, z100, z200, z255, z599, z1000, z1299, z4096, z1000000, lw0, lw1, lw2, lw3, lw4, lw5, lw6, lw7, lw12, lw50, lw99, lw255, lw599, lw4096, bI_ok, ble_t, Int.cast_ofNat_Int,  decide_true, decide_false, bI_0, bI_1, b_tf, b_ft, eq_self, n_1, n_2, n_3, n_4, n_5, n_6, n_7, n_8, if_true, if_false, jin, ncl, cond_true, cond_false, Option.bind_some, j_ov, j_oi, j_ol, nle, nlt, neq, nI_add, nmul, nsub, ndiv, nrem2, if_pos, if_neg, Nat.zero_add, Nat.add_zero, j_w_ap, decide_eq_true, decide_eq_false, Bool.true_or, Bool.or_true, Bool.false_or, Bool.or_false, Bool.and_true, Bool.true_and, Bool.false_and, Bool.and_false, Bool.not_true, Bool.not_false, q, ite_self] at e
  exact e
theorem M_bo_end (hd : 2 ≤ d) (hL : L ≤ 120) (hp : pos ≤ L) (hT : ∀ i, i < L → T i ≤ 255) (hf : ∀ f, fl = some f → f ≤ L) (ht : ¬ tk T L pos fl 38) (h : ES T L b e pos fl op M) : R d kX11_both 5 [.ref 46, .int x, .null] [] (S0, M, N) = some (some (.int x), (S0, M, N)) := by
  have q := M_takes_f (d := d) (N := N) hd hL hp hT (by omega) (by omega) hf ht h
  have e := bX11_both_5 d x M N
  simp (disch := omega) only [z33, z37, z38, z42, z43, z45, z47, z48, z57, z59, z61, z62, z63, z98, z107, z110, z112, z114, z120, z122, z124, z0, z1, z2, z3, z4, z5, z6, z7, z8, z9, z10, z11, z12, z13, z14, z15, z16, z17, z18, z19, z20, z24, z26, z30, z31, z40, z41, z50, z54, z60, z70, z80, z81, z99, z100, z200, z255, z599, z1000, z1299, z4096, z1000000, lw0, lw1, lw2, lw3, lw4, lw5, lw6, lw7, lw12, lw50, lw99, lw255, lw599, lw4096, bI_ok, ble_t, Int.cast_ofNat_Int,  decide_true, decide_false, bI_0, bI_1, b_tf, b_ft, eq_self, n_1, n_2, n_3, n_4, n_5, n_6, n_7, n_8, if_true, if_false, jin, ncl, cond_true, cond_false, Option.bind_some, j_ov, j_oi, j_ol, nle, nlt, neq, nI_add, nmul, nsub, ndiv, nrem2, if_pos, if_neg, Nat.zero_add, Nat.add_zero, j_w_ap, decide_eq_true, decide_eq_false, Bool.true_or, Bool.or_true, Bool.false_or, Bool.or_false, Bool.and_true, Bool.true_and, Bool.false_and, Bool.and_false, Bool.not_true, Bool.not_false, q] at e
  exact e
theorem jn_and {l r : Int32} : jn (-nI 7) l r = (if l = 0 then nI 0 else if r = 0 then nI 0 else nI 1) := by
  unfold jn
  simp (disch := omega) only [n_7, Nat.reduceEqDiff, if_false, if_true]
theorem L_both (hT : ∀ i, i < L → T i ≤ 255) (hL : L ≤ 120) (hdd : 2 ≤ dd) : ∀ (r pos : Nat), L - pos ≤ r → pos ≤ L → (∀ p, pos < p → p ≤ L → J T L 39 203 dd op p) → LB T L dd op pos := by
  intro r
  induction r with
  | zero =>
    intro pos hr hp H
    have ht : ¬ tk T L pos none 38 := fun z => by have := z.2.1; omega
    refine ⟨pos, none, [], Nat.le_refl _, hp, Nat.le_refl _, (fun f hf => by cases hf), fun d i M N D hd h hD hi => ?_, fun d M N b e x hd h => ?_⟩
    · exact ⟨M, X_bo_end (by omega) hL hp hT (fun f hf => by cases hf) ht h, by rw [List.append_nil]; exact h, FX.rf⟩
    · exact ⟨M, x, M_bo_end (by omega) hL hp hT (fun f hf => by cases hf) ht h, h, FE.rf, fun _ st => rfl⟩
  | succ r ih =>
    intro pos hr hp H
    by_cases ht : tk T L pos none 38
    · have hpl := ht.2.1
      obtain ⟨p1, f1, c1, g1, g2, g3, g4, g5, gx, ge⟩ := H (pos + 1) (by omega) (by omega)
      -- what one turn does
      have stx : ∀ (d i : Nat) (M : j_M) (N : j_N) (D : List Int32), dd ≤ d → XS T L pos none D M → D.length ≤ pos → i ≤ pos → ∃ M', R d kX4_readBoth 7 [.ref 16, .int (nI op), .int (nI i)] [] (S0, M, N) = R d kX4_readBoth 7 [.ref 16, .int (nI op), .int (nI (i + 1))] [] (S0, M', N) ∧ XS T L p1 f1 (D ++ (c1 ++ [-nI 7])) M' ∧ FX M M' := by
        intro d i M N D hd h hD hi
        have q := X_takes_t (d := d) (N := N) (by omega) hL (by omega) ht h
        obtain ⟨M1, q1, q2, q3⟩ := gx d _ N D hd h.adv (by omega)
        obtain ⟨M2, q4, q5, q6⟩ := X_write (d := d) (N := N) (x := -nI 7) (by omega) (by rw [List.length_append]; omega) q2
        have e := bX4_readBoth_7 d (nI op) (nI i) M N
        simp (disch := omega) only [z33, z37, z38, z42, z43, z45, z47, z48, z57, z59, z61, z62, z63, z98, z107, z110, z112, z114, z120, z122, z124, z0, z1, z2, z3, z4, z5, z6, z7, z8, z9, z10, z11, z12, z13, z14, z15, z16, z17, z18, z19, z20, z24, z26, z30, z31, z40, z41, z50, z54, z60, z70, z80, z81, z99, z100, z200, z255, z599, z1000, z1299, z4096, z1000000, lw0, lw1, lw2, lw3, lw4, lw5, lw6, lw7, lw12, lw50, lw99, lw255, lw599, lw4096, bI_ok, ble_t, Int.cast_ofNat_Int,  decide_true, decide_false, bI_0, bI_1, b_tf, b_ft, eq_self, n_1, n_2, n_3, n_4, n_5, n_6, n_7, n_8, if_true, if_false, jin, ncl, cond_true, cond_false, Option.bind_some, j_ov, j_oi, j_ol, nle, nlt, neq, nI_add, nmul, nsub, ndiv, nrem2, if_pos, if_neg, Nat.zero_add, Nat.add_zero, j_w_ap, decide_eq_true, decide_eq_false, Bool.true_or, Bool.or_true, Bool.false_or, Bool.or_false, Bool.and_true, Bool.true_and, Bool.false_and, Bool.and_false, Bool.not_true, Bool.not_false, q, q1, q4] at e
        rw [List.append_assoc] at q5
        exact ⟨M2, e, q5, (FX.w (by omega)).tr (q3.tr q6)⟩
      have ste : ∀ (d : Nat) (M : j_M) (N : j_N) (b : Bool) (e : Nat → Int32) (x : Int32), dd ≤ d → ES T L b e pos none op M → ∃ M' r2, R d kX11_both 5 [.ref 46, .int x, .null] [] (S0, M, N) = R d kX11_both 5 [.ref 46, .int (jn (-nI 7) x r2), .null] [] (S0, M', N) ∧ ES T L b e p1 f1 op M' ∧ FE M M' ∧ (f1 = none → ∀ st, ev e c1 st = r2 :: st) := by
        intro d M N b e x hd h
        have q := M_takes_t (d := d) (N := N) (by omega) hL (by omega) ht h
        obtain ⟨M1, r2, q1, q2, q3, q4⟩ := ge d _ N b e hd h.adv
        have e1 := bX11_both_5 d x M N
        refine ⟨M1, r2, ?_, q2, (FE.w (by omega)).tr q3, q4⟩
        rw [jn_and]
        by_cases hx0 : x = nI 0
        · simp (disch := omega) only [z33, z37, z38, z42, z43, z45, z47, z48, z57, z59, z61, z62, z63, z98, z107, z110, z112, z114, z120, z122, z124, z0, z1, z2, z3, z4, z5, z6, z7, z8, z9, z10, z11, z12, z13, z14, z15, z16, z17, z18, z19, z20, z24, z26, z30, z31, z40, z41, z50, z54, z60, z70, z80, z81, z99, z100, z200, z255, z599, z1000, z1299, z4096, z1000000, lw0, lw1, lw2, lw3, lw4, lw5, lw6, lw7, lw12, lw50, lw99, lw255, lw599, lw4096, bI_ok, ble_t, Int.cast_ofNat_Int,  decide_true, decide_false, bI_0, bI_1, b_tf, b_ft, eq_self, n_1, n_2, n_3, n_4, n_5, n_6, n_7, n_8, if_true, if_false, jin, ncl, cond_true, cond_false, Option.bind_some, j_ov, j_oi, j_ol, nle, nlt, neq, nI_add, nmul, nsub, ndiv, nrem2, if_pos, if_neg, Nat.zero_add, Nat.add_zero, j_w_ap, decide_eq_true, decide_eq_false, Bool.true_or, Bool.or_true, Bool.false_or, Bool.or_false, Bool.and_true, Bool.true_and, Bool.false_and, Bool.and_false, Bool.not_true, Bool.not_false, q, q1, hx0] at e1
          simp (disch := omega) only [z33, z37, z38, z42, z43, z45, z47, z48, z57, z59, z61, z62, z63, z98, z107, z110, z112, z114, z120, z122, z124, z0, z1, z2, z3, z4, z5, z6, z7, z8, z9, z10, z11, z12, z13, z14, z15, z16, z17, z18, z19, z20, z24, z26, z30, z31, z40, z41, z50, z54, z60, z70, z80, z81, z99, z100, z200, z255, z599, z1000, z1299, z4096, z1000000, lw0, lw1, lw2, lw3, lw4, lw5, lw6, lw7, lw12, lw50, lw99, lw255, lw599, lw4096, bI_ok, ble_t, Int.cast_ofNat_Int,  decide_true, decide_false, bI_0, bI_1, b_tf, b_ft, eq_self, n_1, n_2, n_3, n_4, n_5, n_6, n_7, n_8, if_true, if_false, jin, ncl, cond_true, cond_false, Option.bind_some, j_ov, j_oi, j_ol, nle, nlt, neq, nI_add, nmul, nsub, ndiv, nrem2, if_pos, if_neg, Nat.zero_add, Nat.add_zero, j_w_ap, decide_eq_true, decide_eq_false, Bool.true_or, Bool.or_true, Bool.false_or, Bool.or_false, Bool.and_true, Bool.true_and, Bool.false_and, Bool.and_false, Bool.not_true, Bool.not_false, hx0]
          exact e1
        · by_cases hr0 : r2 = nI 0
          · simp (disch := omega) only [z33, z37, z38, z42, z43, z45, z47, z48, z57, z59, z61, z62, z63, z98, z107, z110, z112, z114, z120, z122, z124, z0, z1, z2, z3, z4, z5, z6, z7, z8, z9, z10, z11, z12, z13, z14, z15, z16, z17, z18, z19, z20, z24, z26, z30, z31, z40, z41, z50, z54, z60, z70, z80, z81, z99, z100, z200, z255, z599, z1000, z1299, z4096, z1000000, lw0, lw1, lw2, lw3, lw4, lw5, lw6, lw7, lw12, lw50, lw99, lw255, lw599, lw4096, bI_ok, ble_t, Int.cast_ofNat_Int,  decide_true, decide_false, bI_0, bI_1, b_tf, b_ft, eq_self, n_1, n_2, n_3, n_4, n_5, n_6, n_7, n_8, if_true, if_false, jin, ncl, cond_true, cond_false, Option.bind_some, j_ov, j_oi, j_ol, nle, nlt, neq, nI_add, nmul, nsub, ndiv, nrem2, if_pos, if_neg, Nat.zero_add, Nat.add_zero, j_w_ap, decide_eq_true, decide_eq_false, Bool.true_or, Bool.or_true, Bool.false_or, Bool.or_false, Bool.and_true, Bool.true_and, Bool.false_and, Bool.and_false, Bool.not_true, Bool.not_false, q, q1, hx0, hr0] at e1
            simp (disch := omega) only [z33, z37, z38, z42, z43, z45, z47, z48, z57, z59, z61, z62, z63, z98, z107, z110, z112, z114, z120, z122, z124, z0, z1, z2, z3, z4, z5, z6, z7, z8, z9, z10, z11, z12, z13, z14, z15, z16, z17, z18, z19, z20, z24, z26, z30, z31, z40, z41, z50, z54, z60, z70, z80, z81, z99, z100, z200, z255, z599, z1000, z1299, z4096, z1000000, lw0, lw1, lw2, lw3, lw4, lw5, lw6, lw7, lw12, lw50, lw99, lw255, lw599, lw4096, bI_ok, ble_t, Int.cast_ofNat_Int,  decide_true, decide_false, bI_0, bI_1, b_tf, b_ft, eq_self, n_1, n_2, n_3, n_4, n_5, n_6, n_7, n_8, if_true, if_false, jin, ncl, cond_true, cond_false, Option.bind_some, j_ov, j_oi, j_ol, nle, nlt, neq, nI_add, nmul, nsub, ndiv, nrem2, if_pos, if_neg, Nat.zero_add, Nat.add_zero, j_w_ap, decide_eq_true, decide_eq_false, Bool.true_or, Bool.or_true, Bool.false_or, Bool.or_false, Bool.and_true, Bool.true_and, Bool.false_and, Bool.and_false, Bool.not_true, Bool.not_false, hx0, hr0]
            exact e1
          · simp (disch := omega) only [z33, z37, z38, z42, z43, z45, z47, z48, z57, z59, z61, z62, z63, z98, z107, z110, z112, z114, z120, z122, z124, z0, z1, z2, z3, z4, z5, z6, z7, z8, z9, z10, z11, z12, z13, z14, z15, z16, z17, z18, z19, z20, z24, z26, z30, z31, z40, z41, z50, z54, z60, z70, z80, z81, z99, z100, z200, z255, z599, z1000, z1299, z4096, z1000000, lw0, lw1, lw2, lw3, lw4, lw5, lw6, lw7, lw12, lw50, lw99, lw255, lw599, lw4096, bI_ok, ble_t, Int.cast_ofNat_Int,  decide_true, decide_false, bI_0, bI_1, b_tf, b_ft, eq_self, n_1, n_2, n_3, n_4, n_5, n_6, n_7, n_8, if_true, if_false, jin, ncl, cond_true, cond_false, Option.bind_some, j_ov, j_oi, j_ol, nle, nlt, neq, nI_add, nmul, nsub, ndiv, nrem2, if_pos, if_neg, Nat.zero_add, Nat.add_zero, j_w_ap, decide_eq_true, decide_eq_false, Bool.true_or, Bool.or_true, Bool.false_or, Bool.or_false, Bool.and_true, Bool.true_and, Bool.false_and, Bool.and_false, Bool.not_true, Bool.not_false, q, q1, hx0, hr0] at e1
            simp (disch := omega) only [z33, z37, z38, z42, z43, z45, z47, z48, z57, z59, z61, z62, z63, z98, z107, z110, z112, z114, z120, z122, z124, z0, z1, z2, z3, z4, z5, z6, z7, z8, z9, z10, z11, z12, z13, z14, z15, z16, z17, z18, z19, z20, z24, z26, z30, z31, z40, z41, z50, z54, z60, z70, z80, z81, z99, z100, z200, z255, z599, z1000, z1299, z4096, z1000000, lw0, lw1, lw2, lw3, lw4, lw5, lw6, lw7, lw12, lw50, lw99, lw255, lw599, lw4096, bI_ok, ble_t, Int.cast_ofNat_Int,  decide_true, decide_false, bI_0, bI_1, b_tf, b_ft, eq_self, n_1, n_2, n_3, n_4, n_5, n_6, n_7, n_8, if_true, if_false, jin, ncl, cond_true, cond_false, Option.bind_some, j_ov, j_oi, j_ol, nle, nlt, neq, nI_add, nmul, nsub, ndiv, nrem2, if_pos, if_neg, Nat.zero_add, Nat.add_zero, j_w_ap, decide_eq_true, decide_eq_false, Bool.true_or, Bool.or_true, Bool.false_or, Bool.or_false, Bool.and_true, Bool.true_and, Bool.false_and, Bool.and_false, Bool.not_true, Bool.not_false, hx0, hr0]
            exact e1
      cases f1 with
      | some f =>
        refine ⟨p1, some f, c1 ++ [-nI 7], by omega, g2, by rw [List.length_append, List.length_singleton]; omega, g5, fun d i M N D hd h hD hi => ?_, fun d M N b e x hd h => ?_⟩
        · obtain ⟨M1, q1, q2, q3⟩ := stx d i M N D hd h hD hi
          exact ⟨M1, q1.trans (X_bo_end (by omega) hL g2 hT g5 tk_s q2), q2, q3⟩
        · obtain ⟨M1, r2, q1, q2, q3, -⟩ := ste d M N b e x hd h
          exact ⟨M1, _, q1.trans (M_bo_end (by omega) hL g2 hT g5 tk_s q2), q2, q3, fun z => by cases z⟩
      | none =>
        have hlt := g4 rfl
        obtain ⟨p2, f2, c2, k1, k2, k3, k4, kx, ke⟩ := ih p1 (by omega) g2 (fun p hp1 hp2 => H p (by omega) hp2)
        refine ⟨p2, f2, c1 ++ [-nI 7] ++ c2, by omega, k2, by rw [List.length_append, List.length_append, List.length_singleton]; omega, k4, fun d i M N D hd h hD hi => ?_, fun d M N b e x hd h => ?_⟩
        · obtain ⟨M1, q1, q2, q3⟩ := stx d i M N D hd h hD hi
          obtain ⟨M2, q4, q5, q6⟩ := kx d (i + 1) M1 N _ hd q2 (by rw [List.length_append, List.length_append, List.length_singleton]; omega) (by omega)
          rw [List.append_assoc] at q5
          exact ⟨M2, q1.trans q4, q5, q3.tr q6⟩
        · obtain ⟨M1, r2, q1, q2, q3, q4⟩ := ste d M N b e x hd h
          obtain ⟨M2, v, q5, q6, q7, q8⟩ := ke d M1 N b e (jn (-nI 7) x r2) hd q2
          refine ⟨M2, v, q1.trans q5, q6, q3.tr q7, fun z st => ?_⟩
          rw [ev_app, ev_app, q4 rfl]
          show ev e c2 (ev1 e (-nI 7) (r2 :: x :: st)) = _
          rw [ev1_bin (by omega) (by omega)]
          exact q8 z st
    · refine ⟨pos, none, [], Nat.le_refl _, hp, Nat.le_refl _, (fun f hf => by cases hf), fun d i M N D hd h hD hi => ?_, fun d M N b e x hd h => ?_⟩
      · exact ⟨M, X_bo_end (by omega) hL hp hT (fun f hf => by cases hf) ht h, by rw [List.append_nil]; exact h, FX.rf⟩
      · exact ⟨M, x, M_bo_end (by omega) hL hp hT (fun f hf => by cases hf) ht h, h, FE.rf, fun _ st => rfl⟩
/-- both, out of compared and its loop -/
theorem J_both (hT : ∀ i, i < L → T i ≤ 255) (hL : L ≤ 120) (hdd : 2 ≤ dd) (hp : pos ≤ L) (h0 : J T L 39 203 dd op pos) (H : ∀ p, pos < p → p ≤ L → J T L 39 203 dd op p) : J T L 38 202 (dd + 1) op pos := by
  obtain ⟨p1, f1, c1, g1, g2, g3, g4, g5, gx, ge⟩ := h0
  have bx : ∀ (d : Nat) (M : j_M) (N : j_N) (D : List Int32), dd + 1 ≤ d → XS T L pos none D M → D.length ≤ pos → ∃ M1, R (d - 1) kX4_readBoth 0 [.ref 16, .int (nI op), .null] [] (S0, M, N) = R (d - 1) kX4_readBoth 7 [.ref 16, .int (nI op), .int (nI 0)] [] (S0, M1, N) ∧ XS T L p1 f1 (D ++ c1) M1 ∧ FX M M1 := by
    intro d M N D hd h hD
    obtain ⟨M1, q1, q2, q3⟩ := gx (d - 1) M N D (by omega) h hD
    have e := bX4_readBoth_0 (d - 1) (nI op) M N
    simp (disch := omega) only [z33, z37, z38, z42, z43, z45, z47, z48, z57, z59, z61, z62, z63, z98, z107, z110, z112, z114, z120, z122, z124, z0, z1, z2, z3, z4, z5, z6, z7, z8, z9, z10, z11, z12, z13, z14, z15, z16, z17, z18, z19, z20, z24, z26, z30, z31, z40, z41, z50, z54, z60, z70, z80, z81, z99, z100, z200, z255, z599, z1000, z1299, z4096, z1000000, lw0, lw1, lw2, lw3, lw4, lw5, lw6, lw7, lw12, lw50, lw99, lw255, lw599, lw4096, bI_ok, ble_t, Int.cast_ofNat_Int,  decide_true, decide_false, bI_0, bI_1, b_tf, b_ft, eq_self, n_1, n_2, n_3, n_4, n_5, n_6, n_7, n_8, if_true, if_false, jin, ncl, cond_true, cond_false, Option.bind_some, j_ov, j_oi, j_ol, nle, nlt, neq, nI_add, nmul, nsub, ndiv, nrem2, if_pos, if_neg, Nat.zero_add, Nat.add_zero, j_w_ap, decide_eq_true, decide_eq_false, Bool.true_or, Bool.or_true, Bool.false_or, Bool.or_false, Bool.and_true, Bool.true_and, Bool.false_and, Bool.and_false, Bool.not_true, Bool.not_false, q1] at e
    exact ⟨M1, e, q2, q3⟩
  have be : ∀ (d : Nat) (M : j_M) (N : j_N) (b : Bool) (e : Nat → Int32), dd + 1 ≤ d → ES T L b e pos none op M → ∃ M1 v, R (d - 1) kX11_both 0 [.ref 46, .null, .null] [] (S0, M, N) = R (d - 1) kX11_both 5 [.ref 46, .int v, .null] [] (S0, M1, N) ∧ ES T L b e p1 f1 op M1 ∧ FE M M1 ∧ (f1 = none → ∀ st, ev e c1 st = v :: st) := by
    intro d M N b e hd h
    obtain ⟨M1, v, q1, q2, q3, q4⟩ := ge (d - 1) M N b e (by omega) h
    have e1 := bX11_both_0 (d - 1) M N
    simp (disch := omega) only [z33, z37, z38, z42, z43, z45, z47, z48, z57, z59, z61, z62, z63, z98, z107, z110, z112, z114, z120, z122, z124, z0, z1, z2, z3, z4, z5, z6, z7, z8, z9, z10, z11, z12, z13, z14, z15, z16, z17, z18, z19, z20, z24, z26, z30, z31, z40, z41, z50, z54, z60, z70, z80, z81, z99, z100, z200, z255, z599, z1000, z1299, z4096, z1000000, lw0, lw1, lw2, lw3, lw4, lw5, lw6, lw7, lw12, lw50, lw99, lw255, lw599, lw4096, bI_ok, ble_t, Int.cast_ofNat_Int,  decide_true, decide_false, bI_0, bI_1, b_tf, b_ft, eq_self, n_1, n_2, n_3, n_4, n_5, n_6, n_7, n_8, if_true, if_false, jin, ncl, cond_true, cond_false, Option.bind_some, j_ov, j_oi, j_ol, nle, nlt, neq, nI_add, nmul, nsub, ndiv, nrem2, if_pos, if_neg, Nat.zero_add, Nat.add_zero, j_w_ap, decide_eq_true, decide_eq_false, Bool.true_or, Bool.or_true, Bool.false_or, Bool.or_false, Bool.and_true, Bool.true_and, Bool.false_and, Bool.and_false, Bool.not_true, Bool.not_false, q1] at e1
    exact ⟨M1, v, e1, q2, q3, q4⟩
  cases f1 with
  | some f =>
    refine ⟨p1, some f, c1, g1, g2, g3, (fun z => by cases z), g5, fun d M N D hd h hD => ?_, fun d M N b e hd h => ?_⟩
    · obtain ⟨M1, q1, q2, q3⟩ := bx d M N D hd h hD
      exact ⟨M1, eX4_readBoth (by omega) (q1.trans (X_bo_end (by omega) hL g2 hT g5 tk_s q2)), q2, q3⟩
    · obtain ⟨M1, v, q1, q2, q3, -⟩ := be d M N b e hd h
      exact ⟨M1, v, eX11_both (by omega) (q1.trans (M_bo_end (by omega) hL g2 hT g5 tk_s q2)), q2, q3, fun z => by cases z⟩
  | none =>
    have hlt := g4 rfl
    obtain ⟨p2, f2, c2, k1, k2, k3, k4, kx, ke⟩ := L_both hT hL hdd (L - p1) p1 (Nat.le_refl _) g2 (fun p hp1 hp2 => H p (by omega) hp2)
    refine ⟨p2, f2, c1 ++ c2, by omega, k2, by rw [List.length_append]; omega, fun z => by omega, k4, fun d M N D hd h hD => ?_, fun d M N b e hd h => ?_⟩
    · obtain ⟨M1, q1, q2, q3⟩ := bx d M N D hd h hD
      obtain ⟨M2, q4, q5, q6⟩ := kx (d - 1) 0 M1 N (D ++ c1) (by omega) q2 (by rw [List.length_append]; omega) (by omega)
      rw [List.append_assoc] at q5
      exact ⟨M2, eX4_readBoth (by omega) (q1.trans q4), q5, q3.tr q6⟩
    · obtain ⟨M1, v, q1, q2, q3, q4⟩ := be d M N b e hd h
      obtain ⟨M2, v2, q5, q6, q7, q8⟩ := ke (d - 1) M1 N b e v (by omega) q2
      refine ⟨M2, v2, eX11_both (by omega) (q1.trans q5), q6, q3.tr q7, fun z st => ?_⟩
      rw [ev_app, q4 rfl]
      exact q8 z st
theorem jn_8 {l r : Int32} : jn (-nI 8) l r = (if r ≤ l then nI 0 else nI 1) := by
  unfold jn
  simp (disch := omega) only [n_7, Nat.reduceEqDiff, if_false, if_true]
theorem jn_9 {l r : Int32} : jn (-nI 9) l r = (if l = r then nI 1 else nI 0) := by
  unfold jn
  simp (disch := omega) only [n_7, Nat.reduceEqDiff, if_false, if_true]
theorem jn_10 {l r : Int32} : jn (-nI 10) l r = (if l ≤ r then nI 0 else nI 1) := by
  unfold jn
  simp (disch := omega) only [n_7, Nat.reduceEqDiff, if_false, if_true]
theorem jn_11 {l r : Int32} : jn (-nI 11) l r = l + r := by
  unfold jn
  simp (disch := omega) only [n_7, Nat.reduceEqDiff, if_false, if_true]
theorem jn_12 {l r : Int32} : jn (-nI 12) l r = l - r := by
  unfold jn
  simp (disch := omega) only [n_7, Nat.reduceEqDiff, if_false, if_true]
theorem jn_13 {l r : Int32} : jn (-nI 13) l r = l * r := by
  unfold jn
  simp (disch := omega) only [n_7, Nat.reduceEqDiff, if_false, if_true]
theorem jn_14 {l r : Int32} : jn (-nI 14) l r = (if r = 0 then 0 else l / r) := by
  unfold jn
  simp (disch := omega) only [n_7, Nat.reduceEqDiff, if_false, if_true]
theorem jn_15 {l r : Int32} : jn (-nI 15) l r = (if r = 0 then 0 else l - l / r * r) := by
  unfold jn
  simp (disch := omega) only [n_7, Nat.reduceEqDiff, if_false, if_true]
def SGp (T : Nat → Nat) (L pos k : Nat) : Prop := (tk T L pos none 42 ∧ k = 13) ∨ (¬ tk T L pos none 42 ∧ tk T L pos none 47 ∧ k = 14) ∨ (¬ tk T L pos none 42 ∧ ¬ tk T L pos none 47 ∧ tk T L pos none 37 ∧ k = 15)
theorem X_sp_t {k : Nat} (hd : 3 ≤ d) (hL : L ≤ 120) (hT : ∀ i, i < L → T i ≤ 255) (hs : SGp T L pos k) (h : XS T L pos none D M) : C d 43 [.ref 16] S0 M N = some (some (.int (-nI k)), j_w M 16 5 (nI (pos + 1)), N) := by
  refine eX4_takesProductSign (by omega) ?_
  have e := bX4_takesProductSign_0 (d - 1) M N
  rcases hs with ⟨t, rfl⟩ | ⟨n0, t, rfl⟩ | ⟨n0, n1, t, rfl⟩
  · have hp := t.2.1
    have q := X_takes_t (d := d - 1) (N := N) (by omega) hL (show 42 < 256 by omega) t h
    simp (disch := omega) only [z33, z37, z38, z42, z43, z45, z47, z48, z57, z59, z61, z62, z63, z98, z107, z110, z112, z114, z120, z122, z124, z0, z1, z2, z3, z4, z5, z6, z7, z8, z9, z10, z11, z12, z13, z14, z15, z16, z17, z18, z19, z20, z24, z26, z30, z31, z40, z41, z50, z54, z60, z70, z80, z81, z99, z100, z200, z255, z599, z1000, z1299, z4096, z1000000, lw0, lw1, lw2, lw3, lw4, lw5, lw6, lw7, lw12, lw50, lw99, lw255, lw599, lw4096, bI_ok, ble_t, Int.cast_ofNat_Int,  decide_true, decide_false, bI_0, bI_1, b_tf, b_ft, eq_self, n_1, n_2, n_3, n_4, n_5, n_6, n_7, n_8, if_true, if_false, jin, ncl, cond_true, cond_false, Option.bind_some, j_ov, j_oi, j_ol, nle, nlt, neq, nI_add, nmul, nsub, ndiv, nrem2, if_pos, if_neg, Nat.zero_add, Nat.add_zero, j_w_ap, decide_eq_true, decide_eq_false, Bool.true_or, Bool.or_true, Bool.false_or, Bool.or_false, Bool.and_true, Bool.true_and, Bool.false_and, Bool.and_false, Bool.not_true, Bool.not_false, q] at e
    exact e
  · have hp := t.2.1
    have q0 := X_takes_f (d := d - 1) (N := N) (by omega) hL (by omega) hT (show 42 < 256 by omega) (fun f hf => by cases hf) n0 h
    have q := X_takes_t (d := d - 1) (N := N) (by omega) hL (show 47 < 256 by omega) t h
    simp (disch := omega) only [z33, z37, z38, z42, z43, z45, z47, z48, z57, z59, z61, z62, z63, z98, z107, z110, z112, z114, z120, z122, z124, z0, z1, z2, z3, z4, z5, z6, z7, z8, z9, z10, z11, z12, z13, z14, z15, z16, z17, z18, z19, z20, z24, z26, z30, z31, z40, z41, z50, z54, z60, z70, z80, z81, z99, z100, z200, z255, z599, z1000, z1299, z4096, z1000000, lw0, lw1, lw2, lw3, lw4, lw5, lw6, lw7, lw12, lw50, lw99, lw255, lw599, lw4096, bI_ok, ble_t, Int.cast_ofNat_Int,  decide_true, decide_false, bI_0, bI_1, b_tf, b_ft, eq_self, n_1, n_2, n_3, n_4, n_5, n_6, n_7, n_8, if_true, if_false, jin, ncl, cond_true, cond_false, Option.bind_some, j_ov, j_oi, j_ol, nle, nlt, neq, nI_add, nmul, nsub, ndiv, nrem2, if_pos, if_neg, Nat.zero_add, Nat.add_zero, j_w_ap, decide_eq_true, decide_eq_false, Bool.true_or, Bool.or_true, Bool.false_or, Bool.or_false, Bool.and_true, Bool.true_and, Bool.false_and, Bool.and_false, Bool.not_true, Bool.not_false, q, q0] at e
    exact e
  · have hp := t.2.1
    have q0 := X_takes_f (d := d - 1) (N := N) (by omega) hL (by omega) hT (show 42 < 256 by omega) (fun f hf => by cases hf) n0 h
    have q1 := X_takes_f (d := d - 1) (N := N) (by omega) hL (by omega) hT (show 47 < 256 by omega) (fun f hf => by cases hf) n1 h
    have q := X_takes_t (d := d - 1) (N := N) (by omega) hL (show 37 < 256 by omega) t h
    simp (disch := omega) only [z33, z37, z38, z42, z43, z45, z47, z48, z57, z59, z61, z62, z63, z98, z107, z110, z112, z114, z120, z122, z124, z0, z1, z2, z3, z4, z5, z6, z7, z8, z9, z10, z11, z12, z13, z14, z15, z16, z17, z18, z19, z20, z24, z26, z30, z31, z40, z41, z50, z54, z60, z70, z80, z81, z99, z100, z200, z255, z599, z1000, z1299, z4096, z1000000, lw0, lw1, lw2, lw3, lw4, lw5, lw6, lw7, lw12, lw50, lw99, lw255, lw599, lw4096, bI_ok, ble_t, Int.cast_ofNat_Int,  decide_true, decide_false, bI_0, bI_1, b_tf, b_ft, eq_self, n_1, n_2, n_3, n_4, n_5, n_6, n_7, n_8, if_true, if_false, jin, ncl, cond_true, cond_false, Option.bind_some, j_ov, j_oi, j_ol, nle, nlt, neq, nI_add, nmul, nsub, ndiv, nrem2, if_pos, if_neg, Nat.zero_add, Nat.add_zero, j_w_ap, decide_eq_true, decide_eq_false, Bool.true_or, Bool.or_true, Bool.false_or, Bool.or_false, Bool.and_true, Bool.true_and, Bool.false_and, Bool.and_false, Bool.not_true, Bool.not_false, q, q0, q1] at e
    exact e
theorem X_sp_f (hd : 3 ≤ d) (hL : L ≤ 120) (hp : pos ≤ L) (hT : ∀ i, i < L → T i ≤ 255) (hf : ∀ f, fl = some f → f ≤ L) (hn : ¬ tk T L pos fl 42 ∧ ¬ tk T L pos fl 47 ∧ ¬ tk T L pos fl 37) (h : XS T L pos fl D M) : C d 43 [.ref 16] S0 M N = some (some (.int (nI 0)), M, N) := by
  refine eX4_takesProductSign (by omega) ?_
  have e := bX4_takesProductSign_0 (d - 1) M N
  obtain ⟨n0, n1, n2⟩ := hn
  have q0 := X_takes_f (d := d - 1) (N := N) (by omega) hL hp hT (show 42 < 256 by omega) hf n0 h
  have q1 := X_takes_f (d := d - 1) (N := N) (by omega) hL hp hT (show 47 < 256 by omega) hf n1 h
  have q2 := X_takes_f (d := d - 1) (N := N) (by omega) hL hp hT (show 37 < 256 by omega) hf n2 h
  simp (disch := omega) only [z33, z37, z38, z42, z43, z45, z47, z48, z57, z59, z61, z62, z63, z98, z107, z110, z112, z114, z120, z122, z124, z0, z1, z2, z3, z4, z5, z6, z7, z8, z9, z10, z11, z12, z13, z14, z15, z16, z17, z18, z19, z20, z24, z26, z30, z31, z40, z41, z50, z54, z60, z70, z80, z81, z99, z100, z200, z255, z599, z1000, z1299, z4096, z1000000, lw0, lw1, lw2, lw3, lw4, lw5, lw6, lw7, lw12, lw50, lw99, lw255, lw599, lw4096, bI_ok, ble_t, Int.cast_ofNat_Int,  decide_true, decide_false, bI_0, bI_1, b_tf, b_ft, eq_self, n_1, n_2, n_3, n_4, n_5, n_6, n_7, n_8, if_true, if_false, jin, ncl, cond_true, cond_false, Option.bind_some, j_ov, j_oi, j_ol, nle, nlt, neq, nI_add, nmul, nsub, ndiv, nrem2, if_pos, if_neg, Nat.zero_add, Nat.add_zero, j_w_ap, decide_eq_true, decide_eq_false, Bool.true_or, Bool.or_true, Bool.false_or, Bool.or_false, Bool.and_true, Bool.true_and, Bool.false_and, Bool.and_false, Bool.not_true, Bool.not_false, q0, q1, q2] at e
  exact e
/-- the loop of these, ahead of the sign -/
def Lp (T : Nat → Nat) (L dd op pos : Nat) : Prop := ∃ pos' fl cs, pos ≤ pos' ∧ pos' ≤ L ∧ pos + cs.length ≤ pos' ∧ (∀ f, fl = some f → f ≤ L) ∧
  (∀ (d i : Nat) (M : j_M) (N : j_N) (D : List Int32), dd ≤ d → XS T L pos none D M → D.length ≤ pos → i ≤ pos → ∃ s M1 M', C d 43 [.ref 16] S0 M N = some (some (.int s), M1, N) ∧ R d kX4_readProduct 12 [.ref 16, .int (nI op), .int s, .int (nI i)] [] (S0, M1, N) = some (none, (S0, M', N)) ∧ XS T L pos' fl (D ++ cs) M' ∧ FX M M') ∧
  (∀ (d : Nat) (M : j_M) (N : j_N) (b : Bool) (e : Nat → Int32) (x : Int32), dd ≤ d → ES T L b e pos none op M → ∃ M' v, R d kX11_product 10 [.ref 46, .int x, .int (nI (if pos < L then T pos else 0)), .null] [] (S0, M, N) = some (some (.int v), (S0, M', N)) ∧ ES T L b e pos' fl op M' ∧ FE M M' ∧ (fl = none → ∀ st, ev e cs (x :: st) = v :: st))
theorem X_ep_end {i : Nat} : R d kX4_readProduct 12 [.ref 16, .int (nI op), .int (nI 0), .int (nI i)] [] (S0, M, N) = some (none, (S0, M, N)) := by
  have e := bX4_readProduct_12 d (nI op) (nI 0) (nI i) M N
  simp (disch := omega) only [z33, z37, z38, z42, z43, z45, z47, z48, z57, z59, z61, z62, z63, z98, z107, z110, z112, z114, z120, z122, z124, z0, z1, z2, z3, z4, z5, z6, z7, z8, z9, z10, z11, z12, z13, z14, z15, z16, z17, z18, z19, z20, z24, z26, z30, z31, z40, z41, z50, z54, z60, z70, z80, z81, z99, z100, z200, z255, z599, z1000, z1299, z4096, z1000000, lw0, lw1, lw2, lw3, lw4, lw5, lw6, lw7, lw12, lw50, lw99, lw255, lw599, lw4096, bI_ok, ble_t, Int.cast_ofNat_Int,  decide_true, decide_false, bI_0, bI_1, b_tf, b_ft, eq_self, n_1, n_2, n_3, n_4, n_5, n_6, n_7, n_8, if_true, if_false, jin, ncl, cond_true, cond_false, Option.bind_some, j_ov, j_oi, j_ol, nle, nlt, neq, nI_add, nmul, nsub, ndiv, nrem2, if_pos, if_neg, Nat.zero_add, Nat.add_zero, j_w_ap, decide_eq_true, decide_eq_false, Bool.true_or, Bool.or_true, Bool.false_or, Bool.or_false, Bool.and_true, Bool.true_and, Bool.false_and, Bool.and_false, Bool.not_true, Bool.not_false, ite_self] at e
  exact e
theorem M_ep_end (hd : 2 ≤ d) (hL : L ≤ 120) (hp : pos ≤ L) (hT : ∀ i, i < L → T i ≤ 255) (hf : ∀ f, fl = some f → f ≤ L) (hn : ¬ tk T L pos fl 42 ∧ ¬ tk T L pos fl 47 ∧ ¬ tk T L pos fl 37) (h : ES T L b e pos fl op M) : R d kX11_product 10 [.ref 46, .int x, .int (nI (if pos < L then T pos else 0)), .null] [] (S0, M, N) = some (some (.int x), (S0, M, N)) := by
  have q := M_byte (d := d) (N := N) (by omega) hL hp h
  have e := bX11_product_10 d x (nI (if pos < L then T pos else 0)) M N
  have h3 := h.2.2.1
  cases fl with
  | some f =>
    have := hf f rfl
    rw [show oI (some f) = nI f from rfl] at h3
    simp (disch := omega) only [z33, z37, z38, z42, z43, z45, z47, z48, z57, z59, z61, z62, z63, z98, z107, z110, z112, z114, z120, z122, z124, z0, z1, z2, z3, z4, z5, z6, z7, z8, z9, z10, z11, z12, z13, z14, z15, z16, z17, z18, z19, z20, z24, z26, z30, z31, z40, z41, z50, z54, z60, z70, z80, z81, z99, z100, z200, z255, z599, z1000, z1299, z4096, z1000000, lw0, lw1, lw2, lw3, lw4, lw5, lw6, lw7, lw12, lw50, lw99, lw255, lw599, lw4096, bI_ok, ble_t, Int.cast_ofNat_Int,  decide_true, decide_false, bI_0, bI_1, b_tf, b_ft, eq_self, n_1, n_2, n_3, n_4, n_5, n_6, n_7, n_8, if_true, if_false, jin, ncl, cond_true, cond_false, Option.bind_some, j_ov, j_oi, j_ol, nle, nlt, neq, nI_add, nmul, nsub, ndiv, nrem2, if_pos, if_neg, Nat.zero_add, Nat.add_zero, j_w_ap, decide_eq_true, decide_eq_false, Bool.true_or, Bool.or_true, Bool.false_or, Bool.or_false, Bool.and_true, Bool.true_and, Bool.false_and, Bool.and_false, Bool.not_true, Bool.not_false, h3] at e
    exact e
  | none =>
    rw [show oI none = -nI 1 from rfl] at h3
    obtain ⟨n0, n1, n2⟩ := hn
    by_cases hpl : pos < L
    · have hTp := hT pos hpl
      have m0 : ¬ T pos = 42 := fun z => n0 ⟨rfl, hpl, z⟩
      have m1 : ¬ T pos = 47 := fun z => n1 ⟨rfl, hpl, z⟩
      have m2 : ¬ T pos = 37 := fun z => n2 ⟨rfl, hpl, z⟩
      rw [if_pos hpl] at q e ⊢
      simp (disch := omega) only [z33, z37, z38, z42, z43, z45, z47, z48, z57, z59, z61, z62, z63, z98, z107, z110, z112, z114, z120, z122, z124, z0, z1, z2, z3, z4, z5, z6, z7, z8, z9, z10, z11, z12, z13, z14, z15, z16, z17, z18, z19, z20, z24, z26, z30, z31, z40, z41, z50, z54, z60, z70, z80, z81, z99, z100, z200, z255, z599, z1000, z1299, z4096, z1000000, lw0, lw1, lw2, lw3, lw4, lw5, lw6, lw7, lw12, lw50, lw99, lw255, lw599, lw4096, bI_ok, ble_t, Int.cast_ofNat_Int,  decide_true, decide_false, bI_0, bI_1, b_tf, b_ft, eq_self, n_1, n_2, n_3, n_4, n_5, n_6, n_7, n_8, if_true, if_false, jin, ncl, cond_true, cond_false, Option.bind_some, j_ov, j_oi, j_ol, nle, nlt, neq, nI_add, nmul, nsub, ndiv, nrem2, if_pos, if_neg, Nat.zero_add, Nat.add_zero, j_w_ap, decide_eq_true, decide_eq_false, Bool.true_or, Bool.or_true, Bool.false_or, Bool.or_false, Bool.and_true, Bool.true_and, Bool.false_and, Bool.and_false, Bool.not_true, Bool.not_false, h3, q] at e
      exact e
    · rw [if_neg hpl] at q e ⊢
      simp (disch := omega) only [z33, z37, z38, z42, z43, z45, z47, z48, z57, z59, z61, z62, z63, z98, z107, z110, z112, z114, z120, z122, z124, z0, z1, z2, z3, z4, z5, z6, z7, z8, z9, z10, z11, z12, z13, z14, z15, z16, z17, z18, z19, z20, z24, z26, z30, z31, z40, z41, z50, z54, z60, z70, z80, z81, z99, z100, z200, z255, z599, z1000, z1299, z4096, z1000000, lw0, lw1, lw2, lw3, lw4, lw5, lw6, lw7, lw12, lw50, lw99, lw255, lw599, lw4096, bI_ok, ble_t, Int.cast_ofNat_Int,  decide_true, decide_false, bI_0, bI_1, b_tf, b_ft, eq_self, n_1, n_2, n_3, n_4, n_5, n_6, n_7, n_8, if_true, if_false, jin, ncl, cond_true, cond_false, Option.bind_some, j_ov, j_oi, j_ol, nle, nlt, neq, nI_add, nmul, nsub, ndiv, nrem2, if_pos, if_neg, Nat.zero_add, Nat.add_zero, j_w_ap, decide_eq_true, decide_eq_false, Bool.true_or, Bool.or_true, Bool.false_or, Bool.or_false, Bool.and_true, Bool.true_and, Bool.false_and, Bool.and_false, Bool.not_true, Bool.not_false, h3, q] at e
      exact e
theorem M_stp {k p1 : Nat} {f1 : Option Nat} {c1 : List Int32} (hdd : 3 ≤ dd) (hL : L ≤ 120) (hT : ∀ i, i < L → T i ≤ 255) (hs : SGp T L pos k) (hp1 : p1 ≤ L) (ge : Je T L 207 dd op (pos + 1) p1 f1 c1) (hd : dd ≤ d) (h : ES T L b e pos none op M) : ∃ M' r2, R d kX11_product 10 [.ref 46, .int x, .int (nI (if pos < L then T pos else 0)), .null] [] (S0, M, N) = R d kX11_product 10 [.ref 46, .int (jn (-nI k) x r2), .int (nI (if p1 < L then T p1 else 0)), .null] [] (S0, M', N) ∧ ES T L b e p1 f1 op M' ∧ FE M M' ∧ (f1 = none → ∀ st, ev e c1 st = r2 :: st) := by
  have h2 := h.2.1
  have h3 := h.2.2.1
  rw [show oI none = -nI 1 from rfl] at h3
  obtain ⟨M1, r2, q1, q2, q3, q4⟩ := ge d _ N b e hd h.adv
  have e1 := bX11_product_10 d x (nI (if pos < L then T pos else 0)) M N
  have qb := M_byte (d := d) (N := N) (by omega) hL hp1 q2
  refine ⟨M1, r2, ?_, q2, (FE.w (by omega)).tr q3, q4⟩
  rcases hs with ⟨t, rfl⟩ | ⟨n0, t, rfl⟩ | ⟨n0, n1, t, rfl⟩
  · have hpl := t.2.1
    have hTp := t.2.2
    rw [if_pos hpl, hTp] at e1 ⊢
    have e2 := bX11_product_35 d x (nI 42) M N
    rw [jn_13]
    simp (disch := omega) only [z33, z37, z38, z42, z43, z45, z47, z48, z57, z59, z61, z62, z63, z98, z107, z110, z112, z114, z120, z122, z124, z0, z1, z2, z3, z4, z5, z6, z7, z8, z9, z10, z11, z12, z13, z14, z15, z16, z17, z18, z19, z20, z24, z26, z30, z31, z40, z41, z50, z54, z60, z70, z80, z81, z99, z100, z200, z255, z599, z1000, z1299, z4096, z1000000, lw0, lw1, lw2, lw3, lw4, lw5, lw6, lw7, lw12, lw50, lw99, lw255, lw599, lw4096, bI_ok, ble_t, Int.cast_ofNat_Int,  decide_true, decide_false, bI_0, bI_1, b_tf, b_ft, eq_self, n_1, n_2, n_3, n_4, n_5, n_6, n_7, n_8, if_true, if_false, jin, ncl, cond_true, cond_false, Option.bind_some, j_ov, j_oi, j_ol, nle, nlt, neq, nI_add, nmul, nsub, ndiv, nrem2, if_pos, if_neg, Nat.zero_add, Nat.add_zero, j_w_ap, decide_eq_true, decide_eq_false, Bool.true_or, Bool.or_true, Bool.false_or, Bool.or_false, Bool.and_true, Bool.true_and, Bool.false_and, Bool.and_false, Bool.not_true, Bool.not_false, h3] at e1
    simp (disch := omega) only [z33, z37, z38, z42, z43, z45, z47, z48, z57, z59, z61, z62, z63, z98, z107, z110, z112, z114, z120, z122, z124, z0, z1, z2, z3, z4, z5, z6, z7, z8, z9, z10, z11, z12, z13, z14, z15, z16, z17, z18, z19, z20, z24, z26, z30, z31, z40, z41, z50, z54, z60, z70, z80, z81, z99, z100, z200, z255, z599, z1000, z1299, z4096, z1000000, lw0, lw1, lw2, lw3, lw4, lw5, lw6, lw7, lw12, lw50, lw99, lw255, lw599, lw4096, bI_ok, ble_t, Int.cast_ofNat_Int,  decide_true, decide_false, bI_0, bI_1, b_tf, b_ft, eq_self, n_1, n_2, n_3, n_4, n_5, n_6, n_7, n_8, if_true, if_false, jin, ncl, cond_true, cond_false, Option.bind_some, j_ov, j_oi, j_ol, nle, nlt, neq, nI_add, nmul, nsub, ndiv, nrem2, if_pos, if_neg, Nat.zero_add, Nat.add_zero, j_w_ap, decide_eq_true, decide_eq_false, Bool.true_or, Bool.or_true, Bool.false_or, Bool.or_false, Bool.and_true, Bool.true_and, Bool.false_and, Bool.and_false, Bool.not_true, Bool.not_false, h2, q1, qb] at e2
    exact e1.trans e2
  · have hpl := t.2.1
    have hTp := t.2.2
    rw [if_pos hpl, hTp] at e1 ⊢
    have e2 := bX11_product_35 d x (nI 47) M N
    rw [jn_14]
    simp (disch := omega) only [z33, z37, z38, z42, z43, z45, z47, z48, z57, z59, z61, z62, z63, z98, z107, z110, z112, z114, z120, z122, z124, z0, z1, z2, z3, z4, z5, z6, z7, z8, z9, z10, z11, z12, z13, z14, z15, z16, z17, z18, z19, z20, z24, z26, z30, z31, z40, z41, z50, z54, z60, z70, z80, z81, z99, z100, z200, z255, z599, z1000, z1299, z4096, z1000000, lw0, lw1, lw2, lw3, lw4, lw5, lw6, lw7, lw12, lw50, lw99, lw255, lw599, lw4096, bI_ok, ble_t, Int.cast_ofNat_Int,  decide_true, decide_false, bI_0, bI_1, b_tf, b_ft, eq_self, n_1, n_2, n_3, n_4, n_5, n_6, n_7, n_8, if_true, if_false, jin, ncl, cond_true, cond_false, Option.bind_some, j_ov, j_oi, j_ol, nle, nlt, neq, nI_add, nmul, nsub, ndiv, nrem2, if_pos, if_neg, Nat.zero_add, Nat.add_zero, j_w_ap, decide_eq_true, decide_eq_false, Bool.true_or, Bool.or_true, Bool.false_or, Bool.or_false, Bool.and_true, Bool.true_and, Bool.false_and, Bool.and_false, Bool.not_true, Bool.not_false, h3] at e1
    by_cases hr0 : r2 = nI 0
    · simp (disch := omega) only [z33, z37, z38, z42, z43, z45, z47, z48, z57, z59, z61, z62, z63, z98, z107, z110, z112, z114, z120, z122, z124, z0, z1, z2, z3, z4, z5, z6, z7, z8, z9, z10, z11, z12, z13, z14, z15, z16, z17, z18, z19, z20, z24, z26, z30, z31, z40, z41, z50, z54, z60, z70, z80, z81, z99, z100, z200, z255, z599, z1000, z1299, z4096, z1000000, lw0, lw1, lw2, lw3, lw4, lw5, lw6, lw7, lw12, lw50, lw99, lw255, lw599, lw4096, bI_ok, ble_t, Int.cast_ofNat_Int,  decide_true, decide_false, bI_0, bI_1, b_tf, b_ft, eq_self, n_1, n_2, n_3, n_4, n_5, n_6, n_7, n_8, if_true, if_false, jin, ncl, cond_true, cond_false, Option.bind_some, j_ov, j_oi, j_ol, nle, nlt, neq, nI_add, nmul, nsub, ndiv, nrem2, if_pos, if_neg, Nat.zero_add, Nat.add_zero, j_w_ap, decide_eq_true, decide_eq_false, Bool.true_or, Bool.or_true, Bool.false_or, Bool.or_false, Bool.and_true, Bool.true_and, Bool.false_and, Bool.and_false, Bool.not_true, Bool.not_false, h2, q1, qb, hr0] at e2
      simp (disch := omega) only [z33, z37, z38, z42, z43, z45, z47, z48, z57, z59, z61, z62, z63, z98, z107, z110, z112, z114, z120, z122, z124, z0, z1, z2, z3, z4, z5, z6, z7, z8, z9, z10, z11, z12, z13, z14, z15, z16, z17, z18, z19, z20, z24, z26, z30, z31, z40, z41, z50, z54, z60, z70, z80, z81, z99, z100, z200, z255, z599, z1000, z1299, z4096, z1000000, lw0, lw1, lw2, lw3, lw4, lw5, lw6, lw7, lw12, lw50, lw99, lw255, lw599, lw4096, bI_ok, ble_t, Int.cast_ofNat_Int,  decide_true, decide_false, bI_0, bI_1, b_tf, b_ft, eq_self, n_1, n_2, n_3, n_4, n_5, n_6, n_7, n_8, if_true, if_false, jin, ncl, cond_true, cond_false, Option.bind_some, j_ov, j_oi, j_ol, nle, nlt, neq, nI_add, nmul, nsub, ndiv, nrem2, if_pos, if_neg, Nat.zero_add, Nat.add_zero, j_w_ap, decide_eq_true, decide_eq_false, Bool.true_or, Bool.or_true, Bool.false_or, Bool.or_false, Bool.and_true, Bool.true_and, Bool.false_and, Bool.and_false, Bool.not_true, Bool.not_false, hr0]
      exact e1.trans e2
    · simp (disch := omega) only [z33, z37, z38, z42, z43, z45, z47, z48, z57, z59, z61, z62, z63, z98, z107, z110, z112, z114, z120, z122, z124, z0, z1, z2, z3, z4, z5, z6, z7, z8, z9, z10, z11, z12, z13, z14, z15, z16, z17, z18, z19, z20, z24, z26, z30, z31, z40, z41, z50, z54, z60, z70, z80, z81, z99, z100, z200, z255, z599, z1000, z1299, z4096, z1000000, lw0, lw1, lw2, lw3, lw4, lw5, lw6, lw7, lw12, lw50, lw99, lw255, lw599, lw4096, bI_ok, ble_t, Int.cast_ofNat_Int,  decide_true, decide_false, bI_0, bI_1, b_tf, b_ft, eq_self, n_1, n_2, n_3, n_4, n_5, n_6, n_7, n_8, if_true, if_false, jin, ncl, cond_true, cond_false, Option.bind_some, j_ov, j_oi, j_ol, nle, nlt, neq, nI_add, nmul, nsub, ndiv, nrem2, if_pos, if_neg, Nat.zero_add, Nat.add_zero, j_w_ap, decide_eq_true, decide_eq_false, Bool.true_or, Bool.or_true, Bool.false_or, Bool.or_false, Bool.and_true, Bool.true_and, Bool.false_and, Bool.and_false, Bool.not_true, Bool.not_false, h2, q1, qb, hr0] at e2
      simp (disch := omega) only [z33, z37, z38, z42, z43, z45, z47, z48, z57, z59, z61, z62, z63, z98, z107, z110, z112, z114, z120, z122, z124, z0, z1, z2, z3, z4, z5, z6, z7, z8, z9, z10, z11, z12, z13, z14, z15, z16, z17, z18, z19, z20, z24, z26, z30, z31, z40, z41, z50, z54, z60, z70, z80, z81, z99, z100, z200, z255, z599, z1000, z1299, z4096, z1000000, lw0, lw1, lw2, lw3, lw4, lw5, lw6, lw7, lw12, lw50, lw99, lw255, lw599, lw4096, bI_ok, ble_t, Int.cast_ofNat_Int,  decide_true, decide_false, bI_0, bI_1, b_tf, b_ft, eq_self, n_1, n_2, n_3, n_4, n_5, n_6, n_7, n_8, if_true, if_false, jin, ncl, cond_true, cond_false, Option.bind_some, j_ov, j_oi, j_ol, nle, nlt, neq, nI_add, nmul, nsub, ndiv, nrem2, if_pos, if_neg, Nat.zero_add, Nat.add_zero, j_w_ap, decide_eq_true, decide_eq_false, Bool.true_or, Bool.or_true, Bool.false_or, Bool.or_false, Bool.and_true, Bool.true_and, Bool.false_and, Bool.and_false, Bool.not_true, Bool.not_false, hr0]
      exact e1.trans e2
  · have hpl := t.2.1
    have hTp := t.2.2
    rw [if_pos hpl, hTp] at e1 ⊢
    have e2 := bX11_product_35 d x (nI 37) M N
    rw [jn_15]
    simp (disch := omega) only [z33, z37, z38, z42, z43, z45, z47, z48, z57, z59, z61, z62, z63, z98, z107, z110, z112, z114, z120, z122, z124, z0, z1, z2, z3, z4, z5, z6, z7, z8, z9, z10, z11, z12, z13, z14, z15, z16, z17, z18, z19, z20, z24, z26, z30, z31, z40, z41, z50, z54, z60, z70, z80, z81, z99, z100, z200, z255, z599, z1000, z1299, z4096, z1000000, lw0, lw1, lw2, lw3, lw4, lw5, lw6, lw7, lw12, lw50, lw99, lw255, lw599, lw4096, bI_ok, ble_t, Int.cast_ofNat_Int,  decide_true, decide_false, bI_0, bI_1, b_tf, b_ft, eq_self, n_1, n_2, n_3, n_4, n_5, n_6, n_7, n_8, if_true, if_false, jin, ncl, cond_true, cond_false, Option.bind_some, j_ov, j_oi, j_ol, nle, nlt, neq, nI_add, nmul, nsub, ndiv, nrem2, if_pos, if_neg, Nat.zero_add, Nat.add_zero, j_w_ap, decide_eq_true, decide_eq_false, Bool.true_or, Bool.or_true, Bool.false_or, Bool.or_false, Bool.and_true, Bool.true_and, Bool.false_and, Bool.and_false, Bool.not_true, Bool.not_false, h3] at e1
    by_cases hr0 : r2 = nI 0
    · simp (disch := omega) only [z33, z37, z38, z42, z43, z45, z47, z48, z57, z59, z61, z62, z63, z98, z107, z110, z112, z114, z120, z122, z124, z0, z1, z2, z3, z4, z5, z6, z7, z8, z9, z10, z11, z12, z13, z14, z15, z16, z17, z18, z19, z20, z24, z26, z30, z31, z40, z41, z50, z54, z60, z70, z80, z81, z99, z100, z200, z255, z599, z1000, z1299, z4096, z1000000, lw0, lw1, lw2, lw3, lw4, lw5, lw6, lw7, lw12, lw50, lw99, lw255, lw599, lw4096, bI_ok, ble_t, Int.cast_ofNat_Int,  decide_true, decide_false, bI_0, bI_1, b_tf, b_ft, eq_self, n_1, n_2, n_3, n_4, n_5, n_6, n_7, n_8, if_true, if_false, jin, ncl, cond_true, cond_false, Option.bind_some, j_ov, j_oi, j_ol, nle, nlt, neq, nI_add, nmul, nsub, ndiv, nrem2, if_pos, if_neg, Nat.zero_add, Nat.add_zero, j_w_ap, decide_eq_true, decide_eq_false, Bool.true_or, Bool.or_true, Bool.false_or, Bool.or_false, Bool.and_true, Bool.true_and, Bool.false_and, Bool.and_false, Bool.not_true, Bool.not_false, h2, q1, qb, hr0] at e2
      simp (disch := omega) only [z33, z37, z38, z42, z43, z45, z47, z48, z57, z59, z61, z62, z63, z98, z107, z110, z112, z114, z120, z122, z124, z0, z1, z2, z3, z4, z5, z6, z7, z8, z9, z10, z11, z12, z13, z14, z15, z16, z17, z18, z19, z20, z24, z26, z30, z31, z40, z41, z50, z54, z60, z70, z80, z81, z99, z100, z200, z255, z599, z1000, z1299, z4096, z1000000, lw0, lw1, lw2, lw3, lw4, lw5, lw6, lw7, lw12, lw50, lw99, lw255, lw599, lw4096, bI_ok, ble_t, Int.cast_ofNat_Int,  decide_true, decide_false, bI_0, bI_1, b_tf, b_ft, eq_self, n_1, n_2, n_3, n_4, n_5, n_6, n_7, n_8, if_true, if_false, jin, ncl, cond_true, cond_false, Option.bind_some, j_ov, j_oi, j_ol, nle, nlt, neq, nI_add, nmul, nsub, ndiv, nrem2, if_pos, if_neg, Nat.zero_add, Nat.add_zero, j_w_ap, decide_eq_true, decide_eq_false, Bool.true_or, Bool.or_true, Bool.false_or, Bool.or_false, Bool.and_true, Bool.true_and, Bool.false_and, Bool.and_false, Bool.not_true, Bool.not_false, hr0]
      exact e1.trans e2
    · simp (disch := omega) only [z33, z37, z38, z42, z43, z45, z47, z48, z57, z59, z61, z62, z63, z98, z107, z110, z112, z114, z120, z122, z124, z0, z1, z2, z3, z4, z5, z6, z7, z8, z9, z10, z11, z12, z13, z14, z15, z16, z17, z18, z19, z20, z24, z26, z30, z31, z40, z41, z50, z54, z60, z70, z80, z81, z99, z100, z200, z255, z599, z1000, z1299, z4096, z1000000, lw0, lw1, lw2, lw3, lw4, lw5, lw6, lw7, lw12, lw50, lw99, lw255, lw599, lw4096, bI_ok, ble_t, Int.cast_ofNat_Int,  decide_true, decide_false, bI_0, bI_1, b_tf, b_ft, eq_self, n_1, n_2, n_3, n_4, n_5, n_6, n_7, n_8, if_true, if_false, jin, ncl, cond_true, cond_false, Option.bind_some, j_ov, j_oi, j_ol, nle, nlt, neq, nI_add, nmul, nsub, ndiv, nrem2, if_pos, if_neg, Nat.zero_add, Nat.add_zero, j_w_ap, decide_eq_true, decide_eq_false, Bool.true_or, Bool.or_true, Bool.false_or, Bool.or_false, Bool.and_true, Bool.true_and, Bool.false_and, Bool.and_false, Bool.not_true, Bool.not_false, h2, q1, qb, hr0] at e2
      simp (disch := omega) only [z33, z37, z38, z42, z43, z45, z47, z48, z57, z59, z61, z62, z63, z98, z107, z110, z112, z114, z120, z122, z124, z0, z1, z2, z3, z4, z5, z6, z7, z8, z9, z10, z11, z12, z13, z14, z15, z16, z17, z18, z19, z20, z24, z26, z30, z31, z40, z41, z50, z54, z60, z70, z80, z81, z99, z100, z200, z255, z599, z1000, z1299, z4096, z1000000, lw0, lw1, lw2, lw3, lw4, lw5, lw6, lw7, lw12, lw50, lw99, lw255, lw599, lw4096, bI_ok, ble_t, Int.cast_ofNat_Int,  decide_true, decide_false, bI_0, bI_1, b_tf, b_ft, eq_self, n_1, n_2, n_3, n_4, n_5, n_6, n_7, n_8, if_true, if_false, jin, ncl, cond_true, cond_false, Option.bind_some, j_ov, j_oi, j_ol, nle, nlt, neq, nI_add, nmul, nsub, ndiv, nrem2, if_pos, if_neg, Nat.zero_add, Nat.add_zero, j_w_ap, decide_eq_true, decide_eq_false, Bool.true_or, Bool.or_true, Bool.false_or, Bool.or_false, Bool.and_true, Bool.true_and, Bool.false_and, Bool.and_false, Bool.not_true, Bool.not_false, hr0]
      exact e1.trans e2
theorem L_p (hT : ∀ i, i < L → T i ≤ 255) (hL : L ≤ 120) (hdd : 3 ≤ dd) : ∀ (r pos : Nat), L - pos ≤ r → pos ≤ L → (∀ p, pos < p → p ≤ L → J T L 44 207 dd op p) → Lp T L dd op pos := by
  intro r
  induction r with
  | zero =>
    intro pos hr hp H
    have ht : ∀ c, ¬ tk T L pos none c := fun c z => by have := z.2.1; omega
    refine ⟨pos, none, [], Nat.le_refl _, hp, Nat.le_refl _, (fun f hf => by cases hf), fun d i M N D hd h hD hi => ?_, fun d M N b e x hd h => ?_⟩
    · exact ⟨nI 0, M, M, X_sp_f (by omega) hL hp hT (fun f hf => by cases hf) ⟨ht _, ht _, ht _⟩ h, X_ep_end, by rw [List.append_nil]; exact h, FX.rf⟩
    · exact ⟨M, x, M_ep_end (by omega) hL hp hT (fun f hf => by cases hf) ⟨ht _, ht _, ht _⟩ h, h, FE.rf, fun _ st => rfl⟩
  | succ r ih =>
    intro pos hr hp H
    by_cases hsg : ∃ k, SGp T L pos k
    · obtain ⟨k, hs⟩ := hsg
      have hpl : pos < L := by rcases hs with ⟨t, rfl⟩ | ⟨n0, t, rfl⟩ | ⟨n0, n1, t, rfl⟩ <;> exact t.2.1
      have hk : 6 ≤ k ∧ k ≤ 15 := by rcases hs with ⟨t, rfl⟩ | ⟨n0, t, rfl⟩ | ⟨n0, n1, t, rfl⟩ <;> omega
      obtain ⟨p1, f1, c1, g1, g2, g3, g4, g5, gx, ge⟩ := H (pos + 1) (by omega) (by omega)
      have stx : ∀ (d i : Nat) (M : j_M) (N : j_N) (D : List Int32), dd ≤ d → XS T L pos none D M → D.length ≤ pos → i ≤ pos → ∃ M2, XS T L p1 f1 (D ++ (c1 ++ [-nI k])) M2 ∧ FX M M2 ∧ ∀ s3 M3, C d 43 [.ref 16] S0 M2 N = some (some (.int s3), M3, N) → R d kX4_readProduct 12 [.ref 16, .int (nI op), .int (-nI k), .int (nI i)] [] (S0, j_w M 16 5 (nI (pos + 1)), N) = R d kX4_readProduct 12 [.ref 16, .int (nI op), .int s3, .int (nI (i + 1))] [] (S0, M3, N) := by
        intro d i M N D hd h hD hi
        obtain ⟨M1, q1, q2, q3⟩ := gx d _ N D hd h.adv (by omega)
        obtain ⟨M2, q4, q5, q6⟩ := X_write (d := d) (N := N) (x := -nI k) (by omega) (by rw [List.length_append]; omega) q2
        rw [List.append_assoc] at q5
        refine ⟨M2, q5, (FX.w (by omega)).tr (q3.tr q6), fun s3 M3 h3 => ?_⟩
        have e := bX4_readProduct_12 d (nI op) (-nI k) (nI i) (j_w M 16 5 (nI (pos + 1))) N
        simp (disch := omega) only [z33, z37, z38, z42, z43, z45, z47, z48, z57, z59, z61, z62, z63, z98, z107, z110, z112, z114, z120, z122, z124, z0, z1, z2, z3, z4, z5, z6, z7, z8, z9, z10, z11, z12, z13, z14, z15, z16, z17, z18, z19, z20, z24, z26, z30, z31, z40, z41, z50, z54, z60, z70, z80, z81, z99, z100, z200, z255, z599, z1000, z1299, z4096, z1000000, lw0, lw1, lw2, lw3, lw4, lw5, lw6, lw7, lw12, lw50, lw99, lw255, lw599, lw4096, bI_ok, ble_t, Int.cast_ofNat_Int,  decide_true, decide_false, bI_0, bI_1, b_tf, b_ft, eq_self, n_1, n_2, n_3, n_4, n_5, n_6, n_7, n_8, if_true, if_false, jin, ncl, cond_true, cond_false, Option.bind_some, j_ov, j_oi, j_ol, nle, nlt, neq, nI_add, nmul, nsub, ndiv, nrem2, if_pos, if_neg, Nat.zero_add, Nat.add_zero, j_w_ap, decide_eq_true, decide_eq_false, Bool.true_or, Bool.or_true, Bool.false_or, Bool.or_false, Bool.and_true, Bool.true_and, Bool.false_and, Bool.and_false, Bool.not_true, Bool.not_false, q1, q4, h3] at e
        exact e
      cases f1 with
      | some f =>
        refine ⟨p1, some f, c1 ++ [-nI k], by omega, g2, by rw [List.length_append, List.length_singleton]; omega, g5, fun d i M N D hd h hD hi => ?_, fun d M N b e x hd h => ?_⟩
        · obtain ⟨M2, q1, q2, q3⟩ := stx d i M N D hd h hD hi
          have q4 := X_sp_f (d := d) (N := N) (by omega) hL g2 hT g5 ⟨tk_s, tk_s, tk_s⟩ q1
          exact ⟨_, _, M2, X_sp_t (by omega) hL hT hs h, (q3 _ _ q4).trans X_ep_end, q1, q2⟩
        · obtain ⟨M1, r2, q1, q2, q3, -⟩ := M_stp (N := N) (x := x) hdd hL hT hs g2 ge hd h
          exact ⟨M1, _, q1.trans (M_ep_end (by omega) hL g2 hT g5 ⟨tk_s, tk_s, tk_s⟩ q2), q2, q3, fun z => by cases z⟩
      | none =>
        have hlt := g4 rfl
        obtain ⟨p2, f2, c2, k1, k2, k3, k4, kx, ke⟩ := ih p1 (by omega) g2 (fun p hp1 hp2 => H p (by omega) hp2)
        refine ⟨p2, f2, c1 ++ [-nI k] ++ c2, by omega, k2, by rw [List.length_append, List.length_append, List.length_singleton]; omega, k4, fun d i M N D hd h hD hi => ?_, fun d M N b e x hd h => ?_⟩
        · obtain ⟨M2, q1, q2, q3⟩ := stx d i M N D hd h hD hi
          obtain ⟨s3, M3, M4, q4, q5, q6, q7⟩ := kx d (i + 1) M2 N _ hd q1 (by rw [List.length_append, List.length_append, List.length_singleton]; omega) (by omega)
          rw [List.append_assoc] at q6
          exact ⟨_, _, M4, X_sp_t (by omega) hL hT hs h, (q3 _ _ q4).trans q5, q6, q2.tr q7⟩
        · obtain ⟨M1, r2, q1, q2, q3, q4⟩ := M_stp (N := N) (x := x) hdd hL hT hs g2 ge hd h
          obtain ⟨M2, v, q5, q6, q7, q8⟩ := ke d M1 N b e (jn (-nI k) x r2) hd q2
          refine ⟨M2, v, q1.trans q5, q6, q3.tr q7, fun z st => ?_⟩
          rw [ev_app, ev_app, q4 rfl]
          show ev e c2 (ev1 e (-nI k) (r2 :: x :: st)) = _
          rw [ev1_bin hk.1 hk.2]
          exact q8 z st
    · have hn : ¬ tk T L pos none 42 ∧ ¬ tk T L pos none 47 ∧ ¬ tk T L pos none 37 := by
        have n0 : ¬ tk T L pos none 42 := fun z => hsg ⟨13, Or.inl ⟨z, rfl⟩⟩
        have n1 : ¬ tk T L pos none 47 := fun z => hsg ⟨14, Or.inr (Or.inl ⟨n0, z, rfl⟩)⟩
        exact ⟨n0, n1, fun z => hsg ⟨15, Or.inr (Or.inr ⟨n0, n1, z, rfl⟩)⟩⟩
      refine ⟨pos, none, [], Nat.le_refl _, hp, Nat.le_refl _, (fun f hf => by cases hf), fun d i M N D hd h hD hi => ?_, fun d M N b e x hd h => ?_⟩
      · exact ⟨nI 0, M, M, X_sp_f (by omega) hL hp hT (fun f hf => by cases hf) hn h, X_ep_end, by rw [List.append_nil]; exact h, FX.rf⟩
      · exact ⟨M, x, M_ep_end (by omega) hL hp hT (fun f hf => by cases hf) hn h, h, FE.rf, fun _ st => rfl⟩
theorem J_p (hT : ∀ i, i < L → T i ≤ 255) (hL : L ≤ 120) (hdd : 3 ≤ dd) (hp : pos ≤ L) (h0 : J T L 44 207 dd op pos) (H : ∀ p, pos < p → p ≤ L → J T L 44 207 dd op p) : J T L 42 205 (dd + 1) op pos := by
  obtain ⟨p1, f1, c1, g1, g2, g3, g4, g5, gx, ge⟩ := h0
  have bx : ∀ (d : Nat) (M : j_M) (N : j_N) (D : List Int32), dd + 1 ≤ d → XS T L pos none D M → D.length ≤ pos → ∃ M1, XS T L p1 f1 (D ++ c1) M1 ∧ FX M M1 ∧ ∀ s3 M3, C (d - 1) 43 [.ref 16] S0 M1 N = some (some (.int s3), M3, N) → R (d - 1) kX4_readProduct 0 [.ref 16, .int (nI op), .null, .null] [] (S0, M, N) = R (d - 1) kX4_readProduct 12 [.ref 16, .int (nI op), .int s3, .int (nI 0)] [] (S0, M3, N) := by
    intro d M N D hd h hD
    obtain ⟨M1, q1, q2, q3⟩ := gx (d - 1) M N D (by omega) h hD
    refine ⟨M1, q2, q3, fun s3 M3 h3 => ?_⟩
    have e := bX4_readProduct_0 (d - 1) (nI op) M N
    simp (disch := omega) only [z33, z37, z38, z42, z43, z45, z47, z48, z57, z59, z61, z62, z63, z98, z107, z110, z112, z114, z120, z122, z124, z0, z1, z2, z3, z4, z5, z6, z7, z8, z9, z10, z11, z12, z13, z14, z15, z16, z17, z18, z19, z20, z24, z26, z30, z31, z40, z41, z50, z54, z60, z70, z80, z81, z99, z100, z200, z255, z599, z1000, z1299, z4096, z1000000, lw0, lw1, lw2, lw3, lw4, lw5, lw6, lw7, lw12, lw50, lw99, lw255, lw599, lw4096, bI_ok, ble_t, Int.cast_ofNat_Int,  decide_true, decide_false, bI_0, bI_1, b_tf, b_ft, eq_self, n_1, n_2, n_3, n_4, n_5, n_6, n_7, n_8, if_true, if_false, jin, ncl, cond_true, cond_false, Option.bind_some, j_ov, j_oi, j_ol, nle, nlt, neq, nI_add, nmul, nsub, ndiv, nrem2, if_pos, if_neg, Nat.zero_add, Nat.add_zero, j_w_ap, decide_eq_true, decide_eq_false, Bool.true_or, Bool.or_true, Bool.false_or, Bool.or_false, Bool.and_true, Bool.true_and, Bool.false_and, Bool.and_false, Bool.not_true, Bool.not_false, q1, h3] at e
    exact e
  have be : ∀ (d : Nat) (M : j_M) (N : j_N) (b : Bool) (e : Nat → Int32), dd + 1 ≤ d → ES T L b e pos none op M → ∃ M1 v, R (d - 1) kX11_product 0 [.ref 46, .null, .null, .null] [] (S0, M, N) = R (d - 1) kX11_product 10 [.ref 46, .int v, .int (nI (if p1 < L then T p1 else 0)), .null] [] (S0, M1, N) ∧ ES T L b e p1 f1 op M1 ∧ FE M M1 ∧ (f1 = none → ∀ st, ev e c1 st = v :: st) := by
    intro d M N b e hd h
    obtain ⟨M1, v, q1, q2, q3, q4⟩ := ge (d - 1) M N b e (by omega) h
    have e1 := bX11_product_0 (d - 1) M N
    have qb := M_byte (d := d - 1) (N := N) (by omega) hL g2 q2
    simp (disch := omega) only [z33, z37, z38, z42, z43, z45, z47, z48, z57, z59, z61, z62, z63, z98, z107, z110, z112, z114, z120, z122, z124, z0, z1, z2, z3, z4, z5, z6, z7, z8, z9, z10, z11, z12, z13, z14, z15, z16, z17, z18, z19, z20, z24, z26, z30, z31, z40, z41, z50, z54, z60, z70, z80, z81, z99, z100, z200, z255, z599, z1000, z1299, z4096, z1000000, lw0, lw1, lw2, lw3, lw4, lw5, lw6, lw7, lw12, lw50, lw99, lw255, lw599, lw4096, bI_ok, ble_t, Int.cast_ofNat_Int,  decide_true, decide_false, bI_0, bI_1, b_tf, b_ft, eq_self, n_1, n_2, n_3, n_4, n_5, n_6, n_7, n_8, if_true, if_false, jin, ncl, cond_true, cond_false, Option.bind_some, j_ov, j_oi, j_ol, nle, nlt, neq, nI_add, nmul, nsub, ndiv, nrem2, if_pos, if_neg, Nat.zero_add, Nat.add_zero, j_w_ap, decide_eq_true, decide_eq_false, Bool.true_or, Bool.or_true, Bool.false_or, Bool.or_false, Bool.and_true, Bool.true_and, Bool.false_and, Bool.and_false, Bool.not_true, Bool.not_false, q1, qb] at e1
    exact ⟨M1, v, e1, q2, q3, q4⟩
  cases f1 with
  | some f =>
    refine ⟨p1, some f, c1, g1, g2, g3, (fun z => by cases z), g5, fun d M N D hd h hD => ?_, fun d M N b e hd h => ?_⟩
    · obtain ⟨M1, q1, q2, q3⟩ := bx d M N D hd h hD
      have q4 := X_sp_f (d := d - 1) (N := N) (by omega) hL g2 hT g5 ⟨tk_s, tk_s, tk_s⟩ q1
      exact ⟨M1, eX4_readProduct (by omega) ((q3 _ _ q4).trans X_ep_end), q1, q2⟩
    · obtain ⟨M1, v, q1, q2, q3, -⟩ := be d M N b e hd h
      exact ⟨M1, v, eX11_product (by omega) (q1.trans (M_ep_end (by omega) hL g2 hT g5 ⟨tk_s, tk_s, tk_s⟩ q2)), q2, q3, fun z => by cases z⟩
  | none =>
    have hlt := g4 rfl
    obtain ⟨p2, f2, c2, k1, k2, k3, k4, kx, ke⟩ := L_p hT hL hdd (L - p1) p1 (Nat.le_refl _) g2 (fun p hp1 hp2 => H p (by omega) hp2)
    refine ⟨p2, f2, c1 ++ c2, by omega, k2, by rw [List.length_append]; omega, fun z => by omega, k4, fun d M N D hd h hD => ?_, fun d M N b e hd h => ?_⟩
    · obtain ⟨M1, q1, q2, q3⟩ := bx d M N D hd h hD
      obtain ⟨s3, M3, M4, q4, q5, q6, q7⟩ := kx (d - 1) 0 M1 N (D ++ c1) (by omega) q1 (by rw [List.length_append]; omega) (by omega)
      rw [List.append_assoc] at q6
      exact ⟨M4, eX4_readProduct (by omega) ((q3 _ _ q4).trans q5), q6, q2.tr q7⟩
    · obtain ⟨M1, v, q1, q2, q3, q4⟩ := be d M N b e hd h
      obtain ⟨M2, v2, q5, q6, q7, q8⟩ := ke (d - 1) M1 N b e v (by omega) q2
      refine ⟨M2, v2, eX11_product (by omega) (q1.trans q5), q6, q3.tr q7, fun z st => ?_⟩
      rw [ev_app, q4 rfl]
      exact q8 z st
def SGs (T : Nat → Nat) (L pos k : Nat) : Prop := (tk T L pos none 43 ∧ k = 11) ∨ (¬ tk T L pos none 43 ∧ tk T L pos none 45 ∧ k = 12)
theorem X_ss_t {k : Nat} (hd : 3 ≤ d) (hL : L ≤ 120) (hT : ∀ i, i < L → T i ≤ 255) (hs : SGs T L pos k) (h : XS T L pos none D M) : C d 41 [.ref 16] S0 M N = some (some (.int (-nI k)), j_w M 16 5 (nI (pos + 1)), N) := by
  refine eX4_takesSumSign (by omega) ?_
  have e := bX4_takesSumSign_0 (d - 1) M N
  rcases hs with ⟨t, rfl⟩ | ⟨n0, t, rfl⟩
  · have hp := t.2.1
    have q := X_takes_t (d := d - 1) (N := N) (by omega) hL (show 43 < 256 by omega) t h
    simp (disch := omega) only [z33, z37, z38, z42, z43, z45, z47, z48, z57, z59, z61, z62, z63, z98, z107, z110, z112, z114, z120, z122, z124, z0, z1, z2, z3, z4, z5, z6, z7, z8, z9, z10, z11, z12, z13, z14, z15, z16, z17, z18, z19, z20, z24, z26, z30, z31, z40, z41, z50, z54, z60, z70, z80, z81, z99, z100, z200, z255, z599, z1000, z1299, z4096, z1000000, lw0, lw1, lw2, lw3, lw4, lw5, lw6, lw7, lw12, lw50, lw99, lw255, lw599, lw4096, bI_ok, ble_t, Int.cast_ofNat_Int,  decide_true, decide_false, bI_0, bI_1, b_tf, b_ft, eq_self, n_1, n_2, n_3, n_4, n_5, n_6, n_7, n_8, if_true, if_false, jin, ncl, cond_true, cond_false, Option.bind_some, j_ov, j_oi, j_ol, nle, nlt, neq, nI_add, nmul, nsub, ndiv, nrem2, if_pos, if_neg, Nat.zero_add, Nat.add_zero, j_w_ap, decide_eq_true, decide_eq_false, Bool.true_or, Bool.or_true, Bool.false_or, Bool.or_false, Bool.and_true, Bool.true_and, Bool.false_and, Bool.and_false, Bool.not_true, Bool.not_false, q] at e
    exact e
  · have hp := t.2.1
    have q0 := X_takes_f (d := d - 1) (N := N) (by omega) hL (by omega) hT (show 43 < 256 by omega) (fun f hf => by cases hf) n0 h
    have q := X_takes_t (d := d - 1) (N := N) (by omega) hL (show 45 < 256 by omega) t h
    simp (disch := omega) only [z33, z37, z38, z42, z43, z45, z47, z48, z57, z59, z61, z62, z63, z98, z107, z110, z112, z114, z120, z122, z124, z0, z1, z2, z3, z4, z5, z6, z7, z8, z9, z10, z11, z12, z13, z14, z15, z16, z17, z18, z19, z20, z24, z26, z30, z31, z40, z41, z50, z54, z60, z70, z80, z81, z99, z100, z200, z255, z599, z1000, z1299, z4096, z1000000, lw0, lw1, lw2, lw3, lw4, lw5, lw6, lw7, lw12, lw50, lw99, lw255, lw599, lw4096, bI_ok, ble_t, Int.cast_ofNat_Int,  decide_true, decide_false, bI_0, bI_1, b_tf, b_ft, eq_self, n_1, n_2, n_3, n_4, n_5, n_6, n_7, n_8, if_true, if_false, jin, ncl, cond_true, cond_false, Option.bind_some, j_ov, j_oi, j_ol, nle, nlt, neq, nI_add, nmul, nsub, ndiv, nrem2, if_pos, if_neg, Nat.zero_add, Nat.add_zero, j_w_ap, decide_eq_true, decide_eq_false, Bool.true_or, Bool.or_true, Bool.false_or, Bool.or_false, Bool.and_true, Bool.true_and, Bool.false_and, Bool.and_false, Bool.not_true, Bool.not_false, q, q0] at e
    exact e
theorem X_ss_f (hd : 3 ≤ d) (hL : L ≤ 120) (hp : pos ≤ L) (hT : ∀ i, i < L → T i ≤ 255) (hf : ∀ f, fl = some f → f ≤ L) (hn : ¬ tk T L pos fl 43 ∧ ¬ tk T L pos fl 45) (h : XS T L pos fl D M) : C d 41 [.ref 16] S0 M N = some (some (.int (nI 0)), M, N) := by
  refine eX4_takesSumSign (by omega) ?_
  have e := bX4_takesSumSign_0 (d - 1) M N
  obtain ⟨n0, n1⟩ := hn
  have q0 := X_takes_f (d := d - 1) (N := N) (by omega) hL hp hT (show 43 < 256 by omega) hf n0 h
  have q1 := X_takes_f (d := d - 1) (N := N) (by omega) hL hp hT (show 45 < 256 by omega) hf n1 h
  simp (disch := omega) only [z33, z37, z38, z42, z43, z45, z47, z48, z57, z59, z61, z62, z63, z98, z107, z110, z112, z114, z120, z122, z124, z0, z1, z2, z3, z4, z5, z6, z7, z8, z9, z10, z11, z12, z13, z14, z15, z16, z17, z18, z19, z20, z24, z26, z30, z31, z40, z41, z50, z54, z60, z70, z80, z81, z99, z100, z200, z255, z599, z1000, z1299, z4096, z1000000, lw0, lw1, lw2, lw3, lw4, lw5, lw6, lw7, lw12, lw50, lw99, lw255, lw599, lw4096, bI_ok, ble_t, Int.cast_ofNat_Int,  decide_true, decide_false, bI_0, bI_1, b_tf, b_ft, eq_self, n_1, n_2, n_3, n_4, n_5, n_6, n_7, n_8, if_true, if_false, jin, ncl, cond_true, cond_false, Option.bind_some, j_ov, j_oi, j_ol, nle, nlt, neq, nI_add, nmul, nsub, ndiv, nrem2, if_pos, if_neg, Nat.zero_add, Nat.add_zero, j_w_ap, decide_eq_true, decide_eq_false, Bool.true_or, Bool.or_true, Bool.false_or, Bool.or_false, Bool.and_true, Bool.true_and, Bool.false_and, Bool.and_false, Bool.not_true, Bool.not_false, q0, q1] at e
  exact e
/-- the loop of these, ahead of the sign -/
def Ls (T : Nat → Nat) (L dd op pos : Nat) : Prop := ∃ pos' fl cs, pos ≤ pos' ∧ pos' ≤ L ∧ pos + cs.length ≤ pos' ∧ (∀ f, fl = some f → f ≤ L) ∧
  (∀ (d i : Nat) (M : j_M) (N : j_N) (D : List Int32), dd ≤ d → XS T L pos none D M → D.length ≤ pos → i ≤ pos → ∃ s M1 M', C d 41 [.ref 16] S0 M N = some (some (.int s), M1, N) ∧ R d kX4_readSum 12 [.ref 16, .int (nI op), .int s, .int (nI i)] [] (S0, M1, N) = some (none, (S0, M', N)) ∧ XS T L pos' fl (D ++ cs) M' ∧ FX M M') ∧
  (∀ (d : Nat) (M : j_M) (N : j_N) (b : Bool) (e : Nat → Int32) (x : Int32), dd ≤ d → ES T L b e pos none op M → ∃ M' v, R d kX11_sums 5 [.ref 46, .int x, .null, .null] [] (S0, M, N) = some (some (.int v), (S0, M', N)) ∧ ES T L b e pos' fl op M' ∧ FE M M' ∧ (fl = none → ∀ st, ev e cs (x :: st) = v :: st))
theorem X_es_end {i : Nat} : R d kX4_readSum 12 [.ref 16, .int (nI op), .int (nI 0), .int (nI i)] [] (S0, M, N) = some (none, (S0, M, N)) := by
  have e := bX4_readSum_12 d (nI op) (nI 0) (nI i) M N
  simp (disch := omega) only [z33, z37, z38, z42, z43, z45, z47, z48, z57, z59, z61, z62, z63, z98, z107, z110, z112, z114, z120, z122, z124, z0, z1, z2, z3, z4, z5, z6, z7, z8, z9, z10, z11, z12, z13, z14, z15, z16, z17, z18, z19, z20, z24, z26, z30, z31, z40, z41, z50, z54, z60, z70, z80, z81, z99, z100, z200, z255, z599, z1000, z1299, z4096, z1000000, lw0, lw1, lw2, lw3, lw4, lw5, lw6, lw7, lw12, lw50, lw99, lw255, lw599, lw4096, bI_ok, ble_t, Int.cast_ofNat_Int,  decide_true, decide_false, bI_0, bI_1, b_tf, b_ft, eq_self, n_1, n_2, n_3, n_4, n_5, n_6, n_7, n_8, if_true, if_false, jin, ncl, cond_true, cond_false, Option.bind_some, j_ov, j_oi, j_ol, nle, nlt, neq, nI_add, nmul, nsub, ndiv, nrem2, if_pos, if_neg, Nat.zero_add, Nat.add_zero, j_w_ap, decide_eq_true, decide_eq_false, Bool.true_or, Bool.or_true, Bool.false_or, Bool.or_false, Bool.and_true, Bool.true_and, Bool.false_and, Bool.and_false, Bool.not_true, Bool.not_false, ite_self] at e
  exact e
theorem M_es_end (hd : 2 ≤ d) (hL : L ≤ 120) (hp : pos ≤ L) (hT : ∀ i, i < L → T i ≤ 255) (hf : ∀ f, fl = some f → f ≤ L) (hn : ¬ tk T L pos fl 43 ∧ ¬ tk T L pos fl 45) (h : ES T L b e pos fl op M) : R d kX11_sums 5 [.ref 46, .int x, .null, .null] [] (S0, M, N) = some (some (.int x), (S0, M, N)) := by
  have q := M_byte (d := d) (N := N) (by omega) hL hp h
  have e := bX11_sums_5 d x M N
  have h3 := h.2.2.1
  cases fl with
  | some f =>
    have := hf f rfl
    rw [show oI (some f) = nI f from rfl] at h3
    simp (disch := omega) only [z33, z37, z38, z42, z43, z45, z47, z48, z57, z59, z61, z62, z63, z98, z107, z110, z112, z114, z120, z122, z124, z0, z1, z2, z3, z4, z5, z6, z7, z8, z9, z10, z11, z12, z13, z14, z15, z16, z17, z18, z19, z20, z24, z26, z30, z31, z40, z41, z50, z54, z60, z70, z80, z81, z99, z100, z200, z255, z599, z1000, z1299, z4096, z1000000, lw0, lw1, lw2, lw3, lw4, lw5, lw6, lw7, lw12, lw50, lw99, lw255, lw599, lw4096, bI_ok, ble_t, Int.cast_ofNat_Int,  decide_true, decide_false, bI_0, bI_1, b_tf, b_ft, eq_self, n_1, n_2, n_3, n_4, n_5, n_6, n_7, n_8, if_true, if_false, jin, ncl, cond_true, cond_false, Option.bind_some, j_ov, j_oi, j_ol, nle, nlt, neq, nI_add, nmul, nsub, ndiv, nrem2, if_pos, if_neg, Nat.zero_add, Nat.add_zero, j_w_ap, decide_eq_true, decide_eq_false, Bool.true_or, Bool.or_true, Bool.false_or, Bool.or_false, Bool.and_true, Bool.true_and, Bool.false_and, Bool.and_false, Bool.not_true, Bool.not_false, h3] at e
    exact e
  | none =>
    rw [show oI none = -nI 1 from rfl] at h3
    obtain ⟨n0, n1⟩ := hn
    by_cases hpl : pos < L
    · have hTp := hT pos hpl
      have m0 : ¬ T pos = 43 := fun z => n0 ⟨rfl, hpl, z⟩
      have m1 : ¬ T pos = 45 := fun z => n1 ⟨rfl, hpl, z⟩
      rw [if_pos hpl] at q
      simp (disch := omega) only [z33, z37, z38, z42, z43, z45, z47, z48, z57, z59, z61, z62, z63, z98, z107, z110, z112, z114, z120, z122, z124, z0, z1, z2, z3, z4, z5, z6, z7, z8, z9, z10, z11, z12, z13, z14, z15, z16, z17, z18, z19, z20, z24, z26, z30, z31, z40, z41, z50, z54, z60, z70, z80, z81, z99, z100, z200, z255, z599, z1000, z1299, z4096, z1000000, lw0, lw1, lw2, lw3, lw4, lw5, lw6, lw7, lw12, lw50, lw99, lw255, lw599, lw4096, bI_ok, ble_t, Int.cast_ofNat_Int,  decide_true, decide_false, bI_0, bI_1, b_tf, b_ft, eq_self, n_1, n_2, n_3, n_4, n_5, n_6, n_7, n_8, if_true, if_false, jin, ncl, cond_true, cond_false, Option.bind_some, j_ov, j_oi, j_ol, nle, nlt, neq, nI_add, nmul, nsub, ndiv, nrem2, if_pos, if_neg, Nat.zero_add, Nat.add_zero, j_w_ap, decide_eq_true, decide_eq_false, Bool.true_or, Bool.or_true, Bool.false_or, Bool.or_false, Bool.and_true, Bool.true_and, Bool.false_and, Bool.and_false, Bool.not_true, Bool.not_false, h3, q] at e
      exact e
    · rw [if_neg hpl] at q
      simp (disch := omega) only [z33, z37, z38, z42, z43, z45, z47, z48, z57, z59, z61, z62, z63, z98, z107, z110, z112, z114, z120, z122, z124, z0, z1, z2, z3, z4, z5, z6, z7, z8, z9, z10, z11, z12, z13, z14, z15, z16, z17, z18, z19, z20, z24, z26, z30, z31, z40, z41, z50, z54, z60, z70, z80, z81, z99, z100, z200, z255, z599, z1000, z1299, z4096, z1000000, lw0, lw1, lw2, lw3, lw4, lw5, lw6, lw7, lw12, lw50, lw99, lw255, lw599, lw4096, bI_ok, ble_t, Int.cast_ofNat_Int,  decide_true, decide_false, bI_0, bI_1, b_tf, b_ft, eq_self, n_1, n_2, n_3, n_4, n_5, n_6, n_7, n_8, if_true, if_false, jin, ncl, cond_true, cond_false, Option.bind_some, j_ov, j_oi, j_ol, nle, nlt, neq, nI_add, nmul, nsub, ndiv, nrem2, if_pos, if_neg, Nat.zero_add, Nat.add_zero, j_w_ap, decide_eq_true, decide_eq_false, Bool.true_or, Bool.or_true, Bool.false_or, Bool.or_false, Bool.and_true, Bool.true_and, Bool.false_and, Bool.and_false, Bool.not_true, Bool.not_false, h3, q] at e
      exact e
theorem M_sts {k p1 : Nat} {f1 : Option Nat} {c1 : List Int32} (hdd : 3 ≤ dd) (hL : L ≤ 120) (hT : ∀ i, i < L → T i ≤ 255) (hs : SGs T L pos k) (hp1 : p1 ≤ L) (ge : Je T L 205 dd op (pos + 1) p1 f1 c1) (hd : dd ≤ d) (h : ES T L b e pos none op M) : ∃ M' r2, R d kX11_sums 5 [.ref 46, .int x, .null, .null] [] (S0, M, N) = R d kX11_sums 5 [.ref 46, .int (jn (-nI k) x r2), .null, .null] [] (S0, M', N) ∧ ES T L b e p1 f1 op M' ∧ FE M M' ∧ (f1 = none → ∀ st, ev e c1 st = r2 :: st) := by
  have h2 := h.2.1
  have h3 := h.2.2.1
  rw [show oI none = -nI 1 from rfl] at h3
  obtain ⟨M1, r2, q1, q2, q3, q4⟩ := ge d _ N b e hd h.adv
  have e1 := bX11_sums_5 d x M N
  refine ⟨M1, r2, ?_, q2, (FE.w (by omega)).tr q3, q4⟩
  rcases hs with ⟨t, rfl⟩ | ⟨n0, t, rfl⟩
  · have hpl := t.2.1
    have hTp := t.2.2
    have q := M_byte (d := d) (N := N) (by omega) hL (by omega) h
    rw [if_pos hpl, hTp] at q
    have e2 := bX11_sums_30 d x M N
    rw [jn_11]
    simp (disch := omega) only [z33, z37, z38, z42, z43, z45, z47, z48, z57, z59, z61, z62, z63, z98, z107, z110, z112, z114, z120, z122, z124, z0, z1, z2, z3, z4, z5, z6, z7, z8, z9, z10, z11, z12, z13, z14, z15, z16, z17, z18, z19, z20, z24, z26, z30, z31, z40, z41, z50, z54, z60, z70, z80, z81, z99, z100, z200, z255, z599, z1000, z1299, z4096, z1000000, lw0, lw1, lw2, lw3, lw4, lw5, lw6, lw7, lw12, lw50, lw99, lw255, lw599, lw4096, bI_ok, ble_t, Int.cast_ofNat_Int,  decide_true, decide_false, bI_0, bI_1, b_tf, b_ft, eq_self, n_1, n_2, n_3, n_4, n_5, n_6, n_7, n_8, if_true, if_false, jin, ncl, cond_true, cond_false, Option.bind_some, j_ov, j_oi, j_ol, nle, nlt, neq, nI_add, nmul, nsub, ndiv, nrem2, if_pos, if_neg, Nat.zero_add, Nat.add_zero, j_w_ap, decide_eq_true, decide_eq_false, Bool.true_or, Bool.or_true, Bool.false_or, Bool.or_false, Bool.and_true, Bool.true_and, Bool.false_and, Bool.and_false, Bool.not_true, Bool.not_false, h3, q] at e1
    simp (disch := omega) only [z33, z37, z38, z42, z43, z45, z47, z48, z57, z59, z61, z62, z63, z98, z107, z110, z112, z114, z120, z122, z124, z0, z1, z2, z3, z4, z5, z6, z7, z8, z9, z10, z11, z12, z13, z14, z15, z16, z17, z18, z19, z20, z24, z26, z30, z31, z40, z41, z50, z54, z60, z70, z80, z81, z99, z100, z200, z255, z599, z1000, z1299, z4096, z1000000, lw0, lw1, lw2, lw3, lw4, lw5, lw6, lw7, lw12, lw50, lw99, lw255, lw599, lw4096, bI_ok, ble_t, Int.cast_ofNat_Int,  decide_true, decide_false, bI_0, bI_1, b_tf, b_ft, eq_self, n_1, n_2, n_3, n_4, n_5, n_6, n_7, n_8, if_true, if_false, jin, ncl, cond_true, cond_false, Option.bind_some, j_ov, j_oi, j_ol, nle, nlt, neq, nI_add, nmul, nsub, ndiv, nrem2, if_pos, if_neg, Nat.zero_add, Nat.add_zero, j_w_ap, decide_eq_true, decide_eq_false, Bool.true_or, Bool.or_true, Bool.false_or, Bool.or_false, Bool.and_true, Bool.true_and, Bool.false_and, Bool.and_false, Bool.not_true, Bool.not_false, h2, q, q1] at e2
    exact e1.trans e2
  · have hpl := t.2.1
    have hTp := t.2.2
    have q := M_byte (d := d) (N := N) (by omega) hL (by omega) h
    rw [if_pos hpl, hTp] at q
    have e2 := bX11_sums_30 d x M N
    rw [jn_12]
    simp (disch := omega) only [z33, z37, z38, z42, z43, z45, z47, z48, z57, z59, z61, z62, z63, z98, z107, z110, z112, z114, z120, z122, z124, z0, z1, z2, z3, z4, z5, z6, z7, z8, z9, z10, z11, z12, z13, z14, z15, z16, z17, z18, z19, z20, z24, z26, z30, z31, z40, z41, z50, z54, z60, z70, z80, z81, z99, z100, z200, z255, z599, z1000, z1299, z4096, z1000000, lw0, lw1, lw2, lw3, lw4, lw5, lw6, lw7, lw12, lw50, lw99, lw255, lw599, lw4096, bI_ok, ble_t, Int.cast_ofNat_Int,  decide_true, decide_false, bI_0, bI_1, b_tf, b_ft, eq_self, n_1, n_2, n_3, n_4, n_5, n_6, n_7, n_8, if_true, if_false, jin, ncl, cond_true, cond_false, Option.bind_some, j_ov, j_oi, j_ol, nle, nlt, neq, nI_add, nmul, nsub, ndiv, nrem2, if_pos, if_neg, Nat.zero_add, Nat.add_zero, j_w_ap, decide_eq_true, decide_eq_false, Bool.true_or, Bool.or_true, Bool.false_or, Bool.or_false, Bool.and_true, Bool.true_and, Bool.false_and, Bool.and_false, Bool.not_true, Bool.not_false, h3, q] at e1
    simp (disch := omega) only [z33, z37, z38, z42, z43, z45, z47, z48, z57, z59, z61, z62, z63, z98, z107, z110, z112, z114, z120, z122, z124, z0, z1, z2, z3, z4, z5, z6, z7, z8, z9, z10, z11, z12, z13, z14, z15, z16, z17, z18, z19, z20, z24, z26, z30, z31, z40, z41, z50, z54, z60, z70, z80, z81, z99, z100, z200, z255, z599, z1000, z1299, z4096, z1000000, lw0, lw1, lw2, lw3, lw4, lw5, lw6, lw7, lw12, lw50, lw99, lw255, lw599, lw4096, bI_ok, ble_t, Int.cast_ofNat_Int,  decide_true, decide_false, bI_0, bI_1, b_tf, b_ft, eq_self, n_1, n_2, n_3, n_4, n_5, n_6, n_7, n_8, if_true, if_false, jin, ncl, cond_true, cond_false, Option.bind_some, j_ov, j_oi, j_ol, nle, nlt, neq, nI_add, nmul, nsub, ndiv, nrem2, if_pos, if_neg, Nat.zero_add, Nat.add_zero, j_w_ap, decide_eq_true, decide_eq_false, Bool.true_or, Bool.or_true, Bool.false_or, Bool.or_false, Bool.and_true, Bool.true_and, Bool.false_and, Bool.and_false, Bool.not_true, Bool.not_false, h2, q, q1] at e2
    exact e1.trans e2
theorem L_s (hT : ∀ i, i < L → T i ≤ 255) (hL : L ≤ 120) (hdd : 3 ≤ dd) : ∀ (r pos : Nat), L - pos ≤ r → pos ≤ L → (∀ p, pos < p → p ≤ L → J T L 42 205 dd op p) → Ls T L dd op pos := by
  intro r
  induction r with
  | zero =>
    intro pos hr hp H
    have ht : ∀ c, ¬ tk T L pos none c := fun c z => by have := z.2.1; omega
    refine ⟨pos, none, [], Nat.le_refl _, hp, Nat.le_refl _, (fun f hf => by cases hf), fun d i M N D hd h hD hi => ?_, fun d M N b e x hd h => ?_⟩
    · exact ⟨nI 0, M, M, X_ss_f (by omega) hL hp hT (fun f hf => by cases hf) ⟨ht _, ht _⟩ h, X_es_end, by rw [List.append_nil]; exact h, FX.rf⟩
    · exact ⟨M, x, M_es_end (by omega) hL hp hT (fun f hf => by cases hf) ⟨ht _, ht _⟩ h, h, FE.rf, fun _ st => rfl⟩
  | succ r ih =>
    intro pos hr hp H
    by_cases hsg : ∃ k, SGs T L pos k
    · obtain ⟨k, hs⟩ := hsg
      have hpl : pos < L := by rcases hs with ⟨t, rfl⟩ | ⟨n0, t, rfl⟩ <;> exact t.2.1
      have hk : 6 ≤ k ∧ k ≤ 15 := by rcases hs with ⟨t, rfl⟩ | ⟨n0, t, rfl⟩ <;> omega
      obtain ⟨p1, f1, c1, g1, g2, g3, g4, g5, gx, ge⟩ := H (pos + 1) (by omega) (by omega)
      have stx : ∀ (d i : Nat) (M : j_M) (N : j_N) (D : List Int32), dd ≤ d → XS T L pos none D M → D.length ≤ pos → i ≤ pos → ∃ M2, XS T L p1 f1 (D ++ (c1 ++ [-nI k])) M2 ∧ FX M M2 ∧ ∀ s3 M3, C d 41 [.ref 16] S0 M2 N = some (some (.int s3), M3, N) → R d kX4_readSum 12 [.ref 16, .int (nI op), .int (-nI k), .int (nI i)] [] (S0, j_w M 16 5 (nI (pos + 1)), N) = R d kX4_readSum 12 [.ref 16, .int (nI op), .int s3, .int (nI (i + 1))] [] (S0, M3, N) := by
        intro d i M N D hd h hD hi
        obtain ⟨M1, q1, q2, q3⟩ := gx d _ N D hd h.adv (by omega)
        obtain ⟨M2, q4, q5, q6⟩ := X_write (d := d) (N := N) (x := -nI k) (by omega) (by rw [List.length_append]; omega) q2
        rw [List.append_assoc] at q5
        refine ⟨M2, q5, (FX.w (by omega)).tr (q3.tr q6), fun s3 M3 h3 => ?_⟩
        have e := bX4_readSum_12 d (nI op) (-nI k) (nI i) (j_w M 16 5 (nI (pos + 1))) N
        simp (disch := omega) only [z33, z37, z38, z42, z43, z45, z47, z48, z57, z59, z61, z62, z63, z98, z107, z110, z112, z114, z120, z122, z124, z0, z1, z2, z3, z4, z5, z6, z7, z8, z9, z10, z11, z12, z13, z14, z15, z16, z17, z18, z19, z20, z24, z26, z30, z31, z40, z41, z50, z54, z60, z70, z80, z81, z99, z100, z200, z255, z599, z1000, z1299, z4096, z1000000, lw0, lw1, lw2, lw3, lw4, lw5, lw6, lw7, lw12, lw50, lw99, lw255, lw599, lw4096, bI_ok, ble_t, Int.cast_ofNat_Int,  decide_true, decide_false, bI_0, bI_1, b_tf, b_ft, eq_self, n_1, n_2, n_3, n_4, n_5, n_6, n_7, n_8, if_true, if_false, jin, ncl, cond_true, cond_false, Option.bind_some, j_ov, j_oi, j_ol, nle, nlt, neq, nI_add, nmul, nsub, ndiv, nrem2, if_pos, if_neg, Nat.zero_add, Nat.add_zero, j_w_ap, decide_eq_true, decide_eq_false, Bool.true_or, Bool.or_true, Bool.false_or, Bool.or_false, Bool.and_true, Bool.true_and, Bool.false_and, Bool.and_false, Bool.not_true, Bool.not_false, q1, q4, h3] at e
        exact e
      cases f1 with
      | some f =>
        refine ⟨p1, some f, c1 ++ [-nI k], by omega, g2, by rw [List.length_append, List.length_singleton]; omega, g5, fun d i M N D hd h hD hi => ?_, fun d M N b e x hd h => ?_⟩
        · obtain ⟨M2, q1, q2, q3⟩ := stx d i M N D hd h hD hi
          have q4 := X_ss_f (d := d) (N := N) (by omega) hL g2 hT g5 ⟨tk_s, tk_s⟩ q1
          exact ⟨_, _, M2, X_ss_t (by omega) hL hT hs h, (q3 _ _ q4).trans X_es_end, q1, q2⟩
        · obtain ⟨M1, r2, q1, q2, q3, -⟩ := M_sts (N := N) (x := x) hdd hL hT hs g2 ge hd h
          exact ⟨M1, _, q1.trans (M_es_end (by omega) hL g2 hT g5 ⟨tk_s, tk_s⟩ q2), q2, q3, fun z => by cases z⟩
      | none =>
        have hlt := g4 rfl
        obtain ⟨p2, f2, c2, k1, k2, k3, k4, kx, ke⟩ := ih p1 (by omega) g2 (fun p hp1 hp2 => H p (by omega) hp2)
        refine ⟨p2, f2, c1 ++ [-nI k] ++ c2, by omega, k2, by rw [List.length_append, List.length_append, List.length_singleton]; omega, k4, fun d i M N D hd h hD hi => ?_, fun d M N b e x hd h => ?_⟩
        · obtain ⟨M2, q1, q2, q3⟩ := stx d i M N D hd h hD hi
          obtain ⟨s3, M3, M4, q4, q5, q6, q7⟩ := kx d (i + 1) M2 N _ hd q1 (by rw [List.length_append, List.length_append, List.length_singleton]; omega) (by omega)
          rw [List.append_assoc] at q6
          exact ⟨_, _, M4, X_ss_t (by omega) hL hT hs h, (q3 _ _ q4).trans q5, q6, q2.tr q7⟩
        · obtain ⟨M1, r2, q1, q2, q3, q4⟩ := M_sts (N := N) (x := x) hdd hL hT hs g2 ge hd h
          obtain ⟨M2, v, q5, q6, q7, q8⟩ := ke d M1 N b e (jn (-nI k) x r2) hd q2
          refine ⟨M2, v, q1.trans q5, q6, q3.tr q7, fun z st => ?_⟩
          rw [ev_app, ev_app, q4 rfl]
          show ev e c2 (ev1 e (-nI k) (r2 :: x :: st)) = _
          rw [ev1_bin hk.1 hk.2]
          exact q8 z st
    · have hn : ¬ tk T L pos none 43 ∧ ¬ tk T L pos none 45 := by
        refine ⟨fun z => hsg ⟨11, Or.inl ⟨z, rfl⟩⟩, fun z => ?_⟩
        by_cases n0 : tk T L pos none 43
        · exact hsg ⟨11, Or.inl ⟨n0, rfl⟩⟩
        · exact hsg ⟨12, Or.inr ⟨n0, z, rfl⟩⟩
      refine ⟨pos, none, [], Nat.le_refl _, hp, Nat.le_refl _, (fun f hf => by cases hf), fun d i M N D hd h hD hi => ?_, fun d M N b e x hd h => ?_⟩
      · exact ⟨nI 0, M, M, X_ss_f (by omega) hL hp hT (fun f hf => by cases hf) hn h, X_es_end, by rw [List.append_nil]; exact h, FX.rf⟩
      · exact ⟨M, x, M_es_end (by omega) hL hp hT (fun f hf => by cases hf) hn h, h, FE.rf, fun _ st => rfl⟩
theorem J_s (hT : ∀ i, i < L → T i ≤ 255) (hL : L ≤ 120) (hdd : 3 ≤ dd) (hp : pos ≤ L) (h0 : J T L 42 205 dd op pos) (H : ∀ p, pos < p → p ≤ L → J T L 42 205 dd op p) : J T L 40 204 (dd + 1) op pos := by
  obtain ⟨p1, f1, c1, g1, g2, g3, g4, g5, gx, ge⟩ := h0
  have bx : ∀ (d : Nat) (M : j_M) (N : j_N) (D : List Int32), dd + 1 ≤ d → XS T L pos none D M → D.length ≤ pos → ∃ M1, XS T L p1 f1 (D ++ c1) M1 ∧ FX M M1 ∧ ∀ s3 M3, C (d - 1) 41 [.ref 16] S0 M1 N = some (some (.int s3), M3, N) → R (d - 1) kX4_readSum 0 [.ref 16, .int (nI op), .null, .null] [] (S0, M, N) = R (d - 1) kX4_readSum 12 [.ref 16, .int (nI op), .int s3, .int (nI 0)] [] (S0, M3, N) := by
    intro d M N D hd h hD
    obtain ⟨M1, q1, q2, q3⟩ := gx (d - 1) M N D (by omega) h hD
    refine ⟨M1, q2, q3, fun s3 M3 h3 => ?_⟩
    have e := bX4_readSum_0 (d - 1) (nI op) M N
    simp (disch := omega) only [z33, z37, z38, z42, z43, z45, z47, z48, z57, z59, z61, z62, z63, z98, z107, z110, z112, z114, z120, z122, z124, z0, z1, z2, z3, z4, z5, z6, z7, z8, z9, z10, z11, z12, z13, z14, z15, z16, z17, z18, z19, z20, z24, z26, z30, z31, z40, z41, z50, z54, z60, z70, z80, z81, z99, z100, z200, z255, z599, z1000, z1299, z4096, z1000000, lw0, lw1, lw2, lw3, lw4, lw5, lw6, lw7, lw12, lw50, lw99, lw255, lw599, lw4096, bI_ok, ble_t, Int.cast_ofNat_Int,  decide_true, decide_false, bI_0, bI_1, b_tf, b_ft, eq_self, n_1, n_2, n_3, n_4, n_5, n_6, n_7, n_8, if_true, if_false, jin, ncl, cond_true, cond_false, Option.bind_some, j_ov, j_oi, j_ol, nle, nlt, neq, nI_add, nmul, nsub, ndiv, nrem2, if_pos, if_neg, Nat.zero_add, Nat.add_zero, j_w_ap, decide_eq_true, decide_eq_false, Bool.true_or, Bool.or_true, Bool.false_or, Bool.or_false, Bool.and_true, Bool.true_and, Bool.false_and, Bool.and_false, Bool.not_true, Bool.not_false, q1, h3] at e
    exact e
  have be : ∀ (d : Nat) (M : j_M) (N : j_N) (b : Bool) (e : Nat → Int32), dd + 1 ≤ d → ES T L b e pos none op M → ∃ M1 v, R (d - 1) kX11_sums 0 [.ref 46, .null, .null, .null] [] (S0, M, N) = R (d - 1) kX11_sums 5 [.ref 46, .int v, .null, .null] [] (S0, M1, N) ∧ ES T L b e p1 f1 op M1 ∧ FE M M1 ∧ (f1 = none → ∀ st, ev e c1 st = v :: st) := by
    intro d M N b e hd h
    obtain ⟨M1, v, q1, q2, q3, q4⟩ := ge (d - 1) M N b e (by omega) h
    have e1 := bX11_sums_0 (d - 1) M N
    simp (disch := omega) only [z33, z37, z38, z42, z43, z45, z47, z48, z57, z59, z61, z62, z63, z98, z107, z110, z112, z114, z120, z122, z124, z0, z1, z2, z3, z4, z5, z6, z7, z8, z9, z10, z11, z12, z13, z14, z15, z16, z17, z18, z19, z20, z24, z26, z30, z31, z40, z41, z50, z54, z60, z70, z80, z81, z99, z100, z200, z255, z599, z1000, z1299, z4096, z1000000, lw0, lw1, lw2, lw3, lw4, lw5, lw6, lw7, lw12, lw50, lw99, lw255, lw599, lw4096, bI_ok, ble_t, Int.cast_ofNat_Int,  decide_true, decide_false, bI_0, bI_1, b_tf, b_ft, eq_self, n_1, n_2, n_3, n_4, n_5, n_6, n_7, n_8, if_true, if_false, jin, ncl, cond_true, cond_false, Option.bind_some, j_ov, j_oi, j_ol, nle, nlt, neq, nI_add, nmul, nsub, ndiv, nrem2, if_pos, if_neg, Nat.zero_add, Nat.add_zero, j_w_ap, decide_eq_true, decide_eq_false, Bool.true_or, Bool.or_true, Bool.false_or, Bool.or_false, Bool.and_true, Bool.true_and, Bool.false_and, Bool.and_false, Bool.not_true, Bool.not_false, q1] at e1
    exact ⟨M1, v, e1, q2, q3, q4⟩
  cases f1 with
  | some f =>
    refine ⟨p1, some f, c1, g1, g2, g3, (fun z => by cases z), g5, fun d M N D hd h hD => ?_, fun d M N b e hd h => ?_⟩
    · obtain ⟨M1, q1, q2, q3⟩ := bx d M N D hd h hD
      have q4 := X_ss_f (d := d - 1) (N := N) (by omega) hL g2 hT g5 ⟨tk_s, tk_s⟩ q1
      exact ⟨M1, eX4_readSum (by omega) ((q3 _ _ q4).trans X_es_end), q1, q2⟩
    · obtain ⟨M1, v, q1, q2, q3, -⟩ := be d M N b e hd h
      exact ⟨M1, v, eX11_sums (by omega) (q1.trans (M_es_end (by omega) hL g2 hT g5 ⟨tk_s, tk_s⟩ q2)), q2, q3, fun z => by cases z⟩
  | none =>
    have hlt := g4 rfl
    obtain ⟨p2, f2, c2, k1, k2, k3, k4, kx, ke⟩ := L_s hT hL hdd (L - p1) p1 (Nat.le_refl _) g2 (fun p hp1 hp2 => H p (by omega) hp2)
    refine ⟨p2, f2, c1 ++ c2, by omega, k2, by rw [List.length_append]; omega, fun z => by omega, k4, fun d M N D hd h hD => ?_, fun d M N b e hd h => ?_⟩
    · obtain ⟨M1, q1, q2, q3⟩ := bx d M N D hd h hD
      obtain ⟨s3, M3, M4, q4, q5, q6, q7⟩ := kx (d - 1) 0 M1 N (D ++ c1) (by omega) q1 (by rw [List.length_append]; omega) (by omega)
      rw [List.append_assoc] at q6
      exact ⟨M4, eX4_readSum (by omega) ((q3 _ _ q4).trans q5), q6, q2.tr q7⟩
    · obtain ⟨M1, v, q1, q2, q3, q4⟩ := be d M N b e hd h
      obtain ⟨M2, v2, q5, q6, q7, q8⟩ := ke (d - 1) M1 N b e v (by omega) q2
      refine ⟨M2, v2, eX11_sums (by omega) (q1.trans q5), q6, q3.tr q7, fun z st => ?_⟩
      rw [ev_app, q4 rfl]
      exact q8 z st
end LM
