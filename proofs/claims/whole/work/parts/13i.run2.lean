/-! ===== the law: the run over lines, what one gives (own text) ===== -/
section RU
variable {d n g b : Nat} {a : Nat → Nat} {st : List Int32} {M : j_M} {N : j_N} {x c l r : Int32} {cd : List Int32}
/-- the law lies ready in the class -/
def RD (cd : List Int32) (M : j_M) : Prop := M 16 8 = nI cd.length ∧ dr cd 19 M ∧ cd.length ≤ 121
theorem RD.scr {M' : j_M} (h : RD cd M) (hs : Scr M M') : RD cd M' := ⟨(hs 16 8 rfl).trans h.1, fun i y hy => (hs 19 i rfl).trans (h.2.1 i y hy), h.2.2⟩
theorem ev1_stk {e0 : Nat → Int32} {st : List Int32} {c : Int32} : (ev1 e0 c st).length ≤ st.length + 1 := ev1_len
/-- a step that counts -/
theorem X_one {i : Nat} (hd : 5 ≤ d) (h : IG n a M) (hg : g < n) (hr : RD cd M) (hi : cd[i]? = some c) (hc : ¬ c < -nI 17) (hs : st.length ≤ i) (hk : stk st M) : ∃ M', R d kX4_workOut 11 [.ref 16, .ref 1, .int (nI g), .int (nI b), .int (nI 1), .int (nI i), .null] [] (S0, M, N) = R d kX4_workOut 11 [.ref 16, .ref 1, .int (nI g), .int (nI b), .int (nI 1), .int (nI (i + 1)), .null] [] (S0, M', N) ∧ stk (ev1 (env n a g b) c st) M' ∧ Scr M M' := by
  obtain ⟨r1, r2, r3⟩ := hr
  have hil : i < cd.length := by
    rcases Nat.lt_or_ge i cd.length with q | q
    · exact q
    · rw [List.getElem?_eq_none q] at hi; cases hi
  have h19 := r2 i c hi
  have n19 : ¬ c = -nI 19 := fun z => hc (by rw [z, n_9 (by omega) (by omega)]; omega)
  have n18 : ¬ c = -nI 18 := fun z => hc (by rw [z, n_9 (by omega) (by omega)]; omega)
  have e1 := bX4_workOut_11 d (nI g) (nI b) (nI 1) (nI i) M N
  have e2 := bX4_workOut_46 d (nI g) (nI b) (nI 1) (nI i) c M N
  have e3 := bX4_workOut_88 d (nI g) (nI b) (nI 1) (nI i) c M N
  simp (disch := omega) only [z33, z37, z38, z42, z43, z45, z47, z48, z57, z59, z61, z62, z63, z98, z107, z110, z112, z114, z120, z122, z124, z0, z1, z2, z3, z4, z5, z6, z7, z8, z9, z10, z11, z12, z13, z14, z15, z16, z17, z18, z19, z20, z24, z26, z30, z31, z40, z41, z50, z54, z60, z70, z80, z81, z99, z100, z200, z255, z599, z1000, z1299, z4096, z1000000, lw0, lw1, lw2, lw3, lw4, lw5, lw6, lw7, lw12, lw50, lw99, lw255, lw599, lw4096, bI_ok, ble_t, Int.cast_ofNat_Int,  decide_true, decide_false, bI_0, bI_1, b_tf, b_ft, eq_self, n_1, n_2, n_3, n_4, n_5, n_6, n_7, n_8, if_true, if_false, jin, ncl, cond_true, cond_false, Option.bind_some, j_ov, j_oi, j_ol, nle, nlt, neq, nI_add, nmul, nsub, ndiv, nrem2, if_pos, if_neg, Nat.zero_add, Nat.add_zero, j_w_ap, decide_eq_true, decide_eq_false, Bool.true_or, Bool.or_true, Bool.false_or, Bool.or_false, Bool.and_true, Bool.true_and, Bool.false_and, Bool.and_false, Bool.not_true, Bool.not_false, r1, h19, n19] at e1
  simp (disch := omega) only [z33, z37, z38, z42, z43, z45, z47, z48, z57, z59, z61, z62, z63, z98, z107, z110, z112, z114, z120, z122, z124, z0, z1, z2, z3, z4, z5, z6, z7, z8, z9, z10, z11, z12, z13, z14, z15, z16, z17, z18, z19, z20, z24, z26, z30, z31, z40, z41, z50, z54, z60, z70, z80, z81, z99, z100, z200, z255, z599, z1000, z1299, z4096, z1000000, lw0, lw1, lw2, lw3, lw4, lw5, lw6, lw7, lw12, lw50, lw99, lw255, lw599, lw4096, bI_ok, ble_t, Int.cast_ofNat_Int,  decide_true, decide_false, bI_0, bI_1, b_tf, b_ft, eq_self, n_1, n_2, n_3, n_4, n_5, n_6, n_7, n_8, if_true, if_false, jin, ncl, cond_true, cond_false, Option.bind_some, j_ov, j_oi, j_ol, nle, nlt, neq, nI_add, nmul, nsub, ndiv, nrem2, if_pos, if_neg, Nat.zero_add, Nat.add_zero, j_w_ap, decide_eq_true, decide_eq_false, Bool.true_or, Bool.or_true, Bool.false_or, Bool.or_false, Bool.and_true, Bool.true_and, Bool.false_and, Bool.and_false, Bool.not_true, Bool.not_false, n19, n18] at e2
  have e12 := e1.trans e2
  by_cases hlt : c < -nI 5
  · obtain ⟨M1, q1, q2, q3⟩ := X_apply (d := d) (N := N) (env n a g b) (by omega) (by omega) hlt hc hk
    simp (disch := omega) only [z33, z37, z38, z42, z43, z45, z47, z48, z57, z59, z61, z62, z63, z98, z107, z110, z112, z114, z120, z122, z124, z0, z1, z2, z3, z4, z5, z6, z7, z8, z9, z10, z11, z12, z13, z14, z15, z16, z17, z18, z19, z20, z24, z26, z30, z31, z40, z41, z50, z54, z60, z70, z80, z81, z99, z100, z200, z255, z599, z1000, z1299, z4096, z1000000, lw0, lw1, lw2, lw3, lw4, lw5, lw6, lw7, lw12, lw50, lw99, lw255, lw599, lw4096, bI_ok, ble_t, Int.cast_ofNat_Int,  decide_true, decide_false, bI_0, bI_1, b_tf, b_ft, eq_self, n_1, n_2, n_3, n_4, n_5, n_6, n_7, n_8, if_true, if_false, jin, ncl, cond_true, cond_false, Option.bind_some, j_ov, j_oi, j_ol, nle, nlt, neq, nI_add, nmul, nsub, ndiv, nrem2, if_pos, if_neg, Nat.zero_add, Nat.add_zero, j_w_ap, decide_eq_true, decide_eq_false, Bool.true_or, Bool.or_true, Bool.false_or, Bool.or_false, Bool.and_true, Bool.true_and, Bool.false_and, Bool.and_false, Bool.not_true, Bool.not_false, hlt, q1] at e3
    exact ⟨M1, e12.trans e3, q2, q3⟩
  · by_cases hneg : c < nI 0
    · have v1 := X_valueOf (d := d) (N := N) (x := c) (b := b) (by omega) h hg
      obtain ⟨M1, q1, q2, q3⟩ := X_push (d := d) (N := N) (x := nmv (env n a g b) c) (by omega) (by omega) hk
      simp (disch := omega) only [z33, z37, z38, z42, z43, z45, z47, z48, z57, z59, z61, z62, z63, z98, z107, z110, z112, z114, z120, z122, z124, z0, z1, z2, z3, z4, z5, z6, z7, z8, z9, z10, z11, z12, z13, z14, z15, z16, z17, z18, z19, z20, z24, z26, z30, z31, z40, z41, z50, z54, z60, z70, z80, z81, z99, z100, z200, z255, z599, z1000, z1299, z4096, z1000000, lw0, lw1, lw2, lw3, lw4, lw5, lw6, lw7, lw12, lw50, lw99, lw255, lw599, lw4096, bI_ok, ble_t, Int.cast_ofNat_Int,  decide_true, decide_false, bI_0, bI_1, b_tf, b_ft, eq_self, n_1, n_2, n_3, n_4, n_5, n_6, n_7, n_8, if_true, if_false, jin, ncl, cond_true, cond_false, Option.bind_some, j_ov, j_oi, j_ol, nle, nlt, neq, nI_add, nmul, nsub, ndiv, nrem2, if_pos, if_neg, Nat.zero_add, Nat.add_zero, j_w_ap, decide_eq_true, decide_eq_false, Bool.true_or, Bool.or_true, Bool.false_or, Bool.or_false, Bool.and_true, Bool.true_and, Bool.false_and, Bool.and_false, Bool.not_true, Bool.not_false, hlt, hneg, v1, q1] at e3
      refine ⟨M1, e12.trans e3, ?_, q3⟩
      unfold ev1
      rw [if_neg hc, if_neg (fun z => hlt (by rw [z, n_9 (by omega) (by omega)]; omega)), if_neg (fun z => hlt (by rw [z, n_9 (by omega) (by omega)]; omega)), if_neg hlt, if_pos hneg]
      exact q2
    · obtain ⟨M1, q1, q2, q3⟩ := X_push (d := d) (N := N) (x := c) (by omega) (by omega) hk
      simp (disch := omega) only [z33, z37, z38, z42, z43, z45, z47, z48, z57, z59, z61, z62, z63, z98, z107, z110, z112, z114, z120, z122, z124, z0, z1, z2, z3, z4, z5, z6, z7, z8, z9, z10, z11, z12, z13, z14, z15, z16, z17, z18, z19, z20, z24, z26, z30, z31, z40, z41, z50, z54, z60, z70, z80, z81, z99, z100, z200, z255, z599, z1000, z1299, z4096, z1000000, lw0, lw1, lw2, lw3, lw4, lw5, lw6, lw7, lw12, lw50, lw99, lw255, lw599, lw4096, bI_ok, ble_t, Int.cast_ofNat_Int,  decide_true, decide_false, bI_0, bI_1, b_tf, b_ft, eq_self, n_1, n_2, n_3, n_4, n_5, n_6, n_7, n_8, if_true, if_false, jin, ncl, cond_true, cond_false, Option.bind_some, j_ov, j_oi, j_ol, nle, nlt, neq, nI_add, nmul, nsub, ndiv, nrem2, if_pos, if_neg, Nat.zero_add, Nat.add_zero, j_w_ap, decide_eq_true, decide_eq_false, Bool.true_or, Bool.or_true, Bool.false_or, Bool.or_false, Bool.and_true, Bool.true_and, Bool.false_and, Bool.and_false, Bool.not_true, Bool.not_false, hlt, hneg, q1] at e3
      refine ⟨M1, e12.trans e3, ?_, q3⟩
      unfold ev1
      rw [if_neg hc, if_neg (fun z => hlt (by rw [z, n_9 (by omega) (by omega)]; omega)), if_neg (fun z => hlt (by rw [z, n_9 (by omega) (by omega)]; omega)), if_neg hlt, if_neg hneg]
      exact q2
theorem X_seg (hd : 5 ≤ d) (hg : g < n) : ∀ (cs pre post st : List Int32) (M : j_M), cd = pre ++ (cs ++ post) → okc cs → IG n a M → RD cd M → st.length ≤ pre.length → stk st M → ∃ M', R d kX4_workOut 11 [.ref 16, .ref 1, .int (nI g), .int (nI b), .int (nI 1), .int (nI pre.length), .null] [] (S0, M, N) = R d kX4_workOut 11 [.ref 16, .ref 1, .int (nI g), .int (nI b), .int (nI 1), .int (nI (pre ++ cs).length), .null] [] (S0, M', N) ∧ stk (ev (env n a g b) cs st) M' ∧ Scr M M'
  | [], pre, post, st, M, hcd, hok, h, hr, hs, hk => ⟨M, by rw [List.append_nil], hk, Scr.rf⟩
  | c :: cs, pre, post, st, M, hcd, hok, h, hr, hs, hk => by
    have hi : cd[pre.length]? = some c := by
      rw [hcd, List.getElem?_append_right (Nat.le_refl _), Nat.sub_self]
      rfl
    obtain ⟨M1, q1, q2, q3⟩ := X_one (d := d) (N := N) (b := b) hd h hg hr hi (hok c (List.mem_cons_self ..)) hs hk
    have hl := ev1_len (e := env n a g b) (c := c) (st := st)
    obtain ⟨M', p1, p2, p3⟩ := X_seg hd hg cs (pre ++ [c]) post (ev1 (env n a g b) c st) M1 (by rw [hcd, List.append_assoc]; rfl) (fun y hy => hok y (List.mem_cons_of_mem _ hy)) (h.scr q3) (hr.scr q3) (by rw [List.length_append, List.length_singleton]; omega) q2
    rw [List.length_append, List.length_singleton, List.append_assoc] at p1
    exact ⟨M', q1.trans p1, p2, q3.tr p3⟩
/-- steps passed over -/
theorem X_skip (hd : 5 ≤ d) (hr : RD cd M) : ∀ (cs pre post : List Int32), cd = pre ++ (cs ++ post) → okc cs → R d kX4_workOut 11 [.ref 16, .ref 1, .int (nI g), .int (nI b), .int (nI 0), .int (nI pre.length), .null] [] (S0, M, N) = R d kX4_workOut 11 [.ref 16, .ref 1, .int (nI g), .int (nI b), .int (nI 0), .int (nI (pre ++ cs).length), .null] [] (S0, M, N)
  | [], pre, post, hcd, hok => by rw [List.append_nil]
  | c :: cs, pre, post, hcd, hok => by
    have hi : cd[pre.length]? = some c := by
      rw [hcd, List.getElem?_append_right (Nat.le_refl _), Nat.sub_self]
      rfl
    have hil : pre.length < cd.length := by
      rw [hcd, List.length_append, List.length_append, List.length_cons]; omega
    obtain ⟨r1, r2, r3⟩ := hr
    have h19 := r2 _ c hi
    have hc := hok c (List.mem_cons_self ..)
    have n19 : ¬ c = -nI 19 := fun z => hc (by rw [z, n_9 (by omega) (by omega)]; omega)
    have e1 := bX4_workOut_11 d (nI g) (nI b) (nI 0) (nI pre.length) M N
    have e2 := bX4_workOut_46 d (nI g) (nI b) (nI 0) (nI pre.length) c M N
    have e3 := bX4_workOut_88 d (nI g) (nI b) (nI 0) (nI pre.length) c M N
    simp (disch := omega) only [z33, z37, z38, z42, z43, z45, z47, z48, z57, z59, z61, z62, z63, z98, z107, z110, z112, z114, z120, z122, z124, z0, z1, z2, z3, z4, z5, z6, z7, z8, z9, z10, z11, z12, z13, z14, z15, z16, z17, z18, z19, z20, z24, z26, z30, z31, z40, z41, z50, z54, z60, z70, z80, z81, z99, z100, z200, z255, z599, z1000, z1299, z4096, z1000000, lw0, lw1, lw2, lw3, lw4, lw5, lw6, lw7, lw12, lw50, lw99, lw255, lw599, lw4096, bI_ok, ble_t, Int.cast_ofNat_Int,  decide_true, decide_false, bI_0, bI_1, b_tf, b_ft, eq_self, n_1, n_2, n_3, n_4, n_5, n_6, n_7, n_8, if_true, if_false, jin, ncl, cond_true, cond_false, Option.bind_some, j_ov, j_oi, j_ol, nle, nlt, neq, nI_add, nmul, nsub, ndiv, nrem2, if_pos, if_neg, Nat.zero_add, Nat.add_zero, j_w_ap, decide_eq_true, decide_eq_false, Bool.true_or, Bool.or_true, Bool.false_or, Bool.or_false, Bool.and_true, Bool.true_and, Bool.false_and, Bool.and_false, Bool.not_true, Bool.not_false, r1, h19, n19] at e1
    simp (disch := omega) only [z33, z37, z38, z42, z43, z45, z47, z48, z57, z59, z61, z62, z63, z98, z107, z110, z112, z114, z120, z122, z124, z0, z1, z2, z3, z4, z5, z6, z7, z8, z9, z10, z11, z12, z13, z14, z15, z16, z17, z18, z19, z20, z24, z26, z30, z31, z40, z41, z50, z54, z60, z70, z80, z81, z99, z100, z200, z255, z599, z1000, z1299, z4096, z1000000, lw0, lw1, lw2, lw3, lw4, lw5, lw6, lw7, lw12, lw50, lw99, lw255, lw599, lw4096, bI_ok, ble_t, Int.cast_ofNat_Int,  decide_true, decide_false, bI_0, bI_1, b_tf, b_ft, eq_self, n_1, n_2, n_3, n_4, n_5, n_6, n_7, n_8, if_true, if_false, jin, ncl, cond_true, cond_false, Option.bind_some, j_ov, j_oi, j_ol, nle, nlt, neq, nI_add, nmul, nsub, ndiv, nrem2, if_pos, if_neg, Nat.zero_add, Nat.add_zero, j_w_ap, decide_eq_true, decide_eq_false, Bool.true_or, Bool.or_true, Bool.false_or, Bool.or_false, Bool.and_true, Bool.true_and, Bool.false_and, Bool.and_false, Bool.not_true, Bool.not_false, n19] at e2
    simp (disch := omega) only [z33, z37, z38, z42, z43, z45, z47, z48, z57, z59, z61, z62, z63, z98, z107, z110, z112, z114, z120, z122, z124, z0, z1, z2, z3, z4, z5, z6, z7, z8, z9, z10, z11, z12, z13, z14, z15, z16, z17, z18, z19, z20, z24, z26, z30, z31, z40, z41, z50, z54, z60, z70, z80, z81, z99, z100, z200, z255, z599, z1000, z1299, z4096, z1000000, lw0, lw1, lw2, lw3, lw4, lw5, lw6, lw7, lw12, lw50, lw99, lw255, lw599, lw4096, bI_ok, ble_t, Int.cast_ofNat_Int,  decide_true, decide_false, bI_0, bI_1, b_tf, b_ft, eq_self, n_1, n_2, n_3, n_4, n_5, n_6, n_7, n_8, if_true, if_false, jin, ncl, cond_true, cond_false, Option.bind_some, j_ov, j_oi, j_ol, nle, nlt, neq, nI_add, nmul, nsub, ndiv, nrem2, if_pos, if_neg, Nat.zero_add, Nat.add_zero, j_w_ap, decide_eq_true, decide_eq_false, Bool.true_or, Bool.or_true, Bool.false_or, Bool.or_false, Bool.and_true, Bool.true_and, Bool.false_and, Bool.and_false, Bool.not_true, Bool.not_false] at e3
    have ih := X_skip hd ⟨r1, r2, r3⟩ cs (pre ++ [c]) post (by rw [hcd, List.append_assoc]; rfl) (fun y hy => hok y (List.mem_cons_of_mem _ hy))
    rw [List.length_append, List.length_singleton, List.append_assoc] at ih
    exact e1.trans (e2.trans (e3.trans ih))
/-- the end of a line -/
theorem X_endT {i : Nat} (hd : 5 ≤ d) (hr : RD cd M) (hi : cd[i]? = some (-nI 19)) (hs : st.length ≤ 122) (hk : stk st M) : ∃ M', R d kX4_workOut 11 [.ref 16, .ref 1, .int (nI g), .int (nI b), .int (nI 1), .int (nI i), .null] [] (S0, M, N) = some (some (.int (st.headD 0)), (S0, M', N)) ∧ Scr M M' := by
  obtain ⟨r1, r2, r3⟩ := hr
  have hil : i < cd.length := by
    rcases Nat.lt_or_ge i cd.length with q | q
    · exact q
    · rw [List.getElem?_eq_none q] at hi; cases hi
  have h19 := r2 i _ hi
  obtain ⟨M1, q1, q2, q3⟩ := X_pop (d := d) (N := N) (by omega) hs hk
  have e1 := bX4_workOut_11 d (nI g) (nI b) (nI 1) (nI i) M N
  rw [q1] at e1
  simp (disch := omega) only [z33, z37, z38, z42, z43, z45, z47, z48, z57, z59, z61, z62, z63, z98, z107, z110, z112, z114, z120, z122, z124, z0, z1, z2, z3, z4, z5, z6, z7, z8, z9, z10, z11, z12, z13, z14, z15, z16, z17, z18, z19, z20, z24, z26, z30, z31, z40, z41, z50, z54, z60, z70, z80, z81, z99, z100, z200, z255, z599, z1000, z1299, z4096, z1000000, lw0, lw1, lw2, lw3, lw4, lw5, lw6, lw7, lw12, lw50, lw99, lw255, lw599, lw4096, bI_ok, ble_t, Int.cast_ofNat_Int,  decide_true, decide_false, bI_0, bI_1, b_tf, b_ft, eq_self, n_1, n_2, n_3, n_4, n_5, n_6, n_7, n_8, if_true, if_false, jin, ncl, cond_true, cond_false, Option.bind_some, j_ov, j_oi, j_ol, nle, nlt, neq, nI_add, nmul, nsub, ndiv, nrem2, if_pos, if_neg, Nat.zero_add, Nat.add_zero, j_w_ap, decide_eq_true, decide_eq_false, Bool.true_or, Bool.or_true, Bool.false_or, Bool.or_false, Bool.and_true, Bool.true_and, Bool.false_and, Bool.and_false, Bool.not_true, Bool.not_false, r1, h19] at e1
  exact ⟨M1, e1, q3⟩
theorem X_endF {i : Nat} (hd : 5 ≤ d) (hr : RD cd M) (hi : cd[i]? = some (-nI 19)) : R d kX4_workOut 11 [.ref 16, .ref 1, .int (nI g), .int (nI b), .int (nI 0), .int (nI i), .null] [] (S0, M, N) = R d kX4_workOut 11 [.ref 16, .ref 1, .int (nI g), .int (nI b), .int (nI 1), .int (nI (i + 1)), .null] [] (S0, M, N) := by
  obtain ⟨r1, r2, r3⟩ := hr
  have hil : i < cd.length := by
    rcases Nat.lt_or_ge i cd.length with q | q
    · exact q
    · rw [List.getElem?_eq_none q] at hi; cases hi
  have h19 := r2 i _ hi
  have e1 := bX4_workOut_11 d (nI g) (nI b) (nI 0) (nI i) M N
  have e2 := bX4_workOut_46 d (nI g) (nI b) (nI 0) (nI i) (-nI 19) M N
  simp (disch := omega) only [z33, z37, z38, z42, z43, z45, z47, z48, z57, z59, z61, z62, z63, z98, z107, z110, z112, z114, z120, z122, z124, z0, z1, z2, z3, z4, z5, z6, z7, z8, z9, z10, z11, z12, z13, z14, z15, z16, z17, z18, z19, z20, z24, z26, z30, z31, z40, z41, z50, z54, z60, z70, z80, z81, z99, z100, z200, z255, z599, z1000, z1299, z4096, z1000000, lw0, lw1, lw2, lw3, lw4, lw5, lw6, lw7, lw12, lw50, lw99, lw255, lw599, lw4096, bI_ok, ble_t, Int.cast_ofNat_Int,  decide_true, decide_false, bI_0, bI_1, b_tf, b_ft, eq_self, n_1, n_2, n_3, n_4, n_5, n_6, n_7, n_8, if_true, if_false, jin, ncl, cond_true, cond_false, Option.bind_some, j_ov, j_oi, j_ol, nle, nlt, neq, nI_add, nmul, nsub, ndiv, nrem2, if_pos, if_neg, Nat.zero_add, Nat.add_zero, j_w_ap, decide_eq_true, decide_eq_false, Bool.true_or, Bool.or_true, Bool.false_or, Bool.or_false, Bool.and_true, Bool.true_and, Bool.false_and, Bool.and_false, Bool.not_true, Bool.not_false, r1, h19] at e1
  simp (disch := omega) only [z33, z37, z38, z42, z43, z45, z47, z48, z57, z59, z61, z62, z63, z98, z107, z110, z112, z114, z120, z122, z124, z0, z1, z2, z3, z4, z5, z6, z7, z8, z9, z10, z11, z12, z13, z14, z15, z16, z17, z18, z19, z20, z24, z26, z30, z31, z40, z41, z50, z54, z60, z70, z80, z81, z99, z100, z200, z255, z599, z1000, z1299, z4096, z1000000, lw0, lw1, lw2, lw3, lw4, lw5, lw6, lw7, lw12, lw50, lw99, lw255, lw599, lw4096, bI_ok, ble_t, Int.cast_ofNat_Int,  decide_true, decide_false, bI_0, bI_1, b_tf, b_ft, eq_self, n_1, n_2, n_3, n_4, n_5, n_6, n_7, n_8, if_true, if_false, jin, ncl, cond_true, cond_false, Option.bind_some, j_ov, j_oi, j_ol, nle, nlt, neq, nI_add, nmul, nsub, ndiv, nrem2, if_pos, if_neg, Nat.zero_add, Nat.add_zero, j_w_ap, decide_eq_true, decide_eq_false, Bool.true_or, Bool.or_true, Bool.false_or, Bool.or_false, Bool.and_true, Bool.true_and, Bool.false_and, Bool.and_false, Bool.not_true, Bool.not_false] at e2
  exact e1.trans e2
theorem X_when {i : Nat} {v : Int32} (hd : 5 ≤ d) (hr : RD cd M) (hi : cd[i]? = some (-nI 18)) (hk : stk [v] M) : ∃ M', R d kX4_workOut 11 [.ref 16, .ref 1, .int (nI g), .int (nI b), .int (nI 1), .int (nI i), .null] [] (S0, M, N) = R d kX4_workOut 11 [.ref 16, .ref 1, .int (nI g), .int (nI b), .int (if v = 0 then nI 0 else nI 1), .int (nI (i + 1)), .null] [] (S0, M', N) ∧ stk [] M' ∧ Scr M M' := by
  obtain ⟨r1, r2, r3⟩ := hr
  have hil : i < cd.length := by
    rcases Nat.lt_or_ge i cd.length with q | q
    · exact q
    · rw [List.getElem?_eq_none q] at hi; cases hi
  have h19 := r2 i _ hi
  obtain ⟨M1, q1, q2, q3⟩ := X_pop (d := d) (N := N) (st := [v]) (by omega) (by rw [List.length_singleton]; omega) hk
  rw [List.headD_cons] at q1
  have e1 := bX4_workOut_11 d (nI g) (nI b) (nI 1) (nI i) M N
  have e2 := bX4_workOut_46 d (nI g) (nI b) (nI 1) (nI i) (-nI 18) M N
  simp (disch := omega) only [z33, z37, z38, z42, z43, z45, z47, z48, z57, z59, z61, z62, z63, z98, z107, z110, z112, z114, z120, z122, z124, z0, z1, z2, z3, z4, z5, z6, z7, z8, z9, z10, z11, z12, z13, z14, z15, z16, z17, z18, z19, z20, z24, z26, z30, z31, z40, z41, z50, z54, z60, z70, z80, z81, z99, z100, z200, z255, z599, z1000, z1299, z4096, z1000000, lw0, lw1, lw2, lw3, lw4, lw5, lw6, lw7, lw12, lw50, lw99, lw255, lw599, lw4096, bI_ok, ble_t, Int.cast_ofNat_Int,  decide_true, decide_false, bI_0, bI_1, b_tf, b_ft, eq_self, n_1, n_2, n_3, n_4, n_5, n_6, n_7, n_8, if_true, if_false, jin, ncl, cond_true, cond_false, Option.bind_some, j_ov, j_oi, j_ol, nle, nlt, neq, nI_add, nmul, nsub, ndiv, nrem2, if_pos, if_neg, Nat.zero_add, Nat.add_zero, j_w_ap, decide_eq_true, decide_eq_false, Bool.true_or, Bool.or_true, Bool.false_or, Bool.or_false, Bool.and_true, Bool.true_and, Bool.false_and, Bool.and_false, Bool.not_true, Bool.not_false, r1, h19] at e1
  by_cases hv : v = nI 0
  · simp (disch := omega) only [z33, z37, z38, z42, z43, z45, z47, z48, z57, z59, z61, z62, z63, z98, z107, z110, z112, z114, z120, z122, z124, z0, z1, z2, z3, z4, z5, z6, z7, z8, z9, z10, z11, z12, z13, z14, z15, z16, z17, z18, z19, z20, z24, z26, z30, z31, z40, z41, z50, z54, z60, z70, z80, z81, z99, z100, z200, z255, z599, z1000, z1299, z4096, z1000000, lw0, lw1, lw2, lw3, lw4, lw5, lw6, lw7, lw12, lw50, lw99, lw255, lw599, lw4096, bI_ok, ble_t, Int.cast_ofNat_Int,  decide_true, decide_false, bI_0, bI_1, b_tf, b_ft, eq_self, n_1, n_2, n_3, n_4, n_5, n_6, n_7, n_8, if_true, if_false, jin, ncl, cond_true, cond_false, Option.bind_some, j_ov, j_oi, j_ol, nle, nlt, neq, nI_add, nmul, nsub, ndiv, nrem2, if_pos, if_neg, Nat.zero_add, Nat.add_zero, j_w_ap, decide_eq_true, decide_eq_false, Bool.true_or, Bool.or_true, Bool.false_or, Bool.or_false, Bool.and_true, Bool.true_and, Bool.false_and, Bool.and_false, Bool.not_true, Bool.not_false, q1, hv] at e2
    rw [if_pos (show v = 0 from hv)]
    exact ⟨M1, e1.trans e2, q2, q3⟩
  · simp (disch := omega) only [z33, z37, z38, z42, z43, z45, z47, z48, z57, z59, z61, z62, z63, z98, z107, z110, z112, z114, z120, z122, z124, z0, z1, z2, z3, z4, z5, z6, z7, z8, z9, z10, z11, z12, z13, z14, z15, z16, z17, z18, z19, z20, z24, z26, z30, z31, z40, z41, z50, z54, z60, z70, z80, z81, z99, z100, z200, z255, z599, z1000, z1299, z4096, z1000000, lw0, lw1, lw2, lw3, lw4, lw5, lw6, lw7, lw12, lw50, lw99, lw255, lw599, lw4096, bI_ok, ble_t, Int.cast_ofNat_Int,  decide_true, decide_false, bI_0, bI_1, b_tf, b_ft, eq_self, n_1, n_2, n_3, n_4, n_5, n_6, n_7, n_8, if_true, if_false, jin, ncl, cond_true, cond_false, Option.bind_some, j_ov, j_oi, j_ol, nle, nlt, neq, nI_add, nmul, nsub, ndiv, nrem2, if_pos, if_neg, Nat.zero_add, Nat.add_zero, j_w_ap, decide_eq_true, decide_eq_false, Bool.true_or, Bool.or_true, Bool.false_or, Bool.or_false, Bool.and_true, Bool.true_and, Bool.false_and, Bool.and_false, Bool.not_true, Bool.not_false, q1, hv] at e2
    rw [if_neg (show ¬ v = 0 from hv)]
    exact ⟨M1, e1.trans e2, q2, q3⟩
theorem gd_one {c : List Int32} {e0 : Nat → Int32} (h : gd c) : ∃ v, ev e0 c [] = [v] ∧ (ev e0 c []).headD 0 = v := by
  obtain ⟨v, hv⟩ := h.2 e0
  exact ⟨v, hv [], by rw [hv []]; rfl⟩
theorem X_lines (hd : 5 ≤ d) (hg : g < n) : ∀ (ls : List Ln) (pre : List Int32) (M : j_M), cd = pre ++ lcs ls → (∀ l, l ∈ ls → okl l) → IG n a M → RD cd M → stk [] M → ∃ M', R d kX4_workOut 11 [.ref 16, .ref 1, .int (nI g), .int (nI b), .int (nI 1), .int (nI pre.length), .null] [] (S0, M, N) = some (some (.int (gw (lvs (env n a g b) ls))), (S0, M', N)) ∧ Scr M M'
  | [], pre, M, hcd, hok, h, hr, hk => by
    have hln : cd.length = pre.length := by rw [hcd]; unfold lcs; rw [List.append_nil]
    obtain ⟨r1, r2, r3⟩ := hr
    have e1 := bX4_workOut_11 d (nI g) (nI b) (nI 1) (nI pre.length) M N
    simp (disch := omega) only [z33, z37, z38, z42, z43, z45, z47, z48, z57, z59, z61, z62, z63, z98, z107, z110, z112, z114, z120, z122, z124, z0, z1, z2, z3, z4, z5, z6, z7, z8, z9, z10, z11, z12, z13, z14, z15, z16, z17, z18, z19, z20, z24, z26, z30, z31, z40, z41, z50, z54, z60, z70, z80, z81, z99, z100, z200, z255, z599, z1000, z1299, z4096, z1000000, lw0, lw1, lw2, lw3, lw4, lw5, lw6, lw7, lw12, lw50, lw99, lw255, lw599, lw4096, bI_ok, ble_t, Int.cast_ofNat_Int,  decide_true, decide_false, bI_0, bI_1, b_tf, b_ft, eq_self, n_1, n_2, n_3, n_4, n_5, n_6, n_7, n_8, if_true, if_false, jin, ncl, cond_true, cond_false, Option.bind_some, j_ov, j_oi, j_ol, nle, nlt, neq, nI_add, nmul, nsub, ndiv, nrem2, if_pos, if_neg, Nat.zero_add, Nat.add_zero, j_w_ap, decide_eq_true, decide_eq_false, Bool.true_or, Bool.or_true, Bool.false_or, Bool.or_false, Bool.and_true, Bool.true_and, Bool.false_and, Bool.and_false, Bool.not_true, Bool.not_false, r1] at e1
    exact ⟨M, e1, Scr.rf⟩
  | (c1, o) :: ls, pre, M, hcd, hok, h, hr, hk => by
    have hl := hok (c1, o) (List.mem_cons_self ..)
    have hok2 : ∀ l, l ∈ ls → okl l := fun l hl => hok l (List.mem_cons_of_mem _ hl)
    obtain ⟨v, hv1, hv2⟩ := gd_one (e0 := env n a g b) hl.1
    unfold lcs lc at hcd
    unfold lvs lval
    cases o with
    | none =>
      dsimp only at hcd ⊢
      rw [List.append_assoc] at hcd
      obtain ⟨M1, q1, q2, q3⟩ := X_seg (d := d) (N := N) (b := b) hd hg c1 pre ([-nI 19] ++ lcs ls) [] M hcd hl.1.1 h hr (Nat.zero_le _) hk
      rw [hv1] at q2
      have hi : cd[(pre ++ c1).length]? = some (-nI 19) := by
        rw [hcd, ← List.append_assoc, List.getElem?_append_right (Nat.le_refl _), Nat.sub_self]; rfl
      obtain ⟨M2, p1, p2⟩ := X_endT (d := d) (N := N) (g := g) (b := b) hd (hr.scr q3) hi (by rw [List.length_singleton]; omega) q2
      rw [hv2]
      exact ⟨M2, q1.trans p1, q3.tr p2⟩
    | some c2 =>
      dsimp only at hcd ⊢
      have hcd1 : cd = pre ++ (c1 ++ ([-nI 18] ++ (c2 ++ ([-nI 19] ++ lcs ls)))) := by
        rw [hcd]; simp only [List.append_assoc]
      obtain ⟨M1, q1, q2, q3⟩ := X_seg (d := d) (N := N) (b := b) hd hg c1 pre _ [] M hcd1 hl.1.1 h hr (Nat.zero_le _) hk
      rw [hv1] at q2
      have hi : cd[(pre ++ c1).length]? = some (-nI 18) := by
        rw [hcd1, ← List.append_assoc, List.getElem?_append_right (Nat.le_refl _), Nat.sub_self]; rfl
      obtain ⟨M2, p1, p2, p3⟩ := X_when (d := d) (N := N) (g := g) (b := b) hd (hr.scr q3) hi q2
      have hs2 := q3.tr p3
      have hl2 : (pre ++ c1).length + 1 = (pre ++ c1 ++ [-nI 18]).length := by rw [List.length_append (as := pre ++ c1), List.length_singleton]
      have hcd2 : cd = (pre ++ c1 ++ [-nI 18]) ++ (c2 ++ ([-nI 19] ++ lcs ls)) := by
        rw [hcd1]; simp only [List.append_assoc]
      have hi2 : cd[(pre ++ c1 ++ [-nI 18] ++ c2).length]? = some (-nI 19) := by
        rw [hcd2, ← List.append_assoc, List.getElem?_append_right (Nat.le_refl _), Nat.sub_self]; rfl
      obtain ⟨v2, hw1, hw2⟩ := gd_one (e0 := env n a g b) (hl.2 c2 rfl)
      rw [hl2] at p1
      rw [hv2, hw2]
      by_cases hv0 : v = 0
      · rw [if_pos hv0] at p1 ⊢
        have k1 := X_skip (d := d) (N := N) (g := g) (b := b) hd (hr.scr hs2) c2 (pre ++ c1 ++ [-nI 18]) _ hcd2 (hl.2 c2 rfl).1
        have k2 := X_endF (d := d) (N := N) (g := g) (b := b) hd (hr.scr hs2) hi2
        have hl3 : (pre ++ c1 ++ [-nI 18] ++ c2).length + 1 = (pre ++ c1 ++ [-nI 18] ++ c2 ++ [-nI 19]).length := by rw [List.length_append (as := pre ++ c1 ++ [-nI 18] ++ c2), List.length_singleton]
        rw [hl3] at k2
        obtain ⟨M3, s1, s2⟩ := X_lines hd hg ls (pre ++ c1 ++ [-nI 18] ++ c2 ++ [-nI 19]) M2 (by rw [hcd2]; simp only [List.append_assoc]) hok2 (h.scr hs2) (hr.scr hs2) p2
        exact ⟨M3, q1.trans (p1.trans (k1.trans (k2.trans s1))), hs2.tr s2⟩
      · rw [if_neg hv0] at p1 ⊢
        obtain ⟨M3, s1, s2, s3⟩ := X_seg (d := d) (N := N) (b := b) hd hg c2 (pre ++ c1 ++ [-nI 18]) _ [] M2 hcd2 (hl.2 c2 rfl).1 (h.scr hs2) (hr.scr hs2) (Nat.zero_le _) p2
        rw [hw1] at s2
        obtain ⟨M4, t1, t2⟩ := X_endT (d := d) (N := N) (g := g) (b := b) hd (hr.scr (hs2.tr s3)) hi2 (by rw [List.length_singleton]; omega) s2
        exact ⟨M4, q1.trans (p1.trans (s1.trans t1)), hs2.tr (s3.tr t2)⟩
end RU
