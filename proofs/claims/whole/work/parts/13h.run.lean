/-! ===== the law: the steps' run (own text) ===== -/
theorem E0_ex {T : Nat → Nat} {L : Nat} : ∀ p : Nat, p ≤ L → ∀ (d : Nat), 60 ≤ d → ∃ M0 : j_M, ∃ e0 : Nat → Int32, ES T L true e0 p none 0 M0 := by
  intro p _ d _
  refine ⟨fun c k => if c = 60 then nI (T k) else if c = 46 then (if k = 27 then nI L else if k = 26 then nI p else if k = 28 then -nI 1 else nI 0) else nI 0, fun _ => nI 0, ?_, ?_, ?_, ?_, fun k hk => ?_, fun _ => ?_⟩
  · rfl
  · rfl
  · rfl
  · exact ⟨rfl, fun i hi => rfl⟩
  · rfl
  · rfl
def stk (st : List Int32) (M : j_M) : Prop := M 16 10 = nI st.length ∧ dr st.reverse 20 M
/-- what the names stand for -/
def env (n : Nat) (a : Nat → Nat) (g b : Nat) : Nat → Int32 := fun k => if k = 0 then nI b else if k = 1 then nI (a g) else if k = 2 then nI g else if k = 3 then nI n else nI (a 25)
section RN
variable {d n g b : Nat} {a : Nat → Nat} {st : List Int32} {M : j_M} {N : j_N} {x c l r : Int32}
theorem X_push (hd : 1 ≤ d) (hs : st.length < 122) (h : stk st M) : ∃ M', C d 56 [.ref 16, .int x] S0 M N = some (none, M', N) ∧ stk (x :: st) M' ∧ Scr M M' := by
  obtain ⟨h1, h2⟩ := h
  have e := bX4_push_0 (d - 1) x M N
  simp (disch := omega) only [z33, z37, z38, z42, z43, z45, z47, z48, z57, z59, z61, z62, z63, z98, z107, z110, z112, z114, z120, z122, z124, z0, z1, z2, z3, z4, z5, z6, z7, z8, z9, z10, z11, z12, z13, z14, z15, z16, z17, z18, z19, z20, z24, z26, z30, z31, z40, z41, z50, z54, z60, z70, z80, z81, z99, z100, z200, z255, z599, z1000, z1299, z4096, z1000000, lw0, lw1, lw2, lw3, lw4, lw5, lw6, lw7, lw12, lw50, lw99, lw255, lw599, lw4096, bI_ok, ble_t, Int.cast_ofNat_Int,  decide_true, decide_false, bI_0, bI_1, b_tf, b_ft, eq_self, n_1, n_2, n_3, n_4, n_5, n_6, n_7, n_8, if_true, if_false, jin, ncl, cond_true, cond_false, Option.bind_some, j_ov, j_oi, j_ol, nle, nlt, neq, nI_add, nmul, nsub, ndiv, nrem2, if_pos, if_neg, Nat.zero_add, Nat.add_zero, j_w_ap, decide_eq_true, decide_eq_false, Bool.true_or, Bool.or_true, Bool.false_or, Bool.or_false, Bool.and_true, Bool.true_and, Bool.false_and, Bool.and_false, Bool.not_true, Bool.not_false, h1] at e
  refine ⟨_, eX4_push hd e, ⟨by simp (disch := omega) only [z0, z1, z2, z3, z4, z5, z6, z7, z8, z9, z10, z11, z12, z13, z14, z15, z16, z17, z18, z19, z20, z24, z26, z30, z31, z40, z41, z50, z54, z60, z70, z80, z81, z99, z100, z200, z255, z599, z1000, z1299, z4096, z1000000, lw0, lw1, lw2, lw3, lw4, lw5, lw6, lw7, lw12, lw50, lw99, lw255, lw599, lw4096, bI_ok, ble_t, Int.cast_ofNat_Int,  decide_true, decide_false, bI_0, bI_1, b_tf, b_ft, eq_self, n_1, n_2, n_3, n_4, n_5, n_6, n_7, n_8, if_true, if_false, jin, ncl, cond_true, cond_false, Option.bind_some, j_ov, j_oi, j_ol, nle, nlt, neq, nI_add, nmul, nsub, ndiv, nrem2, if_pos, if_neg, Nat.zero_add, Nat.add_zero, j_w_ap, decide_eq_true, decide_eq_false, Bool.true_or, Bool.or_true, Bool.false_or, Bool.or_false, Bool.and_true, Bool.true_and, Bool.false_and, Bool.and_false, Bool.not_true, Bool.not_false, List.length_cons], ?_⟩, (Scr.w rfl).tr (Scr.w rfl)⟩
  rw [List.reverse_cons]
  have := dr_app (x := x) h2
  rw [List.length_reverse] at this
  intro i y hy
  rw [j_w_ap, if_neg (by omega)]
  exact this i y hy
theorem X_pop (hd : 1 ≤ d) (hs : st.length ≤ 122) (h : stk st M) : ∃ M', C d 57 [.ref 16] S0 M N = some (some (.int (st.headD 0)), M', N) ∧ stk st.tail M' ∧ Scr M M' := by
  obtain ⟨h1, h2⟩ := h
  have e := bX4_pop_0 (d - 1) M N
  cases st with
  | nil =>
    rw [List.length_nil] at h1
    simp (disch := omega) only [z33, z37, z38, z42, z43, z45, z47, z48, z57, z59, z61, z62, z63, z98, z107, z110, z112, z114, z120, z122, z124, z0, z1, z2, z3, z4, z5, z6, z7, z8, z9, z10, z11, z12, z13, z14, z15, z16, z17, z18, z19, z20, z24, z26, z30, z31, z40, z41, z50, z54, z60, z70, z80, z81, z99, z100, z200, z255, z599, z1000, z1299, z4096, z1000000, lw0, lw1, lw2, lw3, lw4, lw5, lw6, lw7, lw12, lw50, lw99, lw255, lw599, lw4096, bI_ok, ble_t, Int.cast_ofNat_Int,  decide_true, decide_false, bI_0, bI_1, b_tf, b_ft, eq_self, n_1, n_2, n_3, n_4, n_5, n_6, n_7, n_8, if_true, if_false, jin, ncl, cond_true, cond_false, Option.bind_some, j_ov, j_oi, j_ol, nle, nlt, neq, nI_add, nmul, nsub, ndiv, nrem2, if_pos, if_neg, Nat.zero_add, Nat.add_zero, j_w_ap, decide_eq_true, decide_eq_false, Bool.true_or, Bool.or_true, Bool.false_or, Bool.or_false, Bool.and_true, Bool.true_and, Bool.false_and, Bool.and_false, Bool.not_true, Bool.not_false, h1] at e
    exact ⟨M, eX4_pop hd e, ⟨h1, h2⟩, Scr.rf⟩
  | cons y s =>
    rw [List.length_cons] at h1 hs
    have h20 : M 20 s.length = y := by
      refine h2 s.length y ?_
      rw [List.reverse_cons, List.getElem?_append_right (by rw [List.length_reverse]; exact Nat.le_refl _), List.length_reverse, Nat.sub_self]
      rfl
    have hss : s.length + 1 - 1 = s.length := by omega
    simp (disch := omega) only [z33, z37, z38, z42, z43, z45, z47, z48, z57, z59, z61, z62, z63, z98, z107, z110, z112, z114, z120, z122, z124, z0, z1, z2, z3, z4, z5, z6, z7, z8, z9, z10, z11, z12, z13, z14, z15, z16, z17, z18, z19, z20, z24, z26, z30, z31, z40, z41, z50, z54, z60, z70, z80, z81, z99, z100, z200, z255, z599, z1000, z1299, z4096, z1000000, lw0, lw1, lw2, lw3, lw4, lw5, lw6, lw7, lw12, lw50, lw99, lw255, lw599, lw4096, bI_ok, ble_t, Int.cast_ofNat_Int,  decide_true, decide_false, bI_0, bI_1, b_tf, b_ft, eq_self, n_1, n_2, n_3, n_4, n_5, n_6, n_7, n_8, if_true, if_false, jin, ncl, cond_true, cond_false, Option.bind_some, j_ov, j_oi, j_ol, nle, nlt, neq, nI_add, nmul, nsub, ndiv, nrem2, if_pos, if_neg, Nat.zero_add, Nat.add_zero, j_w_ap, decide_eq_true, decide_eq_false, Bool.true_or, Bool.or_true, Bool.false_or, Bool.or_false, Bool.and_true, Bool.true_and, Bool.false_and, Bool.and_false, Bool.not_true, Bool.not_false, h1, hss, h20] at e
    refine ⟨_, eX4_pop hd e, ⟨by rw [List.tail_cons]; simp (disch := omega) only [z0, z1, z2, z3, z4, z5, z6, z7, z8, z9, z10, z11, z12, z13, z14, z15, z16, z17, z18, z19, z20, z24, z26, z30, z31, z40, z41, z50, z54, z60, z70, z80, z81, z99, z100, z200, z255, z599, z1000, z1299, z4096, z1000000, lw0, lw1, lw2, lw3, lw4, lw5, lw6, lw7, lw12, lw50, lw99, lw255, lw599, lw4096, bI_ok, ble_t, Int.cast_ofNat_Int,  decide_true, decide_false, bI_0, bI_1, b_tf, b_ft, eq_self, n_1, n_2, n_3, n_4, n_5, n_6, n_7, n_8, if_true, if_false, jin, ncl, cond_true, cond_false, Option.bind_some, j_ov, j_oi, j_ol, nle, nlt, neq, nI_add, nmul, nsub, ndiv, nrem2, if_pos, if_neg, Nat.zero_add, Nat.add_zero, j_w_ap, decide_eq_true, decide_eq_false, Bool.true_or, Bool.or_true, Bool.false_or, Bool.or_false, Bool.and_true, Bool.true_and, Bool.false_and, Bool.and_false, Bool.not_true, Bool.not_false], ?_⟩, Scr.w rfl⟩
    rw [List.tail_cons]
    intro i z hz
    rw [j_w_ap, if_neg (by omega)]
    refine h2 i z ?_
    rw [List.reverse_cons]
    have hil : i < s.reverse.length := by
      rcases Nat.lt_or_ge i s.reverse.length with q | q
      · exact q
      · rw [List.getElem?_eq_none q] at hz; cases hz
    rw [List.getElem?_append_left hil]
    exact hz
theorem X_truth {k : Nat} (hd : 1 ≤ d) (hk : k ≤ 1) : C d 60 [.int (nI k)] S0 M N = some (some (.int (nI k)), M, N) := by
  refine eX4_truth hd ?_
  have e := bX4_truth_0 (d - 1) (nI k) M N
  by_cases h0 : k = 0
  · simp (disch := omega) only [z33, z37, z38, z42, z43, z45, z47, z48, z57, z59, z61, z62, z63, z98, z107, z110, z112, z114, z120, z122, z124, z0, z1, z2, z3, z4, z5, z6, z7, z8, z9, z10, z11, z12, z13, z14, z15, z16, z17, z18, z19, z20, z24, z26, z30, z31, z40, z41, z50, z54, z60, z70, z80, z81, z99, z100, z200, z255, z599, z1000, z1299, z4096, z1000000, lw0, lw1, lw2, lw3, lw4, lw5, lw6, lw7, lw12, lw50, lw99, lw255, lw599, lw4096, bI_ok, ble_t, Int.cast_ofNat_Int,  decide_true, decide_false, bI_0, bI_1, b_tf, b_ft, eq_self, n_1, n_2, n_3, n_4, n_5, n_6, n_7, n_8, if_true, if_false, jin, ncl, cond_true, cond_false, Option.bind_some, j_ov, j_oi, j_ol, nle, nlt, neq, nI_add, nmul, nsub, ndiv, nrem2, if_pos, if_neg, Nat.zero_add, Nat.add_zero, j_w_ap, decide_eq_true, decide_eq_false, Bool.true_or, Bool.or_true, Bool.false_or, Bool.or_false, Bool.and_true, Bool.true_and, Bool.false_and, Bool.and_false, Bool.not_true, Bool.not_false, h0] at e
    rw [h0]
    exact e
  · obtain rfl : k = 1 := by omega
    simp (disch := omega) only [z33, z37, z38, z42, z43, z45, z47, z48, z57, z59, z61, z62, z63, z98, z107, z110, z112, z114, z120, z122, z124, z0, z1, z2, z3, z4, z5, z6, z7, z8, z9, z10, z11, z12, z13, z14, z15, z16, z17, z18, z19, z20, z24, z26, z30, z31, z40, z41, z50, z54, z60, z70, z80, z81, z99, z100, z200, z255, z599, z1000, z1299, z4096, z1000000, lw0, lw1, lw2, lw3, lw4, lw5, lw6, lw7, lw12, lw50, lw99, lw255, lw599, lw4096, bI_ok, ble_t, Int.cast_ofNat_Int,  decide_true, decide_false, bI_0, bI_1, b_tf, b_ft, eq_self, n_1, n_2, n_3, n_4, n_5, n_6, n_7, n_8, if_true, if_false, jin, ncl, cond_true, cond_false, Option.bind_some, j_ov, j_oi, j_ol, nle, nlt, neq, nI_add, nmul, nsub, ndiv, nrem2, if_pos, if_neg, Nat.zero_add, Nat.add_zero, j_w_ap, decide_eq_true, decide_eq_false, Bool.true_or, Bool.or_true, Bool.false_or, Bool.or_false, Bool.and_true, Bool.true_and, Bool.false_and, Bool.and_false, Bool.not_true, Bool.not_false] at e
    exact e
theorem X_joined (hd : 2 ≤ d) : C d 59 [.int c, .int l, .int r] S0 M N = some (some (.int (jn c l r)), M, N) := by
  refine eX4_joined (by omega) ?_
  have t0 : C (d - 1) 60 [.int 0] S0 M N = some (some (.int 0), M, N) := X_truth (k := 0) (by omega) (by omega)
  have t1 : C (d - 1) 60 [.int 1] S0 M N = some (some (.int 1), M, N) := X_truth (k := 1) (by omega) (by omega)
  rw [bX4_joined_0]
  unfold jn
  by_cases k14 : c = (-14 : Int32)
  · rw [if_pos k14, if_pos (show c = -nI 14 from k14)]
    by_cases h0 : r = 0
    · rw [if_pos h0, if_pos h0]
    · rw [if_neg h0, if_neg h0, if_neg h0]
  · rw [if_neg k14, if_neg (show ¬ c = -nI 14 from k14)]
    by_cases k13 : c = (-13 : Int32)
    · rw [if_pos k13, if_pos (show c = -nI 13 from k13)]
    · rw [if_neg k13, if_neg (show ¬ c = -nI 13 from k13)]
      by_cases k12 : c = (-12 : Int32)
      · rw [if_pos k12, if_pos (show c = -nI 12 from k12)]
      · rw [if_neg k12, if_neg (show ¬ c = -nI 12 from k12)]
        by_cases k11 : c = (-11 : Int32)
        · rw [if_pos k11, if_pos (show c = -nI 11 from k11)]
        · rw [if_neg k11, if_neg (show ¬ c = -nI 11 from k11)]
          by_cases k10 : c = (-10 : Int32)
          · rw [if_pos k10, if_pos (show c = -nI 10 from k10)]
            by_cases h0 : l ≤ r
            · rw [if_pos h0, if_pos h0, t0]; rfl
            · rw [if_neg h0, if_neg h0, t1]; rfl
          · rw [if_neg k10, if_neg (show ¬ c = -nI 10 from k10)]
            by_cases k9 : c = (-9 : Int32)
            · rw [if_pos k9, if_pos (show c = -nI 9 from k9)]
              by_cases h0 : l = r
              · rw [if_pos h0, if_pos h0, t1]; rfl
              · rw [if_neg h0, if_neg h0, t0]; rfl
            · rw [if_neg k9, if_neg (show ¬ c = -nI 9 from k9)]
              by_cases k8 : c = (-8 : Int32)
              · rw [if_pos k8, if_pos (show c = -nI 8 from k8)]
                by_cases h0 : r ≤ l
                · rw [if_pos h0, if_pos h0, t0]; rfl
                · rw [if_neg h0, if_neg h0, t1]; rfl
              · rw [if_neg k8, if_neg (show ¬ c = -nI 8 from k8)]
                by_cases k7 : c = (-7 : Int32)
                · rw [if_pos k7, if_pos (show c = -nI 7 from k7)]
                  by_cases h0 : l = 0
                  · rw [if_pos h0, if_pos h0, t0]; rfl
                  · rw [if_neg h0, if_neg h0]
                    by_cases h1 : r = 0
                    · rw [if_pos h1, if_pos h1, t0]; rfl
                    · rw [if_neg h1, if_neg h1, t1]; rfl
                · rw [if_neg k7, if_neg (show ¬ c = -nI 7 from k7)]
                  by_cases k6 : c = (-6 : Int32)
                  · rw [if_pos k6, if_pos (show c = -nI 6 from k6)]
                    by_cases h0 : l = 0
                    · rw [if_pos h0, if_pos h0]
                      by_cases h1 : r = 0
                      · rw [if_pos h1, if_pos h1, t0]; rfl
                      · rw [if_neg h1, if_neg h1, t1]; rfl
                    · rw [if_neg h0, if_neg h0, t1]; rfl
                  · rw [if_neg k6, if_neg (show ¬ c = -nI 6 from k6)]
                    by_cases h0 : r = 0
                    · rw [if_pos h0, if_pos h0]
                    · rw [if_neg h0, if_neg h0, if_neg h0]
theorem X_valueOf (hd : 1 ≤ d) (h : IG n a M) (hg : g < n) : C d 58 [.int x, .ref 1, .int (nI g), .int (nI b)] S0 M N = some (some (.int (nmv (env n a g b) x)), M, N) := by
  have hn := h.n6
  refine eX4_valueOf hd ?_
  have e := bX4_valueOf_0 (d - 1) x (nI g) (nI b) M N
  have h16 := h.x6
  have h18 := h.ru
  have h2 := h.pu
  unfold nmv env
  by_cases k4 : x = -nI 4
  · simp (disch := omega) only [z33, z37, z38, z42, z43, z45, z47, z48, z57, z59, z61, z62, z63, z98, z107, z110, z112, z114, z120, z122, z124, z0, z1, z2, z3, z4, z5, z6, z7, z8, z9, z10, z11, z12, z13, z14, z15, z16, z17, z18, z19, z20, z24, z26, z30, z31, z40, z41, z50, z54, z60, z70, z80, z81, z99, z100, z200, z255, z599, z1000, z1299, z4096, z1000000, lw0, lw1, lw2, lw3, lw4, lw5, lw6, lw7, lw12, lw50, lw99, lw255, lw599, lw4096, bI_ok, ble_t, Int.cast_ofNat_Int,  decide_true, decide_false, bI_0, bI_1, b_tf, b_ft, eq_self, n_1, n_2, n_3, n_4, n_5, n_6, n_7, n_8, if_true, if_false, jin, ncl, cond_true, cond_false, Option.bind_some, j_ov, j_oi, j_ol, nle, nlt, neq, nI_add, nmul, nsub, ndiv, nrem2, if_pos, if_neg, Nat.zero_add, Nat.add_zero, j_w_ap, decide_eq_true, decide_eq_false, Bool.true_or, Bool.or_true, Bool.false_or, Bool.or_false, Bool.and_true, Bool.true_and, Bool.false_and, Bool.and_false, Bool.not_true, Bool.not_false, k4, h16] at e
    rw [k4, if_pos rfl]
    exact e
  · by_cases k3 : x = -nI 3
    · simp (disch := omega) only [z33, z37, z38, z42, z43, z45, z47, z48, z57, z59, z61, z62, z63, z98, z107, z110, z112, z114, z120, z122, z124, z0, z1, z2, z3, z4, z5, z6, z7, z8, z9, z10, z11, z12, z13, z14, z15, z16, z17, z18, z19, z20, z24, z26, z30, z31, z40, z41, z50, z54, z60, z70, z80, z81, z99, z100, z200, z255, z599, z1000, z1299, z4096, z1000000, lw0, lw1, lw2, lw3, lw4, lw5, lw6, lw7, lw12, lw50, lw99, lw255, lw599, lw4096, bI_ok, ble_t, Int.cast_ofNat_Int,  decide_true, decide_false, bI_0, bI_1, b_tf, b_ft, eq_self, n_1, n_2, n_3, n_4, n_5, n_6, n_7, n_8, if_true, if_false, jin, ncl, cond_true, cond_false, Option.bind_some, j_ov, j_oi, j_ol, nle, nlt, neq, nI_add, nmul, nsub, ndiv, nrem2, if_pos, if_neg, Nat.zero_add, Nat.add_zero, j_w_ap, decide_eq_true, decide_eq_false, Bool.true_or, Bool.or_true, Bool.false_or, Bool.or_false, Bool.and_true, Bool.true_and, Bool.false_and, Bool.and_false, Bool.not_true, Bool.not_false, k3] at e
      rw [if_neg k4, k3, if_pos rfl]
      exact e
    · by_cases k2 : x = -nI 2
      · simp (disch := omega) only [z33, z37, z38, z42, z43, z45, z47, z48, z57, z59, z61, z62, z63, z98, z107, z110, z112, z114, z120, z122, z124, z0, z1, z2, z3, z4, z5, z6, z7, z8, z9, z10, z11, z12, z13, z14, z15, z16, z17, z18, z19, z20, z24, z26, z30, z31, z40, z41, z50, z54, z60, z70, z80, z81, z99, z100, z200, z255, z599, z1000, z1299, z4096, z1000000, lw0, lw1, lw2, lw3, lw4, lw5, lw6, lw7, lw12, lw50, lw99, lw255, lw599, lw4096, bI_ok, ble_t, Int.cast_ofNat_Int,  decide_true, decide_false, bI_0, bI_1, b_tf, b_ft, eq_self, n_1, n_2, n_3, n_4, n_5, n_6, n_7, n_8, if_true, if_false, jin, ncl, cond_true, cond_false, Option.bind_some, j_ov, j_oi, j_ol, nle, nlt, neq, nI_add, nmul, nsub, ndiv, nrem2, if_pos, if_neg, Nat.zero_add, Nat.add_zero, j_w_ap, decide_eq_true, decide_eq_false, Bool.true_or, Bool.or_true, Bool.false_or, Bool.or_false, Bool.and_true, Bool.true_and, Bool.false_and, Bool.and_false, Bool.not_true, Bool.not_false, k2, h2] at e
        rw [if_neg k4, if_neg k3, k2, if_pos rfl]
        exact e
      · by_cases k1 : x = -nI 1
        · simp (disch := omega) only [z33, z37, z38, z42, z43, z45, z47, z48, z57, z59, z61, z62, z63, z98, z107, z110, z112, z114, z120, z122, z124, z0, z1, z2, z3, z4, z5, z6, z7, z8, z9, z10, z11, z12, z13, z14, z15, z16, z17, z18, z19, z20, z24, z26, z30, z31, z40, z41, z50, z54, z60, z70, z80, z81, z99, z100, z200, z255, z599, z1000, z1299, z4096, z1000000, lw0, lw1, lw2, lw3, lw4, lw5, lw6, lw7, lw12, lw50, lw99, lw255, lw599, lw4096, bI_ok, ble_t, Int.cast_ofNat_Int,  decide_true, decide_false, bI_0, bI_1, b_tf, b_ft, eq_self, n_1, n_2, n_3, n_4, n_5, n_6, n_7, n_8, if_true, if_false, jin, ncl, cond_true, cond_false, Option.bind_some, j_ov, j_oi, j_ol, nle, nlt, neq, nI_add, nmul, nsub, ndiv, nrem2, if_pos, if_neg, Nat.zero_add, Nat.add_zero, j_w_ap, decide_eq_true, decide_eq_false, Bool.true_or, Bool.or_true, Bool.false_or, Bool.or_false, Bool.and_true, Bool.true_and, Bool.false_and, Bool.and_false, Bool.not_true, Bool.not_false, k1] at e
          rw [if_neg k4, if_neg k3, if_neg k2, k1, if_pos rfl]
          exact e
        · simp (disch := omega) only [z33, z37, z38, z42, z43, z45, z47, z48, z57, z59, z61, z62, z63, z98, z107, z110, z112, z114, z120, z122, z124, z0, z1, z2, z3, z4, z5, z6, z7, z8, z9, z10, z11, z12, z13, z14, z15, z16, z17, z18, z19, z20, z24, z26, z30, z31, z40, z41, z50, z54, z60, z70, z80, z81, z99, z100, z200, z255, z599, z1000, z1299, z4096, z1000000, lw0, lw1, lw2, lw3, lw4, lw5, lw6, lw7, lw12, lw50, lw99, lw255, lw599, lw4096, bI_ok, ble_t, Int.cast_ofNat_Int,  decide_true, decide_false, bI_0, bI_1, b_tf, b_ft, eq_self, n_1, n_2, n_3, n_4, n_5, n_6, n_7, n_8, if_true, if_false, jin, ncl, cond_true, cond_false, Option.bind_some, j_ov, j_oi, j_ol, nle, nlt, neq, nI_add, nmul, nsub, ndiv, nrem2, if_pos, if_neg, Nat.zero_add, Nat.add_zero, j_w_ap, decide_eq_true, decide_eq_false, Bool.true_or, Bool.or_true, Bool.false_or, Bool.or_false, Bool.and_true, Bool.true_and, Bool.false_and, Bool.and_false, Bool.not_true, Bool.not_false, k1, k2, k3, k4, h18] at e
          rw [if_neg k4, if_neg k3, if_neg k2, if_neg k1]
          exact e
theorem X_apply (e0 : Nat → Int32) (hd : 3 ≤ d) (hs : st.length ≤ 121) (hc : c < -nI 5) (hc2 : ¬ c < -nI 17) (h : stk st M) : ∃ M', C d 55 [.ref 16, .int c] S0 M N = some (none, M', N) ∧ stk (ev1 e0 c st) M' ∧ Scr M M' := by
  obtain ⟨M1, q1, q2, q3⟩ := X_pop (d := d - 1) (N := N) (by omega) (by omega) h
  have hl1 := tail_len st
  have hl2 := tail_len st.tail
  have e := bX4_apply_0 (d - 1) c M N
  unfold ev1
  rw [if_neg hc2]
  by_cases k17 : c = -nI 17
  · obtain ⟨M2, r1, r2, r3⟩ := X_push (d := d - 1) (N := N) (x := -(st.headD 0)) (by omega) (by omega) q2
    rw [q1, Option.bind_some, j_oi] at e
    dsimp only at e
    rw [if_pos (show c = -17 from k17), r1] at e
    rw [if_pos k17]
    exact ⟨M2, eX4_apply (by omega) e, r2, q3.tr r3⟩
  · rw [if_neg k17]
    by_cases k16 : c = -nI 16
    · rw [if_pos k16]
      by_cases h0 : st.headD 0 = 0
      · rw [if_pos h0]
        have t1 := X_truth (d := d - 1) (M := M1) (N := N) (k := 1) (by omega) (by omega)
        obtain ⟨M2, r1, r2, r3⟩ := X_push (d := d - 1) (N := N) (x := nI 1) (by omega) (by omega) q2
        rw [h0] at q1
        simp (disch := omega) only [z33, z37, z38, z42, z43, z45, z47, z48, z57, z59, z61, z62, z63, z98, z107, z110, z112, z114, z120, z122, z124, z0, z1, z2, z3, z4, z5, z6, z7, z8, z9, z10, z11, z12, z13, z14, z15, z16, z17, z18, z19, z20, z24, z26, z30, z31, z40, z41, z50, z54, z60, z70, z80, z81, z99, z100, z200, z255, z599, z1000, z1299, z4096, z1000000, lw0, lw1, lw2, lw3, lw4, lw5, lw6, lw7, lw12, lw50, lw99, lw255, lw599, lw4096, bI_ok, ble_t, Int.cast_ofNat_Int,  decide_true, decide_false, bI_0, bI_1, b_tf, b_ft, eq_self, n_1, n_2, n_3, n_4, n_5, n_6, n_7, n_8, if_true, if_false, jin, ncl, cond_true, cond_false, Option.bind_some, j_ov, j_oi, j_ol, nle, nlt, neq, nI_add, nmul, nsub, ndiv, nrem2, if_pos, if_neg, Nat.zero_add, Nat.add_zero, j_w_ap, decide_eq_true, decide_eq_false, Bool.true_or, Bool.or_true, Bool.false_or, Bool.or_false, Bool.and_true, Bool.true_and, Bool.false_and, Bool.and_false, Bool.not_true, Bool.not_false, q1, k16, t1, r1] at e
        exact ⟨M2, eX4_apply (by omega) (by rw [k16]; exact e), r2, q3.tr r3⟩
      · rw [if_neg h0]
        have t1 := X_truth (d := d - 1) (M := M1) (N := N) (k := 0) (by omega) (by omega)
        obtain ⟨M2, r1, r2, r3⟩ := X_push (d := d - 1) (N := N) (x := nI 0) (by omega) (by omega) q2
        have h0' : (st.headD 0 = nI 0) = False := eq_false h0
        rw [q1, Option.bind_some, j_oi] at e
        dsimp only at e
        rw [if_neg (fun z => k17 (by rw [z]; rfl)), if_pos (by rw [k16]; rfl), if_neg h0, show (0 : Int32) = nI 0 from rfl, t1] at e
        simp (disch := omega) only [z33, z37, z38, z42, z43, z45, z47, z48, z57, z59, z61, z62, z63, z98, z107, z110, z112, z114, z120, z122, z124, z0, z1, z2, z3, z4, z5, z6, z7, z8, z9, z10, z11, z12, z13, z14, z15, z16, z17, z18, z19, z20, z24, z26, z30, z31, z40, z41, z50, z54, z60, z70, z80, z81, z99, z100, z200, z255, z599, z1000, z1299, z4096, z1000000, lw0, lw1, lw2, lw3, lw4, lw5, lw6, lw7, lw12, lw50, lw99, lw255, lw599, lw4096, bI_ok, ble_t, Int.cast_ofNat_Int,  decide_true, decide_false, bI_0, bI_1, b_tf, b_ft, eq_self, n_1, n_2, n_3, n_4, n_5, n_6, n_7, n_8, if_true, if_false, jin, ncl, cond_true, cond_false, Option.bind_some, j_ov, j_oi, j_ol, nle, nlt, neq, nI_add, nmul, nsub, ndiv, nrem2, if_pos, if_neg, Nat.zero_add, Nat.add_zero, j_w_ap, decide_eq_true, decide_eq_false, Bool.true_or, Bool.or_true, Bool.false_or, Bool.or_false, Bool.and_true, Bool.true_and, Bool.false_and, Bool.and_false, Bool.not_true, Bool.not_false, r1] at e
        exact ⟨M2, eX4_apply (by omega) e, r2, q3.tr r3⟩
    · rw [if_neg k16, if_pos hc]
      obtain ⟨M2, p1, p2, p3⟩ := X_pop (d := d - 1) (N := N) (by omega) (by omega) q2
      have j1 := X_joined (d := d - 1) (M := M2) (N := N) (c := c) (l := st.tail.headD 0) (r := st.headD 0) (by omega)
      obtain ⟨M3, r1, r2, r3⟩ := X_push (d := d - 1) (N := N) (x := jn c (st.tail.headD 0) (st.headD 0)) (by omega) (by omega) p2
      rw [q1, Option.bind_some, j_oi] at e
      dsimp only at e
      rw [if_neg (fun z => k17 (by rw [z]; rfl)), if_neg (fun z => k16 (by rw [z]; rfl)), p1, Option.bind_some, j_oi] at e
      dsimp only at e
      rw [j1, Option.bind_some, j_oi] at e
      dsimp only at e
      rw [r1] at e
      exact ⟨M3, eX4_apply (by omega) e, r2, q3.tr (p3.tr r3)⟩
end RN
