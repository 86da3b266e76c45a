/-! ===== bodies: what an act answers, and what runs, on both sides (own text) ===== -/
def pgC (p r : Nat) (M : j_M) : j_M := if 24 ≤ r then M else j_w M 32 r (nI p)
def bgC (p r : Nat) (M : j_M) : j_M := j_w (pgC p r M) 30 3 (nI (r + 1))
def bgM (p r : Nat) (M : j_M) : j_M := j_w (if 24 ≤ r then M else j_w M 65 r (nI p)) 46 40 (nI (r + 1))
def apC : List Nat → Nat → j_M → j_M
  | [], _, M => M
  | p :: l, r, M => apC l (r + 1) (bgC p r M)
def apM : List Nat → Nat → j_M → j_M
  | [], _, M => M
  | p :: l, r, M => apM l (r + 1) (bgM p r M)
theorem pgC_o {p r c k : Nat} {M : j_M} (h : c ≠ 32) : pgC p r M c k = M c k := by
  unfold pgC
  split
  · rfl
  · rw [j_w_ap, if_neg h]
theorem bgC_o {p r c k : Nat} {M : j_M} (h : c ≠ 32) (h2 : ¬ (c = 30 ∧ k = 3)) : bgC p r M c k = M c k := by
  unfold bgC
  rw [j_w_ap]
  by_cases hc : c = 30
  · rw [if_pos hc, if_neg (fun z => h2 ⟨hc, z⟩), pgC_o h]
  · rw [if_neg hc, pgC_o h]
theorem bgM_o {p r c k : Nat} {M : j_M} (h : c ≠ 65) (h2 : ¬ (c = 46 ∧ k = 40)) : bgM p r M c k = M c k := by
  unfold bgM
  have h3 : (if 24 ≤ r then M else j_w M 65 r (nI p)) c k = M c k := by
    split
    · rfl
    · rw [j_w_ap, if_neg h]
  rw [j_w_ap]
  by_cases hc : c = 46
  · rw [if_pos hc, if_neg (fun z => h2 ⟨hc, z⟩), h3]
  · rw [if_neg hc, h3]
theorem apC_o {c k : Nat} (h : c ≠ 32) (h2 : ¬ (c = 30 ∧ k = 3)) : ∀ (l : List Nat) (r : Nat) (M : j_M), apC l r M c k = M c k
  | [], _, _ => rfl
  | p :: l, r, M => (apC_o h h2 l (r + 1) (bgC p r M)).trans (bgC_o h h2)
theorem apM_o {c k : Nat} (h : c ≠ 65) (h2 : ¬ (c = 46 ∧ k = 40)) : ∀ (l : List Nat) (r : Nat) (M : j_M), apM l r M c k = M c k
  | [], _, _ => rfl
  | p :: l, r, M => (apM_o h h2 l (r + 1) (bgM p r M)).trans (bgM_o h h2)
theorem apC_3 : ∀ (l : List Nat) (r : Nat) (M : j_M), M 30 3 = nI r → apC l r M 30 3 = nI (r + l.length)
  | [], _, _, h => h
  | p :: l, r, M, _ => by
    have q := apC_3 l (r + 1) (bgC p r M) rfl
    rw [show r + (p :: l).length = r + 1 + l.length by rw [List.length_cons]; omega]
    exact q
theorem apM_3 : ∀ (l : List Nat) (r : Nat) (M : j_M), M 46 40 = nI r → apM l r M 46 40 = nI (r + l.length)
  | [], _, _, h => h
  | p :: l, r, M, _ => by
    have q := apM_3 l (r + 1) (bgM p r M) rfl
    rw [show r + (p :: l).length = r + 1 + l.length by rw [List.length_cons]; omega]
    exact q
theorem apC_a : ∀ (l l2 : List Nat) (r : Nat) (M : j_M), apC (l ++ l2) r M = apC l2 (r + l.length) (apC l r M)
  | [], _, _, _ => rfl
  | p :: l, l2, r, M => by
    have q := apC_a l l2 (r + 1) (bgC p r M)
    rw [show r + (p :: l).length = r + 1 + l.length by rw [List.length_cons]; omega]
    exact q
theorem apM_a : ∀ (l l2 : List Nat) (r : Nat) (M : j_M), apM (l ++ l2) r M = apM l2 (r + l.length) (apM l r M)
  | [], _, _, _ => rfl
  | p :: l, l2, r, M => by
    have q := apM_a l l2 (r + 1) (bgM p r M)
    rw [show r + (p :: l).length = r + 1 + l.length by rw [List.length_cons]; omega]
    exact q
theorem apC_lo {i : Nat} : ∀ (l : List Nat) (r : Nat) (M : j_M), i < r → apC l r M 32 i = M 32 i
  | [], _, _, _ => rfl
  | p :: l, r, M, h => by
    refine (apC_lo l (r + 1) (bgC p r M) (by omega)).trans ?_
    unfold bgC pgC
    rw [j_w_ap, if_neg (by omega)]
    split
    · rfl
    · rw [j_w_ap, if_pos rfl, if_neg (by omega)]
theorem apM_lo {i : Nat} : ∀ (l : List Nat) (r : Nat) (M : j_M), i < r → apM l r M 65 i = M 65 i
  | [], _, _, _ => rfl
  | p :: l, r, M, h => by
    refine (apM_lo l (r + 1) (bgM p r M) (by omega)).trans ?_
    unfold bgM
    rw [j_w_ap, if_neg (by omega)]
    split
    · rfl
    · rw [j_w_ap, if_pos rfl, if_neg (by omega)]
theorem ap_eq {i : Nat} (h24 : i < 24) : ∀ (l : List Nat) (r : Nat) (M M' : j_M), r ≤ i → i < r + l.length → apC l r M 32 i = apM l r M' 65 i
  | [], r, M, M', h, h2 => absurd h2 (by rw [List.length_nil]; omega)
  | p :: l, r, M, M', h, h2 => by
    by_cases hi : i = r
    · refine (apC_lo l (r + 1) (bgC p r M) (by omega)).trans (Eq.trans ?_ (apM_lo l (r + 1) (bgM p r M') (by omega)).symm)
      unfold bgC pgC bgM
      rw [j_w_ap, if_neg (by omega), if_neg (by omega), j_w_ap, if_pos rfl, if_pos hi, j_w_ap, if_neg (by omega), if_neg (by omega), j_w_ap, if_pos rfl, if_pos hi]
    · exact ap_eq h24 l (r + 1) _ _ (by omega) (by rw [List.length_cons] at h2; omega)
section ON
variable {d n r dep p ks nm h : Nat} {M M' : j_M} {N : j_N} {x y v : Int32}
theorem X_bg (hr : r ≤ 1000) (h3 : M 30 3 = nI r) : R d kX0_run 0 [.ref 30, .int (nI p), .int x, .int y] [] (S0, M, N) = R d kX0_run 19 [.ref 30, .int (nI p), .int x, .int y] [] (S0, pgC p r M, N) := by
  have e := bX0_run_0 d (nI p) x y M N
  unfold pgC
  by_cases h24 : 24 ≤ r
  · simp (disch := omega) only [z0, z1, z2, z3, z4, z5, z6, z7, z8, z9, z10, z11, z12, z13, z14, z15, z16, z17, z18, z19, z20, z24, z26, z30, z31, z40, z41, z50, z54, z60, z70, z80, z81, z99, z100, z200, z255, z599, z1000, z1299, z4096, z1000000, lw0, lw1, lw2, lw3, lw4, lw5, lw6, lw7, lw12, lw50, lw99, lw255, lw599, lw4096, bI_ok, ble_t, Int.cast_ofNat_Int,  decide_true, decide_false, bI_0, bI_1, b_tf, b_ft, eq_self, n_1, n_2, n_3, n_4, n_5, n_6, n_7, n_8, if_true, if_false, jin, ncl, cond_true, cond_false, Option.bind_some, j_ov, j_oi, j_ol, nle, nlt, neq, nI_add, nmul, nsub, ndiv, nrem2, if_pos, if_neg, Nat.zero_add, Nat.add_zero, j_w_ap, decide_eq_true, decide_eq_false, Bool.true_or, Bool.or_true, Bool.false_or, Bool.or_false, Bool.and_true, Bool.true_and, Bool.false_and, Bool.and_false, Bool.not_true, Bool.not_false, h3, h24] at e
    rw [if_pos h24]
    exact e
  · simp (disch := omega) only [z0, z1, z2, z3, z4, z5, z6, z7, z8, z9, z10, z11, z12, z13, z14, z15, z16, z17, z18, z19, z20, z24, z26, z30, z31, z40, z41, z50, z54, z60, z70, z80, z81, z99, z100, z200, z255, z599, z1000, z1299, z4096, z1000000, lw0, lw1, lw2, lw3, lw4, lw5, lw6, lw7, lw12, lw50, lw99, lw255, lw599, lw4096, bI_ok, ble_t, Int.cast_ofNat_Int,  decide_true, decide_false, bI_0, bI_1, b_tf, b_ft, eq_self, n_1, n_2, n_3, n_4, n_5, n_6, n_7, n_8, if_true, if_false, jin, ncl, cond_true, cond_false, Option.bind_some, j_ov, j_oi, j_ol, nle, nlt, neq, nI_add, nmul, nsub, ndiv, nrem2, if_pos, if_neg, Nat.zero_add, Nat.add_zero, j_w_ap, decide_eq_true, decide_eq_false, Bool.true_or, Bool.or_true, Bool.false_or, Bool.or_false, Bool.and_true, Bool.true_and, Bool.false_and, Bool.and_false, Bool.not_true, Bool.not_false, h3, h24] at e
    rw [if_neg h24]
    exact e
theorem M_bg (hd : 1 ≤ d) (hr : r ≤ 1000) (h3 : M 46 40 = nI r) : C d 228 [.ref 46, .int (nI p)] S0 M N = some (none, bgM p r M, N) := by
  refine eX11_begins hd ?_
  have e := bX11_begins_0 (d - 1) (nI p) M N
  unfold bgM
  by_cases h24 : 24 ≤ r
  · simp (disch := omega) only [z0, z1, z2, z3, z4, z5, z6, z7, z8, z9, z10, z11, z12, z13, z14, z15, z16, z17, z18, z19, z20, z24, z26, z30, z31, z40, z41, z50, z54, z60, z70, z80, z81, z99, z100, z200, z255, z599, z1000, z1299, z4096, z1000000, lw0, lw1, lw2, lw3, lw4, lw5, lw6, lw7, lw12, lw50, lw99, lw255, lw599, lw4096, bI_ok, ble_t, Int.cast_ofNat_Int,  decide_true, decide_false, bI_0, bI_1, b_tf, b_ft, eq_self, n_1, n_2, n_3, n_4, n_5, n_6, n_7, n_8, if_true, if_false, jin, ncl, cond_true, cond_false, Option.bind_some, j_ov, j_oi, j_ol, nle, nlt, neq, nI_add, nmul, nsub, ndiv, nrem2, if_pos, if_neg, Nat.zero_add, Nat.add_zero, j_w_ap, decide_eq_true, decide_eq_false, Bool.true_or, Bool.or_true, Bool.false_or, Bool.or_false, Bool.and_true, Bool.true_and, Bool.false_and, Bool.and_false, Bool.not_true, Bool.not_false, h3, h24] at e
    rw [if_pos h24]
    exact e
  · simp (disch := omega) only [z0, z1, z2, z3, z4, z5, z6, z7, z8, z9, z10, z11, z12, z13, z14, z15, z16, z17, z18, z19, z20, z24, z26, z30, z31, z40, z41, z50, z54, z60, z70, z80, z81, z99, z100, z200, z255, z599, z1000, z1299, z4096, z1000000, lw0, lw1, lw2, lw3, lw4, lw5, lw6, lw7, lw12, lw50, lw99, lw255, lw599, lw4096, bI_ok, ble_t, Int.cast_ofNat_Int,  decide_true, decide_false, bI_0, bI_1, b_tf, b_ft, eq_self, n_1, n_2, n_3, n_4, n_5, n_6, n_7, n_8, if_true, if_false, jin, ncl, cond_true, cond_false, Option.bind_some, j_ov, j_oi, j_ol, nle, nlt, neq, nI_add, nmul, nsub, ndiv, nrem2, if_pos, if_neg, Nat.zero_add, Nat.add_zero, j_w_ap, decide_eq_true, decide_eq_false, Bool.true_or, Bool.or_true, Bool.false_or, Bool.or_false, Bool.and_true, Bool.true_and, Bool.false_and, Bool.and_false, Bool.not_true, Bool.not_false, h3, h24] at e
    rw [if_neg h24]
    exact e
theorem X_call {c : Nat} (hd : 1 ≤ d) (hnm : nm < 50) (h4 : M 30 4 = nI nm) (h31 : M 31 nm = nI ks) (q : C (d - 1) 8 [.ref 30, .int (nI ks), .int (nI c), .int x, .int y] S0 M N = some (some (.int v), M', N)) : C d 7 [.ref 30, .int (nI c), .int x, .int y] S0 M N = some (some (.int v), M', N) := by
  refine eX0_call hd ?_
  have e := bX0_call_0 (d - 1) (nI c) x y M N
  simp (disch := omega) only [z0, z1, z2, z3, z4, z5, z6, z7, z8, z9, z10, z11, z12, z13, z14, z15, z16, z17, z18, z19, z20, z24, z26, z30, z31, z40, z41, z50, z54, z60, z70, z80, z81, z99, z100, z200, z255, z599, z1000, z1299, z4096, z1000000, lw0, lw1, lw2, lw3, lw4, lw5, lw6, lw7, lw12, lw50, lw99, lw255, lw599, lw4096, bI_ok, ble_t, Int.cast_ofNat_Int,  decide_true, decide_false, bI_0, bI_1, b_tf, b_ft, eq_self, n_1, n_2, n_3, n_4, n_5, n_6, n_7, n_8, if_true, if_false, jin, ncl, cond_true, cond_false, Option.bind_some, j_ov, j_oi, j_ol, nle, nlt, neq, nI_add, nmul, nsub, ndiv, nrem2, if_pos, if_neg, Nat.zero_add, Nat.add_zero, j_w_ap, decide_eq_true, decide_eq_false, Bool.true_or, Bool.or_true, Bool.false_or, Bool.or_false, Bool.and_true, Bool.true_and, Bool.false_and, Bool.and_false, Bool.not_true, Bool.not_false, h4, h31, q] at e
  exact e
/-- what the act of number p answers, with which list of runs, in the class and in the reference -/
def XE (ks nm p : Nat) (x v : Int32) (l : List Nat) (h : Nat) : Prop := ∀ (d dep : Nat) (M : j_M) (N : j_N) (r : Nat), 3 * h ≤ d → dep + h ≤ 41 → r + l.length ≤ 1000 → M 30 3 = nI r → M 30 4 = nI nm → M 31 nm = nI ks → C d 9 [.ref 30, .int (nI p), .int x, .int (nI dep)] S0 M N = some (some (.int v), apC l r M, N)
def ME (ks nm c p : Nat) (x v : Int32) (l : List Nat) (h : Nat) : Prop := ∀ (k : Nat), k < 8 → rn k c = p → ∀ (d : Nat) (M : j_M) (N : j_N) (r : Nat), 2 * h ≤ d → r + l.length ≤ 1000 → M 46 40 = nI r → M 46 41 = nI ks → M 46 42 = nI nm → C d (229 + c) [.ref 46, .int (nI k), .int x] S0 M N = some (some (.int v), apM l r M, N)
def Ev (ks nm c p h : Nat) (x : Int32) : Prop := ∃ (v : Int32) (l : List Nat), l.length < 2 ^ h ∧ XE ks nm p x v l h ∧ ME ks nm c p x v l h
theorem Ev.mono {c h2 : Nat} (q : Ev ks nm c p h x) (hh : h ≤ h2) (h9 : h2 ≤ 9) : Ev ks nm c p h2 x := by
  obtain ⟨v, l, q1, q2, q3⟩ := q
  exact ⟨v, l, Nat.lt_of_lt_of_le q1 (Nat.pow_le_pow_right (by omega) hh), fun d dep M N r z1 z2 => q2 d dep M N r (by omega) (by omega), fun k z1 z2 d M N r z3 => q3 k z1 z2 d M N r (by omega)⟩
theorem E_1 (hks : ks < 8) (hnm : nm < 50) : ∀ x, Ev ks nm 0 1 1 x := by
  intro x
  have hl : (1 :: [] : List Nat).length < 2 ^ 1 := by
    simp only [List.length_cons, List.length_append, List.length_nil]
    omega
  refine ⟨x + nI nm, 1 :: [], hl, ?_, ?_⟩
  · intro d dep M N r hd hdep hr h3 h4 h31
    simp only [List.length_cons, List.length_append, List.length_nil] at hr
    refine eX0_run (by omega) ((X_bg (by omega) h3).trans ?_)
    have e := bX0_run_19 (d - 1) (nI 1) x (nI dep) (pgC 1 r M) N
    have g3 : pgC 1 r M 30 3 = nI r := (pgC_o (by omega)).trans h3
    have g4 : pgC 1 r M 30 4 = nI nm := (pgC_o (by omega)).trans h4
    have b4 : bgC 1 r M 30 4 = nI nm := (bgC_o (by omega) (by omega)).trans h4
    have b31 : bgC 1 r M 31 nm = nI ks := (bgC_o (by omega) (by omega)).trans h31
    simp (disch := omega) only [z0, z1, z2, z3, z4, z5, z6, z7, z8, z9, z10, z11, z12, z13, z14, z15, z16, z17, z18, z19, z20, z24, z26, z30, z31, z40, z41, z50, z54, z60, z70, z80, z81, z99, z100, z200, z255, z599, z1000, z1299, z4096, z1000000, lw0, lw1, lw2, lw3, lw4, lw5, lw6, lw7, lw12, lw50, lw99, lw255, lw599, lw4096, bI_ok, ble_t, Int.cast_ofNat_Int,  decide_true, decide_false, bI_0, bI_1, b_tf, b_ft, eq_self, n_1, n_2, n_3, n_4, n_5, n_6, n_7, n_8, if_true, if_false, jin, ncl, cond_true, cond_false, Option.bind_some, j_ov, j_oi, j_ol, nle, nlt, neq, nI_add, nmul, nsub, ndiv, nrem2, if_pos, if_neg, Nat.zero_add, Nat.add_zero, j_w_ap, decide_eq_true, decide_eq_false, Bool.true_or, Bool.or_true, Bool.false_or, Bool.or_false, Bool.and_true, Bool.true_and, Bool.false_and, Bool.and_false, Bool.not_true, Bool.not_false, g3, g4, (show (1 : Int32) = nI 1 from rfl)] at e
    exact e
  · intro k hk hrn d M N r hd hr h40 h41 h42
    simp only [List.length_cons, List.length_append, List.length_nil] at hr
    have bb := M_bg (d := d - 1) (p := 1) (M := M) (N := N) (by omega) (by omega) h40
    have b41 : bgM 1 r M 46 41 = nI ks := (bgM_o (by omega) (by omega)).trans h41
    have b42 : bgM 1 r M 46 42 = nI nm := (bgM_o (by omega) (by omega)).trans h42
    show _ = some (some (Value.int (x + nI nm)), apM [] (r + 1) (bgM 1 r M), N)
    refine eX11_givesAs (by omega) ?_
    have hk8 : k = 0 ∨ k = 1 ∨ k = 2 ∨ k = 3 ∨ k = 4 ∨ k = 5 ∨ k = 6 ∨ k = 7 := by omega
    rcases hk8 with rfl | rfl | rfl | rfl | rfl | rfl | rfl | rfl
    · have e := bX11_givesAs_0 (d - 1) (nI 0) x M N
      simp (disch := omega) only [z0, z1, z2, z3, z4, z5, z6, z7, z8, z9, z10, z11, z12, z13, z14, z15, z16, z17, z18, z19, z20, z24, z26, z30, z31, z40, z41, z50, z54, z60, z70, z80, z81, z99, z100, z200, z255, z599, z1000, z1299, z4096, z1000000, lw0, lw1, lw2, lw3, lw4, lw5, lw6, lw7, lw12, lw50, lw99, lw255, lw599, lw4096, bI_ok, ble_t, Int.cast_ofNat_Int,  decide_true, decide_false, bI_0, bI_1, b_tf, b_ft, eq_self, n_1, n_2, n_3, n_4, n_5, n_6, n_7, n_8, if_true, if_false, jin, ncl, cond_true, cond_false, Option.bind_some, j_ov, j_oi, j_ol, nle, nlt, neq, nI_add, nmul, nsub, ndiv, nrem2, if_pos, if_neg, Nat.zero_add, Nat.add_zero, j_w_ap, decide_eq_true, decide_eq_false, Bool.true_or, Bool.or_true, Bool.false_or, Bool.or_false, Bool.and_true, Bool.true_and, Bool.false_and, Bool.and_false, Bool.not_true, Bool.not_false, (show (1 : Int32) = nI 1 from rfl), bb, b41, b42] at e
      exact e
    · exact absurd hrn (by decide)
    · have e := bX11_givesAs_0 (d - 1) (nI 2) x M N
      simp (disch := omega) only [z0, z1, z2, z3, z4, z5, z6, z7, z8, z9, z10, z11, z12, z13, z14, z15, z16, z17, z18, z19, z20, z24, z26, z30, z31, z40, z41, z50, z54, z60, z70, z80, z81, z99, z100, z200, z255, z599, z1000, z1299, z4096, z1000000, lw0, lw1, lw2, lw3, lw4, lw5, lw6, lw7, lw12, lw50, lw99, lw255, lw599, lw4096, bI_ok, ble_t, Int.cast_ofNat_Int,  decide_true, decide_false, bI_0, bI_1, b_tf, b_ft, eq_self, n_1, n_2, n_3, n_4, n_5, n_6, n_7, n_8, if_true, if_false, jin, ncl, cond_true, cond_false, Option.bind_some, j_ov, j_oi, j_ol, nle, nlt, neq, nI_add, nmul, nsub, ndiv, nrem2, if_pos, if_neg, Nat.zero_add, Nat.add_zero, j_w_ap, decide_eq_true, decide_eq_false, Bool.true_or, Bool.or_true, Bool.false_or, Bool.or_false, Bool.and_true, Bool.true_and, Bool.false_and, Bool.and_false, Bool.not_true, Bool.not_false, (show (1 : Int32) = nI 1 from rfl), bb, b41, b42] at e
      exact e
    · have e := bX11_givesAs_0 (d - 1) (nI 3) x M N
      simp (disch := omega) only [z0, z1, z2, z3, z4, z5, z6, z7, z8, z9, z10, z11, z12, z13, z14, z15, z16, z17, z18, z19, z20, z24, z26, z30, z31, z40, z41, z50, z54, z60, z70, z80, z81, z99, z100, z200, z255, z599, z1000, z1299, z4096, z1000000, lw0, lw1, lw2, lw3, lw4, lw5, lw6, lw7, lw12, lw50, lw99, lw255, lw599, lw4096, bI_ok, ble_t, Int.cast_ofNat_Int,  decide_true, decide_false, bI_0, bI_1, b_tf, b_ft, eq_self, n_1, n_2, n_3, n_4, n_5, n_6, n_7, n_8, if_true, if_false, jin, ncl, cond_true, cond_false, Option.bind_some, j_ov, j_oi, j_ol, nle, nlt, neq, nI_add, nmul, nsub, ndiv, nrem2, if_pos, if_neg, Nat.zero_add, Nat.add_zero, j_w_ap, decide_eq_true, decide_eq_false, Bool.true_or, Bool.or_true, Bool.false_or, Bool.or_false, Bool.and_true, Bool.true_and, Bool.false_and, Bool.and_false, Bool.not_true, Bool.not_false, (show (1 : Int32) = nI 1 from rfl), bb, b41, b42] at e
      exact e
    · exact absurd hrn (by decide)
    · have e := bX11_givesAs_0 (d - 1) (nI 5) x M N
      simp (disch := omega) only [z0, z1, z2, z3, z4, z5, z6, z7, z8, z9, z10, z11, z12, z13, z14, z15, z16, z17, z18, z19, z20, z24, z26, z30, z31, z40, z41, z50, z54, z60, z70, z80, z81, z99, z100, z200, z255, z599, z1000, z1299, z4096, z1000000, lw0, lw1, lw2, lw3, lw4, lw5, lw6, lw7, lw12, lw50, lw99, lw255, lw599, lw4096, bI_ok, ble_t, Int.cast_ofNat_Int,  decide_true, decide_false, bI_0, bI_1, b_tf, b_ft, eq_self, n_1, n_2, n_3, n_4, n_5, n_6, n_7, n_8, if_true, if_false, jin, ncl, cond_true, cond_false, Option.bind_some, j_ov, j_oi, j_ol, nle, nlt, neq, nI_add, nmul, nsub, ndiv, nrem2, if_pos, if_neg, Nat.zero_add, Nat.add_zero, j_w_ap, decide_eq_true, decide_eq_false, Bool.true_or, Bool.or_true, Bool.false_or, Bool.or_false, Bool.and_true, Bool.true_and, Bool.false_and, Bool.and_false, Bool.not_true, Bool.not_false, (show (1 : Int32) = nI 1 from rfl), bb, b41, b42] at e
      exact e
    · exact absurd hrn (by decide)
    · exact absurd hrn (by decide)
theorem E_11 (hks : ks < 8) (hnm : nm < 50) : ∀ x, Ev ks nm 2 11 1 x := by
  intro x
  have hl : (11 :: [] : List Nat).length < 2 ^ 1 := by
    simp only [List.length_cons, List.length_append, List.length_nil]
    omega
  refine ⟨x ^^^ nI nm, 11 :: [], hl, ?_, ?_⟩
  · intro d dep M N r hd hdep hr h3 h4 h31
    simp only [List.length_cons, List.length_append, List.length_nil] at hr
    refine eX0_run (by omega) ((X_bg (by omega) h3).trans ?_)
    have e := bX0_run_19 (d - 1) (nI 11) x (nI dep) (pgC 11 r M) N
    have g3 : pgC 11 r M 30 3 = nI r := (pgC_o (by omega)).trans h3
    have g4 : pgC 11 r M 30 4 = nI nm := (pgC_o (by omega)).trans h4
    have b4 : bgC 11 r M 30 4 = nI nm := (bgC_o (by omega) (by omega)).trans h4
    have b31 : bgC 11 r M 31 nm = nI ks := (bgC_o (by omega) (by omega)).trans h31
    simp (disch := omega) only [z0, z1, z2, z3, z4, z5, z6, z7, z8, z9, z10, z11, z12, z13, z14, z15, z16, z17, z18, z19, z20, z24, z26, z30, z31, z40, z41, z50, z54, z60, z70, z80, z81, z99, z100, z200, z255, z599, z1000, z1299, z4096, z1000000, lw0, lw1, lw2, lw3, lw4, lw5, lw6, lw7, lw12, lw50, lw99, lw255, lw599, lw4096, bI_ok, ble_t, Int.cast_ofNat_Int,  decide_true, decide_false, bI_0, bI_1, b_tf, b_ft, eq_self, n_1, n_2, n_3, n_4, n_5, n_6, n_7, n_8, if_true, if_false, jin, ncl, cond_true, cond_false, Option.bind_some, j_ov, j_oi, j_ol, nle, nlt, neq, nI_add, nmul, nsub, ndiv, nrem2, if_pos, if_neg, Nat.zero_add, Nat.add_zero, j_w_ap, decide_eq_true, decide_eq_false, Bool.true_or, Bool.or_true, Bool.false_or, Bool.or_false, Bool.and_true, Bool.true_and, Bool.false_and, Bool.and_false, Bool.not_true, Bool.not_false, g3, g4, (show (11 : Int32) = nI 11 from rfl)] at e
    exact e
  · intro k hk hrn d M N r hd hr h40 h41 h42
    simp only [List.length_cons, List.length_append, List.length_nil] at hr
    have bb := M_bg (d := d - 1) (p := 11) (M := M) (N := N) (by omega) (by omega) h40
    have b41 : bgM 11 r M 46 41 = nI ks := (bgM_o (by omega) (by omega)).trans h41
    have b42 : bgM 11 r M 46 42 = nI nm := (bgM_o (by omega) (by omega)).trans h42
    show _ = some (some (Value.int (x ^^^ nI nm)), apM [] (r + 1) (bgM 11 r M), N)
    refine eX11_lacksAs (by omega) ?_
    have hk8 : k = 0 ∨ k = 1 ∨ k = 2 ∨ k = 3 ∨ k = 4 ∨ k = 5 ∨ k = 6 ∨ k = 7 := by omega
    rcases hk8 with rfl | rfl | rfl | rfl | rfl | rfl | rfl | rfl
    · have e := bX11_lacksAs_0 (d - 1) (nI 0) x M N
      simp (disch := omega) only [z0, z1, z2, z3, z4, z5, z6, z7, z8, z9, z10, z11, z12, z13, z14, z15, z16, z17, z18, z19, z20, z24, z26, z30, z31, z40, z41, z50, z54, z60, z70, z80, z81, z99, z100, z200, z255, z599, z1000, z1299, z4096, z1000000, lw0, lw1, lw2, lw3, lw4, lw5, lw6, lw7, lw12, lw50, lw99, lw255, lw599, lw4096, bI_ok, ble_t, Int.cast_ofNat_Int,  decide_true, decide_false, bI_0, bI_1, b_tf, b_ft, eq_self, n_1, n_2, n_3, n_4, n_5, n_6, n_7, n_8, if_true, if_false, jin, ncl, cond_true, cond_false, Option.bind_some, j_ov, j_oi, j_ol, nle, nlt, neq, nI_add, nmul, nsub, ndiv, nrem2, if_pos, if_neg, Nat.zero_add, Nat.add_zero, j_w_ap, decide_eq_true, decide_eq_false, Bool.true_or, Bool.or_true, Bool.false_or, Bool.or_false, Bool.and_true, Bool.true_and, Bool.false_and, Bool.and_false, Bool.not_true, Bool.not_false, (show (11 : Int32) = nI 11 from rfl), bb, b41, b42] at e
      exact e
    · have e := bX11_lacksAs_0 (d - 1) (nI 1) x M N
      simp (disch := omega) only [z0, z1, z2, z3, z4, z5, z6, z7, z8, z9, z10, z11, z12, z13, z14, z15, z16, z17, z18, z19, z20, z24, z26, z30, z31, z40, z41, z50, z54, z60, z70, z80, z81, z99, z100, z200, z255, z599, z1000, z1299, z4096, z1000000, lw0, lw1, lw2, lw3, lw4, lw5, lw6, lw7, lw12, lw50, lw99, lw255, lw599, lw4096, bI_ok, ble_t, Int.cast_ofNat_Int,  decide_true, decide_false, bI_0, bI_1, b_tf, b_ft, eq_self, n_1, n_2, n_3, n_4, n_5, n_6, n_7, n_8, if_true, if_false, jin, ncl, cond_true, cond_false, Option.bind_some, j_ov, j_oi, j_ol, nle, nlt, neq, nI_add, nmul, nsub, ndiv, nrem2, if_pos, if_neg, Nat.zero_add, Nat.add_zero, j_w_ap, decide_eq_true, decide_eq_false, Bool.true_or, Bool.or_true, Bool.false_or, Bool.or_false, Bool.and_true, Bool.true_and, Bool.false_and, Bool.and_false, Bool.not_true, Bool.not_false, (show (11 : Int32) = nI 11 from rfl), bb, b41, b42] at e
      exact e
    · have e := bX11_lacksAs_0 (d - 1) (nI 2) x M N
      simp (disch := omega) only [z0, z1, z2, z3, z4, z5, z6, z7, z8, z9, z10, z11, z12, z13, z14, z15, z16, z17, z18, z19, z20, z24, z26, z30, z31, z40, z41, z50, z54, z60, z70, z80, z81, z99, z100, z200, z255, z599, z1000, z1299, z4096, z1000000, lw0, lw1, lw2, lw3, lw4, lw5, lw6, lw7, lw12, lw50, lw99, lw255, lw599, lw4096, bI_ok, ble_t, Int.cast_ofNat_Int,  decide_true, decide_false, bI_0, bI_1, b_tf, b_ft, eq_self, n_1, n_2, n_3, n_4, n_5, n_6, n_7, n_8, if_true, if_false, jin, ncl, cond_true, cond_false, Option.bind_some, j_ov, j_oi, j_ol, nle, nlt, neq, nI_add, nmul, nsub, ndiv, nrem2, if_pos, if_neg, Nat.zero_add, Nat.add_zero, j_w_ap, decide_eq_true, decide_eq_false, Bool.true_or, Bool.or_true, Bool.false_or, Bool.or_false, Bool.and_true, Bool.true_and, Bool.false_and, Bool.and_false, Bool.not_true, Bool.not_false, (show (11 : Int32) = nI 11 from rfl), bb, b41, b42] at e
      exact e
    · exact absurd hrn (by decide)
    · exact absurd hrn (by decide)
    · exact absurd hrn (by decide)
    · have e := bX11_lacksAs_0 (d - 1) (nI 6) x M N
      simp (disch := omega) only [z0, z1, z2, z3, z4, z5, z6, z7, z8, z9, z10, z11, z12, z13, z14, z15, z16, z17, z18, z19, z20, z24, z26, z30, z31, z40, z41, z50, z54, z60, z70, z80, z81, z99, z100, z200, z255, z599, z1000, z1299, z4096, z1000000, lw0, lw1, lw2, lw3, lw4, lw5, lw6, lw7, lw12, lw50, lw99, lw255, lw599, lw4096, bI_ok, ble_t, Int.cast_ofNat_Int,  decide_true, decide_false, bI_0, bI_1, b_tf, b_ft, eq_self, n_1, n_2, n_3, n_4, n_5, n_6, n_7, n_8, if_true, if_false, jin, ncl, cond_true, cond_false, Option.bind_some, j_ov, j_oi, j_ol, nle, nlt, neq, nI_add, nmul, nsub, ndiv, nrem2, if_pos, if_neg, Nat.zero_add, Nat.add_zero, j_w_ap, decide_eq_true, decide_eq_false, Bool.true_or, Bool.or_true, Bool.false_or, Bool.or_false, Bool.and_true, Bool.true_and, Bool.false_and, Bool.and_false, Bool.not_true, Bool.not_false, (show (11 : Int32) = nI 11 from rfl), bb, b41, b42] at e
      exact e
    · exact absurd hrn (by decide)
theorem E_20 (hks : ks < 8) (hnm : nm < 50) (A1 : ∀ x, Ev ks nm 0 1 1 x) : ∀ x, Ev ks nm 0 20 2 x := by
  intro x
  obtain ⟨v1, l1, k1, c1, m1⟩ := A1 x
  have hl : (20 :: l1 : List Nat).length < 2 ^ 2 := by
    simp only [List.length_cons, List.length_append, List.length_nil]
    omega
  refine ⟨v1 + nI 3, 20 :: l1, hl, ?_, ?_⟩
  · intro d dep M N r hd hdep hr h3 h4 h31
    simp only [List.length_cons, List.length_append, List.length_nil] at hr
    refine eX0_run (by omega) ((X_bg (by omega) h3).trans ?_)
    have e := bX0_run_19 (d - 1) (nI 20) x (nI dep) (pgC 20 r M) N
    have g3 : pgC 20 r M 30 3 = nI r := (pgC_o (by omega)).trans h3
    have g4 : pgC 20 r M 30 4 = nI nm := (pgC_o (by omega)).trans h4
    have b4 : bgC 20 r M 30 4 = nI nm := (bgC_o (by omega) (by omega)).trans h4
    have b31 : bgC 20 r M 31 nm = nI ks := (bgC_o (by omega) (by omega)).trans h31
    have q1 : C (d - 1) 8 [.ref 30, .int (nI 0), .int (nI 0), .int x, .int (nI dep)] S0 (bgC 20 r M) N = some (some (.int v1), (apC l1 (r + 1) (bgC 20 r M)), N) := X_from0 (by omega) (by omega) (by omega) (c1 _ (dep + 1) (bgC 20 r M) N (r + 1) (by omega) (by omega) (by omega) rfl b4 b31)
    have s3_1 : (apC l1 (r + 1) (bgC 20 r M)) 30 3 = nI ((r + 1) + l1.length) := apC_3 l1 (r + 1) (bgC 20 r M) rfl
    have s4_1 : (apC l1 (r + 1) (bgC 20 r M)) 30 4 = nI nm := (apC_o (by omega) (by omega) l1 (r + 1) (bgC 20 r M)).trans b4
    have s31_1 : (apC l1 (r + 1) (bgC 20 r M)) 31 nm = nI ks := (apC_o (by omega) (by omega) l1 (r + 1) (bgC 20 r M)).trans b31
    unfold bgC at q1
    simp (disch := omega) only [z0, z1, z2, z3, z4, z5, z6, z7, z8, z9, z10, z11, z12, z13, z14, z15, z16, z17, z18, z19, z20, z24, z26, z30, z31, z40, z41, z50, z54, z60, z70, z80, z81, z99, z100, z200, z255, z599, z1000, z1299, z4096, z1000000, lw0, lw1, lw2, lw3, lw4, lw5, lw6, lw7, lw12, lw50, lw99, lw255, lw599, lw4096, bI_ok, ble_t, Int.cast_ofNat_Int,  decide_true, decide_false, bI_0, bI_1, b_tf, b_ft, eq_self, n_1, n_2, n_3, n_4, n_5, n_6, n_7, n_8, if_true, if_false, jin, ncl, cond_true, cond_false, Option.bind_some, j_ov, j_oi, j_ol, nle, nlt, neq, nI_add, nmul, nsub, ndiv, nrem2, if_pos, if_neg, Nat.zero_add, Nat.add_zero, j_w_ap, decide_eq_true, decide_eq_false, Bool.true_or, Bool.or_true, Bool.false_or, Bool.or_false, Bool.and_true, Bool.true_and, Bool.false_and, Bool.and_false, Bool.not_true, Bool.not_false, g3, g4, (show (20 : Int32) = nI 20 from rfl), q1] at e
    exact e
  · intro k hk hrn d M N r hd hr h40 h41 h42
    simp only [List.length_cons, List.length_append, List.length_nil] at hr
    have bb := M_bg (d := d - 1) (p := 20) (M := M) (N := N) (by omega) (by omega) h40
    have b41 : bgM 20 r M 46 41 = nI ks := (bgM_o (by omega) (by omega)).trans h41
    have b42 : bgM 20 r M 46 42 = nI nm := (bgM_o (by omega) (by omega)).trans h42
    have q1 : C (d - 1) 229 [.ref 46, .int (nI 0), .int x] S0 (bgM 20 r M) N = some (some (.int v1), (apM l1 (r + 1) (bgM 20 r M)), N) := m1 0 (by omega) rfl (d - 1) (bgM 20 r M) N (r + 1) (by omega) (by omega) rfl b41 b42
    have s3_1 : (apM l1 (r + 1) (bgM 20 r M)) 46 40 = nI ((r + 1) + l1.length) := apM_3 l1 (r + 1) (bgM 20 r M) rfl
    have s41_1 : (apM l1 (r + 1) (bgM 20 r M)) 46 41 = nI ks := (apM_o (by omega) (by omega) l1 (r + 1) (bgM 20 r M)).trans b41
    have s42_1 : (apM l1 (r + 1) (bgM 20 r M)) 46 42 = nI nm := (apM_o (by omega) (by omega) l1 (r + 1) (bgM 20 r M)).trans b42
    show _ = some (some (Value.int (v1 + nI 3)), apM l1 (r + 1) (bgM 20 r M), N)
    refine eX11_givesAs (by omega) ?_
    have hk8 : k = 0 ∨ k = 1 ∨ k = 2 ∨ k = 3 ∨ k = 4 ∨ k = 5 ∨ k = 6 ∨ k = 7 := by omega
    rcases hk8 with rfl | rfl | rfl | rfl | rfl | rfl | rfl | rfl
    · exact absurd hrn (by decide)
    · have e := bX11_givesAs_0 (d - 1) (nI 1) x M N
      simp (disch := omega) only [z0, z1, z2, z3, z4, z5, z6, z7, z8, z9, z10, z11, z12, z13, z14, z15, z16, z17, z18, z19, z20, z24, z26, z30, z31, z40, z41, z50, z54, z60, z70, z80, z81, z99, z100, z200, z255, z599, z1000, z1299, z4096, z1000000, lw0, lw1, lw2, lw3, lw4, lw5, lw6, lw7, lw12, lw50, lw99, lw255, lw599, lw4096, bI_ok, ble_t, Int.cast_ofNat_Int,  decide_true, decide_false, bI_0, bI_1, b_tf, b_ft, eq_self, n_1, n_2, n_3, n_4, n_5, n_6, n_7, n_8, if_true, if_false, jin, ncl, cond_true, cond_false, Option.bind_some, j_ov, j_oi, j_ol, nle, nlt, neq, nI_add, nmul, nsub, ndiv, nrem2, if_pos, if_neg, Nat.zero_add, Nat.add_zero, j_w_ap, decide_eq_true, decide_eq_false, Bool.true_or, Bool.or_true, Bool.false_or, Bool.or_false, Bool.and_true, Bool.true_and, Bool.false_and, Bool.and_false, Bool.not_true, Bool.not_false, (show (20 : Int32) = nI 20 from rfl), bb, b41, b42, q1, s41_1] at e
      exact e
    · exact absurd hrn (by decide)
    · exact absurd hrn (by decide)
    · have e := bX11_givesAs_0 (d - 1) (nI 4) x M N
      simp (disch := omega) only [z0, z1, z2, z3, z4, z5, z6, z7, z8, z9, z10, z11, z12, z13, z14, z15, z16, z17, z18, z19, z20, z24, z26, z30, z31, z40, z41, z50, z54, z60, z70, z80, z81, z99, z100, z200, z255, z599, z1000, z1299, z4096, z1000000, lw0, lw1, lw2, lw3, lw4, lw5, lw6, lw7, lw12, lw50, lw99, lw255, lw599, lw4096, bI_ok, ble_t, Int.cast_ofNat_Int,  decide_true, decide_false, bI_0, bI_1, b_tf, b_ft, eq_self, n_1, n_2, n_3, n_4, n_5, n_6, n_7, n_8, if_true, if_false, jin, ncl, cond_true, cond_false, Option.bind_some, j_ov, j_oi, j_ol, nle, nlt, neq, nI_add, nmul, nsub, ndiv, nrem2, if_pos, if_neg, Nat.zero_add, Nat.add_zero, j_w_ap, decide_eq_true, decide_eq_false, Bool.true_or, Bool.or_true, Bool.false_or, Bool.or_false, Bool.and_true, Bool.true_and, Bool.false_and, Bool.and_false, Bool.not_true, Bool.not_false, (show (20 : Int32) = nI 20 from rfl), bb, b41, b42, q1, s41_1] at e
      exact e
    · exact absurd hrn (by decide)
    · exact absurd hrn (by decide)
    · have e := bX11_givesAs_0 (d - 1) (nI 7) x M N
      simp (disch := omega) only [z0, z1, z2, z3, z4, z5, z6, z7, z8, z9, z10, z11, z12, z13, z14, z15, z16, z17, z18, z19, z20, z24, z26, z30, z31, z40, z41, z50, z54, z60, z70, z80, z81, z99, z100, z200, z255, z599, z1000, z1299, z4096, z1000000, lw0, lw1, lw2, lw3, lw4, lw5, lw6, lw7, lw12, lw50, lw99, lw255, lw599, lw4096, bI_ok, ble_t, Int.cast_ofNat_Int,  decide_true, decide_false, bI_0, bI_1, b_tf, b_ft, eq_self, n_1, n_2, n_3, n_4, n_5, n_6, n_7, n_8, if_true, if_false, jin, ncl, cond_true, cond_false, Option.bind_some, j_ov, j_oi, j_ol, nle, nlt, neq, nI_add, nmul, nsub, ndiv, nrem2, if_pos, if_neg, Nat.zero_add, Nat.add_zero, j_w_ap, decide_eq_true, decide_eq_false, Bool.true_or, Bool.or_true, Bool.false_or, Bool.or_false, Bool.and_true, Bool.true_and, Bool.false_and, Bool.and_false, Bool.not_true, Bool.not_false, (show (20 : Int32) = nI 20 from rfl), bb, b41, b42, q1, s41_1] at e
      exact e
theorem E_70 (hks : ks < 8) (hnm : nm < 50) (A1 : ∀ x, Ev ks nm 0 1 1 x) : ∀ x, Ev ks nm 0 70 2 x := by
  intro x
  obtain ⟨v1, l1, k1, c1, m1⟩ := A1 x
  have hl : (70 :: l1 : List Nat).length < 2 ^ 2 := by
    simp only [List.length_cons, List.length_append, List.length_nil]
    omega
  refine ⟨v1 * nI 2, 70 :: l1, hl, ?_, ?_⟩
  · intro d dep M N r hd hdep hr h3 h4 h31
    simp only [List.length_cons, List.length_append, List.length_nil] at hr
    refine eX0_run (by omega) ((X_bg (by omega) h3).trans ?_)
    have e := bX0_run_19 (d - 1) (nI 70) x (nI dep) (pgC 70 r M) N
    have g3 : pgC 70 r M 30 3 = nI r := (pgC_o (by omega)).trans h3
    have g4 : pgC 70 r M 30 4 = nI nm := (pgC_o (by omega)).trans h4
    have b4 : bgC 70 r M 30 4 = nI nm := (bgC_o (by omega) (by omega)).trans h4
    have b31 : bgC 70 r M 31 nm = nI ks := (bgC_o (by omega) (by omega)).trans h31
    have q1 : C (d - 1) 8 [.ref 30, .int (nI 0), .int (nI 0), .int x, .int (nI dep)] S0 (bgC 70 r M) N = some (some (.int v1), (apC l1 (r + 1) (bgC 70 r M)), N) := X_from0 (by omega) (by omega) (by omega) (c1 _ (dep + 1) (bgC 70 r M) N (r + 1) (by omega) (by omega) (by omega) rfl b4 b31)
    have s3_1 : (apC l1 (r + 1) (bgC 70 r M)) 30 3 = nI ((r + 1) + l1.length) := apC_3 l1 (r + 1) (bgC 70 r M) rfl
    have s4_1 : (apC l1 (r + 1) (bgC 70 r M)) 30 4 = nI nm := (apC_o (by omega) (by omega) l1 (r + 1) (bgC 70 r M)).trans b4
    have s31_1 : (apC l1 (r + 1) (bgC 70 r M)) 31 nm = nI ks := (apC_o (by omega) (by omega) l1 (r + 1) (bgC 70 r M)).trans b31
    unfold bgC at q1
    simp (disch := omega) only [z0, z1, z2, z3, z4, z5, z6, z7, z8, z9, z10, z11, z12, z13, z14, z15, z16, z17, z18, z19, z20, z24, z26, z30, z31, z40, z41, z50, z54, z60, z70, z80, z81, z99, z100, z200, z255, z599, z1000, z1299, z4096, z1000000, lw0, lw1, lw2, lw3, lw4, lw5, lw6, lw7, lw12, lw50, lw99, lw255, lw599, lw4096, bI_ok, ble_t, Int.cast_ofNat_Int,  decide_true, decide_false, bI_0, bI_1, b_tf, b_ft, eq_self, n_1, n_2, n_3, n_4, n_5, n_6, n_7, n_8, if_true, if_false, jin, ncl, cond_true, cond_false, Option.bind_some, j_ov, j_oi, j_ol, nle, nlt, neq, nI_add, nmul, nsub, ndiv, nrem2, if_pos, if_neg, Nat.zero_add, Nat.add_zero, j_w_ap, decide_eq_true, decide_eq_false, Bool.true_or, Bool.or_true, Bool.false_or, Bool.or_false, Bool.and_true, Bool.true_and, Bool.false_and, Bool.and_false, Bool.not_true, Bool.not_false, g3, g4, (show (70 : Int32) = nI 70 from rfl), q1] at e
    exact e
  · intro k hk hrn d M N r hd hr h40 h41 h42
    simp only [List.length_cons, List.length_append, List.length_nil] at hr
    have bb := M_bg (d := d - 1) (p := 70) (M := M) (N := N) (by omega) (by omega) h40
    have b41 : bgM 70 r M 46 41 = nI ks := (bgM_o (by omega) (by omega)).trans h41
    have b42 : bgM 70 r M 46 42 = nI nm := (bgM_o (by omega) (by omega)).trans h42
    have q1 : C (d - 1) 229 [.ref 46, .int (nI 0), .int x] S0 (bgM 70 r M) N = some (some (.int v1), (apM l1 (r + 1) (bgM 70 r M)), N) := m1 0 (by omega) rfl (d - 1) (bgM 70 r M) N (r + 1) (by omega) (by omega) rfl b41 b42
    have s3_1 : (apM l1 (r + 1) (bgM 70 r M)) 46 40 = nI ((r + 1) + l1.length) := apM_3 l1 (r + 1) (bgM 70 r M) rfl
    have s41_1 : (apM l1 (r + 1) (bgM 70 r M)) 46 41 = nI ks := (apM_o (by omega) (by omega) l1 (r + 1) (bgM 70 r M)).trans b41
    have s42_1 : (apM l1 (r + 1) (bgM 70 r M)) 46 42 = nI nm := (apM_o (by omega) (by omega) l1 (r + 1) (bgM 70 r M)).trans b42
    show _ = some (some (Value.int (v1 * nI 2)), apM l1 (r + 1) (bgM 70 r M), N)
    refine eX11_givesAs (by omega) ?_
    have hk8 : k = 0 ∨ k = 1 ∨ k = 2 ∨ k = 3 ∨ k = 4 ∨ k = 5 ∨ k = 6 ∨ k = 7 := by omega
    rcases hk8 with rfl | rfl | rfl | rfl | rfl | rfl | rfl | rfl
    · exact absurd hrn (by decide)
    · exact absurd hrn (by decide)
    · exact absurd hrn (by decide)
    · exact absurd hrn (by decide)
    · exact absurd hrn (by decide)
    · exact absurd hrn (by decide)
    · have e := bX11_givesAs_0 (d - 1) (nI 6) x M N
      simp (disch := omega) only [z0, z1, z2, z3, z4, z5, z6, z7, z8, z9, z10, z11, z12, z13, z14, z15, z16, z17, z18, z19, z20, z24, z26, z30, z31, z40, z41, z50, z54, z60, z70, z80, z81, z99, z100, z200, z255, z599, z1000, z1299, z4096, z1000000, lw0, lw1, lw2, lw3, lw4, lw5, lw6, lw7, lw12, lw50, lw99, lw255, lw599, lw4096, bI_ok, ble_t, Int.cast_ofNat_Int,  decide_true, decide_false, bI_0, bI_1, b_tf, b_ft, eq_self, n_1, n_2, n_3, n_4, n_5, n_6, n_7, n_8, if_true, if_false, jin, ncl, cond_true, cond_false, Option.bind_some, j_ov, j_oi, j_ol, nle, nlt, neq, nI_add, nmul, nsub, ndiv, nrem2, if_pos, if_neg, Nat.zero_add, Nat.add_zero, j_w_ap, decide_eq_true, decide_eq_false, Bool.true_or, Bool.or_true, Bool.false_or, Bool.or_false, Bool.and_true, Bool.true_and, Bool.false_and, Bool.and_false, Bool.not_true, Bool.not_false, (show (70 : Int32) = nI 70 from rfl), bb, b41, b42, q1, s41_1] at e
      exact e
    · exact absurd hrn (by decide)
theorem E_10 (hks : ks < 8) (hnm : nm < 50) (A1 : ∀ x, Ev ks nm 0 (rn ks 0) 2 x) : ∀ x, Ev ks nm 1 10 3 x := by
  intro x
  obtain ⟨v1, l1, k1, c1, m1⟩ := A1 x
  have hl : (10 :: l1 : List Nat).length < 2 ^ 3 := by
    simp only [List.length_cons, List.length_append, List.length_nil]
    omega
  refine ⟨v1 * nI 2, 10 :: l1, hl, ?_, ?_⟩
  · intro d dep M N r hd hdep hr h3 h4 h31
    simp only [List.length_cons, List.length_append, List.length_nil] at hr
    refine eX0_run (by omega) ((X_bg (by omega) h3).trans ?_)
    have e := bX0_run_19 (d - 1) (nI 10) x (nI dep) (pgC 10 r M) N
    have g3 : pgC 10 r M 30 3 = nI r := (pgC_o (by omega)).trans h3
    have g4 : pgC 10 r M 30 4 = nI nm := (pgC_o (by omega)).trans h4
    have b4 : bgC 10 r M 30 4 = nI nm := (bgC_o (by omega) (by omega)).trans h4
    have b31 : bgC 10 r M 31 nm = nI ks := (bgC_o (by omega) (by omega)).trans h31
    have q1 : C (d - 1) 7 [.ref 30, .int (nI 0), .int x, .int (nI dep)] S0 (bgC 10 r M) N = some (some (.int v1), (apC l1 (r + 1) (bgC 10 r M)), N) := X_call (by omega) hnm b4 b31 (X_from0 (by omega) hks (by omega) (c1 _ (dep + 1) (bgC 10 r M) N (r + 1) (by omega) (by omega) (by omega) rfl b4 b31))
    have s3_1 : (apC l1 (r + 1) (bgC 10 r M)) 30 3 = nI ((r + 1) + l1.length) := apC_3 l1 (r + 1) (bgC 10 r M) rfl
    have s4_1 : (apC l1 (r + 1) (bgC 10 r M)) 30 4 = nI nm := (apC_o (by omega) (by omega) l1 (r + 1) (bgC 10 r M)).trans b4
    have s31_1 : (apC l1 (r + 1) (bgC 10 r M)) 31 nm = nI ks := (apC_o (by omega) (by omega) l1 (r + 1) (bgC 10 r M)).trans b31
    unfold bgC at q1
    simp (disch := omega) only [z0, z1, z2, z3, z4, z5, z6, z7, z8, z9, z10, z11, z12, z13, z14, z15, z16, z17, z18, z19, z20, z24, z26, z30, z31, z40, z41, z50, z54, z60, z70, z80, z81, z99, z100, z200, z255, z599, z1000, z1299, z4096, z1000000, lw0, lw1, lw2, lw3, lw4, lw5, lw6, lw7, lw12, lw50, lw99, lw255, lw599, lw4096, bI_ok, ble_t, Int.cast_ofNat_Int,  decide_true, decide_false, bI_0, bI_1, b_tf, b_ft, eq_self, n_1, n_2, n_3, n_4, n_5, n_6, n_7, n_8, if_true, if_false, jin, ncl, cond_true, cond_false, Option.bind_some, j_ov, j_oi, j_ol, nle, nlt, neq, nI_add, nmul, nsub, ndiv, nrem2, if_pos, if_neg, Nat.zero_add, Nat.add_zero, j_w_ap, decide_eq_true, decide_eq_false, Bool.true_or, Bool.or_true, Bool.false_or, Bool.or_false, Bool.and_true, Bool.true_and, Bool.false_and, Bool.and_false, Bool.not_true, Bool.not_false, g3, g4, (show (10 : Int32) = nI 10 from rfl), q1] at e
    exact e
  · intro k hk hrn d M N r hd hr h40 h41 h42
    simp only [List.length_cons, List.length_append, List.length_nil] at hr
    have bb := M_bg (d := d - 1) (p := 10) (M := M) (N := N) (by omega) (by omega) h40
    have b41 : bgM 10 r M 46 41 = nI ks := (bgM_o (by omega) (by omega)).trans h41
    have b42 : bgM 10 r M 46 42 = nI nm := (bgM_o (by omega) (by omega)).trans h42
    have q1 : C (d - 1) 229 [.ref 46, .int (nI ks), .int x] S0 (bgM 10 r M) N = some (some (.int v1), (apM l1 (r + 1) (bgM 10 r M)), N) := m1 ks hks rfl (d - 1) (bgM 10 r M) N (r + 1) (by omega) (by omega) rfl b41 b42
    have s3_1 : (apM l1 (r + 1) (bgM 10 r M)) 46 40 = nI ((r + 1) + l1.length) := apM_3 l1 (r + 1) (bgM 10 r M) rfl
    have s41_1 : (apM l1 (r + 1) (bgM 10 r M)) 46 41 = nI ks := (apM_o (by omega) (by omega) l1 (r + 1) (bgM 10 r M)).trans b41
    have s42_1 : (apM l1 (r + 1) (bgM 10 r M)) 46 42 = nI nm := (apM_o (by omega) (by omega) l1 (r + 1) (bgM 10 r M)).trans b42
    show _ = some (some (Value.int (v1 * nI 2)), apM l1 (r + 1) (bgM 10 r M), N)
    refine eX11_owesAs (by omega) ?_
    have hk8 : k = 0 ∨ k = 1 ∨ k = 2 ∨ k = 3 ∨ k = 4 ∨ k = 5 ∨ k = 6 ∨ k = 7 := by omega
    rcases hk8 with rfl | rfl | rfl | rfl | rfl | rfl | rfl | rfl
    · have e := bX11_owesAs_0 (d - 1) (nI 0) x M N
      simp (disch := omega) only [z0, z1, z2, z3, z4, z5, z6, z7, z8, z9, z10, z11, z12, z13, z14, z15, z16, z17, z18, z19, z20, z24, z26, z30, z31, z40, z41, z50, z54, z60, z70, z80, z81, z99, z100, z200, z255, z599, z1000, z1299, z4096, z1000000, lw0, lw1, lw2, lw3, lw4, lw5, lw6, lw7, lw12, lw50, lw99, lw255, lw599, lw4096, bI_ok, ble_t, Int.cast_ofNat_Int,  decide_true, decide_false, bI_0, bI_1, b_tf, b_ft, eq_self, n_1, n_2, n_3, n_4, n_5, n_6, n_7, n_8, if_true, if_false, jin, ncl, cond_true, cond_false, Option.bind_some, j_ov, j_oi, j_ol, nle, nlt, neq, nI_add, nmul, nsub, ndiv, nrem2, if_pos, if_neg, Nat.zero_add, Nat.add_zero, j_w_ap, decide_eq_true, decide_eq_false, Bool.true_or, Bool.or_true, Bool.false_or, Bool.or_false, Bool.and_true, Bool.true_and, Bool.false_and, Bool.and_false, Bool.not_true, Bool.not_false, (show (10 : Int32) = nI 10 from rfl), bb, b41, b42, q1, s41_1] at e
      exact e
    · have e := bX11_owesAs_0 (d - 1) (nI 1) x M N
      simp (disch := omega) only [z0, z1, z2, z3, z4, z5, z6, z7, z8, z9, z10, z11, z12, z13, z14, z15, z16, z17, z18, z19, z20, z24, z26, z30, z31, z40, z41, z50, z54, z60, z70, z80, z81, z99, z100, z200, z255, z599, z1000, z1299, z4096, z1000000, lw0, lw1, lw2, lw3, lw4, lw5, lw6, lw7, lw12, lw50, lw99, lw255, lw599, lw4096, bI_ok, ble_t, Int.cast_ofNat_Int,  decide_true, decide_false, bI_0, bI_1, b_tf, b_ft, eq_self, n_1, n_2, n_3, n_4, n_5, n_6, n_7, n_8, if_true, if_false, jin, ncl, cond_true, cond_false, Option.bind_some, j_ov, j_oi, j_ol, nle, nlt, neq, nI_add, nmul, nsub, ndiv, nrem2, if_pos, if_neg, Nat.zero_add, Nat.add_zero, j_w_ap, decide_eq_true, decide_eq_false, Bool.true_or, Bool.or_true, Bool.false_or, Bool.or_false, Bool.and_true, Bool.true_and, Bool.false_and, Bool.and_false, Bool.not_true, Bool.not_false, (show (10 : Int32) = nI 10 from rfl), bb, b41, b42, q1, s41_1] at e
      exact e
    · exact absurd hrn (by decide)
    · exact absurd hrn (by decide)
    · have e := bX11_owesAs_0 (d - 1) (nI 4) x M N
      simp (disch := omega) only [z0, z1, z2, z3, z4, z5, z6, z7, z8, z9, z10, z11, z12, z13, z14, z15, z16, z17, z18, z19, z20, z24, z26, z30, z31, z40, z41, z50, z54, z60, z70, z80, z81, z99, z100, z200, z255, z599, z1000, z1299, z4096, z1000000, lw0, lw1, lw2, lw3, lw4, lw5, lw6, lw7, lw12, lw50, lw99, lw255, lw599, lw4096, bI_ok, ble_t, Int.cast_ofNat_Int,  decide_true, decide_false, bI_0, bI_1, b_tf, b_ft, eq_self, n_1, n_2, n_3, n_4, n_5, n_6, n_7, n_8, if_true, if_false, jin, ncl, cond_true, cond_false, Option.bind_some, j_ov, j_oi, j_ol, nle, nlt, neq, nI_add, nmul, nsub, ndiv, nrem2, if_pos, if_neg, Nat.zero_add, Nat.add_zero, j_w_ap, decide_eq_true, decide_eq_false, Bool.true_or, Bool.or_true, Bool.false_or, Bool.or_false, Bool.and_true, Bool.true_and, Bool.false_and, Bool.and_false, Bool.not_true, Bool.not_false, (show (10 : Int32) = nI 10 from rfl), bb, b41, b42, q1, s41_1] at e
      exact e
    · exact absurd hrn (by decide)
    · have e := bX11_owesAs_0 (d - 1) (nI 6) x M N
      simp (disch := omega) only [z0, z1, z2, z3, z4, z5, z6, z7, z8, z9, z10, z11, z12, z13, z14, z15, z16, z17, z18, z19, z20, z24, z26, z30, z31, z40, z41, z50, z54, z60, z70, z80, z81, z99, z100, z200, z255, z599, z1000, z1299, z4096, z1000000, lw0, lw1, lw2, lw3, lw4, lw5, lw6, lw7, lw12, lw50, lw99, lw255, lw599, lw4096, bI_ok, ble_t, Int.cast_ofNat_Int,  decide_true, decide_false, bI_0, bI_1, b_tf, b_ft, eq_self, n_1, n_2, n_3, n_4, n_5, n_6, n_7, n_8, if_true, if_false, jin, ncl, cond_true, cond_false, Option.bind_some, j_ov, j_oi, j_ol, nle, nlt, neq, nI_add, nmul, nsub, ndiv, nrem2, if_pos, if_neg, Nat.zero_add, Nat.add_zero, j_w_ap, decide_eq_true, decide_eq_false, Bool.true_or, Bool.or_true, Bool.false_or, Bool.or_false, Bool.and_true, Bool.true_and, Bool.false_and, Bool.and_false, Bool.not_true, Bool.not_false, (show (10 : Int32) = nI 10 from rfl), bb, b41, b42, q1, s41_1] at e
      exact e
    · exact absurd hrn (by decide)
theorem E_40 (hks : ks < 8) (hnm : nm < 50) (A1 : ∀ x, Ev ks nm 2 11 1 x) : ∀ x, Ev ks nm 2 40 2 x := by
  intro x
  obtain ⟨v1, l1, k1, c1, m1⟩ := A1 x
  have hl : (40 :: l1 : List Nat).length < 2 ^ 2 := by
    simp only [List.length_cons, List.length_append, List.length_nil]
    omega
  refine ⟨v1 * nI 3, 40 :: l1, hl, ?_, ?_⟩
  · intro d dep M N r hd hdep hr h3 h4 h31
    simp only [List.length_cons, List.length_append, List.length_nil] at hr
    refine eX0_run (by omega) ((X_bg (by omega) h3).trans ?_)
    have e := bX0_run_19 (d - 1) (nI 40) x (nI dep) (pgC 40 r M) N
    have g3 : pgC 40 r M 30 3 = nI r := (pgC_o (by omega)).trans h3
    have g4 : pgC 40 r M 30 4 = nI nm := (pgC_o (by omega)).trans h4
    have b4 : bgC 40 r M 30 4 = nI nm := (bgC_o (by omega) (by omega)).trans h4
    have b31 : bgC 40 r M 31 nm = nI ks := (bgC_o (by omega) (by omega)).trans h31
    have q1 : C (d - 1) 8 [.ref 30, .int (nI 2), .int (nI 2), .int x, .int (nI dep)] S0 (bgC 40 r M) N = some (some (.int v1), (apC l1 (r + 1) (bgC 40 r M)), N) := X_from2 (by omega) (by omega) (by omega) (c1 _ (dep + 1) (bgC 40 r M) N (r + 1) (by omega) (by omega) (by omega) rfl b4 b31)
    have s3_1 : (apC l1 (r + 1) (bgC 40 r M)) 30 3 = nI ((r + 1) + l1.length) := apC_3 l1 (r + 1) (bgC 40 r M) rfl
    have s4_1 : (apC l1 (r + 1) (bgC 40 r M)) 30 4 = nI nm := (apC_o (by omega) (by omega) l1 (r + 1) (bgC 40 r M)).trans b4
    have s31_1 : (apC l1 (r + 1) (bgC 40 r M)) 31 nm = nI ks := (apC_o (by omega) (by omega) l1 (r + 1) (bgC 40 r M)).trans b31
    unfold bgC at q1
    simp (disch := omega) only [z0, z1, z2, z3, z4, z5, z6, z7, z8, z9, z10, z11, z12, z13, z14, z15, z16, z17, z18, z19, z20, z24, z26, z30, z31, z40, z41, z50, z54, z60, z70, z80, z81, z99, z100, z200, z255, z599, z1000, z1299, z4096, z1000000, lw0, lw1, lw2, lw3, lw4, lw5, lw6, lw7, lw12, lw50, lw99, lw255, lw599, lw4096, bI_ok, ble_t, Int.cast_ofNat_Int,  decide_true, decide_false, bI_0, bI_1, b_tf, b_ft, eq_self, n_1, n_2, n_3, n_4, n_5, n_6, n_7, n_8, if_true, if_false, jin, ncl, cond_true, cond_false, Option.bind_some, j_ov, j_oi, j_ol, nle, nlt, neq, nI_add, nmul, nsub, ndiv, nrem2, if_pos, if_neg, Nat.zero_add, Nat.add_zero, j_w_ap, decide_eq_true, decide_eq_false, Bool.true_or, Bool.or_true, Bool.false_or, Bool.or_false, Bool.and_true, Bool.true_and, Bool.false_and, Bool.and_false, Bool.not_true, Bool.not_false, g3, g4, (show (40 : Int32) = nI 40 from rfl), q1] at e
    exact e
  · intro k hk hrn d M N r hd hr h40 h41 h42
    simp only [List.length_cons, List.length_append, List.length_nil] at hr
    have bb := M_bg (d := d - 1) (p := 40) (M := M) (N := N) (by omega) (by omega) h40
    have b41 : bgM 40 r M 46 41 = nI ks := (bgM_o (by omega) (by omega)).trans h41
    have b42 : bgM 40 r M 46 42 = nI nm := (bgM_o (by omega) (by omega)).trans h42
    have q1 : C (d - 1) 231 [.ref 46, .int (nI 2), .int x] S0 (bgM 40 r M) N = some (some (.int v1), (apM l1 (r + 1) (bgM 40 r M)), N) := m1 2 (by omega) rfl (d - 1) (bgM 40 r M) N (r + 1) (by omega) (by omega) rfl b41 b42
    have s3_1 : (apM l1 (r + 1) (bgM 40 r M)) 46 40 = nI ((r + 1) + l1.length) := apM_3 l1 (r + 1) (bgM 40 r M) rfl
    have s41_1 : (apM l1 (r + 1) (bgM 40 r M)) 46 41 = nI ks := (apM_o (by omega) (by omega) l1 (r + 1) (bgM 40 r M)).trans b41
    have s42_1 : (apM l1 (r + 1) (bgM 40 r M)) 46 42 = nI nm := (apM_o (by omega) (by omega) l1 (r + 1) (bgM 40 r M)).trans b42
    show _ = some (some (Value.int (v1 * nI 3)), apM l1 (r + 1) (bgM 40 r M), N)
    refine eX11_lacksAs (by omega) ?_
    have hk8 : k = 0 ∨ k = 1 ∨ k = 2 ∨ k = 3 ∨ k = 4 ∨ k = 5 ∨ k = 6 ∨ k = 7 := by omega
    rcases hk8 with rfl | rfl | rfl | rfl | rfl | rfl | rfl | rfl
    · exact absurd hrn (by decide)
    · exact absurd hrn (by decide)
    · exact absurd hrn (by decide)
    · have e := bX11_lacksAs_0 (d - 1) (nI 3) x M N
      simp (disch := omega) only [z0, z1, z2, z3, z4, z5, z6, z7, z8, z9, z10, z11, z12, z13, z14, z15, z16, z17, z18, z19, z20, z24, z26, z30, z31, z40, z41, z50, z54, z60, z70, z80, z81, z99, z100, z200, z255, z599, z1000, z1299, z4096, z1000000, lw0, lw1, lw2, lw3, lw4, lw5, lw6, lw7, lw12, lw50, lw99, lw255, lw599, lw4096, bI_ok, ble_t, Int.cast_ofNat_Int,  decide_true, decide_false, bI_0, bI_1, b_tf, b_ft, eq_self, n_1, n_2, n_3, n_4, n_5, n_6, n_7, n_8, if_true, if_false, jin, ncl, cond_true, cond_false, Option.bind_some, j_ov, j_oi, j_ol, nle, nlt, neq, nI_add, nmul, nsub, ndiv, nrem2, if_pos, if_neg, Nat.zero_add, Nat.add_zero, j_w_ap, decide_eq_true, decide_eq_false, Bool.true_or, Bool.or_true, Bool.false_or, Bool.or_false, Bool.and_true, Bool.true_and, Bool.false_and, Bool.and_false, Bool.not_true, Bool.not_false, (show (40 : Int32) = nI 40 from rfl), bb, b41, b42, q1, s41_1] at e
      exact e
    · exact absurd hrn (by decide)
    · have e := bX11_lacksAs_0 (d - 1) (nI 5) x M N
      simp (disch := omega) only [z0, z1, z2, z3, z4, z5, z6, z7, z8, z9, z10, z11, z12, z13, z14, z15, z16, z17, z18, z19, z20, z24, z26, z30, z31, z40, z41, z50, z54, z60, z70, z80, z81, z99, z100, z200, z255, z599, z1000, z1299, z4096, z1000000, lw0, lw1, lw2, lw3, lw4, lw5, lw6, lw7, lw12, lw50, lw99, lw255, lw599, lw4096, bI_ok, ble_t, Int.cast_ofNat_Int,  decide_true, decide_false, bI_0, bI_1, b_tf, b_ft, eq_self, n_1, n_2, n_3, n_4, n_5, n_6, n_7, n_8, if_true, if_false, jin, ncl, cond_true, cond_false, Option.bind_some, j_ov, j_oi, j_ol, nle, nlt, neq, nI_add, nmul, nsub, ndiv, nrem2, if_pos, if_neg, Nat.zero_add, Nat.add_zero, j_w_ap, decide_eq_true, decide_eq_false, Bool.true_or, Bool.or_true, Bool.false_or, Bool.or_false, Bool.and_true, Bool.true_and, Bool.false_and, Bool.and_false, Bool.not_true, Bool.not_false, (show (40 : Int32) = nI 40 from rfl), bb, b41, b42, q1, s41_1] at e
      exact e
    · exact absurd hrn (by decide)
    · exact absurd hrn (by decide)
theorem E_50 (hks : ks < 8) (hnm : nm < 50) (A1 : ∀ x, Ev ks nm 2 11 1 x) (A2 : ∀ x, Ev ks nm 0 (rn ks 0) 2 x) : ∀ x, Ev ks nm 2 50 3 x := by
  intro x
  obtain ⟨v1, l1, k1, c1, m1⟩ := A1 x
  obtain ⟨v2, l2, k2, c2, m2⟩ := A2 (nI 2)
  have hl : (50 :: (l1 ++ l2) : List Nat).length < 2 ^ 3 := by
    simp only [List.length_cons, List.length_append, List.length_nil]
    omega
  refine ⟨v1 - v2, 50 :: (l1 ++ l2), hl, ?_, ?_⟩
  · intro d dep M N r hd hdep hr h3 h4 h31
    simp only [List.length_cons, List.length_append, List.length_nil] at hr
    refine eX0_run (by omega) ((X_bg (by omega) h3).trans ?_)
    have e := bX0_run_19 (d - 1) (nI 50) x (nI dep) (pgC 50 r M) N
    have g3 : pgC 50 r M 30 3 = nI r := (pgC_o (by omega)).trans h3
    have g4 : pgC 50 r M 30 4 = nI nm := (pgC_o (by omega)).trans h4
    have b4 : bgC 50 r M 30 4 = nI nm := (bgC_o (by omega) (by omega)).trans h4
    have b31 : bgC 50 r M 31 nm = nI ks := (bgC_o (by omega) (by omega)).trans h31
    have q1 : C (d - 1) 8 [.ref 30, .int (nI 1), .int (nI 2), .int x, .int (nI dep)] S0 (bgC 50 r M) N = some (some (.int v1), (apC l1 (r + 1) (bgC 50 r M)), N) := X_from2 (by omega) (by omega) (by omega) (c1 _ (dep + 1) (bgC 50 r M) N (r + 1) (by omega) (by omega) (by omega) rfl b4 b31)
    have s3_1 : (apC l1 (r + 1) (bgC 50 r M)) 30 3 = nI ((r + 1) + l1.length) := apC_3 l1 (r + 1) (bgC 50 r M) rfl
    have s4_1 : (apC l1 (r + 1) (bgC 50 r M)) 30 4 = nI nm := (apC_o (by omega) (by omega) l1 (r + 1) (bgC 50 r M)).trans b4
    have s31_1 : (apC l1 (r + 1) (bgC 50 r M)) 31 nm = nI ks := (apC_o (by omega) (by omega) l1 (r + 1) (bgC 50 r M)).trans b31
    have q2 : C (d - 1) 7 [.ref 30, .int (nI 0), .int (nI 2), .int (nI dep)] S0 (apC l1 (r + 1) (bgC 50 r M)) N = some (some (.int v2), (apC l2 ((r + 1) + l1.length) (apC l1 (r + 1) (bgC 50 r M))), N) := X_call (by omega) hnm s4_1 s31_1 (X_from0 (by omega) hks (by omega) (c2 _ (dep + 1) (apC l1 (r + 1) (bgC 50 r M)) N ((r + 1) + l1.length) (by omega) (by omega) (by omega) s3_1 s4_1 s31_1))
    have s3_2 : (apC l2 ((r + 1) + l1.length) (apC l1 (r + 1) (bgC 50 r M))) 30 3 = nI (((r + 1) + l1.length) + l2.length) := apC_3 l2 ((r + 1) + l1.length) (apC l1 (r + 1) (bgC 50 r M)) s3_1
    have s4_2 : (apC l2 ((r + 1) + l1.length) (apC l1 (r + 1) (bgC 50 r M))) 30 4 = nI nm := (apC_o (by omega) (by omega) l2 ((r + 1) + l1.length) (apC l1 (r + 1) (bgC 50 r M))).trans s4_1
    have s31_2 : (apC l2 ((r + 1) + l1.length) (apC l1 (r + 1) (bgC 50 r M))) 31 nm = nI ks := (apC_o (by omega) (by omega) l2 ((r + 1) + l1.length) (apC l1 (r + 1) (bgC 50 r M))).trans s31_1
    unfold bgC at q1 q2
    simp (disch := omega) only [z0, z1, z2, z3, z4, z5, z6, z7, z8, z9, z10, z11, z12, z13, z14, z15, z16, z17, z18, z19, z20, z24, z26, z30, z31, z40, z41, z50, z54, z60, z70, z80, z81, z99, z100, z200, z255, z599, z1000, z1299, z4096, z1000000, lw0, lw1, lw2, lw3, lw4, lw5, lw6, lw7, lw12, lw50, lw99, lw255, lw599, lw4096, bI_ok, ble_t, Int.cast_ofNat_Int,  decide_true, decide_false, bI_0, bI_1, b_tf, b_ft, eq_self, n_1, n_2, n_3, n_4, n_5, n_6, n_7, n_8, if_true, if_false, jin, ncl, cond_true, cond_false, Option.bind_some, j_ov, j_oi, j_ol, nle, nlt, neq, nI_add, nmul, nsub, ndiv, nrem2, if_pos, if_neg, Nat.zero_add, Nat.add_zero, j_w_ap, decide_eq_true, decide_eq_false, Bool.true_or, Bool.or_true, Bool.false_or, Bool.or_false, Bool.and_true, Bool.true_and, Bool.false_and, Bool.and_false, Bool.not_true, Bool.not_false, g3, g4, (show (50 : Int32) = nI 50 from rfl), q1, q2] at e
    show _ = some (some (Value.int (v1 - v2)), S0, apC (l1 ++ l2) (r + 1) (bgC 50 r M), N)
    rw [apC_a]
    unfold bgC
    exact e
  · intro k hk hrn d M N r hd hr h40 h41 h42
    simp only [List.length_cons, List.length_append, List.length_nil] at hr
    have bb := M_bg (d := d - 1) (p := 50) (M := M) (N := N) (by omega) (by omega) h40
    have b41 : bgM 50 r M 46 41 = nI ks := (bgM_o (by omega) (by omega)).trans h41
    have b42 : bgM 50 r M 46 42 = nI nm := (bgM_o (by omega) (by omega)).trans h42
    have q1 : C (d - 1) 231 [.ref 46, .int (nI 1), .int x] S0 (bgM 50 r M) N = some (some (.int v1), (apM l1 (r + 1) (bgM 50 r M)), N) := m1 1 (by omega) rfl (d - 1) (bgM 50 r M) N (r + 1) (by omega) (by omega) rfl b41 b42
    have s3_1 : (apM l1 (r + 1) (bgM 50 r M)) 46 40 = nI ((r + 1) + l1.length) := apM_3 l1 (r + 1) (bgM 50 r M) rfl
    have s41_1 : (apM l1 (r + 1) (bgM 50 r M)) 46 41 = nI ks := (apM_o (by omega) (by omega) l1 (r + 1) (bgM 50 r M)).trans b41
    have s42_1 : (apM l1 (r + 1) (bgM 50 r M)) 46 42 = nI nm := (apM_o (by omega) (by omega) l1 (r + 1) (bgM 50 r M)).trans b42
    have q2 : C (d - 1) 229 [.ref 46, .int (nI ks), .int (nI 2)] S0 (apM l1 (r + 1) (bgM 50 r M)) N = some (some (.int v2), (apM l2 ((r + 1) + l1.length) (apM l1 (r + 1) (bgM 50 r M))), N) := m2 ks hks rfl (d - 1) (apM l1 (r + 1) (bgM 50 r M)) N ((r + 1) + l1.length) (by omega) (by omega) s3_1 s41_1 s42_1
    have s3_2 : (apM l2 ((r + 1) + l1.length) (apM l1 (r + 1) (bgM 50 r M))) 46 40 = nI (((r + 1) + l1.length) + l2.length) := apM_3 l2 ((r + 1) + l1.length) (apM l1 (r + 1) (bgM 50 r M)) s3_1
    have s41_2 : (apM l2 ((r + 1) + l1.length) (apM l1 (r + 1) (bgM 50 r M))) 46 41 = nI ks := (apM_o (by omega) (by omega) l2 ((r + 1) + l1.length) (apM l1 (r + 1) (bgM 50 r M))).trans s41_1
    have s42_2 : (apM l2 ((r + 1) + l1.length) (apM l1 (r + 1) (bgM 50 r M))) 46 42 = nI nm := (apM_o (by omega) (by omega) l2 ((r + 1) + l1.length) (apM l1 (r + 1) (bgM 50 r M))).trans s42_1
    show _ = some (some (Value.int (v1 - v2)), apM (l1 ++ l2) (r + 1) (bgM 50 r M), N)
    rw [apM_a]
    refine eX11_lacksAs (by omega) ?_
    have hk8 : k = 0 ∨ k = 1 ∨ k = 2 ∨ k = 3 ∨ k = 4 ∨ k = 5 ∨ k = 6 ∨ k = 7 := by omega
    rcases hk8 with rfl | rfl | rfl | rfl | rfl | rfl | rfl | rfl
    · exact absurd hrn (by decide)
    · exact absurd hrn (by decide)
    · exact absurd hrn (by decide)
    · exact absurd hrn (by decide)
    · have e := bX11_lacksAs_0 (d - 1) (nI 4) x M N
      simp (disch := omega) only [z0, z1, z2, z3, z4, z5, z6, z7, z8, z9, z10, z11, z12, z13, z14, z15, z16, z17, z18, z19, z20, z24, z26, z30, z31, z40, z41, z50, z54, z60, z70, z80, z81, z99, z100, z200, z255, z599, z1000, z1299, z4096, z1000000, lw0, lw1, lw2, lw3, lw4, lw5, lw6, lw7, lw12, lw50, lw99, lw255, lw599, lw4096, bI_ok, ble_t, Int.cast_ofNat_Int,  decide_true, decide_false, bI_0, bI_1, b_tf, b_ft, eq_self, n_1, n_2, n_3, n_4, n_5, n_6, n_7, n_8, if_true, if_false, jin, ncl, cond_true, cond_false, Option.bind_some, j_ov, j_oi, j_ol, nle, nlt, neq, nI_add, nmul, nsub, ndiv, nrem2, if_pos, if_neg, Nat.zero_add, Nat.add_zero, j_w_ap, decide_eq_true, decide_eq_false, Bool.true_or, Bool.or_true, Bool.false_or, Bool.or_false, Bool.and_true, Bool.true_and, Bool.false_and, Bool.and_false, Bool.not_true, Bool.not_false, (show (50 : Int32) = nI 50 from rfl), bb, b41, b42, q1, q2, s41_1, s41_2] at e
      exact e
    · exact absurd hrn (by decide)
    · exact absurd hrn (by decide)
    · have e := bX11_lacksAs_0 (d - 1) (nI 7) x M N
      simp (disch := omega) only [z0, z1, z2, z3, z4, z5, z6, z7, z8, z9, z10, z11, z12, z13, z14, z15, z16, z17, z18, z19, z20, z24, z26, z30, z31, z40, z41, z50, z54, z60, z70, z80, z81, z99, z100, z200, z255, z599, z1000, z1299, z4096, z1000000, lw0, lw1, lw2, lw3, lw4, lw5, lw6, lw7, lw12, lw50, lw99, lw255, lw599, lw4096, bI_ok, ble_t, Int.cast_ofNat_Int,  decide_true, decide_false, bI_0, bI_1, b_tf, b_ft, eq_self, n_1, n_2, n_3, n_4, n_5, n_6, n_7, n_8, if_true, if_false, jin, ncl, cond_true, cond_false, Option.bind_some, j_ov, j_oi, j_ol, nle, nlt, neq, nI_add, nmul, nsub, ndiv, nrem2, if_pos, if_neg, Nat.zero_add, Nat.add_zero, j_w_ap, decide_eq_true, decide_eq_false, Bool.true_or, Bool.or_true, Bool.false_or, Bool.or_false, Bool.and_true, Bool.true_and, Bool.false_and, Bool.and_false, Bool.not_true, Bool.not_false, (show (50 : Int32) = nI 50 from rfl), bb, b41, b42, q1, q2, s41_1, s41_2] at e
      exact e
theorem E_30 (hks : ks < 8) (hnm : nm < 50) (A1 : ∀ x, Ev ks nm 1 10 3 x) : ∀ x, Ev ks nm 1 30 4 x := by
  intro x
  obtain ⟨v1, l1, k1, c1, m1⟩ := A1 x
  have hl : (30 :: l1 : List Nat).length < 2 ^ 4 := by
    simp only [List.length_cons, List.length_append, List.length_nil]
    omega
  refine ⟨-v1, 30 :: l1, hl, ?_, ?_⟩
  · intro d dep M N r hd hdep hr h3 h4 h31
    simp only [List.length_cons, List.length_append, List.length_nil] at hr
    refine eX0_run (by omega) ((X_bg (by omega) h3).trans ?_)
    have e := bX0_run_19 (d - 1) (nI 30) x (nI dep) (pgC 30 r M) N
    have g3 : pgC 30 r M 30 3 = nI r := (pgC_o (by omega)).trans h3
    have g4 : pgC 30 r M 30 4 = nI nm := (pgC_o (by omega)).trans h4
    have b4 : bgC 30 r M 30 4 = nI nm := (bgC_o (by omega) (by omega)).trans h4
    have b31 : bgC 30 r M 31 nm = nI ks := (bgC_o (by omega) (by omega)).trans h31
    have q1 : C (d - 1) 8 [.ref 30, .int (nI 0), .int (nI 1), .int x, .int (nI dep)] S0 (bgC 30 r M) N = some (some (.int v1), (apC l1 (r + 1) (bgC 30 r M)), N) := X_from1 (by omega) (by omega) (by omega) (c1 _ (dep + 1) (bgC 30 r M) N (r + 1) (by omega) (by omega) (by omega) rfl b4 b31)
    have s3_1 : (apC l1 (r + 1) (bgC 30 r M)) 30 3 = nI ((r + 1) + l1.length) := apC_3 l1 (r + 1) (bgC 30 r M) rfl
    have s4_1 : (apC l1 (r + 1) (bgC 30 r M)) 30 4 = nI nm := (apC_o (by omega) (by omega) l1 (r + 1) (bgC 30 r M)).trans b4
    have s31_1 : (apC l1 (r + 1) (bgC 30 r M)) 31 nm = nI ks := (apC_o (by omega) (by omega) l1 (r + 1) (bgC 30 r M)).trans b31
    unfold bgC at q1
    simp (disch := omega) only [z0, z1, z2, z3, z4, z5, z6, z7, z8, z9, z10, z11, z12, z13, z14, z15, z16, z17, z18, z19, z20, z24, z26, z30, z31, z40, z41, z50, z54, z60, z70, z80, z81, z99, z100, z200, z255, z599, z1000, z1299, z4096, z1000000, lw0, lw1, lw2, lw3, lw4, lw5, lw6, lw7, lw12, lw50, lw99, lw255, lw599, lw4096, bI_ok, ble_t, Int.cast_ofNat_Int,  decide_true, decide_false, bI_0, bI_1, b_tf, b_ft, eq_self, n_1, n_2, n_3, n_4, n_5, n_6, n_7, n_8, if_true, if_false, jin, ncl, cond_true, cond_false, Option.bind_some, j_ov, j_oi, j_ol, nle, nlt, neq, nI_add, nmul, nsub, ndiv, nrem2, if_pos, if_neg, Nat.zero_add, Nat.add_zero, j_w_ap, decide_eq_true, decide_eq_false, Bool.true_or, Bool.or_true, Bool.false_or, Bool.or_false, Bool.and_true, Bool.true_and, Bool.false_and, Bool.and_false, Bool.not_true, Bool.not_false, g3, g4, (show (30 : Int32) = nI 30 from rfl), q1] at e
    exact e
  · intro k hk hrn d M N r hd hr h40 h41 h42
    simp only [List.length_cons, List.length_append, List.length_nil] at hr
    have bb := M_bg (d := d - 1) (p := 30) (M := M) (N := N) (by omega) (by omega) h40
    have b41 : bgM 30 r M 46 41 = nI ks := (bgM_o (by omega) (by omega)).trans h41
    have b42 : bgM 30 r M 46 42 = nI nm := (bgM_o (by omega) (by omega)).trans h42
    have q1 : C (d - 1) 230 [.ref 46, .int (nI 0), .int x] S0 (bgM 30 r M) N = some (some (.int v1), (apM l1 (r + 1) (bgM 30 r M)), N) := m1 0 (by omega) rfl (d - 1) (bgM 30 r M) N (r + 1) (by omega) (by omega) rfl b41 b42
    have s3_1 : (apM l1 (r + 1) (bgM 30 r M)) 46 40 = nI ((r + 1) + l1.length) := apM_3 l1 (r + 1) (bgM 30 r M) rfl
    have s41_1 : (apM l1 (r + 1) (bgM 30 r M)) 46 41 = nI ks := (apM_o (by omega) (by omega) l1 (r + 1) (bgM 30 r M)).trans b41
    have s42_1 : (apM l1 (r + 1) (bgM 30 r M)) 46 42 = nI nm := (apM_o (by omega) (by omega) l1 (r + 1) (bgM 30 r M)).trans b42
    show _ = some (some (Value.int (-v1)), apM l1 (r + 1) (bgM 30 r M), N)
    refine eX11_owesAs (by omega) ?_
    have hk8 : k = 0 ∨ k = 1 ∨ k = 2 ∨ k = 3 ∨ k = 4 ∨ k = 5 ∨ k = 6 ∨ k = 7 := by omega
    rcases hk8 with rfl | rfl | rfl | rfl | rfl | rfl | rfl | rfl
    · exact absurd hrn (by decide)
    · exact absurd hrn (by decide)
    · have e := bX11_owesAs_0 (d - 1) (nI 2) x M N
      simp (disch := omega) only [z0, z1, z2, z3, z4, z5, z6, z7, z8, z9, z10, z11, z12, z13, z14, z15, z16, z17, z18, z19, z20, z24, z26, z30, z31, z40, z41, z50, z54, z60, z70, z80, z81, z99, z100, z200, z255, z599, z1000, z1299, z4096, z1000000, lw0, lw1, lw2, lw3, lw4, lw5, lw6, lw7, lw12, lw50, lw99, lw255, lw599, lw4096, bI_ok, ble_t, Int.cast_ofNat_Int,  decide_true, decide_false, bI_0, bI_1, b_tf, b_ft, eq_self, n_1, n_2, n_3, n_4, n_5, n_6, n_7, n_8, if_true, if_false, jin, ncl, cond_true, cond_false, Option.bind_some, j_ov, j_oi, j_ol, nle, nlt, neq, nI_add, nmul, nsub, ndiv, nrem2, if_pos, if_neg, Nat.zero_add, Nat.add_zero, j_w_ap, decide_eq_true, decide_eq_false, Bool.true_or, Bool.or_true, Bool.false_or, Bool.or_false, Bool.and_true, Bool.true_and, Bool.false_and, Bool.and_false, Bool.not_true, Bool.not_false, (show (30 : Int32) = nI 30 from rfl), bb, b41, b42, q1, s41_1] at e
      exact e
    · exact absurd hrn (by decide)
    · exact absurd hrn (by decide)
    · exact absurd hrn (by decide)
    · exact absurd hrn (by decide)
    · exact absurd hrn (by decide)
theorem E_41 (hks : ks < 8) (hnm : nm < 50) (A1 : ∀ x, Ev ks nm 1 30 4 x) : ∀ x, Ev ks nm 1 41 5 x := by
  intro x
  obtain ⟨v1, l1, k1, c1, m1⟩ := A1 (x + nI 1)
  have hl : (41 :: l1 : List Nat).length < 2 ^ 5 := by
    simp only [List.length_cons, List.length_append, List.length_nil]
    omega
  refine ⟨v1, 41 :: l1, hl, ?_, ?_⟩
  · intro d dep M N r hd hdep hr h3 h4 h31
    simp only [List.length_cons, List.length_append, List.length_nil] at hr
    refine eX0_run (by omega) ((X_bg (by omega) h3).trans ?_)
    have e := bX0_run_19 (d - 1) (nI 41) x (nI dep) (pgC 41 r M) N
    have g3 : pgC 41 r M 30 3 = nI r := (pgC_o (by omega)).trans h3
    have g4 : pgC 41 r M 30 4 = nI nm := (pgC_o (by omega)).trans h4
    have b4 : bgC 41 r M 30 4 = nI nm := (bgC_o (by omega) (by omega)).trans h4
    have b31 : bgC 41 r M 31 nm = nI ks := (bgC_o (by omega) (by omega)).trans h31
    have q1 : C (d - 1) 8 [.ref 30, .int (nI 2), .int (nI 1), .int (x + nI 1), .int (nI dep)] S0 (bgC 41 r M) N = some (some (.int v1), (apC l1 (r + 1) (bgC 41 r M)), N) := X_from1 (by omega) (by omega) (by omega) (c1 _ (dep + 1) (bgC 41 r M) N (r + 1) (by omega) (by omega) (by omega) rfl b4 b31)
    have s3_1 : (apC l1 (r + 1) (bgC 41 r M)) 30 3 = nI ((r + 1) + l1.length) := apC_3 l1 (r + 1) (bgC 41 r M) rfl
    have s4_1 : (apC l1 (r + 1) (bgC 41 r M)) 30 4 = nI nm := (apC_o (by omega) (by omega) l1 (r + 1) (bgC 41 r M)).trans b4
    have s31_1 : (apC l1 (r + 1) (bgC 41 r M)) 31 nm = nI ks := (apC_o (by omega) (by omega) l1 (r + 1) (bgC 41 r M)).trans b31
    unfold bgC at q1
    simp (disch := omega) only [z0, z1, z2, z3, z4, z5, z6, z7, z8, z9, z10, z11, z12, z13, z14, z15, z16, z17, z18, z19, z20, z24, z26, z30, z31, z40, z41, z50, z54, z60, z70, z80, z81, z99, z100, z200, z255, z599, z1000, z1299, z4096, z1000000, lw0, lw1, lw2, lw3, lw4, lw5, lw6, lw7, lw12, lw50, lw99, lw255, lw599, lw4096, bI_ok, ble_t, Int.cast_ofNat_Int,  decide_true, decide_false, bI_0, bI_1, b_tf, b_ft, eq_self, n_1, n_2, n_3, n_4, n_5, n_6, n_7, n_8, if_true, if_false, jin, ncl, cond_true, cond_false, Option.bind_some, j_ov, j_oi, j_ol, nle, nlt, neq, nI_add, nmul, nsub, ndiv, nrem2, if_pos, if_neg, Nat.zero_add, Nat.add_zero, j_w_ap, decide_eq_true, decide_eq_false, Bool.true_or, Bool.or_true, Bool.false_or, Bool.or_false, Bool.and_true, Bool.true_and, Bool.false_and, Bool.and_false, Bool.not_true, Bool.not_false, g3, g4, (show (41 : Int32) = nI 41 from rfl), q1] at e
    exact e
  · intro k hk hrn d M N r hd hr h40 h41 h42
    simp only [List.length_cons, List.length_append, List.length_nil] at hr
    have bb := M_bg (d := d - 1) (p := 41) (M := M) (N := N) (by omega) (by omega) h40
    have b41 : bgM 41 r M 46 41 = nI ks := (bgM_o (by omega) (by omega)).trans h41
    have b42 : bgM 41 r M 46 42 = nI nm := (bgM_o (by omega) (by omega)).trans h42
    have q1 : C (d - 1) 230 [.ref 46, .int (nI 2), .int (x + nI 1)] S0 (bgM 41 r M) N = some (some (.int v1), (apM l1 (r + 1) (bgM 41 r M)), N) := m1 2 (by omega) rfl (d - 1) (bgM 41 r M) N (r + 1) (by omega) (by omega) rfl b41 b42
    have s3_1 : (apM l1 (r + 1) (bgM 41 r M)) 46 40 = nI ((r + 1) + l1.length) := apM_3 l1 (r + 1) (bgM 41 r M) rfl
    have s41_1 : (apM l1 (r + 1) (bgM 41 r M)) 46 41 = nI ks := (apM_o (by omega) (by omega) l1 (r + 1) (bgM 41 r M)).trans b41
    have s42_1 : (apM l1 (r + 1) (bgM 41 r M)) 46 42 = nI nm := (apM_o (by omega) (by omega) l1 (r + 1) (bgM 41 r M)).trans b42
    show _ = some (some (Value.int (v1)), apM l1 (r + 1) (bgM 41 r M), N)
    refine eX11_owesAs (by omega) ?_
    have hk8 : k = 0 ∨ k = 1 ∨ k = 2 ∨ k = 3 ∨ k = 4 ∨ k = 5 ∨ k = 6 ∨ k = 7 := by omega
    rcases hk8 with rfl | rfl | rfl | rfl | rfl | rfl | rfl | rfl
    · exact absurd hrn (by decide)
    · exact absurd hrn (by decide)
    · exact absurd hrn (by decide)
    · have e := bX11_owesAs_0 (d - 1) (nI 3) x M N
      simp (disch := omega) only [z0, z1, z2, z3, z4, z5, z6, z7, z8, z9, z10, z11, z12, z13, z14, z15, z16, z17, z18, z19, z20, z24, z26, z30, z31, z40, z41, z50, z54, z60, z70, z80, z81, z99, z100, z200, z255, z599, z1000, z1299, z4096, z1000000, lw0, lw1, lw2, lw3, lw4, lw5, lw6, lw7, lw12, lw50, lw99, lw255, lw599, lw4096, bI_ok, ble_t, Int.cast_ofNat_Int,  decide_true, decide_false, bI_0, bI_1, b_tf, b_ft, eq_self, n_1, n_2, n_3, n_4, n_5, n_6, n_7, n_8, if_true, if_false, jin, ncl, cond_true, cond_false, Option.bind_some, j_ov, j_oi, j_ol, nle, nlt, neq, nI_add, nmul, nsub, ndiv, nrem2, if_pos, if_neg, Nat.zero_add, Nat.add_zero, j_w_ap, decide_eq_true, decide_eq_false, Bool.true_or, Bool.or_true, Bool.false_or, Bool.or_false, Bool.and_true, Bool.true_and, Bool.false_and, Bool.and_false, Bool.not_true, Bool.not_false, (show (41 : Int32) = nI 41 from rfl), bb, b41, b42, q1, s41_1] at e
      exact e
    · exact absurd hrn (by decide)
    · have e := bX11_owesAs_0 (d - 1) (nI 5) x M N
      simp (disch := omega) only [z0, z1, z2, z3, z4, z5, z6, z7, z8, z9, z10, z11, z12, z13, z14, z15, z16, z17, z18, z19, z20, z24, z26, z30, z31, z40, z41, z50, z54, z60, z70, z80, z81, z99, z100, z200, z255, z599, z1000, z1299, z4096, z1000000, lw0, lw1, lw2, lw3, lw4, lw5, lw6, lw7, lw12, lw50, lw99, lw255, lw599, lw4096, bI_ok, ble_t, Int.cast_ofNat_Int,  decide_true, decide_false, bI_0, bI_1, b_tf, b_ft, eq_self, n_1, n_2, n_3, n_4, n_5, n_6, n_7, n_8, if_true, if_false, jin, ncl, cond_true, cond_false, Option.bind_some, j_ov, j_oi, j_ol, nle, nlt, neq, nI_add, nmul, nsub, ndiv, nrem2, if_pos, if_neg, Nat.zero_add, Nat.add_zero, j_w_ap, decide_eq_true, decide_eq_false, Bool.true_or, Bool.or_true, Bool.false_or, Bool.or_false, Bool.and_true, Bool.true_and, Bool.false_and, Bool.and_false, Bool.not_true, Bool.not_false, (show (41 : Int32) = nI 41 from rfl), bb, b41, b42, q1, s41_1] at e
      exact e
    · exact absurd hrn (by decide)
    · exact absurd hrn (by decide)
theorem E_80 (hks : ks < 8) (hnm : nm < 50) (A1 : ∀ x, Ev ks nm 1 10 3 x) (A2 : ∀ x, Ev ks nm 2 (rn ks 2) 3 x) : ∀ x, Ev ks nm 1 80 4 x := by
  intro x
  obtain ⟨v1, l1, k1, c1, m1⟩ := A1 x
  obtain ⟨v2, l2, k2, c2, m2⟩ := A2 (nI 2)
  have hl : (80 :: (l1 ++ l2) : List Nat).length < 2 ^ 4 := by
    simp only [List.length_cons, List.length_append, List.length_nil]
    omega
  refine ⟨v1 + v2, 80 :: (l1 ++ l2), hl, ?_, ?_⟩
  · intro d dep M N r hd hdep hr h3 h4 h31
    simp only [List.length_cons, List.length_append, List.length_nil] at hr
    refine eX0_run (by omega) ((X_bg (by omega) h3).trans ?_)
    have e := bX0_run_19 (d - 1) (nI 80) x (nI dep) (pgC 80 r M) N
    have g3 : pgC 80 r M 30 3 = nI r := (pgC_o (by omega)).trans h3
    have g4 : pgC 80 r M 30 4 = nI nm := (pgC_o (by omega)).trans h4
    have b4 : bgC 80 r M 30 4 = nI nm := (bgC_o (by omega) (by omega)).trans h4
    have b31 : bgC 80 r M 31 nm = nI ks := (bgC_o (by omega) (by omega)).trans h31
    have q1 : C (d - 1) 8 [.ref 30, .int (nI 4), .int (nI 1), .int x, .int (nI dep)] S0 (bgC 80 r M) N = some (some (.int v1), (apC l1 (r + 1) (bgC 80 r M)), N) := X_from1 (by omega) (by omega) (by omega) (c1 _ (dep + 1) (bgC 80 r M) N (r + 1) (by omega) (by omega) (by omega) rfl b4 b31)
    have s3_1 : (apC l1 (r + 1) (bgC 80 r M)) 30 3 = nI ((r + 1) + l1.length) := apC_3 l1 (r + 1) (bgC 80 r M) rfl
    have s4_1 : (apC l1 (r + 1) (bgC 80 r M)) 30 4 = nI nm := (apC_o (by omega) (by omega) l1 (r + 1) (bgC 80 r M)).trans b4
    have s31_1 : (apC l1 (r + 1) (bgC 80 r M)) 31 nm = nI ks := (apC_o (by omega) (by omega) l1 (r + 1) (bgC 80 r M)).trans b31
    have q2 : C (d - 1) 7 [.ref 30, .int (nI 2), .int (nI 2), .int (nI dep)] S0 (apC l1 (r + 1) (bgC 80 r M)) N = some (some (.int v2), (apC l2 ((r + 1) + l1.length) (apC l1 (r + 1) (bgC 80 r M))), N) := X_call (by omega) hnm s4_1 s31_1 (X_from2 (by omega) hks (by omega) (c2 _ (dep + 1) (apC l1 (r + 1) (bgC 80 r M)) N ((r + 1) + l1.length) (by omega) (by omega) (by omega) s3_1 s4_1 s31_1))
    have s3_2 : (apC l2 ((r + 1) + l1.length) (apC l1 (r + 1) (bgC 80 r M))) 30 3 = nI (((r + 1) + l1.length) + l2.length) := apC_3 l2 ((r + 1) + l1.length) (apC l1 (r + 1) (bgC 80 r M)) s3_1
    have s4_2 : (apC l2 ((r + 1) + l1.length) (apC l1 (r + 1) (bgC 80 r M))) 30 4 = nI nm := (apC_o (by omega) (by omega) l2 ((r + 1) + l1.length) (apC l1 (r + 1) (bgC 80 r M))).trans s4_1
    have s31_2 : (apC l2 ((r + 1) + l1.length) (apC l1 (r + 1) (bgC 80 r M))) 31 nm = nI ks := (apC_o (by omega) (by omega) l2 ((r + 1) + l1.length) (apC l1 (r + 1) (bgC 80 r M))).trans s31_1
    unfold bgC at q1 q2
    simp (disch := omega) only [z0, z1, z2, z3, z4, z5, z6, z7, z8, z9, z10, z11, z12, z13, z14, z15, z16, z17, z18, z19, z20, z24, z26, z30, z31, z40, z41, z50, z54, z60, z70, z80, z81, z99, z100, z200, z255, z599, z1000, z1299, z4096, z1000000, lw0, lw1, lw2, lw3, lw4, lw5, lw6, lw7, lw12, lw50, lw99, lw255, lw599, lw4096, bI_ok, ble_t, Int.cast_ofNat_Int,  decide_true, decide_false, bI_0, bI_1, b_tf, b_ft, eq_self, n_1, n_2, n_3, n_4, n_5, n_6, n_7, n_8, if_true, if_false, jin, ncl, cond_true, cond_false, Option.bind_some, j_ov, j_oi, j_ol, nle, nlt, neq, nI_add, nmul, nsub, ndiv, nrem2, if_pos, if_neg, Nat.zero_add, Nat.add_zero, j_w_ap, decide_eq_true, decide_eq_false, Bool.true_or, Bool.or_true, Bool.false_or, Bool.or_false, Bool.and_true, Bool.true_and, Bool.false_and, Bool.and_false, Bool.not_true, Bool.not_false, g3, g4, (show (80 : Int32) = nI 80 from rfl), q1, q2] at e
    show _ = some (some (Value.int (v1 + v2)), S0, apC (l1 ++ l2) (r + 1) (bgC 80 r M), N)
    rw [apC_a]
    unfold bgC
    exact e
  · intro k hk hrn d M N r hd hr h40 h41 h42
    simp only [List.length_cons, List.length_append, List.length_nil] at hr
    have bb := M_bg (d := d - 1) (p := 80) (M := M) (N := N) (by omega) (by omega) h40
    have b41 : bgM 80 r M 46 41 = nI ks := (bgM_o (by omega) (by omega)).trans h41
    have b42 : bgM 80 r M 46 42 = nI nm := (bgM_o (by omega) (by omega)).trans h42
    have q1 : C (d - 1) 230 [.ref 46, .int (nI 4), .int x] S0 (bgM 80 r M) N = some (some (.int v1), (apM l1 (r + 1) (bgM 80 r M)), N) := m1 4 (by omega) rfl (d - 1) (bgM 80 r M) N (r + 1) (by omega) (by omega) rfl b41 b42
    have s3_1 : (apM l1 (r + 1) (bgM 80 r M)) 46 40 = nI ((r + 1) + l1.length) := apM_3 l1 (r + 1) (bgM 80 r M) rfl
    have s41_1 : (apM l1 (r + 1) (bgM 80 r M)) 46 41 = nI ks := (apM_o (by omega) (by omega) l1 (r + 1) (bgM 80 r M)).trans b41
    have s42_1 : (apM l1 (r + 1) (bgM 80 r M)) 46 42 = nI nm := (apM_o (by omega) (by omega) l1 (r + 1) (bgM 80 r M)).trans b42
    have q2 : C (d - 1) 231 [.ref 46, .int (nI ks), .int (nI 2)] S0 (apM l1 (r + 1) (bgM 80 r M)) N = some (some (.int v2), (apM l2 ((r + 1) + l1.length) (apM l1 (r + 1) (bgM 80 r M))), N) := m2 ks hks rfl (d - 1) (apM l1 (r + 1) (bgM 80 r M)) N ((r + 1) + l1.length) (by omega) (by omega) s3_1 s41_1 s42_1
    have s3_2 : (apM l2 ((r + 1) + l1.length) (apM l1 (r + 1) (bgM 80 r M))) 46 40 = nI (((r + 1) + l1.length) + l2.length) := apM_3 l2 ((r + 1) + l1.length) (apM l1 (r + 1) (bgM 80 r M)) s3_1
    have s41_2 : (apM l2 ((r + 1) + l1.length) (apM l1 (r + 1) (bgM 80 r M))) 46 41 = nI ks := (apM_o (by omega) (by omega) l2 ((r + 1) + l1.length) (apM l1 (r + 1) (bgM 80 r M))).trans s41_1
    have s42_2 : (apM l2 ((r + 1) + l1.length) (apM l1 (r + 1) (bgM 80 r M))) 46 42 = nI nm := (apM_o (by omega) (by omega) l2 ((r + 1) + l1.length) (apM l1 (r + 1) (bgM 80 r M))).trans s42_1
    show _ = some (some (Value.int (v1 + v2)), apM (l1 ++ l2) (r + 1) (bgM 80 r M), N)
    rw [apM_a]
    refine eX11_owesAs (by omega) ?_
    have hk8 : k = 0 ∨ k = 1 ∨ k = 2 ∨ k = 3 ∨ k = 4 ∨ k = 5 ∨ k = 6 ∨ k = 7 := by omega
    rcases hk8 with rfl | rfl | rfl | rfl | rfl | rfl | rfl | rfl
    · exact absurd hrn (by decide)
    · exact absurd hrn (by decide)
    · exact absurd hrn (by decide)
    · exact absurd hrn (by decide)
    · exact absurd hrn (by decide)
    · exact absurd hrn (by decide)
    · exact absurd hrn (by decide)
    · have e := bX11_owesAs_0 (d - 1) (nI 7) x M N
      simp (disch := omega) only [z0, z1, z2, z3, z4, z5, z6, z7, z8, z9, z10, z11, z12, z13, z14, z15, z16, z17, z18, z19, z20, z24, z26, z30, z31, z40, z41, z50, z54, z60, z70, z80, z81, z99, z100, z200, z255, z599, z1000, z1299, z4096, z1000000, lw0, lw1, lw2, lw3, lw4, lw5, lw6, lw7, lw12, lw50, lw99, lw255, lw599, lw4096, bI_ok, ble_t, Int.cast_ofNat_Int,  decide_true, decide_false, bI_0, bI_1, b_tf, b_ft, eq_self, n_1, n_2, n_3, n_4, n_5, n_6, n_7, n_8, if_true, if_false, jin, ncl, cond_true, cond_false, Option.bind_some, j_ov, j_oi, j_ol, nle, nlt, neq, nI_add, nmul, nsub, ndiv, nrem2, if_pos, if_neg, Nat.zero_add, Nat.add_zero, j_w_ap, decide_eq_true, decide_eq_false, Bool.true_or, Bool.or_true, Bool.false_or, Bool.or_false, Bool.and_true, Bool.true_and, Bool.false_and, Bool.and_false, Bool.not_true, Bool.not_false, (show (80 : Int32) = nI 80 from rfl), bb, b41, b42, q1, q2, s41_1, s41_2] at e
      exact e
theorem E_2 (hks : ks < 8) (hnm : nm < 50) (A1 : ∀ x, Ev ks nm 1 (rn ks 1) 5 x) (A2 : ∀ x, Ev ks nm 2 (rn ks 2) 3 x) : ∀ x, Ev ks nm 3 2 6 x := by
  intro x
  obtain ⟨v1, l1, k1, c1, m1⟩ := A1 x
  obtain ⟨v2, l2, k2, c2, m2⟩ := A2 (nI 1)
  have hl : (2 :: (l1 ++ l2) : List Nat).length < 2 ^ 6 := by
    simp only [List.length_cons, List.length_append, List.length_nil]
    omega
  refine ⟨v1 - v2, 2 :: (l1 ++ l2), hl, ?_, ?_⟩
  · intro d dep M N r hd hdep hr h3 h4 h31
    simp only [List.length_cons, List.length_append, List.length_nil] at hr
    refine eX0_run (by omega) ((X_bg (by omega) h3).trans ?_)
    have e := bX0_run_19 (d - 1) (nI 2) x (nI dep) (pgC 2 r M) N
    have g3 : pgC 2 r M 30 3 = nI r := (pgC_o (by omega)).trans h3
    have g4 : pgC 2 r M 30 4 = nI nm := (pgC_o (by omega)).trans h4
    have b4 : bgC 2 r M 30 4 = nI nm := (bgC_o (by omega) (by omega)).trans h4
    have b31 : bgC 2 r M 31 nm = nI ks := (bgC_o (by omega) (by omega)).trans h31
    have q1 : C (d - 1) 7 [.ref 30, .int (nI 1), .int x, .int (nI dep)] S0 (bgC 2 r M) N = some (some (.int v1), (apC l1 (r + 1) (bgC 2 r M)), N) := X_call (by omega) hnm b4 b31 (X_from1 (by omega) hks (by omega) (c1 _ (dep + 1) (bgC 2 r M) N (r + 1) (by omega) (by omega) (by omega) rfl b4 b31))
    have s3_1 : (apC l1 (r + 1) (bgC 2 r M)) 30 3 = nI ((r + 1) + l1.length) := apC_3 l1 (r + 1) (bgC 2 r M) rfl
    have s4_1 : (apC l1 (r + 1) (bgC 2 r M)) 30 4 = nI nm := (apC_o (by omega) (by omega) l1 (r + 1) (bgC 2 r M)).trans b4
    have s31_1 : (apC l1 (r + 1) (bgC 2 r M)) 31 nm = nI ks := (apC_o (by omega) (by omega) l1 (r + 1) (bgC 2 r M)).trans b31
    have q2 : C (d - 1) 7 [.ref 30, .int (nI 2), .int (nI 1), .int (nI dep)] S0 (apC l1 (r + 1) (bgC 2 r M)) N = some (some (.int v2), (apC l2 ((r + 1) + l1.length) (apC l1 (r + 1) (bgC 2 r M))), N) := X_call (by omega) hnm s4_1 s31_1 (X_from2 (by omega) hks (by omega) (c2 _ (dep + 1) (apC l1 (r + 1) (bgC 2 r M)) N ((r + 1) + l1.length) (by omega) (by omega) (by omega) s3_1 s4_1 s31_1))
    have s3_2 : (apC l2 ((r + 1) + l1.length) (apC l1 (r + 1) (bgC 2 r M))) 30 3 = nI (((r + 1) + l1.length) + l2.length) := apC_3 l2 ((r + 1) + l1.length) (apC l1 (r + 1) (bgC 2 r M)) s3_1
    have s4_2 : (apC l2 ((r + 1) + l1.length) (apC l1 (r + 1) (bgC 2 r M))) 30 4 = nI nm := (apC_o (by omega) (by omega) l2 ((r + 1) + l1.length) (apC l1 (r + 1) (bgC 2 r M))).trans s4_1
    have s31_2 : (apC l2 ((r + 1) + l1.length) (apC l1 (r + 1) (bgC 2 r M))) 31 nm = nI ks := (apC_o (by omega) (by omega) l2 ((r + 1) + l1.length) (apC l1 (r + 1) (bgC 2 r M))).trans s31_1
    unfold bgC at q1 q2
    simp (disch := omega) only [z0, z1, z2, z3, z4, z5, z6, z7, z8, z9, z10, z11, z12, z13, z14, z15, z16, z17, z18, z19, z20, z24, z26, z30, z31, z40, z41, z50, z54, z60, z70, z80, z81, z99, z100, z200, z255, z599, z1000, z1299, z4096, z1000000, lw0, lw1, lw2, lw3, lw4, lw5, lw6, lw7, lw12, lw50, lw99, lw255, lw599, lw4096, bI_ok, ble_t, Int.cast_ofNat_Int,  decide_true, decide_false, bI_0, bI_1, b_tf, b_ft, eq_self, n_1, n_2, n_3, n_4, n_5, n_6, n_7, n_8, if_true, if_false, jin, ncl, cond_true, cond_false, Option.bind_some, j_ov, j_oi, j_ol, nle, nlt, neq, nI_add, nmul, nsub, ndiv, nrem2, if_pos, if_neg, Nat.zero_add, Nat.add_zero, j_w_ap, decide_eq_true, decide_eq_false, Bool.true_or, Bool.or_true, Bool.false_or, Bool.or_false, Bool.and_true, Bool.true_and, Bool.false_and, Bool.and_false, Bool.not_true, Bool.not_false, g3, g4, (show (2 : Int32) = nI 2 from rfl), q1, q2] at e
    show _ = some (some (Value.int (v1 - v2)), S0, apC (l1 ++ l2) (r + 1) (bgC 2 r M), N)
    rw [apC_a]
    unfold bgC
    exact e
  · intro k hk hrn d M N r hd hr h40 h41 h42
    simp only [List.length_cons, List.length_append, List.length_nil] at hr
    have bb := M_bg (d := d - 1) (p := 2) (M := M) (N := N) (by omega) (by omega) h40
    have b41 : bgM 2 r M 46 41 = nI ks := (bgM_o (by omega) (by omega)).trans h41
    have b42 : bgM 2 r M 46 42 = nI nm := (bgM_o (by omega) (by omega)).trans h42
    have q1 : C (d - 1) 230 [.ref 46, .int (nI ks), .int x] S0 (bgM 2 r M) N = some (some (.int v1), (apM l1 (r + 1) (bgM 2 r M)), N) := m1 ks hks rfl (d - 1) (bgM 2 r M) N (r + 1) (by omega) (by omega) rfl b41 b42
    have s3_1 : (apM l1 (r + 1) (bgM 2 r M)) 46 40 = nI ((r + 1) + l1.length) := apM_3 l1 (r + 1) (bgM 2 r M) rfl
    have s41_1 : (apM l1 (r + 1) (bgM 2 r M)) 46 41 = nI ks := (apM_o (by omega) (by omega) l1 (r + 1) (bgM 2 r M)).trans b41
    have s42_1 : (apM l1 (r + 1) (bgM 2 r M)) 46 42 = nI nm := (apM_o (by omega) (by omega) l1 (r + 1) (bgM 2 r M)).trans b42
    have q2 : C (d - 1) 231 [.ref 46, .int (nI ks), .int (nI 1)] S0 (apM l1 (r + 1) (bgM 2 r M)) N = some (some (.int v2), (apM l2 ((r + 1) + l1.length) (apM l1 (r + 1) (bgM 2 r M))), N) := m2 ks hks rfl (d - 1) (apM l1 (r + 1) (bgM 2 r M)) N ((r + 1) + l1.length) (by omega) (by omega) s3_1 s41_1 s42_1
    have s3_2 : (apM l2 ((r + 1) + l1.length) (apM l1 (r + 1) (bgM 2 r M))) 46 40 = nI (((r + 1) + l1.length) + l2.length) := apM_3 l2 ((r + 1) + l1.length) (apM l1 (r + 1) (bgM 2 r M)) s3_1
    have s41_2 : (apM l2 ((r + 1) + l1.length) (apM l1 (r + 1) (bgM 2 r M))) 46 41 = nI ks := (apM_o (by omega) (by omega) l2 ((r + 1) + l1.length) (apM l1 (r + 1) (bgM 2 r M))).trans s41_1
    have s42_2 : (apM l2 ((r + 1) + l1.length) (apM l1 (r + 1) (bgM 2 r M))) 46 42 = nI nm := (apM_o (by omega) (by omega) l2 ((r + 1) + l1.length) (apM l1 (r + 1) (bgM 2 r M))).trans s42_1
    show _ = some (some (Value.int (v1 - v2)), apM (l1 ++ l2) (r + 1) (bgM 2 r M), N)
    rw [apM_a]
    refine eX11_tellsAs (by omega) ?_
    have hk8 : k = 0 ∨ k = 1 ∨ k = 2 ∨ k = 3 ∨ k = 4 ∨ k = 5 ∨ k = 6 ∨ k = 7 := by omega
    rcases hk8 with rfl | rfl | rfl | rfl | rfl | rfl | rfl | rfl
    · have e := bX11_tellsAs_0 (d - 1) (nI 0) x M N
      simp (disch := omega) only [z0, z1, z2, z3, z4, z5, z6, z7, z8, z9, z10, z11, z12, z13, z14, z15, z16, z17, z18, z19, z20, z24, z26, z30, z31, z40, z41, z50, z54, z60, z70, z80, z81, z99, z100, z200, z255, z599, z1000, z1299, z4096, z1000000, lw0, lw1, lw2, lw3, lw4, lw5, lw6, lw7, lw12, lw50, lw99, lw255, lw599, lw4096, bI_ok, ble_t, Int.cast_ofNat_Int,  decide_true, decide_false, bI_0, bI_1, b_tf, b_ft, eq_self, n_1, n_2, n_3, n_4, n_5, n_6, n_7, n_8, if_true, if_false, jin, ncl, cond_true, cond_false, Option.bind_some, j_ov, j_oi, j_ol, nle, nlt, neq, nI_add, nmul, nsub, ndiv, nrem2, if_pos, if_neg, Nat.zero_add, Nat.add_zero, j_w_ap, decide_eq_true, decide_eq_false, Bool.true_or, Bool.or_true, Bool.false_or, Bool.or_false, Bool.and_true, Bool.true_and, Bool.false_and, Bool.and_false, Bool.not_true, Bool.not_false, (show (2 : Int32) = nI 2 from rfl), bb, b41, b42, q1, q2, s41_1, s41_2] at e
      exact e
    · have e := bX11_tellsAs_0 (d - 1) (nI 1) x M N
      simp (disch := omega) only [z0, z1, z2, z3, z4, z5, z6, z7, z8, z9, z10, z11, z12, z13, z14, z15, z16, z17, z18, z19, z20, z24, z26, z30, z31, z40, z41, z50, z54, z60, z70, z80, z81, z99, z100, z200, z255, z599, z1000, z1299, z4096, z1000000, lw0, lw1, lw2, lw3, lw4, lw5, lw6, lw7, lw12, lw50, lw99, lw255, lw599, lw4096, bI_ok, ble_t, Int.cast_ofNat_Int,  decide_true, decide_false, bI_0, bI_1, b_tf, b_ft, eq_self, n_1, n_2, n_3, n_4, n_5, n_6, n_7, n_8, if_true, if_false, jin, ncl, cond_true, cond_false, Option.bind_some, j_ov, j_oi, j_ol, nle, nlt, neq, nI_add, nmul, nsub, ndiv, nrem2, if_pos, if_neg, Nat.zero_add, Nat.add_zero, j_w_ap, decide_eq_true, decide_eq_false, Bool.true_or, Bool.or_true, Bool.false_or, Bool.or_false, Bool.and_true, Bool.true_and, Bool.false_and, Bool.and_false, Bool.not_true, Bool.not_false, (show (2 : Int32) = nI 2 from rfl), bb, b41, b42, q1, q2, s41_1, s41_2] at e
      exact e
    · have e := bX11_tellsAs_0 (d - 1) (nI 2) x M N
      simp (disch := omega) only [z0, z1, z2, z3, z4, z5, z6, z7, z8, z9, z10, z11, z12, z13, z14, z15, z16, z17, z18, z19, z20, z24, z26, z30, z31, z40, z41, z50, z54, z60, z70, z80, z81, z99, z100, z200, z255, z599, z1000, z1299, z4096, z1000000, lw0, lw1, lw2, lw3, lw4, lw5, lw6, lw7, lw12, lw50, lw99, lw255, lw599, lw4096, bI_ok, ble_t, Int.cast_ofNat_Int,  decide_true, decide_false, bI_0, bI_1, b_tf, b_ft, eq_self, n_1, n_2, n_3, n_4, n_5, n_6, n_7, n_8, if_true, if_false, jin, ncl, cond_true, cond_false, Option.bind_some, j_ov, j_oi, j_ol, nle, nlt, neq, nI_add, nmul, nsub, ndiv, nrem2, if_pos, if_neg, Nat.zero_add, Nat.add_zero, j_w_ap, decide_eq_true, decide_eq_false, Bool.true_or, Bool.or_true, Bool.false_or, Bool.or_false, Bool.and_true, Bool.true_and, Bool.false_and, Bool.and_false, Bool.not_true, Bool.not_false, (show (2 : Int32) = nI 2 from rfl), bb, b41, b42, q1, q2, s41_1, s41_2] at e
      exact e
    · have e := bX11_tellsAs_0 (d - 1) (nI 3) x M N
      simp (disch := omega) only [z0, z1, z2, z3, z4, z5, z6, z7, z8, z9, z10, z11, z12, z13, z14, z15, z16, z17, z18, z19, z20, z24, z26, z30, z31, z40, z41, z50, z54, z60, z70, z80, z81, z99, z100, z200, z255, z599, z1000, z1299, z4096, z1000000, lw0, lw1, lw2, lw3, lw4, lw5, lw6, lw7, lw12, lw50, lw99, lw255, lw599, lw4096, bI_ok, ble_t, Int.cast_ofNat_Int,  decide_true, decide_false, bI_0, bI_1, b_tf, b_ft, eq_self, n_1, n_2, n_3, n_4, n_5, n_6, n_7, n_8, if_true, if_false, jin, ncl, cond_true, cond_false, Option.bind_some, j_ov, j_oi, j_ol, nle, nlt, neq, nI_add, nmul, nsub, ndiv, nrem2, if_pos, if_neg, Nat.zero_add, Nat.add_zero, j_w_ap, decide_eq_true, decide_eq_false, Bool.true_or, Bool.or_true, Bool.false_or, Bool.or_false, Bool.and_true, Bool.true_and, Bool.false_and, Bool.and_false, Bool.not_true, Bool.not_false, (show (2 : Int32) = nI 2 from rfl), bb, b41, b42, q1, q2, s41_1, s41_2] at e
      exact e
    · have e := bX11_tellsAs_0 (d - 1) (nI 4) x M N
      simp (disch := omega) only [z0, z1, z2, z3, z4, z5, z6, z7, z8, z9, z10, z11, z12, z13, z14, z15, z16, z17, z18, z19, z20, z24, z26, z30, z31, z40, z41, z50, z54, z60, z70, z80, z81, z99, z100, z200, z255, z599, z1000, z1299, z4096, z1000000, lw0, lw1, lw2, lw3, lw4, lw5, lw6, lw7, lw12, lw50, lw99, lw255, lw599, lw4096, bI_ok, ble_t, Int.cast_ofNat_Int,  decide_true, decide_false, bI_0, bI_1, b_tf, b_ft, eq_self, n_1, n_2, n_3, n_4, n_5, n_6, n_7, n_8, if_true, if_false, jin, ncl, cond_true, cond_false, Option.bind_some, j_ov, j_oi, j_ol, nle, nlt, neq, nI_add, nmul, nsub, ndiv, nrem2, if_pos, if_neg, Nat.zero_add, Nat.add_zero, j_w_ap, decide_eq_true, decide_eq_false, Bool.true_or, Bool.or_true, Bool.false_or, Bool.or_false, Bool.and_true, Bool.true_and, Bool.false_and, Bool.and_false, Bool.not_true, Bool.not_false, (show (2 : Int32) = nI 2 from rfl), bb, b41, b42, q1, q2, s41_1, s41_2] at e
      exact e
    · exact absurd hrn (by decide)
    · have e := bX11_tellsAs_0 (d - 1) (nI 6) x M N
      simp (disch := omega) only [z0, z1, z2, z3, z4, z5, z6, z7, z8, z9, z10, z11, z12, z13, z14, z15, z16, z17, z18, z19, z20, z24, z26, z30, z31, z40, z41, z50, z54, z60, z70, z80, z81, z99, z100, z200, z255, z599, z1000, z1299, z4096, z1000000, lw0, lw1, lw2, lw3, lw4, lw5, lw6, lw7, lw12, lw50, lw99, lw255, lw599, lw4096, bI_ok, ble_t, Int.cast_ofNat_Int,  decide_true, decide_false, bI_0, bI_1, b_tf, b_ft, eq_self, n_1, n_2, n_3, n_4, n_5, n_6, n_7, n_8, if_true, if_false, jin, ncl, cond_true, cond_false, Option.bind_some, j_ov, j_oi, j_ol, nle, nlt, neq, nI_add, nmul, nsub, ndiv, nrem2, if_pos, if_neg, Nat.zero_add, Nat.add_zero, j_w_ap, decide_eq_true, decide_eq_false, Bool.true_or, Bool.or_true, Bool.false_or, Bool.or_false, Bool.and_true, Bool.true_and, Bool.false_and, Bool.and_false, Bool.not_true, Bool.not_false, (show (2 : Int32) = nI 2 from rfl), bb, b41, b42, q1, q2, s41_1, s41_2] at e
      exact e
    · exact absurd hrn (by decide)
theorem E_60 (hks : ks < 8) (hnm : nm < 50) (A1 : ∀ x, Ev ks nm 3 2 6 x) : ∀ x, Ev ks nm 3 60 7 x := by
  intro x
  obtain ⟨v1, l1, k1, c1, m1⟩ := A1 x
  have hl : (60 :: l1 : List Nat).length < 2 ^ 7 := by
    simp only [List.length_cons, List.length_append, List.length_nil]
    omega
  refine ⟨v1 ^^^ nI 5, 60 :: l1, hl, ?_, ?_⟩
  · intro d dep M N r hd hdep hr h3 h4 h31
    simp only [List.length_cons, List.length_append, List.length_nil] at hr
    refine eX0_run (by omega) ((X_bg (by omega) h3).trans ?_)
    have e := bX0_run_19 (d - 1) (nI 60) x (nI dep) (pgC 60 r M) N
    have g3 : pgC 60 r M 30 3 = nI r := (pgC_o (by omega)).trans h3
    have g4 : pgC 60 r M 30 4 = nI nm := (pgC_o (by omega)).trans h4
    have b4 : bgC 60 r M 30 4 = nI nm := (bgC_o (by omega) (by omega)).trans h4
    have b31 : bgC 60 r M 31 nm = nI ks := (bgC_o (by omega) (by omega)).trans h31
    have q1 : C (d - 1) 8 [.ref 30, .int (nI 3), .int (nI 3), .int x, .int (nI dep)] S0 (bgC 60 r M) N = some (some (.int v1), (apC l1 (r + 1) (bgC 60 r M)), N) := X_from3 (by omega) (by omega) (by omega) (c1 _ (dep + 1) (bgC 60 r M) N (r + 1) (by omega) (by omega) (by omega) rfl b4 b31)
    have s3_1 : (apC l1 (r + 1) (bgC 60 r M)) 30 3 = nI ((r + 1) + l1.length) := apC_3 l1 (r + 1) (bgC 60 r M) rfl
    have s4_1 : (apC l1 (r + 1) (bgC 60 r M)) 30 4 = nI nm := (apC_o (by omega) (by omega) l1 (r + 1) (bgC 60 r M)).trans b4
    have s31_1 : (apC l1 (r + 1) (bgC 60 r M)) 31 nm = nI ks := (apC_o (by omega) (by omega) l1 (r + 1) (bgC 60 r M)).trans b31
    unfold bgC at q1
    simp (disch := omega) only [z0, z1, z2, z3, z4, z5, z6, z7, z8, z9, z10, z11, z12, z13, z14, z15, z16, z17, z18, z19, z20, z24, z26, z30, z31, z40, z41, z50, z54, z60, z70, z80, z81, z99, z100, z200, z255, z599, z1000, z1299, z4096, z1000000, lw0, lw1, lw2, lw3, lw4, lw5, lw6, lw7, lw12, lw50, lw99, lw255, lw599, lw4096, bI_ok, ble_t, Int.cast_ofNat_Int,  decide_true, decide_false, bI_0, bI_1, b_tf, b_ft, eq_self, n_1, n_2, n_3, n_4, n_5, n_6, n_7, n_8, if_true, if_false, jin, ncl, cond_true, cond_false, Option.bind_some, j_ov, j_oi, j_ol, nle, nlt, neq, nI_add, nmul, nsub, ndiv, nrem2, if_pos, if_neg, Nat.zero_add, Nat.add_zero, j_w_ap, decide_eq_true, decide_eq_false, Bool.true_or, Bool.or_true, Bool.false_or, Bool.or_false, Bool.and_true, Bool.true_and, Bool.false_and, Bool.and_false, Bool.not_true, Bool.not_false, g3, g4, (show (60 : Int32) = nI 60 from rfl), q1] at e
    exact e
  · intro k hk hrn d M N r hd hr h40 h41 h42
    simp only [List.length_cons, List.length_append, List.length_nil] at hr
    have bb := M_bg (d := d - 1) (p := 60) (M := M) (N := N) (by omega) (by omega) h40
    have b41 : bgM 60 r M 46 41 = nI ks := (bgM_o (by omega) (by omega)).trans h41
    have b42 : bgM 60 r M 46 42 = nI nm := (bgM_o (by omega) (by omega)).trans h42
    have q1 : C (d - 1) 232 [.ref 46, .int (nI 3), .int x] S0 (bgM 60 r M) N = some (some (.int v1), (apM l1 (r + 1) (bgM 60 r M)), N) := m1 3 (by omega) rfl (d - 1) (bgM 60 r M) N (r + 1) (by omega) (by omega) rfl b41 b42
    have s3_1 : (apM l1 (r + 1) (bgM 60 r M)) 46 40 = nI ((r + 1) + l1.length) := apM_3 l1 (r + 1) (bgM 60 r M) rfl
    have s41_1 : (apM l1 (r + 1) (bgM 60 r M)) 46 41 = nI ks := (apM_o (by omega) (by omega) l1 (r + 1) (bgM 60 r M)).trans b41
    have s42_1 : (apM l1 (r + 1) (bgM 60 r M)) 46 42 = nI nm := (apM_o (by omega) (by omega) l1 (r + 1) (bgM 60 r M)).trans b42
    show _ = some (some (Value.int (v1 ^^^ nI 5)), apM l1 (r + 1) (bgM 60 r M), N)
    refine eX11_tellsAs (by omega) ?_
    have hk8 : k = 0 ∨ k = 1 ∨ k = 2 ∨ k = 3 ∨ k = 4 ∨ k = 5 ∨ k = 6 ∨ k = 7 := by omega
    rcases hk8 with rfl | rfl | rfl | rfl | rfl | rfl | rfl | rfl
    · exact absurd hrn (by decide)
    · exact absurd hrn (by decide)
    · exact absurd hrn (by decide)
    · exact absurd hrn (by decide)
    · exact absurd hrn (by decide)
    · have e := bX11_tellsAs_0 (d - 1) (nI 5) x M N
      simp (disch := omega) only [z0, z1, z2, z3, z4, z5, z6, z7, z8, z9, z10, z11, z12, z13, z14, z15, z16, z17, z18, z19, z20, z24, z26, z30, z31, z40, z41, z50, z54, z60, z70, z80, z81, z99, z100, z200, z255, z599, z1000, z1299, z4096, z1000000, lw0, lw1, lw2, lw3, lw4, lw5, lw6, lw7, lw12, lw50, lw99, lw255, lw599, lw4096, bI_ok, ble_t, Int.cast_ofNat_Int,  decide_true, decide_false, bI_0, bI_1, b_tf, b_ft, eq_self, n_1, n_2, n_3, n_4, n_5, n_6, n_7, n_8, if_true, if_false, jin, ncl, cond_true, cond_false, Option.bind_some, j_ov, j_oi, j_ol, nle, nlt, neq, nI_add, nmul, nsub, ndiv, nrem2, if_pos, if_neg, Nat.zero_add, Nat.add_zero, j_w_ap, decide_eq_true, decide_eq_false, Bool.true_or, Bool.or_true, Bool.false_or, Bool.or_false, Bool.and_true, Bool.true_and, Bool.false_and, Bool.and_false, Bool.not_true, Bool.not_false, (show (60 : Int32) = nI 60 from rfl), bb, b41, b42, q1, s41_1] at e
      exact e
    · exact absurd hrn (by decide)
    · exact absurd hrn (by decide)
theorem E_81 (hks : ks < 8) (hnm : nm < 50) (A1 : ∀ x, Ev ks nm 3 2 6 x) : ∀ x, Ev ks nm 3 81 7 x := by
  intro x
  obtain ⟨v1, l1, k1, c1, m1⟩ := A1 x
  have hl : (81 :: l1 : List Nat).length < 2 ^ 7 := by
    simp only [List.length_cons, List.length_append, List.length_nil]
    omega
  refine ⟨v1 - nI 1, 81 :: l1, hl, ?_, ?_⟩
  · intro d dep M N r hd hdep hr h3 h4 h31
    simp only [List.length_cons, List.length_append, List.length_nil] at hr
    refine eX0_run (by omega) ((X_bg (by omega) h3).trans ?_)
    have e := bX0_run_19 (d - 1) (nI 81) x (nI dep) (pgC 81 r M) N
    have g3 : pgC 81 r M 30 3 = nI r := (pgC_o (by omega)).trans h3
    have g4 : pgC 81 r M 30 4 = nI nm := (pgC_o (by omega)).trans h4
    have b4 : bgC 81 r M 30 4 = nI nm := (bgC_o (by omega) (by omega)).trans h4
    have b31 : bgC 81 r M 31 nm = nI ks := (bgC_o (by omega) (by omega)).trans h31
    have q1 : C (d - 1) 8 [.ref 30, .int (nI 4), .int (nI 3), .int x, .int (nI dep)] S0 (bgC 81 r M) N = some (some (.int v1), (apC l1 (r + 1) (bgC 81 r M)), N) := X_from3 (by omega) (by omega) (by omega) (c1 _ (dep + 1) (bgC 81 r M) N (r + 1) (by omega) (by omega) (by omega) rfl b4 b31)
    have s3_1 : (apC l1 (r + 1) (bgC 81 r M)) 30 3 = nI ((r + 1) + l1.length) := apC_3 l1 (r + 1) (bgC 81 r M) rfl
    have s4_1 : (apC l1 (r + 1) (bgC 81 r M)) 30 4 = nI nm := (apC_o (by omega) (by omega) l1 (r + 1) (bgC 81 r M)).trans b4
    have s31_1 : (apC l1 (r + 1) (bgC 81 r M)) 31 nm = nI ks := (apC_o (by omega) (by omega) l1 (r + 1) (bgC 81 r M)).trans b31
    unfold bgC at q1
    simp (disch := omega) only [z0, z1, z2, z3, z4, z5, z6, z7, z8, z9, z10, z11, z12, z13, z14, z15, z16, z17, z18, z19, z20, z24, z26, z30, z31, z40, z41, z50, z54, z60, z70, z80, z81, z99, z100, z200, z255, z599, z1000, z1299, z4096, z1000000, lw0, lw1, lw2, lw3, lw4, lw5, lw6, lw7, lw12, lw50, lw99, lw255, lw599, lw4096, bI_ok, ble_t, Int.cast_ofNat_Int,  decide_true, decide_false, bI_0, bI_1, b_tf, b_ft, eq_self, n_1, n_2, n_3, n_4, n_5, n_6, n_7, n_8, if_true, if_false, jin, ncl, cond_true, cond_false, Option.bind_some, j_ov, j_oi, j_ol, nle, nlt, neq, nI_add, nmul, nsub, ndiv, nrem2, if_pos, if_neg, Nat.zero_add, Nat.add_zero, j_w_ap, decide_eq_true, decide_eq_false, Bool.true_or, Bool.or_true, Bool.false_or, Bool.or_false, Bool.and_true, Bool.true_and, Bool.false_and, Bool.and_false, Bool.not_true, Bool.not_false, g3, g4, (show (81 : Int32) = nI 81 from rfl), q1] at e
    exact e
  · intro k hk hrn d M N r hd hr h40 h41 h42
    simp only [List.length_cons, List.length_append, List.length_nil] at hr
    have bb := M_bg (d := d - 1) (p := 81) (M := M) (N := N) (by omega) (by omega) h40
    have b41 : bgM 81 r M 46 41 = nI ks := (bgM_o (by omega) (by omega)).trans h41
    have b42 : bgM 81 r M 46 42 = nI nm := (bgM_o (by omega) (by omega)).trans h42
    have q1 : C (d - 1) 232 [.ref 46, .int (nI 4), .int x] S0 (bgM 81 r M) N = some (some (.int v1), (apM l1 (r + 1) (bgM 81 r M)), N) := m1 4 (by omega) rfl (d - 1) (bgM 81 r M) N (r + 1) (by omega) (by omega) rfl b41 b42
    have s3_1 : (apM l1 (r + 1) (bgM 81 r M)) 46 40 = nI ((r + 1) + l1.length) := apM_3 l1 (r + 1) (bgM 81 r M) rfl
    have s41_1 : (apM l1 (r + 1) (bgM 81 r M)) 46 41 = nI ks := (apM_o (by omega) (by omega) l1 (r + 1) (bgM 81 r M)).trans b41
    have s42_1 : (apM l1 (r + 1) (bgM 81 r M)) 46 42 = nI nm := (apM_o (by omega) (by omega) l1 (r + 1) (bgM 81 r M)).trans b42
    show _ = some (some (Value.int (v1 - nI 1)), apM l1 (r + 1) (bgM 81 r M), N)
    refine eX11_tellsAs (by omega) ?_
    have hk8 : k = 0 ∨ k = 1 ∨ k = 2 ∨ k = 3 ∨ k = 4 ∨ k = 5 ∨ k = 6 ∨ k = 7 := by omega
    rcases hk8 with rfl | rfl | rfl | rfl | rfl | rfl | rfl | rfl
    · exact absurd hrn (by decide)
    · exact absurd hrn (by decide)
    · exact absurd hrn (by decide)
    · exact absurd hrn (by decide)
    · exact absurd hrn (by decide)
    · exact absurd hrn (by decide)
    · exact absurd hrn (by decide)
    · have e := bX11_tellsAs_0 (d - 1) (nI 7) x M N
      simp (disch := omega) only [z0, z1, z2, z3, z4, z5, z6, z7, z8, z9, z10, z11, z12, z13, z14, z15, z16, z17, z18, z19, z20, z24, z26, z30, z31, z40, z41, z50, z54, z60, z70, z80, z81, z99, z100, z200, z255, z599, z1000, z1299, z4096, z1000000, lw0, lw1, lw2, lw3, lw4, lw5, lw6, lw7, lw12, lw50, lw99, lw255, lw599, lw4096, bI_ok, ble_t, Int.cast_ofNat_Int,  decide_true, decide_false, bI_0, bI_1, b_tf, b_ft, eq_self, n_1, n_2, n_3, n_4, n_5, n_6, n_7, n_8, if_true, if_false, jin, ncl, cond_true, cond_false, Option.bind_some, j_ov, j_oi, j_ol, nle, nlt, neq, nI_add, nmul, nsub, ndiv, nrem2, if_pos, if_neg, Nat.zero_add, Nat.add_zero, j_w_ap, decide_eq_true, decide_eq_false, Bool.true_or, Bool.or_true, Bool.false_or, Bool.or_false, Bool.and_true, Bool.true_and, Bool.false_and, Bool.and_false, Bool.not_true, Bool.not_false, (show (81 : Int32) = nI 81 from rfl), bb, b41, b42, q1, s41_1] at e
      exact e
end ON
