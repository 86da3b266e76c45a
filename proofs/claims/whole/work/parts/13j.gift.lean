/-! ===== what one gives, thought, given (own text) ===== -/
def RW (T : Nat → Nat) (L : Nat) (ls : List Ln) : Prop := ∀ (d : Nat) (M : j_M) (N : j_N) (e : Nat → Int32), 62 ≤ d → (∀ i, i < L → M 60 i = nI (T i)) → (∀ k, k < 5 → M 61 k = e k) → ∃ M', C d 208 [.ref 46, .int (nI 0), .int (nI L)] S0 M N = some (some (.int (gw (lvs e ls))), M', N) ∧ Scr M M'
def LT (M : j_M) : Prop := (M 16 9 = nI 0 ∧ M 46 24 = -nI 1) ∨ (M 16 9 = nI 1 ∧ ∃ (L2 : Nat) (T2 : Nat → Nat) (ls : List Ln), M 46 24 = nI L2 ∧ L2 ≤ 120 ∧ (∀ i, i < L2 → M 60 i = nI (T2 i)) ∧ RD (lcs ls) M ∧ (∀ l, l ∈ ls → okl l) ∧ RW T2 L2 ls)
def IL (M : j_M) : Prop := (∃ (L : Nat) (T : Nat → Nat), L ≤ 120 ∧ M 16 4 = nI L ∧ M 46 22 = nI L ∧ (∀ i, i < L → T i ≤ 255) ∧ (∀ i, i < L → M 17 i = nI (T i)) ∧ (∀ i, i < L → M 59 i = nI (T i))) ∧ LT M
theorem LT.scr {M M' : j_M} (h : LT M) (hs : Scr M M') : LT M' := by
  rcases h with ⟨h1, h2⟩ | ⟨h1, L2, T2, ls, h2, h3, h4, h5, h6, h7⟩
  · exact Or.inl ⟨(hs 16 9 rfl).trans h1, (hs 46 24 rfl).trans h2⟩
  · exact Or.inr ⟨(hs 16 9 rfl).trans h1, L2, T2, ls, (hs 46 24 rfl).trans h2, h3, fun i hi => (hs 60 i rfl).trans (h4 i hi), h5.scr hs, h6, h7⟩
theorem IL.scr {M M' : j_M} (h : IL M) (hs : Scr M M') : IL M' := by
  obtain ⟨⟨L, T, h1, h2, h3, h4, h5, h6⟩, h7⟩ := h
  exact ⟨⟨L, T, h1, (hs 16 4 rfl).trans h2, (hs 46 22 rfl).trans h3, h4, fun i hi => (hs 17 i rfl).trans (h5 i hi), fun i hi => (hs 59 i rfl).trans (h6 i hi)⟩, h7.scr hs⟩
/-- guesses, what was paid, the chest, the nights -/
def IP (n : Nat) (M : j_M) : Prop := (∀ i, i < n → (M 6 i = -nI 1 ∧ M 51 i = -nI 1) ∨ ∃ q : Nat, q ≤ 599 ∧ M 6 i = nI q ∧ M 51 i = nI q) ∧ (∀ i, n ≤ i → i < 6 → M 51 i = -nI 1) ∧ (∀ i, i < 6 → M 7 i = M 52 i) ∧ (∀ i, n ≤ i → i < 6 → M 52 i = nI 0) ∧ M 1 10 = M 46 10 ∧ M 1 11 = M 46 9
theorem IP.scr {n : Nat} {M M' : j_M} (h : IP n M) (hs : Scr M M') : IP n M' := by
  obtain ⟨h1, h2, h3, h4, h5, h6⟩ := h
  refine ⟨fun i hi => ?_, fun i hi hi2 => (hs 51 i rfl).trans (h2 i hi hi2), fun i hi => by rw [hs 7 i rfl, hs 52 i rfl]; exact h3 i hi, fun i hi hi2 => (hs 52 i rfl).trans (h4 i hi hi2), by rw [hs 1 10 rfl, hs 46 10 rfl]; exact h5, by rw [hs 1 11 rfl, hs 46 9 rfl]; exact h6⟩
  rcases h1 i hi with ⟨k1, k2⟩ | ⟨q, k1, k2, k3⟩
  · exact Or.inl ⟨(hs 6 i rfl).trans k1, (hs 51 i rfl).trans k2⟩
  · exact Or.inr ⟨q, k1, (hs 6 i rfl).trans k2, (hs 51 i rfl).trans k3⟩
def clampI (v P : Int32) : Int32 := if v < nI 0 then nI 0 else if v ≤ P then v else P
theorem clamp_x {r : Int32} {p : Nat} (hp : p < 2147483648) : (if nI 0 < (if nI p < r then nI p else r) then (if nI p < r then nI p else r) else nI 0) = clampI r (nI p) := by
  unfold clampI
  have e0 : (nI 0).toInt = 0 := nI_toInt (by omega)
  have ep : (nI p).toInt = p := nI_toInt hp
  by_cases h1 : nI p < r
  · rw [if_pos h1]
    rw [Int32.lt_iff_toInt_lt, ep] at h1
    rw [if_neg (show ¬ r < nI 0 by rw [Int32.lt_iff_toInt_lt, e0]; omega), if_neg (show ¬ r ≤ nI p by rw [Int32.le_iff_toInt_le, ep]; omega)]
    by_cases h2 : nI 0 < nI p
    · rw [if_pos h2]
    · rw [if_neg h2]
      rw [nlt (by omega) hp] at h2
      rw [show p = 0 by omega]
  · rw [if_neg h1]
    rw [Int32.lt_iff_toInt_lt, ep] at h1
    by_cases h2 : nI 0 < r
    · rw [if_pos h2]
      rw [Int32.lt_iff_toInt_lt, e0] at h2
      rw [if_neg (show ¬ r < nI 0 by rw [Int32.lt_iff_toInt_lt, e0]; omega), if_pos (show r ≤ nI p by rw [Int32.le_iff_toInt_le, ep]; omega)]
    · rw [if_neg h2]
      rw [Int32.lt_iff_toInt_lt, e0] at h2
      by_cases h3 : r < nI 0
      · rw [if_pos h3]
      · rw [if_neg h3]
        rw [Int32.lt_iff_toInt_lt, e0] at h3
        rw [if_pos (show r ≤ nI p by rw [Int32.le_iff_toInt_le, ep]; omega)]
        rw [← Int32.toInt_inj, e0]
        omega
section GI
variable {d n g b : Nat} {a : Nat → Nat} {M : j_M} {N : j_N} {x y w : Int32}
/-- what one gives that thinks the bill is b, on both sides -/
theorem G_ex (h : IG n a M) (hl : LT M) : ∃ V : Nat → Nat → Int32, (∀ (d g b : Nat) (M' : j_M) (N : j_N), 70 ≤ d → g < n → b ≤ 599 → Scr M M' → ∃ M1, C d 52 [.ref 16, .ref 1, .int (nI g), .int (nI b)] S0 M' N = some (some (.int (V g b)), M1, N) ∧ Scr M' M1) ∧ (∀ (d g b : Nat) (M' : j_M) (N : j_N), 70 ≤ d → g < n → b ≤ 599 → Scr M M' → ∃ M1, C d 210 [.ref 46, .int (nI g), .int (nI b)] S0 M' N = some (some (.int (V g b)), M1, N) ∧ Scr M' M1) := by
  have hn := h.n6
  rcases hl with ⟨h1, h2⟩ | ⟨h1, L2, T2, ls, h2, h3, h4, h5, h6, h7⟩
  · refine ⟨fun g b => clampI (nI (b / n)) (nI (a g)), fun d g b M' N hd hg hb hs => ?_, fun d g b M' N hd hg hb hs => ?_⟩
    · have h9 := h.pu99 g (by omega)
      have hbn := Nat.div_le_self b n
      have h169 : M' 16 9 = nI 0 := (hs 16 9 rfl).trans h1
      have hx6 := (h.scr hs).x6
      have hpu := (h.scr hs).pu
      have q : C (d - 1) 53 [.int (nI b), .int (nI n)] S0 M' N = some (some (.int (nI (b / n))), M', N) := by
        refine eX4_shareOf (by omega) ?_
        have e := bX4_shareOf_0 (d - 1 - 1) (nI b) (nI n) M' N
        simp (disch := omega) only [z33, z37, z38, z42, z43, z45, z47, z48, z57, z59, z61, z62, z63, z98, z107, z110, z112, z114, z120, z122, z124, z0, z1, z2, z3, z4, z5, z6, z7, z8, z9, z10, z11, z12, z13, z14, z15, z16, z17, z18, z19, z20, z24, z26, z30, z31, z40, z41, z50, z54, z60, z70, z80, z81, z99, z100, z200, z255, z599, z1000, z1299, z4096, z1000000, lw0, lw1, lw2, lw3, lw4, lw5, lw6, lw7, lw12, lw50, lw99, lw255, lw599, lw4096, bI_ok, ble_t, Int.cast_ofNat_Int,  decide_true, decide_false, bI_0, bI_1, b_tf, b_ft, eq_self, n_1, n_2, n_3, n_4, n_5, n_6, n_7, n_8, if_true, if_false, jin, ncl, cond_true, cond_false, Option.bind_some, j_ov, j_oi, j_ol, nle, nlt, neq, nI_add, nmul, nsub, ndiv, nrem2, if_pos, if_neg, Nat.zero_add, Nat.add_zero, j_w_ap, decide_eq_true, decide_eq_false, Bool.true_or, Bool.or_true, Bool.false_or, Bool.or_false, Bool.and_true, Bool.true_and, Bool.false_and, Bool.and_false, Bool.not_true, Bool.not_false] at e
        exact e
      refine ⟨M', eX4_gift (by omega) ?_, Scr.rf⟩
      have e := bX4_gift_0 (d - 1) (nI g) (nI b) M' N
      rw [h169, if_pos (show nI 0 = 0 from rfl), hx6, q, Option.bind_some, j_oi] at e
      dsimp only at e
      have hp2 := hpu g (by omega)
      rw [jin (by omega) (by omega), cond_true, ncl (by omega)] at e
      simp only [hp2] at e
      exact e.trans (congrArg (fun z => some (some (Value.int z), (S0, M', N))) (clamp_x (by omega)))
    · have h9 := h.pu99 g (by omega)
      have hbn := Nat.div_le_self b n
      have h24 : M' 46 24 = -nI 1 := (hs 46 24 rfl).trans h2
      have hm6 := (h.scr hs).m6
      have hm := (h.scr hs).may
      refine ⟨M', eX11_wouldGive (by omega) ?_, Scr.rf⟩
      have e := bX11_wouldGive_0 (d - 1) (nI g) (nI b) M' N
      have hbn0 := Nat.zero_le (b / n)
      dsimp only
      unfold clampI
      rw [if_neg (show ¬ nI (b / n) < nI 0 from nI_pos (by omega))]
      by_cases hle : b / n ≤ a g
      · simp (disch := omega) only [z33, z37, z38, z42, z43, z45, z47, z48, z57, z59, z61, z62, z63, z98, z107, z110, z112, z114, z120, z122, z124, z0, z1, z2, z3, z4, z5, z6, z7, z8, z9, z10, z11, z12, z13, z14, z15, z16, z17, z18, z19, z20, z24, z26, z30, z31, z40, z41, z50, z54, z60, z70, z80, z81, z99, z100, z200, z255, z599, z1000, z1299, z4096, z1000000, lw0, lw1, lw2, lw3, lw4, lw5, lw6, lw7, lw12, lw50, lw99, lw255, lw599, lw4096, bI_ok, ble_t, Int.cast_ofNat_Int,  decide_true, decide_false, bI_0, bI_1, b_tf, b_ft, eq_self, n_1, n_2, n_3, n_4, n_5, n_6, n_7, n_8, if_true, if_false, jin, ncl, cond_true, cond_false, Option.bind_some, j_ov, j_oi, j_ol, nle, nlt, neq, nI_add, nmul, nsub, ndiv, nrem2, if_pos, if_neg, Nat.zero_add, Nat.add_zero, j_w_ap, decide_eq_true, decide_eq_false, Bool.true_or, Bool.or_true, Bool.false_or, Bool.or_false, Bool.and_true, Bool.true_and, Bool.false_and, Bool.and_false, Bool.not_true, Bool.not_false, hm6, h24, hm] at e
        rw [if_pos (nI_le hle (by omega))]
        exact e
      · simp (disch := omega) only [z33, z37, z38, z42, z43, z45, z47, z48, z57, z59, z61, z62, z63, z98, z107, z110, z112, z114, z120, z122, z124, z0, z1, z2, z3, z4, z5, z6, z7, z8, z9, z10, z11, z12, z13, z14, z15, z16, z17, z18, z19, z20, z24, z26, z30, z31, z40, z41, z50, z54, z60, z70, z80, z81, z99, z100, z200, z255, z599, z1000, z1299, z4096, z1000000, lw0, lw1, lw2, lw3, lw4, lw5, lw6, lw7, lw12, lw50, lw99, lw255, lw599, lw4096, bI_ok, ble_t, Int.cast_ofNat_Int,  decide_true, decide_false, bI_0, bI_1, b_tf, b_ft, eq_self, n_1, n_2, n_3, n_4, n_5, n_6, n_7, n_8, if_true, if_false, jin, ncl, cond_true, cond_false, Option.bind_some, j_ov, j_oi, j_ol, nle, nlt, neq, nI_add, nmul, nsub, ndiv, nrem2, if_pos, if_neg, Nat.zero_add, Nat.add_zero, j_w_ap, decide_eq_true, decide_eq_false, Bool.true_or, Bool.or_true, Bool.false_or, Bool.or_false, Bool.and_true, Bool.true_and, Bool.false_and, Bool.and_false, Bool.not_true, Bool.not_false, hm6, h24, hm] at e
        rw [if_neg (nI_ge (by omega) (by omega))]
        exact e
  · refine ⟨fun g b => clampI (gw (lvs (env n a g b) ls)) (nI (a g)), fun d g b M' N hd hg hb hs => ?_, fun d g b M' N hd hg hb hs => ?_⟩
    · have h9 := h.pu99 g (by omega)
      have h169 : M' 16 9 = nI 1 := (hs 16 9 rfl).trans h1
      have hs1 : Scr M' (j_w M' 16 10 (nI 0)) := Scr.w rfl
      obtain ⟨M1, q1, q2⟩ := X_lines (d := d - 1 - 1) (N := N) (b := b) (cd := lcs ls) (by omega) hg ls [] (j_w M' 16 10 (nI 0)) rfl h6 ((h.scr hs).scr hs1) ((h5.scr hs).scr hs1) ⟨by simp (disch := omega) only [z0, z1, z2, z3, z4, z5, z6, z7, z8, z9, z10, z11, z12, z13, z14, z15, z16, z17, z18, z19, z20, z24, z26, z30, z31, z40, z41, z50, z54, z60, z70, z80, z81, z99, z100, z200, z255, z599, z1000, z1299, z4096, z1000000, lw0, lw1, lw2, lw3, lw4, lw5, lw6, lw7, lw12, lw50, lw99, lw255, lw599, lw4096, bI_ok, ble_t, Int.cast_ofNat_Int,  decide_true, decide_false, bI_0, bI_1, b_tf, b_ft, eq_self, n_1, n_2, n_3, n_4, n_5, n_6, n_7, n_8, if_true, if_false, jin, ncl, cond_true, cond_false, Option.bind_some, j_ov, j_oi, j_ol, nle, nlt, neq, nI_add, nmul, nsub, ndiv, nrem2, if_pos, if_neg, Nat.zero_add, Nat.add_zero, j_w_ap, decide_eq_true, decide_eq_false, Bool.true_or, Bool.or_true, Bool.false_or, Bool.or_false, Bool.and_true, Bool.true_and, Bool.false_and, Bool.and_false, Bool.not_true, Bool.not_false, List.length_nil], fun i z hz => by cases hz⟩
      have q : C (d - 1) 54 [.ref 16, .ref 1, .int (nI g), .int (nI b)] S0 M' N = some (some (.int (gw (lvs (env n a g b) ls))), M1, N) := by
        refine eX4_workOut (by omega) ?_
        rw [bX4_workOut_0]
        exact q1
      have hpu := ((h.scr hs).scr (hs1.tr q2)).pu
      refine ⟨M1, eX4_gift (by omega) ?_, hs1.tr q2⟩
      have e := bX4_gift_0 (d - 1) (nI g) (nI b) M' N
      rw [h169, if_neg (show ¬ nI 1 = 0 from by decide), q, Option.bind_some, j_oi] at e
      dsimp only at e
      have hp2 := hpu g (by omega)
      rw [jin (by omega) (by omega), cond_true, ncl (by omega)] at e
      simp only [hp2] at e
      exact e.trans (congrArg (fun z => some (some (Value.int z), (S0, M1, N))) (clamp_x (by omega)))
    · have h9 := h.pu99 g (by omega)
      have h24 : M' 46 24 = nI L2 := (hs 46 24 rfl).trans h2
      have hm6 := (h.scr hs).m6
      have hm := (h.scr hs).may
      have hs1 : Scr M' (j_w (j_w (j_w (j_w (j_w M' 61 0 (nI b)) 61 1 (nI (a g))) 61 2 (nI g)) 61 3 (nI n)) 61 4 (nI (a 25))) := ((((Scr.w rfl).tr (Scr.w rfl)).tr (Scr.w rfl)).tr (Scr.w rfl)).tr (Scr.w rfl)
      obtain ⟨M1, q1, q2⟩ := h7 (d - 1) _ N (env n a g b) (by omega) (fun i hi => (hs1 60 i rfl).trans ((hs 60 i rfl).trans (h4 i hi))) (fun k hk => by
        have : k = 0 ∨ k = 1 ∨ k = 2 ∨ k = 3 ∨ k = 4 := by omega
        unfold env
        rcases this with rfl | rfl | rfl | rfl | rfl <;> simp (disch := omega) only [z0, z1, z2, z3, z4, z5, z6, z7, z8, z9, z10, z11, z12, z13, z14, z15, z16, z17, z18, z19, z20, z24, z26, z30, z31, z40, z41, z50, z54, z60, z70, z80, z81, z99, z100, z200, z255, z599, z1000, z1299, z4096, z1000000, lw0, lw1, lw2, lw3, lw4, lw5, lw6, lw7, lw12, lw50, lw99, lw255, lw599, lw4096, bI_ok, ble_t, Int.cast_ofNat_Int,  decide_true, decide_false, bI_0, bI_1, b_tf, b_ft, eq_self, n_1, n_2, n_3, n_4, n_5, n_6, n_7, n_8, if_true, if_false, jin, ncl, cond_true, cond_false, Option.bind_some, j_ov, j_oi, j_ol, nle, nlt, neq, nI_add, nmul, nsub, ndiv, nrem2, if_pos, if_neg, Nat.zero_add, Nat.add_zero, j_w_ap, decide_eq_true, decide_eq_false, Bool.true_or, Bool.or_true, Bool.false_or, Bool.or_false, Bool.and_true, Bool.true_and, Bool.false_and, Bool.and_false, Bool.not_true, Bool.not_false])
      have hm1 := ((h.scr hs).scr (hs1.tr q2)).may
      refine ⟨M1, eX11_wouldGive (by omega) ?_, hs1.tr q2⟩
      have e := bX11_wouldGive_0 (d - 1) (nI g) (nI b) M' N
      simp (disch := omega) only [z33, z37, z38, z42, z43, z45, z47, z48, z57, z59, z61, z62, z63, z98, z107, z110, z112, z114, z120, z122, z124, z0, z1, z2, z3, z4, z5, z6, z7, z8, z9, z10, z11, z12, z13, z14, z15, z16, z17, z18, z19, z20, z24, z26, z30, z31, z40, z41, z50, z54, z60, z70, z80, z81, z99, z100, z200, z255, z599, z1000, z1299, z4096, z1000000, lw0, lw1, lw2, lw3, lw4, lw5, lw6, lw7, lw12, lw50, lw99, lw255, lw599, lw4096, bI_ok, ble_t, Int.cast_ofNat_Int,  decide_true, decide_false, bI_0, bI_1, b_tf, b_ft, eq_self, n_1, n_2, n_3, n_4, n_5, n_6, n_7, n_8, if_true, if_false, jin, ncl, cond_true, cond_false, Option.bind_some, j_ov, j_oi, j_ol, nle, nlt, neq, nI_add, nmul, nsub, ndiv, nrem2, if_pos, if_neg, Nat.zero_add, Nat.add_zero, j_w_ap, decide_eq_true, decide_eq_false, Bool.true_or, Bool.or_true, Bool.false_or, Bool.or_false, Bool.and_true, Bool.true_and, Bool.false_and, Bool.and_false, Bool.not_true, Bool.not_false, hm6, h24, hm, q1, hm1] at e
      dsimp only
      unfold clampI
      rw [e]
      by_cases hneg : gw (lvs (env n a g b) ls) < nI 0
      · rw [if_pos hneg, if_neg (fun z => by
          rw [Int32.le_iff_toInt_le] at z
          rw [Int32.lt_iff_toInt_lt] at hneg
          omega)]
      · rw [if_neg hneg, if_pos (by
          rw [Int32.le_iff_toInt_le]
          rw [Int32.lt_iff_toInt_lt] at hneg
          omega)]
        by_cases hle : gw (lvs (env n a g b) ls) ≤ nI (a g)
        · rw [if_pos hle, if_pos hle]
        · rw [if_neg hle, if_neg hle]
def lst (P : Nat → Bool) : Nat → Option Nat
  | 0 => none
  | k + 1 => bif P k then some k else lst P k
theorem ff_fst {P : Nat → Bool} : ∀ j k, ff P (k + j) = (match ff P k with | some w => some w | none => fst P j k)
  | 0, k => by
    show ff P k = _
    cases ff P k <;> rfl
  | j + 1, k => by
    have := ff_fst (P := P) j (k + 1)
    rw [show k + (j + 1) = k + 1 + j by omega, this]
    rw [ff]
    cases hk : ff P k with
    | some w => rfl
    | none =>
      dsimp only
      rw [fst]
      cases hp : P k <;> rfl
theorem ff_lt {P : Nat → Bool} : ∀ {k q : Nat}, ff P k = some q → q < k
  | 0, q, h => by cases h
  | k + 1, q, h => by
    rw [ff] at h
    cases hk : ff P k with
    | some w =>
      rw [hk] at h
      cases h
      have := ff_lt hk
      omega
    | none =>
      rw [hk] at h
      dsimp only at h
      cases hp : P k with
      | true => rw [hp] at h; cases h; omega
      | false => rw [hp] at h; cases h
def eqP (V : Nat → Int32) (v : Int32) (b : Nat) : Bool := decide (V b = v)
theorem X_th0 {V : Nat → Int32} (hd : 70 ≤ d) (hV : ∀ (b : Nat) (M' : j_M), b ≤ 599 → Scr M M' → ∃ M1, C d 52 [.ref 16, .ref 1, .int (nI g), .int (nI b)] S0 M' N = some (some (.int (V b)), M1, N) ∧ Scr M' M1) : ∀ (j k : Nat) (M' : j_M), k + j = 600 → Scr M M' → ∃ M1, R d kX10_thought 35 [.ref 0, .int (nI g), .int y, .int (nI 0), .int (nI k), .null] [] (S0, M', N) = some (some (.int (oM (fst (eqP V y) j k))), (S0, M1, N)) ∧ Scr M' M1
  | 0, k, M', hk, hs => by
    have e := bX10_thought_35 d (nI g) y (nI 0) (nI k) M' N
    simp (disch := omega) only [z0, z1, z2, z3, z4, z5, z6, z7, z8, z9, z10, z11, z12, z13, z14, z15, z16, z17, z18, z19, z20, z24, z26, z30, z31, z40, z41, z50, z54, z60, z70, z80, z81, z99, z100, z200, z255, z599, z1000, z1299, z4096, z1000000, lw0, lw1, lw2, lw3, lw4, lw5, lw6, lw7, lw12, lw50, lw99, lw255, lw599, lw4096, bI_ok, ble_t, Int.cast_ofNat_Int,  decide_true, decide_false, bI_0, bI_1, b_tf, b_ft, eq_self, n_1, n_2, n_3, n_4, n_5, n_6, n_7, n_8, if_true, if_false, jin, ncl, cond_true, cond_false, Option.bind_some, j_ov, j_oi, j_ol, nle, nlt, neq, nI_add, nmul, nsub, ndiv, nrem2, if_pos, if_neg, Nat.zero_add, Nat.add_zero, j_w_ap, decide_eq_true, decide_eq_false, Bool.true_or, Bool.or_true, Bool.false_or, Bool.or_false, Bool.and_true, Bool.true_and, Bool.false_and, Bool.and_false, Bool.not_true, Bool.not_false] at e
    exact ⟨M', e, Scr.rf⟩
  | j + 1, k, M', hk, hs => by
    obtain ⟨M1, q1, q2⟩ := hV k M' (by omega) hs
    have e := bX10_thought_35 d (nI g) y (nI 0) (nI k) M' N
    unfold fst eqP
    by_cases hv : V k = y
    · simp (disch := omega) only [z0, z1, z2, z3, z4, z5, z6, z7, z8, z9, z10, z11, z12, z13, z14, z15, z16, z17, z18, z19, z20, z24, z26, z30, z31, z40, z41, z50, z54, z60, z70, z80, z81, z99, z100, z200, z255, z599, z1000, z1299, z4096, z1000000, lw0, lw1, lw2, lw3, lw4, lw5, lw6, lw7, lw12, lw50, lw99, lw255, lw599, lw4096, bI_ok, ble_t, Int.cast_ofNat_Int,  decide_true, decide_false, bI_0, bI_1, b_tf, b_ft, eq_self, n_1, n_2, n_3, n_4, n_5, n_6, n_7, n_8, if_true, if_false, jin, ncl, cond_true, cond_false, Option.bind_some, j_ov, j_oi, j_ol, nle, nlt, neq, nI_add, nmul, nsub, ndiv, nrem2, if_pos, if_neg, Nat.zero_add, Nat.add_zero, j_w_ap, decide_eq_true, decide_eq_false, Bool.true_or, Bool.or_true, Bool.false_or, Bool.or_false, Bool.and_true, Bool.true_and, Bool.false_and, Bool.and_false, Bool.not_true, Bool.not_false, q1, hv] at e
      rw [decide_eq_true hv]
      exact ⟨M1, e, q2⟩
    · simp (disch := omega) only [z0, z1, z2, z3, z4, z5, z6, z7, z8, z9, z10, z11, z12, z13, z14, z15, z16, z17, z18, z19, z20, z24, z26, z30, z31, z40, z41, z50, z54, z60, z70, z80, z81, z99, z100, z200, z255, z599, z1000, z1299, z4096, z1000000, lw0, lw1, lw2, lw3, lw4, lw5, lw6, lw7, lw12, lw50, lw99, lw255, lw599, lw4096, bI_ok, ble_t, Int.cast_ofNat_Int,  decide_true, decide_false, bI_0, bI_1, b_tf, b_ft, eq_self, n_1, n_2, n_3, n_4, n_5, n_6, n_7, n_8, if_true, if_false, jin, ncl, cond_true, cond_false, Option.bind_some, j_ov, j_oi, j_ol, nle, nlt, neq, nI_add, nmul, nsub, ndiv, nrem2, if_pos, if_neg, Nat.zero_add, Nat.add_zero, j_w_ap, decide_eq_true, decide_eq_false, Bool.true_or, Bool.or_true, Bool.false_or, Bool.or_false, Bool.and_true, Bool.true_and, Bool.false_and, Bool.and_false, Bool.not_true, Bool.not_false, q1, hv] at e
      rw [decide_eq_false hv]
      obtain ⟨M2, r1, r2⟩ := X_th0 hd hV j (k + 1) M1 (by omega) (hs.tr q2)
      exact ⟨M2, e.trans r1, q2.tr r2⟩
theorem X_th1 {V : Nat → Int32} (hd : 70 ≤ d) (hV : ∀ (b : Nat) (M' : j_M), b ≤ 599 → Scr M M' → ∃ M1, C d 52 [.ref 16, .ref 1, .int (nI g), .int (nI b)] S0 M' N = some (some (.int (V b)), M1, N) ∧ Scr M' M1) : ∀ (j k : Nat) (M' : j_M), k + j = 600 → Scr M M' → ∃ M1, R d kX10_thought 35 [.ref 0, .int (nI g), .int y, .int (nI 1), .int (nI k), .null] [] (S0, M', N) = some (some (.int (oM (lst (eqP V y) j))), (S0, M1, N)) ∧ Scr M' M1
  | 0, k, M', hk, hs => by
    have e := bX10_thought_35 d (nI g) y (nI 1) (nI k) M' N
    simp (disch := omega) only [z0, z1, z2, z3, z4, z5, z6, z7, z8, z9, z10, z11, z12, z13, z14, z15, z16, z17, z18, z19, z20, z24, z26, z30, z31, z40, z41, z50, z54, z60, z70, z80, z81, z99, z100, z200, z255, z599, z1000, z1299, z4096, z1000000, lw0, lw1, lw2, lw3, lw4, lw5, lw6, lw7, lw12, lw50, lw99, lw255, lw599, lw4096, bI_ok, ble_t, Int.cast_ofNat_Int,  decide_true, decide_false, bI_0, bI_1, b_tf, b_ft, eq_self, n_1, n_2, n_3, n_4, n_5, n_6, n_7, n_8, if_true, if_false, jin, ncl, cond_true, cond_false, Option.bind_some, j_ov, j_oi, j_ol, nle, nlt, neq, nI_add, nmul, nsub, ndiv, nrem2, if_pos, if_neg, Nat.zero_add, Nat.add_zero, j_w_ap, decide_eq_true, decide_eq_false, Bool.true_or, Bool.or_true, Bool.false_or, Bool.or_false, Bool.and_true, Bool.true_and, Bool.false_and, Bool.and_false, Bool.not_true, Bool.not_false] at e
    exact ⟨M', e, Scr.rf⟩
  | j + 1, k, M', hk, hs => by
    obtain ⟨M1, q1, q2⟩ := hV j M' (by omega) hs
    have hj : 599 - k = j := by omega
    have e := bX10_thought_35 d (nI g) y (nI 1) (nI k) M' N
    unfold lst eqP
    by_cases hv : V j = y
    · simp (disch := omega) only [z0, z1, z2, z3, z4, z5, z6, z7, z8, z9, z10, z11, z12, z13, z14, z15, z16, z17, z18, z19, z20, z24, z26, z30, z31, z40, z41, z50, z54, z60, z70, z80, z81, z99, z100, z200, z255, z599, z1000, z1299, z4096, z1000000, lw0, lw1, lw2, lw3, lw4, lw5, lw6, lw7, lw12, lw50, lw99, lw255, lw599, lw4096, bI_ok, ble_t, Int.cast_ofNat_Int,  decide_true, decide_false, bI_0, bI_1, b_tf, b_ft, eq_self, n_1, n_2, n_3, n_4, n_5, n_6, n_7, n_8, if_true, if_false, jin, ncl, cond_true, cond_false, Option.bind_some, j_ov, j_oi, j_ol, nle, nlt, neq, nI_add, nmul, nsub, ndiv, nrem2, if_pos, if_neg, Nat.zero_add, Nat.add_zero, j_w_ap, decide_eq_true, decide_eq_false, Bool.true_or, Bool.or_true, Bool.false_or, Bool.or_false, Bool.and_true, Bool.true_and, Bool.false_and, Bool.and_false, Bool.not_true, Bool.not_false, hj, q1, hv] at e
      rw [decide_eq_true hv]
      exact ⟨M1, e, q2⟩
    · simp (disch := omega) only [z0, z1, z2, z3, z4, z5, z6, z7, z8, z9, z10, z11, z12, z13, z14, z15, z16, z17, z18, z19, z20, z24, z26, z30, z31, z40, z41, z50, z54, z60, z70, z80, z81, z99, z100, z200, z255, z599, z1000, z1299, z4096, z1000000, lw0, lw1, lw2, lw3, lw4, lw5, lw6, lw7, lw12, lw50, lw99, lw255, lw599, lw4096, bI_ok, ble_t, Int.cast_ofNat_Int,  decide_true, decide_false, bI_0, bI_1, b_tf, b_ft, eq_self, n_1, n_2, n_3, n_4, n_5, n_6, n_7, n_8, if_true, if_false, jin, ncl, cond_true, cond_false, Option.bind_some, j_ov, j_oi, j_ol, nle, nlt, neq, nI_add, nmul, nsub, ndiv, nrem2, if_pos, if_neg, Nat.zero_add, Nat.add_zero, j_w_ap, decide_eq_true, decide_eq_false, Bool.true_or, Bool.or_true, Bool.false_or, Bool.or_false, Bool.and_true, Bool.true_and, Bool.false_and, Bool.and_false, Bool.not_true, Bool.not_false, hj, q1, hv] at e
      rw [decide_eq_false hv]
      obtain ⟨M2, r1, r2⟩ := X_th1 hd hV j (k + 1) M1 (by omega) (hs.tr q2)
      exact ⟨M2, e.trans r1, q2.tr r2⟩
theorem M_th {V : Nat → Int32} {q : Nat} (hd : 70 ≤ d) (hq : q ≤ 1) (hV : ∀ (b : Nat) (M' : j_M), b ≤ 599 → Scr M M' → ∃ M1, C d 210 [.ref 46, .int (nI g), .int (nI b)] S0 M' N = some (some (.int (V b)), M1, N) ∧ Scr M' M1) : ∀ (j k : Nat) (M' : j_M), k + j = 600 → Scr M M' → ∃ M1, R d kX11_thought 43 [.ref 46, .int (nI g), .int y, .int (nI q), .int (oM (ff (eqP V y) k)), .int (oM (lst (eqP V y) k)), .int (nI k)] [] (S0, M', N) = some (some (.int (if q = 0 then oM (ff (eqP V y) 600) else oM (lst (eqP V y) 600))), (S0, M1, N)) ∧ Scr M' M1
  | 0, k, M', hk, hs => by
    obtain rfl : k = 600 := by omega
    have e := bX11_thought_43 d (nI g) y (nI q) (oM (ff (eqP V y) 600)) (oM (lst (eqP V y) 600)) (nI 600) M' N
    by_cases h0 : q = 0
    · simp (disch := omega) only [z0, z1, z2, z3, z4, z5, z6, z7, z8, z9, z10, z11, z12, z13, z14, z15, z16, z17, z18, z19, z20, z24, z26, z30, z31, z40, z41, z50, z54, z60, z70, z80, z81, z99, z100, z200, z255, z599, z1000, z1299, z4096, z1000000, lw0, lw1, lw2, lw3, lw4, lw5, lw6, lw7, lw12, lw50, lw99, lw255, lw599, lw4096, bI_ok, ble_t, Int.cast_ofNat_Int,  decide_true, decide_false, bI_0, bI_1, b_tf, b_ft, eq_self, n_1, n_2, n_3, n_4, n_5, n_6, n_7, n_8, if_true, if_false, jin, ncl, cond_true, cond_false, Option.bind_some, j_ov, j_oi, j_ol, nle, nlt, neq, nI_add, nmul, nsub, ndiv, nrem2, if_pos, if_neg, Nat.zero_add, Nat.add_zero, j_w_ap, decide_eq_true, decide_eq_false, Bool.true_or, Bool.or_true, Bool.false_or, Bool.or_false, Bool.and_true, Bool.true_and, Bool.false_and, Bool.and_false, Bool.not_true, Bool.not_false] at e
      rw [if_pos h0]
      exact ⟨M', e, Scr.rf⟩
    · simp (disch := omega) only [z0, z1, z2, z3, z4, z5, z6, z7, z8, z9, z10, z11, z12, z13, z14, z15, z16, z17, z18, z19, z20, z24, z26, z30, z31, z40, z41, z50, z54, z60, z70, z80, z81, z99, z100, z200, z255, z599, z1000, z1299, z4096, z1000000, lw0, lw1, lw2, lw3, lw4, lw5, lw6, lw7, lw12, lw50, lw99, lw255, lw599, lw4096, bI_ok, ble_t, Int.cast_ofNat_Int,  decide_true, decide_false, bI_0, bI_1, b_tf, b_ft, eq_self, n_1, n_2, n_3, n_4, n_5, n_6, n_7, n_8, if_true, if_false, jin, ncl, cond_true, cond_false, Option.bind_some, j_ov, j_oi, j_ol, nle, nlt, neq, nI_add, nmul, nsub, ndiv, nrem2, if_pos, if_neg, Nat.zero_add, Nat.add_zero, j_w_ap, decide_eq_true, decide_eq_false, Bool.true_or, Bool.or_true, Bool.false_or, Bool.or_false, Bool.and_true, Bool.true_and, Bool.false_and, Bool.and_false, Bool.not_true, Bool.not_false] at e
      rw [if_neg h0]
      exact ⟨M', e, Scr.rf⟩
  | j + 1, k, M', hk, hs => by
    obtain ⟨M1, q1, q2⟩ := hV k M' (by omega) hs
    obtain ⟨M2, r1, r2⟩ := M_th hd hq hV j (k + 1) M1 (by omega) (hs.tr q2)
    have e := bX11_thought_43 d (nI g) y (nI q) (oM (ff (eqP V y) k)) (oM (lst (eqP V y) k)) (nI k) M' N
    refine ⟨M2, Eq.trans ?_ r1, q2.tr r2⟩
    rw [ff, lst]
    by_cases hv : V k = y
    · rw [show eqP V y k = true from decide_eq_true hv]
      cases hf : ff (eqP V y) k with
      | some w =>
        have := ff_lt hf
        rw [hf, show oM (some w) = nI w from rfl] at e
        simp (disch := omega) only [z0, z1, z2, z3, z4, z5, z6, z7, z8, z9, z10, z11, z12, z13, z14, z15, z16, z17, z18, z19, z20, z24, z26, z30, z31, z40, z41, z50, z54, z60, z70, z80, z81, z99, z100, z200, z255, z599, z1000, z1299, z4096, z1000000, lw0, lw1, lw2, lw3, lw4, lw5, lw6, lw7, lw12, lw50, lw99, lw255, lw599, lw4096, bI_ok, ble_t, Int.cast_ofNat_Int,  decide_true, decide_false, bI_0, bI_1, b_tf, b_ft, eq_self, n_1, n_2, n_3, n_4, n_5, n_6, n_7, n_8, if_true, if_false, jin, ncl, cond_true, cond_false, Option.bind_some, j_ov, j_oi, j_ol, nle, nlt, neq, nI_add, nmul, nsub, ndiv, nrem2, if_pos, if_neg, Nat.zero_add, Nat.add_zero, j_w_ap, decide_eq_true, decide_eq_false, Bool.true_or, Bool.or_true, Bool.false_or, Bool.or_false, Bool.and_true, Bool.true_and, Bool.false_and, Bool.and_false, Bool.not_true, Bool.not_false, q1, hv] at e
        exact e
      | none =>
        rw [hf, show oM none = -nI 2 from rfl] at e
        simp (disch := omega) only [z0, z1, z2, z3, z4, z5, z6, z7, z8, z9, z10, z11, z12, z13, z14, z15, z16, z17, z18, z19, z20, z24, z26, z30, z31, z40, z41, z50, z54, z60, z70, z80, z81, z99, z100, z200, z255, z599, z1000, z1299, z4096, z1000000, lw0, lw1, lw2, lw3, lw4, lw5, lw6, lw7, lw12, lw50, lw99, lw255, lw599, lw4096, bI_ok, ble_t, Int.cast_ofNat_Int,  decide_true, decide_false, bI_0, bI_1, b_tf, b_ft, eq_self, n_1, n_2, n_3, n_4, n_5, n_6, n_7, n_8, if_true, if_false, jin, ncl, cond_true, cond_false, Option.bind_some, j_ov, j_oi, j_ol, nle, nlt, neq, nI_add, nmul, nsub, ndiv, nrem2, if_pos, if_neg, Nat.zero_add, Nat.add_zero, j_w_ap, decide_eq_true, decide_eq_false, Bool.true_or, Bool.or_true, Bool.false_or, Bool.or_false, Bool.and_true, Bool.true_and, Bool.false_and, Bool.and_false, Bool.not_true, Bool.not_false, q1, hv] at e
        exact e
    · rw [show eqP V y k = false from decide_eq_false hv]
      cases hf : ff (eqP V y) k with
      | some w =>
        rw [hf] at e
        simp (disch := omega) only [z0, z1, z2, z3, z4, z5, z6, z7, z8, z9, z10, z11, z12, z13, z14, z15, z16, z17, z18, z19, z20, z24, z26, z30, z31, z40, z41, z50, z54, z60, z70, z80, z81, z99, z100, z200, z255, z599, z1000, z1299, z4096, z1000000, lw0, lw1, lw2, lw3, lw4, lw5, lw6, lw7, lw12, lw50, lw99, lw255, lw599, lw4096, bI_ok, ble_t, Int.cast_ofNat_Int,  decide_true, decide_false, bI_0, bI_1, b_tf, b_ft, eq_self, n_1, n_2, n_3, n_4, n_5, n_6, n_7, n_8, if_true, if_false, jin, ncl, cond_true, cond_false, Option.bind_some, j_ov, j_oi, j_ol, nle, nlt, neq, nI_add, nmul, nsub, ndiv, nrem2, if_pos, if_neg, Nat.zero_add, Nat.add_zero, j_w_ap, decide_eq_true, decide_eq_false, Bool.true_or, Bool.or_true, Bool.false_or, Bool.or_false, Bool.and_true, Bool.true_and, Bool.false_and, Bool.and_false, Bool.not_true, Bool.not_false, q1, hv] at e
        exact e
      | none =>
        rw [hf] at e
        simp (disch := omega) only [z0, z1, z2, z3, z4, z5, z6, z7, z8, z9, z10, z11, z12, z13, z14, z15, z16, z17, z18, z19, z20, z24, z26, z30, z31, z40, z41, z50, z54, z60, z70, z80, z81, z99, z100, z200, z255, z599, z1000, z1299, z4096, z1000000, lw0, lw1, lw2, lw3, lw4, lw5, lw6, lw7, lw12, lw50, lw99, lw255, lw599, lw4096, bI_ok, ble_t, Int.cast_ofNat_Int,  decide_true, decide_false, bI_0, bI_1, b_tf, b_ft, eq_self, n_1, n_2, n_3, n_4, n_5, n_6, n_7, n_8, if_true, if_false, jin, ncl, cond_true, cond_false, Option.bind_some, j_ov, j_oi, j_ol, nle, nlt, neq, nI_add, nmul, nsub, ndiv, nrem2, if_pos, if_neg, Nat.zero_add, Nat.add_zero, j_w_ap, decide_eq_true, decide_eq_false, Bool.true_or, Bool.or_true, Bool.false_or, Bool.or_false, Bool.and_true, Bool.true_and, Bool.false_and, Bool.and_false, Bool.not_true, Bool.not_false, q1, hv] at e
        exact e
theorem Q_thought (hd : 80 ≤ d) (h : IG n a M) (hl : LT M) : ∃ r M1 M2, C d 125 [.ref 0, .int x, .int y, .int w] S0 M N = some (some (.int r), M1, N) ∧ C d 211 [.ref 46, .int x, .int y, .int w] S0 M1 N = some (some (.int r), M2, N) ∧ Scr M M2 := by
  have hn := h.n6
  have hh := fun x => X_has (d := d - 1) (N := N) (x := x) (by omega) h.x6 (by omega)
  have hh2 : ∀ M1, Scr M M1 → ∀ x, C (d - 1) 160 [.ref 46, .int x] S0 M1 N = some (some (.int (bI (ib x 0 ((n : Int) - 1)))), M1, N) := fun M1 hs x => M_isGuest (by omega) (h.scr hs).m6 (by omega)
  have hg9 : ∀ q, q < n → gf a q ≤ 99 := fun q hq => h.gi99 q (by omega)
  have hb9 := h.bi599
  have e1 := bX10_thought_0 (d - 1) x y w M N
  have e2 := fun M1 => bX11_thought_0 (d - 1) x y w M1 N
  cases h1 : ib x 0 ((n : Int) - 1) with
  | false =>
    have e2 := e2 M
    have hh2 := hh2 M Scr.rf
    simp (disch := omega) only [z0, z1, z2, z3, z4, z5, z6, z7, z8, z9, z10, z11, z12, z13, z14, z15, z16, z17, z18, z19, z20, z24, z26, z30, z31, z40, z41, z50, z54, z60, z70, z80, z81, z99, z100, z200, z255, z599, z1000, z1299, z4096, z1000000, lw0, lw1, lw2, lw3, lw4, lw5, lw6, lw7, lw12, lw50, lw99, lw255, lw599, lw4096, bI_ok, ble_t, Int.cast_ofNat_Int,  decide_true, decide_false, bI_0, bI_1, b_tf, b_ft, eq_self, n_1, n_2, n_3, n_4, n_5, n_6, n_7, n_8, if_true, if_false, jin, ncl, cond_true, cond_false, Option.bind_some, j_ov, j_oi, j_ol, nle, nlt, neq, nI_add, nmul, nsub, ndiv, nrem2, if_pos, if_neg, Nat.zero_add, Nat.add_zero, j_w_ap, decide_eq_true, decide_eq_false, Bool.true_or, Bool.or_true, Bool.false_or, Bool.or_false, Bool.and_true, Bool.true_and, Bool.false_and, Bool.and_false, Bool.not_true, Bool.not_false, hh, h1] at e1
    simp (disch := omega) only [z0, z1, z2, z3, z4, z5, z6, z7, z8, z9, z10, z11, z12, z13, z14, z15, z16, z17, z18, z19, z20, z24, z26, z30, z31, z40, z41, z50, z54, z60, z70, z80, z81, z99, z100, z200, z255, z599, z1000, z1299, z4096, z1000000, lw0, lw1, lw2, lw3, lw4, lw5, lw6, lw7, lw12, lw50, lw99, lw255, lw599, lw4096, bI_ok, ble_t, Int.cast_ofNat_Int,  decide_true, decide_false, bI_0, bI_1, b_tf, b_ft, eq_self, n_1, n_2, n_3, n_4, n_5, n_6, n_7, n_8, if_true, if_false, jin, ncl, cond_true, cond_false, Option.bind_some, j_ov, j_oi, j_ol, nle, nlt, neq, nI_add, nmul, nsub, ndiv, nrem2, if_pos, if_neg, Nat.zero_add, Nat.add_zero, j_w_ap, decide_eq_true, decide_eq_false, Bool.true_or, Bool.or_true, Bool.false_or, Bool.or_false, Bool.and_true, Bool.true_and, Bool.false_and, Bool.and_false, Bool.not_true, Bool.not_false, hh2, h1] at e2
    exact ⟨_, _, _, eX10_thought (by omega) e1, eX11_thought (by omega) e2, Scr.rf⟩
  | true =>
    cases h2 : ib y 0 99 with
    | false =>
      have e2 := e2 M
      have hh2 := hh2 M Scr.rf
      simp (disch := omega) only [z0, z1, z2, z3, z4, z5, z6, z7, z8, z9, z10, z11, z12, z13, z14, z15, z16, z17, z18, z19, z20, z24, z26, z30, z31, z40, z41, z50, z54, z60, z70, z80, z81, z99, z100, z200, z255, z599, z1000, z1299, z4096, z1000000, lw0, lw1, lw2, lw3, lw4, lw5, lw6, lw7, lw12, lw50, lw99, lw255, lw599, lw4096, bI_ok, ble_t, Int.cast_ofNat_Int,  decide_true, decide_false, bI_0, bI_1, b_tf, b_ft, eq_self, n_1, n_2, n_3, n_4, n_5, n_6, n_7, n_8, if_true, if_false, jin, ncl, cond_true, cond_false, Option.bind_some, j_ov, j_oi, j_ol, nle, nlt, neq, nI_add, nmul, nsub, ndiv, nrem2, if_pos, if_neg, Nat.zero_add, Nat.add_zero, j_w_ap, decide_eq_true, decide_eq_false, Bool.true_or, Bool.or_true, Bool.false_or, Bool.or_false, Bool.and_true, Bool.true_and, Bool.false_and, Bool.and_false, Bool.not_true, Bool.not_false, hh, h1, X_within, h2] at e1
      simp (disch := omega) only [z0, z1, z2, z3, z4, z5, z6, z7, z8, z9, z10, z11, z12, z13, z14, z15, z16, z17, z18, z19, z20, z24, z26, z30, z31, z40, z41, z50, z54, z60, z70, z80, z81, z99, z100, z200, z255, z599, z1000, z1299, z4096, z1000000, lw0, lw1, lw2, lw3, lw4, lw5, lw6, lw7, lw12, lw50, lw99, lw255, lw599, lw4096, bI_ok, ble_t, Int.cast_ofNat_Int,  decide_true, decide_false, bI_0, bI_1, b_tf, b_ft, eq_self, n_1, n_2, n_3, n_4, n_5, n_6, n_7, n_8, if_true, if_false, jin, ncl, cond_true, cond_false, Option.bind_some, j_ov, j_oi, j_ol, nle, nlt, neq, nI_add, nmul, nsub, ndiv, nrem2, if_pos, if_neg, Nat.zero_add, Nat.add_zero, j_w_ap, decide_eq_true, decide_eq_false, Bool.true_or, Bool.or_true, Bool.false_or, Bool.or_false, Bool.and_true, Bool.true_and, Bool.false_and, Bool.and_false, Bool.not_true, Bool.not_false, hh2, h1, M_within, h2] at e2
      exact ⟨_, _, _, eX10_thought (by omega) e1, eX11_thought (by omega) e2, Scr.rf⟩
    | true =>
      cases h3 : ib w 0 1 with
      | false =>
        have e2 := e2 M
        have hh2 := hh2 M Scr.rf
        simp (disch := omega) only [z0, z1, z2, z3, z4, z5, z6, z7, z8, z9, z10, z11, z12, z13, z14, z15, z16, z17, z18, z19, z20, z24, z26, z30, z31, z40, z41, z50, z54, z60, z70, z80, z81, z99, z100, z200, z255, z599, z1000, z1299, z4096, z1000000, lw0, lw1, lw2, lw3, lw4, lw5, lw6, lw7, lw12, lw50, lw99, lw255, lw599, lw4096, bI_ok, ble_t, Int.cast_ofNat_Int,  decide_true, decide_false, bI_0, bI_1, b_tf, b_ft, eq_self, n_1, n_2, n_3, n_4, n_5, n_6, n_7, n_8, if_true, if_false, jin, ncl, cond_true, cond_false, Option.bind_some, j_ov, j_oi, j_ol, nle, nlt, neq, nI_add, nmul, nsub, ndiv, nrem2, if_pos, if_neg, Nat.zero_add, Nat.add_zero, j_w_ap, decide_eq_true, decide_eq_false, Bool.true_or, Bool.or_true, Bool.false_or, Bool.or_false, Bool.and_true, Bool.true_and, Bool.false_and, Bool.and_false, Bool.not_true, Bool.not_false, hh, h1, X_within, h2, h3] at e1
        simp (disch := omega) only [z0, z1, z2, z3, z4, z5, z6, z7, z8, z9, z10, z11, z12, z13, z14, z15, z16, z17, z18, z19, z20, z24, z26, z30, z31, z40, z41, z50, z54, z60, z70, z80, z81, z99, z100, z200, z255, z599, z1000, z1299, z4096, z1000000, lw0, lw1, lw2, lw3, lw4, lw5, lw6, lw7, lw12, lw50, lw99, lw255, lw599, lw4096, bI_ok, ble_t, Int.cast_ofNat_Int,  decide_true, decide_false, bI_0, bI_1, b_tf, b_ft, eq_self, n_1, n_2, n_3, n_4, n_5, n_6, n_7, n_8, if_true, if_false, jin, ncl, cond_true, cond_false, Option.bind_some, j_ov, j_oi, j_ol, nle, nlt, neq, nI_add, nmul, nsub, ndiv, nrem2, if_pos, if_neg, Nat.zero_add, Nat.add_zero, j_w_ap, decide_eq_true, decide_eq_false, Bool.true_or, Bool.or_true, Bool.false_or, Bool.or_false, Bool.and_true, Bool.true_and, Bool.false_and, Bool.and_false, Bool.not_true, Bool.not_false, hh2, h1, M_within, h2, h3] at e2
        exact ⟨_, _, _, eX10_thought (by omega) e1, eX11_thought (by omega) e2, Scr.rf⟩
      | true =>
        obtain ⟨i, hi, rfl⟩ := ib_g h1 (by omega)
        obtain ⟨q, -, hq, rfl⟩ := ib_ex (lo := 0) (hi := 1) h3 (by omega)
        obtain ⟨V, gx, ge⟩ := G_ex h hl
        by_cases h0 : q = 0
        · subst h0
          obtain ⟨M1, q1, q2⟩ := X_th0 (d := d - 1) (N := N) (M := M) (g := i) (y := y) (V := V i) (by omega) (fun b M' hb hs => gx (d - 1) i b M' N (by omega) hi hb hs) 600 0 M (by omega) Scr.rf
          obtain ⟨M2, p1, p2⟩ := M_th (d := d - 1) (N := N) (M := M) (g := i) (y := y) (V := V i) (q := 0) (by omega) (by omega) (fun b M' hb hs => ge (d - 1) i b M' N (by omega) hi hb hs) 600 0 M1 (by omega) q2
          rw [if_pos rfl, show (600 : Nat) = 0 + 600 from rfl, ff_fst 600 0] at p1
          have e2 := e2 M1
          have hh2 := hh2 M1 q2
          simp (disch := omega) only [z0, z1, z2, z3, z4, z5, z6, z7, z8, z9, z10, z11, z12, z13, z14, z15, z16, z17, z18, z19, z20, z24, z26, z30, z31, z40, z41, z50, z54, z60, z70, z80, z81, z99, z100, z200, z255, z599, z1000, z1299, z4096, z1000000, lw0, lw1, lw2, lw3, lw4, lw5, lw6, lw7, lw12, lw50, lw99, lw255, lw599, lw4096, bI_ok, ble_t, Int.cast_ofNat_Int,  decide_true, decide_false, bI_0, bI_1, b_tf, b_ft, eq_self, n_1, n_2, n_3, n_4, n_5, n_6, n_7, n_8, if_true, if_false, jin, ncl, cond_true, cond_false, Option.bind_some, j_ov, j_oi, j_ol, nle, nlt, neq, nI_add, nmul, nsub, ndiv, nrem2, if_pos, if_neg, Nat.zero_add, Nat.add_zero, j_w_ap, decide_eq_true, decide_eq_false, Bool.true_or, Bool.or_true, Bool.false_or, Bool.or_false, Bool.and_true, Bool.true_and, Bool.false_and, Bool.and_false, Bool.not_true, Bool.not_false, hh, h1, X_within, h2, h3] at e1
          simp (disch := omega) only [z0, z1, z2, z3, z4, z5, z6, z7, z8, z9, z10, z11, z12, z13, z14, z15, z16, z17, z18, z19, z20, z24, z26, z30, z31, z40, z41, z50, z54, z60, z70, z80, z81, z99, z100, z200, z255, z599, z1000, z1299, z4096, z1000000, lw0, lw1, lw2, lw3, lw4, lw5, lw6, lw7, lw12, lw50, lw99, lw255, lw599, lw4096, bI_ok, ble_t, Int.cast_ofNat_Int,  decide_true, decide_false, bI_0, bI_1, b_tf, b_ft, eq_self, n_1, n_2, n_3, n_4, n_5, n_6, n_7, n_8, if_true, if_false, jin, ncl, cond_true, cond_false, Option.bind_some, j_ov, j_oi, j_ol, nle, nlt, neq, nI_add, nmul, nsub, ndiv, nrem2, if_pos, if_neg, Nat.zero_add, Nat.add_zero, j_w_ap, decide_eq_true, decide_eq_false, Bool.true_or, Bool.or_true, Bool.false_or, Bool.or_false, Bool.and_true, Bool.true_and, Bool.false_and, Bool.and_false, Bool.not_true, Bool.not_false, hh2, h1, M_within, h2, h3] at e2
          exact ⟨_, _, _, eX10_thought (by omega) (e1.trans q1), eX11_thought (by omega) (e2.trans p1), q2.tr p2⟩
        · obtain rfl : q = 1 := by omega
          obtain ⟨M1, q1, q2⟩ := X_th1 (d := d - 1) (N := N) (M := M) (g := i) (y := y) (V := V i) (by omega) (fun b M' hb hs => gx (d - 1) i b M' N (by omega) hi hb hs) 600 0 M (by omega) Scr.rf
          obtain ⟨M2, p1, p2⟩ := M_th (d := d - 1) (N := N) (M := M) (g := i) (y := y) (V := V i) (q := 1) (by omega) (by omega) (fun b M' hb hs => ge (d - 1) i b M' N (by omega) hi hb hs) 600 0 M1 (by omega) q2
          rw [if_neg (by omega)] at p1
          have e2 := e2 M1
          have hh2 := hh2 M1 q2
          simp (disch := omega) only [z0, z1, z2, z3, z4, z5, z6, z7, z8, z9, z10, z11, z12, z13, z14, z15, z16, z17, z18, z19, z20, z24, z26, z30, z31, z40, z41, z50, z54, z60, z70, z80, z81, z99, z100, z200, z255, z599, z1000, z1299, z4096, z1000000, lw0, lw1, lw2, lw3, lw4, lw5, lw6, lw7, lw12, lw50, lw99, lw255, lw599, lw4096, bI_ok, ble_t, Int.cast_ofNat_Int,  decide_true, decide_false, bI_0, bI_1, b_tf, b_ft, eq_self, n_1, n_2, n_3, n_4, n_5, n_6, n_7, n_8, if_true, if_false, jin, ncl, cond_true, cond_false, Option.bind_some, j_ov, j_oi, j_ol, nle, nlt, neq, nI_add, nmul, nsub, ndiv, nrem2, if_pos, if_neg, Nat.zero_add, Nat.add_zero, j_w_ap, decide_eq_true, decide_eq_false, Bool.true_or, Bool.or_true, Bool.false_or, Bool.or_false, Bool.and_true, Bool.true_and, Bool.false_and, Bool.and_false, Bool.not_true, Bool.not_false, hh, h1, X_within, h2, h3] at e1
          simp (disch := omega) only [z0, z1, z2, z3, z4, z5, z6, z7, z8, z9, z10, z11, z12, z13, z14, z15, z16, z17, z18, z19, z20, z24, z26, z30, z31, z40, z41, z50, z54, z60, z70, z80, z81, z99, z100, z200, z255, z599, z1000, z1299, z4096, z1000000, lw0, lw1, lw2, lw3, lw4, lw5, lw6, lw7, lw12, lw50, lw99, lw255, lw599, lw4096, bI_ok, ble_t, Int.cast_ofNat_Int,  decide_true, decide_false, bI_0, bI_1, b_tf, b_ft, eq_self, n_1, n_2, n_3, n_4, n_5, n_6, n_7, n_8, if_true, if_false, jin, ncl, cond_true, cond_false, Option.bind_some, j_ov, j_oi, j_ol, nle, nlt, neq, nI_add, nmul, nsub, ndiv, nrem2, if_pos, if_neg, Nat.zero_add, Nat.add_zero, j_w_ap, decide_eq_true, decide_eq_false, Bool.true_or, Bool.or_true, Bool.false_or, Bool.or_false, Bool.and_true, Bool.true_and, Bool.false_and, Bool.and_false, Bool.not_true, Bool.not_false, hh2, h1, M_within, h2, h3] at e2
          exact ⟨_, _, _, eX10_thought (by omega) (e1.trans q1), eX11_thought (by omega) (e2.trans p1), q2.tr p2⟩
end GI
