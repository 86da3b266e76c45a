/-! ===== dishes: who orders what (own text) ===== -/
def IM (m : Nat) (pr jo : Nat → Nat) (M : j_M) : Prop := m ≤ 3 ∧ M 12 5 = nI m ∧ M 46 17 = nI m ∧ (∀ i, i < 3 → pr i ≤ 99) ∧ (∀ i, i < 3 → M 13 i = nI (pr i)) ∧ (∀ i, i < 3 → M 56 i = nI (pr i)) ∧ (∀ k, k < 18 → jo k ≤ 99) ∧ (∀ k, k < 18 → M 14 k = nI (jo k)) ∧ (∀ k, k < 18 → M 57 k = nI (jo k))
theorem IM.scr {m : Nat} {pr jo : Nat → Nat} {M M' : j_M} (h : IM m pr jo M) (hs : Scr M M') : IM m pr jo M' := by
  obtain ⟨h1, h2, h3, h4, h5, h6, h7, h8, h9⟩ := h
  exact ⟨h1, (hs 12 5 rfl).trans h2, (hs 46 17 rfl).trans h3, h4, fun k hk => (hs 13 k rfl).trans (h5 k hk), fun k hk => (hs 56 k rfl).trans (h6 k hk), h7, fun k hk => (hs 14 k rfl).trans (h8 k hk), fun k hk => (hs 57 k rfl).trans (h9 k hk)⟩
/-- the first of the best, by numbers -/
def bc (w : Nat → Int) : Nat → Nat
  | 0 => 0
  | c + 1 => if w (bc w c) < w (c + 1) then c + 1 else bc w c
theorem bc_le {w : Nat → Int} : ∀ c, bc w c ≤ c
  | 0 => Nat.le_refl _
  | c + 1 => by
    have := bc_le (w := w) c
    unfold bc
    split <;> omega
def pc (pr : Nat → Nat) (c : Nat) : Nat := if c = 0 then 0 else pr (c - 1)
def jc (jo : Nat → Nat) (g c : Nat) : Nat := if c = 0 then 0 else jo (3 * g + (c - 1))
/-- what the last k guests do when the bill has come to b: what the first of them orders, the bill in the end -/
def pe (n m : Nat) (pr jo gi : Nat → Nat) (rule : Nat) : Nat → Nat → Nat × Nat
  | 0, b => (0, b)
  | k + 1, b =>
    (bc (fun c => (jc jo (n - (k + 1)) c : Int) - (s_cost n gi (pe n m pr jo gi rule k (b + pc pr c)).2 rule (n - (k + 1)) : Int)) m,
     (pe n m pr jo gi rule k (b + pc pr (bc (fun c => (jc jo (n - (k + 1)) c : Int) - (s_cost n gi (pe n m pr jo gi rule k (b + pc pr c)).2 rule (n - (k + 1)) : Int)) m))).2)
theorem pc_le {pr : Nat → Nat} {c m : Nat} (hp : ∀ i, i < 3 → pr i ≤ 99) (hm : m ≤ 3) (hc : c ≤ m) : pc pr c ≤ 99 := by
  unfold pc
  split
  · omega
  · exact hp _ (by omega)
theorem pe_le {n m : Nat} {pr jo gi : Nat → Nat} {rule : Nat} (hp : ∀ i, i < 3 → pr i ≤ 99) (hm : m ≤ 3) : ∀ k b, (pe n m pr jo gi rule k b).2 ≤ b + 99 * k ∧ (pe n m pr jo gi rule k b).1 ≤ m
  | 0, b => ⟨by unfold pe; omega, by unfold pe; omega⟩
  | k + 1, b => by
    unfold pe
    dsimp only
    have h1 := bc_le (w := fun c => (jc jo (n - (k + 1)) c : Int) - (s_cost n gi (pe n m pr jo gi rule k (b + pc pr c)).2 rule (n - (k + 1)) : Int)) m
    have h2 := pc_le hp hm h1
    have h3 := (pe_le (n := n) (m := m) (pr := pr) (jo := jo) (gi := gi) (rule := rule) hp hm k (b + pc pr (bc (fun c => (jc jo (n - (k + 1)) c : Int) - (s_cost n gi (pe n m pr jo gi rule k (b + pc pr c)).2 rule (n - (k + 1)) : Int)) m))).1
    exact ⟨by omega, h1⟩
theorem wle {a b c d : Nat} (ha : a < 1073741824) (hb : b < 1073741824) (hc : c < 1073741824) (hd : d < 1073741824) : (nI a - nI b ≤ nI c - nI d) = ((a : Int) - b ≤ (c : Int) - d) := by
  rw [Int32.le_iff_toInt_le, pk_sub_toInt ha hb, pk_sub_toInt hc hd]
theorem pd_g {c : Nat} (hc : c ≤ 3) (m : Nat) (hm : m ≤ 3) : ib (pd c) 0 ((m : Int) - 1) = (Nat.blt 0 c && Nat.ble c m) := by
  cases c with
  | zero => unfold ib pd; rw [n_t (by omega), decide_eq_false (by omega)]; rfl
  | succ c =>
    unfold pd
    rw [ib_nI (by omega), decide_eq_true (show (0 : Int) ≤ (c : Int) by omega), Bool.true_and, blt_t (by omega), Bool.true_and]
    by_cases h : c + 1 ≤ m
    · rw [decide_eq_true (by omega), ble_t h]
    · rw [decide_eq_false (by omega)]
      cases hb : Nat.ble (c + 1) m with
      | false => rfl
      | true => exact absurd (Nat.le_of_ble_eq_true hb) h
theorem pd_ne2 {q : Nat} (hq : q ≤ 3) : ¬ pd q = -nI 2 := by
  have : q = 0 ∨ q = 1 ∨ q = 2 ∨ q = 3 := by omega
  rcases this with rfl | rfl | rfl | rfl <;> decide
section ME
variable {d n m bill rule p : Nat} {g a pr jo : Nat → Nat} {M : j_M} {N : j_N} {x y w u : Int32}
theorem X_mhas (hd : 1 ≤ d) (hx : M 12 5 = nI m) (hm : m < 2147483648) : C d 62 [.ref 12, .int x] S0 M N = some (some (.int (bI (ib x 0 ((m : Int) - 1)))), M, N) := by
  refine eX5_has hd ?_
  rw [bX5_has_0, hx]
  unfold ib
  by_cases h1 : x < 0
  · rw [if_pos h1]
    rw [Int32.lt_iff_toInt_lt, Int32.toInt_zero] at h1
    rw [decide_eq_false (by omega)]; rfl
  · rw [if_neg h1]
    rw [Int32.lt_iff_toInt_lt, Int32.toInt_zero] at h1
    rw [decide_eq_true (by omega)]
    by_cases h2 : nI m ≤ x
    · rw [if_pos h2]
      rw [Int32.le_iff_toInt_le, nI_toInt hm] at h2
      rw [decide_eq_false (by omega)]; rfl
    · rw [if_neg h2]
      rw [Int32.le_iff_toInt_le, nI_toInt hm] at h2
      rw [decide_eq_true (by omega)]; rfl
theorem X_worth {c : Nat} (hd : 4 ≤ d) (hn : n ≤ 6) (hg : ∀ q, q < n → g q ≤ 99) (hb : bill ≤ 1000) (hr4 : rule ≤ 4) (hc : c ≤ m) (hp : p < n) (hi : IM m pr jo M) (h : wh n g n M) (hr : M 8 2 = nI rule) : ∃ M', C d 68 [.ref 12, .int (nI p), .int (pd c), .int (nI bill)] S0 M N = some (some (.int (nI (jc jo p c) - nI (s_cost n g bill rule p))), M', N) ∧ hatOK n g bill M' ∧ M' 8 2 = nI rule ∧ Fr [8] M M' := by
  have hm := hi.1
  obtain ⟨M1, q1, q2, q3, q4⟩ := X_charge (d := d - 1) (N := N) (by omega) (by omega) hg hb h
  have hr1 := q4.trans hr
  have hi1 := hi.scr (Scr.fr8 q3)
  have q5 := X_mhas (d := d - 1) (N := N) (x := pd c) (by omega) hi1.2.1 (by omega)
  rw [pd_g (by omega) m hm] at q5
  have q6 := X_cost (d := d - 1) (N := N) (i := p) (by omega) (by omega) hg hb q2 hr1 hr4 hp
  have h14 := hi1.2.2.2.2.2.2.2.1
  refine ⟨M1, eX5_worth (by omega) ?_, q2, hr1, q3⟩
  have e := bX5_worth_0 (d - 1) (nI p) (pd c) (nI bill) M N
  cases c with
  | zero =>
    rw [show Nat.blt 0 0 = false from rfl, Bool.false_and] at q5
    simp (disch := omega) only [z0, z1, z2, z3, z4, z5, z6, z7, z8, z9, z10, z11, z12, z13, z14, z15, z16, z17, z18, z19, z20, z24, z26, z30, z31, z40, z41, z50, z54, z60, z70, z80, z81, z99, z100, z200, z255, z599, z1000, z1299, z4096, z1000000, lw0, lw1, lw2, lw3, lw4, lw5, lw6, lw7, lw12, lw50, lw99, lw255, lw599, lw4096, bI_ok, ble_t, Int.cast_ofNat_Int,  decide_true, decide_false, bI_0, bI_1, b_tf, b_ft, eq_self, n_1, n_2, n_3, n_4, n_5, n_6, n_7, n_8, if_true, if_false, jin, ncl, cond_true, cond_false, Option.bind_some, j_ov, j_oi, j_ol, nle, nlt, neq, nI_add, nmul, nsub, ndiv, nrem2, if_pos, if_neg, Nat.zero_add, Nat.add_zero, j_w_ap, decide_eq_true, decide_eq_false, Bool.true_or, Bool.or_true, Bool.false_or, Bool.or_false, Bool.and_true, Bool.true_and, Bool.false_and, Bool.and_false, Bool.not_true, Bool.not_false, q1, q5, q6] at e
    exact e
  | succ c =>
    rw [blt_t (by omega), ble_t (by omega), Bool.true_and] at q5
    unfold pd at e q5 ⊢
    have e3 : p * 3 + c = 3 * p + c := by omega
    simp (disch := omega) only [z0, z1, z2, z3, z4, z5, z6, z7, z8, z9, z10, z11, z12, z13, z14, z15, z16, z17, z18, z19, z20, z24, z26, z30, z31, z40, z41, z50, z54, z60, z70, z80, z81, z99, z100, z200, z255, z599, z1000, z1299, z4096, z1000000, lw0, lw1, lw2, lw3, lw4, lw5, lw6, lw7, lw12, lw50, lw99, lw255, lw599, lw4096, bI_ok, ble_t, Int.cast_ofNat_Int,  decide_true, decide_false, bI_0, bI_1, b_tf, b_ft, eq_self, n_1, n_2, n_3, n_4, n_5, n_6, n_7, n_8, if_true, if_false, jin, ncl, cond_true, cond_false, Option.bind_some, j_ov, j_oi, j_ol, nle, nlt, neq, nI_add, nmul, nsub, ndiv, nrem2, if_pos, if_neg, Nat.zero_add, Nat.add_zero, j_w_ap, decide_eq_true, decide_eq_false, Bool.true_or, Bool.or_true, Bool.false_or, Bool.or_false, Bool.and_true, Bool.true_and, Bool.false_and, Bool.and_false, Bool.not_true, Bool.not_false, q1, q5, q6, e3, h14] at e
    unfold jc
    rw [if_neg (by omega), Nat.add_sub_cancel]
    exact e
theorem X_priceOf {c : Nat} (hd : 2 ≤ d) (hc : c ≤ m) (hi : IM m pr jo M) : C d 67 [.ref 12, .int (pd c)] S0 M N = some (some (.int (nI (pc pr c))), M, N) := by
  have hm := hi.1
  have q5 := X_mhas (d := d - 1) (N := N) (x := pd c) (by omega) hi.2.1 (by omega)
  rw [pd_g (by omega) m hm] at q5
  refine eX5_priceOf (by omega) ?_
  have e := bX5_priceOf_0 (d - 1) (pd c) M N
  have h13 := hi.2.2.2.2.1
  cases c with
  | zero =>
    rw [show Nat.blt 0 0 = false from rfl, Bool.false_and] at q5
    simp (disch := omega) only [z0, z1, z2, z3, z4, z5, z6, z7, z8, z9, z10, z11, z12, z13, z14, z15, z16, z17, z18, z19, z20, z24, z26, z30, z31, z40, z41, z50, z54, z60, z70, z80, z81, z99, z100, z200, z255, z599, z1000, z1299, z4096, z1000000, lw0, lw1, lw2, lw3, lw4, lw5, lw6, lw7, lw12, lw50, lw99, lw255, lw599, lw4096, bI_ok, ble_t, Int.cast_ofNat_Int,  decide_true, decide_false, bI_0, bI_1, b_tf, b_ft, eq_self, n_1, n_2, n_3, n_4, n_5, n_6, n_7, n_8, if_true, if_false, jin, ncl, cond_true, cond_false, Option.bind_some, j_ov, j_oi, j_ol, nle, nlt, neq, nI_add, nmul, nsub, ndiv, nrem2, if_pos, if_neg, Nat.zero_add, Nat.add_zero, j_w_ap, decide_eq_true, decide_eq_false, Bool.true_or, Bool.or_true, Bool.false_or, Bool.or_false, Bool.and_true, Bool.true_and, Bool.false_and, Bool.and_false, Bool.not_true, Bool.not_false, q5] at e
    exact e
  | succ c =>
    rw [blt_t (by omega), ble_t (by omega), Bool.true_and] at q5
    unfold pd at e q5 ⊢
    simp (disch := omega) only [z0, z1, z2, z3, z4, z5, z6, z7, z8, z9, z10, z11, z12, z13, z14, z15, z16, z17, z18, z19, z20, z24, z26, z30, z31, z40, z41, z50, z54, z60, z70, z80, z81, z99, z100, z200, z255, z599, z1000, z1299, z4096, z1000000, lw0, lw1, lw2, lw3, lw4, lw5, lw6, lw7, lw12, lw50, lw99, lw255, lw599, lw4096, bI_ok, ble_t, Int.cast_ofNat_Int,  decide_true, decide_false, bI_0, bI_1, b_tf, b_ft, eq_self, n_1, n_2, n_3, n_4, n_5, n_6, n_7, n_8, if_true, if_false, jin, ncl, cond_true, cond_false, Option.bind_some, j_ov, j_oi, j_ol, nle, nlt, neq, nI_add, nmul, nsub, ndiv, nrem2, if_pos, if_neg, Nat.zero_add, Nat.add_zero, j_w_ap, decide_eq_true, decide_eq_false, Bool.true_or, Bool.or_true, Bool.false_or, Bool.or_false, Bool.and_true, Bool.true_and, Bool.false_and, Bool.and_false, Bool.not_true, Bool.not_false, q5, h13] at e
    unfold pc
    rw [if_neg (by omega), Nat.add_sub_cancel]
    exact e
theorem wh.fr {k : Nat} {M' : j_M} (h : wh n g k M) (h8 : M' 8 = M 8) (h9 : M' 9 = M 9) : wh n g k M' := by
  unfold wh at h ⊢
  rw [h8, h9]
  exact h
theorem X_play (hg : ∀ q, q < n → g q ≤ 99) (hr4 : rule ≤ 4) : ∀ (k d b : Nat) (M : j_M), k ≤ n → k + 6 ≤ d → b ≤ 99 * (n - k) → IG n a M → IM m pr jo M → wh n g n M → M 8 2 = nI rule → ∃ M', C d 66 [.ref 12, .int (nI (n - k)), .int (nI b)] S0 M N = some (some (.int (nI (pe n m pr jo g rule k b).2)), M', N) ∧ wh n g n M' ∧ M' 8 2 = nI rule ∧ Fr [8, 15] M M' ∧ (1 ≤ k → M' 15 (n - k) = pd (pe n m pr jo g rule k b).1) ∧ ∀ i, i < n - k → M' 15 i = M 15 i
  | 0, d, b, M, hk, hd, hb, h, hi, hw, hr => by
    have hn := h.n6
    have hx := h.x6
    refine ⟨M, eX5_playOut (by omega) ?_, hw, hr, Fr.rf, fun z => by omega, fun i hi => rfl⟩
    have e := bX5_playOut_0 (d - 1) (nI (n - 0)) (nI b) M N
    simp (disch := omega) only [z0, z1, z2, z3, z4, z5, z6, z7, z8, z9, z10, z11, z12, z13, z14, z15, z16, z17, z18, z19, z20, z24, z26, z30, z31, z40, z41, z50, z54, z60, z70, z80, z81, z99, z100, z200, z255, z599, z1000, z1299, z4096, z1000000, lw0, lw1, lw2, lw3, lw4, lw5, lw6, lw7, lw12, lw50, lw99, lw255, lw599, lw4096, bI_ok, ble_t, Int.cast_ofNat_Int,  decide_true, decide_false, bI_0, bI_1, b_tf, b_ft, eq_self, n_1, n_2, n_3, n_4, n_5, n_6, n_7, n_8, if_true, if_false, jin, ncl, cond_true, cond_false, Option.bind_some, j_ov, j_oi, j_ol, nle, nlt, neq, nI_add, nmul, nsub, ndiv, nrem2, if_pos, if_neg, Nat.zero_add, Nat.add_zero, j_w_ap, decide_eq_true, decide_eq_false, Bool.true_or, Bool.or_true, Bool.false_or, Bool.or_false, Bool.and_true, Bool.true_and, Bool.false_and, Bool.and_false, Bool.not_true, Bool.not_false, hx] at e
    exact e
  | k + 1, d, b, M, hk, hd, hb, h, hi, hw, hr => by
    have hn := h.n6
    have hm := hi.1
    have hpr := hi.2.2.2.1
    have hx := h.x6
    have sf : ∀ {M1 M2 : j_M}, Fr [8, 15] M1 M2 → Scr M1 M2 := fun f => Scr.fr f (fun c hc k => by
      simp only [List.mem_cons, List.not_mem_nil, or_false] at hc
      rcases hc with rfl | rfl <;> rfl)
    have hbill : ∀ c, c ≤ m → (pe n m pr jo g rule k (b + pc pr c)).2 ≤ 1000 := fun c hc => by
      have h1 := (pe_le (n := n) (m := m) (pr := pr) (jo := jo) (gi := g) (rule := rule) hpr hm k (b + pc pr c)).1
      have h2 := pc_le hpr hm hc
      omega
    have hjc : ∀ c, c ≤ m → jc jo (n - (k + 1)) c ≤ 99 := fun c hc => by
      unfold jc
      split
      · omega
      · exact hi.2.2.2.2.2.2.1 _ (by omega)
    have hco : ∀ c, s_cost n g (pe n m pr jo g rule k (b + pc pr c)).2 rule (n - (k + 1)) ≤ (pe n m pr jo g rule k (b + pc pr c)).2 + 199 := fun c => s_cost_le (hg _ (by omega))
    have hk1 : n - (k + 1) + 1 = n - k := by omega
    -- the dishes one by one
    have loop : ∀ (j c : Nat) (M1 : j_M), c + j = m → Fr [8, 15] M M1 → wh n g n M1 → M1 8 2 = nI rule → (∀ i, i < n - (k + 1) → M1 15 i = M 15 i) → ∃ M', R (d - 1) kX5_playOut 44 [.ref 12, .int (nI (n - (k + 1))), .int (nI b), .int (pd (bc (fun c => (jc jo (n - (k + 1)) c : Int) - (s_cost n g (pe n m pr jo g rule k (b + pc pr c)).2 rule (n - (k + 1)) : Int)) c)), .int (nI (pe n m pr jo g rule k (b + pc pr (bc (fun c => (jc jo (n - (k + 1)) c : Int) - (s_cost n g (pe n m pr jo g rule k (b + pc pr c)).2 rule (n - (k + 1)) : Int)) c))).2), .int (nI (jc jo (n - (k + 1)) (bc (fun c => (jc jo (n - (k + 1)) c : Int) - (s_cost n g (pe n m pr jo g rule k (b + pc pr c)).2 rule (n - (k + 1)) : Int)) c)) - nI (s_cost n g (pe n m pr jo g rule k (b + pc pr (bc (fun c => (jc jo (n - (k + 1)) c : Int) - (s_cost n g (pe n m pr jo g rule k (b + pc pr c)).2 rule (n - (k + 1)) : Int)) c))).2 rule (n - (k + 1)))), .int (nI c), .null, .null] [] (S0, M1, N) = some (some (.int (nI (pe n m pr jo g rule (k + 1) b).2)), (S0, M', N)) ∧ wh n g n M' ∧ M' 8 2 = nI rule ∧ Fr [8, 15] M M' ∧ M' 15 (n - (k + 1)) = pd (pe n m pr jo g rule (k + 1) b).1 ∧ ∀ i, i < n - (k + 1) → M' 15 i = M 15 i := by
      intro j
      generalize hW : (fun c => (jc jo (n - (k + 1)) c : Int) - (s_cost n g (pe n m pr jo g rule k (b + pc pr c)).2 rule (n - (k + 1)) : Int)) = W
      have hWc : ∀ c, W c = (jc jo (n - (k + 1)) c : Int) - (s_cost n g (pe n m pr jo g rule k (b + pc pr c)).2 rule (n - (k + 1)) : Int) := fun c => by rw [← hW]
      have hpe : pe n m pr jo g rule (k + 1) b = (bc W m, (pe n m pr jo g rule k (b + pc pr (bc W m))).2) := by rw [pe, hW]
      induction j with
      | zero =>
        intro c M1 hc hf hw1 hr1 h15
        obtain rfl : c = m := by omega
        have e := bX5_playOut_44 (d - 1) (nI (n - (k + 1))) (nI b) (pd (bc W c)) (nI (pe n c pr jo g rule k (b + pc pr (bc W c))).2) (nI (jc jo (n - (k + 1)) (bc W c)) - nI (s_cost n g (pe n c pr jo g rule k (b + pc pr (bc W c))).2 rule (n - (k + 1)))) (nI c) M1 N
        have h125 := (hi.scr (sf hf)).2.1
        simp (disch := omega) only [z0, z1, z2, z3, z4, z5, z6, z7, z8, z9, z10, z11, z12, z13, z14, z15, z16, z17, z18, z19, z20, z24, z26, z30, z31, z40, z41, z50, z54, z60, z70, z80, z81, z99, z100, z200, z255, z599, z1000, z1299, z4096, z1000000, lw0, lw1, lw2, lw3, lw4, lw5, lw6, lw7, lw12, lw50, lw99, lw255, lw599, lw4096, bI_ok, ble_t, Int.cast_ofNat_Int,  decide_true, decide_false, bI_0, bI_1, b_tf, b_ft, eq_self, n_1, n_2, n_3, n_4, n_5, n_6, n_7, n_8, if_true, if_false, jin, ncl, cond_true, cond_false, Option.bind_some, j_ov, j_oi, j_ol, nle, nlt, neq, nI_add, nmul, nsub, ndiv, nrem2, if_pos, if_neg, Nat.zero_add, Nat.add_zero, j_w_ap, decide_eq_true, decide_eq_false, Bool.true_or, Bool.or_true, Bool.false_or, Bool.or_false, Bool.and_true, Bool.true_and, Bool.false_and, Bool.and_false, Bool.not_true, Bool.not_false, h125] at e
        rw [hpe]
        refine ⟨_, e, hw1.fr (funext fun q => by simp (disch := omega) only [z0, z1, z2, z3, z4, z5, z6, z7, z8, z9, z10, z11, z12, z13, z14, z15, z16, z17, z18, z19, z20, z24, z26, z30, z31, z40, z41, z50, z54, z60, z70, z80, z81, z99, z100, z200, z255, z599, z1000, z1299, z4096, z1000000, lw0, lw1, lw2, lw3, lw4, lw5, lw6, lw7, lw12, lw50, lw99, lw255, lw599, lw4096, bI_ok, ble_t, Int.cast_ofNat_Int,  decide_true, decide_false, bI_0, bI_1, b_tf, b_ft, eq_self, n_1, n_2, n_3, n_4, n_5, n_6, n_7, n_8, if_true, if_false, jin, ncl, cond_true, cond_false, Option.bind_some, j_ov, j_oi, j_ol, nle, nlt, neq, nI_add, nmul, nsub, ndiv, nrem2, if_pos, if_neg, Nat.zero_add, Nat.add_zero, j_w_ap, decide_eq_true, decide_eq_false, Bool.true_or, Bool.or_true, Bool.false_or, Bool.or_false, Bool.and_true, Bool.true_and, Bool.false_and, Bool.and_false, Bool.not_true, Bool.not_false]) (funext fun q => by simp (disch := omega) only [z0, z1, z2, z3, z4, z5, z6, z7, z8, z9, z10, z11, z12, z13, z14, z15, z16, z17, z18, z19, z20, z24, z26, z30, z31, z40, z41, z50, z54, z60, z70, z80, z81, z99, z100, z200, z255, z599, z1000, z1299, z4096, z1000000, lw0, lw1, lw2, lw3, lw4, lw5, lw6, lw7, lw12, lw50, lw99, lw255, lw599, lw4096, bI_ok, ble_t, Int.cast_ofNat_Int,  decide_true, decide_false, bI_0, bI_1, b_tf, b_ft, eq_self, n_1, n_2, n_3, n_4, n_5, n_6, n_7, n_8, if_true, if_false, jin, ncl, cond_true, cond_false, Option.bind_some, j_ov, j_oi, j_ol, nle, nlt, neq, nI_add, nmul, nsub, ndiv, nrem2, if_pos, if_neg, Nat.zero_add, Nat.add_zero, j_w_ap, decide_eq_true, decide_eq_false, Bool.true_or, Bool.or_true, Bool.false_or, Bool.or_false, Bool.and_true, Bool.true_and, Bool.false_and, Bool.and_false, Bool.not_true, Bool.not_false]), by simp (disch := omega) only [z0, z1, z2, z3, z4, z5, z6, z7, z8, z9, z10, z11, z12, z13, z14, z15, z16, z17, z18, z19, z20, z24, z26, z30, z31, z40, z41, z50, z54, z60, z70, z80, z81, z99, z100, z200, z255, z599, z1000, z1299, z4096, z1000000, lw0, lw1, lw2, lw3, lw4, lw5, lw6, lw7, lw12, lw50, lw99, lw255, lw599, lw4096, bI_ok, ble_t, Int.cast_ofNat_Int,  decide_true, decide_false, bI_0, bI_1, b_tf, b_ft, eq_self, n_1, n_2, n_3, n_4, n_5, n_6, n_7, n_8, if_true, if_false, jin, ncl, cond_true, cond_false, Option.bind_some, j_ov, j_oi, j_ol, nle, nlt, neq, nI_add, nmul, nsub, ndiv, nrem2, if_pos, if_neg, Nat.zero_add, Nat.add_zero, j_w_ap, decide_eq_true, decide_eq_false, Bool.true_or, Bool.or_true, Bool.false_or, Bool.or_false, Bool.and_true, Bool.true_and, Bool.false_and, Bool.and_false, Bool.not_true, Bool.not_false, hr1], hf.tr (Fr.w (by decide)), by simp (disch := omega) only [z0, z1, z2, z3, z4, z5, z6, z7, z8, z9, z10, z11, z12, z13, z14, z15, z16, z17, z18, z19, z20, z24, z26, z30, z31, z40, z41, z50, z54, z60, z70, z80, z81, z99, z100, z200, z255, z599, z1000, z1299, z4096, z1000000, lw0, lw1, lw2, lw3, lw4, lw5, lw6, lw7, lw12, lw50, lw99, lw255, lw599, lw4096, bI_ok, ble_t, Int.cast_ofNat_Int,  decide_true, decide_false, bI_0, bI_1, b_tf, b_ft, eq_self, n_1, n_2, n_3, n_4, n_5, n_6, n_7, n_8, if_true, if_false, jin, ncl, cond_true, cond_false, Option.bind_some, j_ov, j_oi, j_ol, nle, nlt, neq, nI_add, nmul, nsub, ndiv, nrem2, if_pos, if_neg, Nat.zero_add, Nat.add_zero, j_w_ap, decide_eq_true, decide_eq_false, Bool.true_or, Bool.or_true, Bool.false_or, Bool.or_false, Bool.and_true, Bool.true_and, Bool.false_and, Bool.and_false, Bool.not_true, Bool.not_false], fun i hi => ?_⟩
        rw [j_w_ap, if_pos rfl, if_neg (by omega)]
        exact h15 i hi
      | succ j ih =>
        intro c M1 hc hf hw1 hr1 h15
        have e := bX5_playOut_44 (d - 1) (nI (n - (k + 1))) (nI b) (pd (bc W c)) (nI (pe n m pr jo g rule k (b + pc pr (bc W c))).2) (nI (jc jo (n - (k + 1)) (bc W c)) - nI (s_cost n g (pe n m pr jo g rule k (b + pc pr (bc W c))).2 rule (n - (k + 1)))) (nI c) M1 N
        have hi1 := hi.scr (sf hf)
        have h125 := hi1.2.1
        have h13 := hi1.2.2.2.2.1
        have hpc : b + pr c = b + pc pr (c + 1) := by unfold pc; rw [if_neg (by omega), Nat.add_sub_cancel]
        have hpcl := pc_le (c := c + 1) hpr hm (by omega)
        obtain ⟨M2, q1, q2, q3, q4, -, q6⟩ := X_play hg hr4 k (d - 1) (b + pc pr (c + 1)) M1 (by omega) (by omega) (by omega) (h.scr (sf hf)) hi1 hw1 hr1
        obtain ⟨M3, p1, p2, p3, p4⟩ := X_worth (d := d - 1) (N := N) (c := c + 1) (p := n - (k + 1)) (bill := (pe n m pr jo g rule k (b + pc pr (c + 1))).2) (by omega) hn hg (hbill _ (by omega)) hr4 (by omega) (by omega) (hi1.scr (sf q4)) q2 q3
        rw [show pd (c + 1) = nI c from rfl] at p1
        simp (disch := omega) only [z0, z1, z2, z3, z4, z5, z6, z7, z8, z9, z10, z11, z12, z13, z14, z15, z16, z17, z18, z19, z20, z24, z26, z30, z31, z40, z41, z50, z54, z60, z70, z80, z81, z99, z100, z200, z255, z599, z1000, z1299, z4096, z1000000, lw0, lw1, lw2, lw3, lw4, lw5, lw6, lw7, lw12, lw50, lw99, lw255, lw599, lw4096, bI_ok, ble_t, Int.cast_ofNat_Int,  decide_true, decide_false, bI_0, bI_1, b_tf, b_ft, eq_self, n_1, n_2, n_3, n_4, n_5, n_6, n_7, n_8, if_true, if_false, jin, ncl, cond_true, cond_false, Option.bind_some, j_ov, j_oi, j_ol, nle, nlt, neq, nI_add, nmul, nsub, ndiv, nrem2, if_pos, if_neg, Nat.zero_add, Nat.add_zero, j_w_ap, decide_eq_true, decide_eq_false, Bool.true_or, Bool.or_true, Bool.false_or, Bool.or_false, Bool.and_true, Bool.true_and, Bool.false_and, Bool.and_false, Bool.not_true, Bool.not_false, h125, h13, hk1, hpc, q1, p1] at e
        have hbcl := bc_le (w := W) c
        have h1 := hjc (c + 1) (by omega)
        have h2 := hjc (bc W c) (by omega)
        have h3 := hco (c + 1)
        have h4 := hco (bc W c)
        have h5 := hbill (c + 1) (by omega)
        have h6 := hbill (bc W c) (by omega)
        have hle : (nI (jc jo (n - (k + 1)) (c + 1)) - nI (s_cost n g (pe n m pr jo g rule k (b + pc pr (c + 1))).2 rule (n - (k + 1))) ≤ nI (jc jo (n - (k + 1)) (bc W c)) - nI (s_cost n g (pe n m pr jo g rule k (b + pc pr (bc W c))).2 rule (n - (k + 1)))) = (W (c + 1) ≤ W (bc W c)) := by
          rw [wle (by omega) (by omega) (by omega) (by omega), hWc, hWc]
        simp only [hle] at e
        have hf3 : Fr [8, 15] M M3 := hf.tr (q4.tr (p4.mono (by decide)))
        have h153 : ∀ i, i < n - (k + 1) → M3 15 i = M 15 i := fun i hi => by rw [p4 15 (by decide), q6 i (by omega)]; exact h15 i hi
        obtain ⟨M', r1, r2⟩ := ih (c + 1) M3 (by omega) hf3 p2.1 p3 h153
        by_cases hlt : W (bc W c) < W (c + 1)
        · rw [if_neg (by omega)] at e
          rw [show bc W (c + 1) = c + 1 by rw [bc, if_pos hlt], show pd (c + 1) = nI c from rfl] at r1
          exact ⟨M', e.trans r1, r2⟩
        · rw [if_pos (by omega)] at e
          rw [show bc W (c + 1) = bc W c by rw [bc, if_neg hlt]] at r1
          exact ⟨M', e.trans r1, r2⟩
    obtain ⟨M1, q1, q2, q3, q4, -, q6⟩ := X_play hg hr4 k (d - 1) b M (by omega) (by omega) (by omega) h hi hw hr
    have hb0 := hbill 0 (by omega)
    rw [show b + pc pr 0 = b from rfl] at hb0
    obtain ⟨M2, p1, p2, p3, p4⟩ := X_worth (d := d - 1) (N := N) (c := 0) (p := n - (k + 1)) (bill := (pe n m pr jo g rule k b).2) (by omega) hn hg hb0 hr4 (by omega) (by omega) (hi.scr (sf q4)) q2 q3
    rw [show pd 0 = -nI 1 from rfl] at p1
    obtain ⟨M', r1, r2, r3, r4, r5, r6⟩ := loop m 0 M2 (by omega) (q4.tr (p4.mono (by decide))) p2.1 p3 (fun i hi => by rw [p4 15 (by decide), q6 i (by omega)])
    refine ⟨M', eX5_playOut (by omega) ?_, r2, r3, r4, fun _ => r5, r6⟩
    have e := bX5_playOut_0 (d - 1) (nI (n - (k + 1))) (nI b) M N
    simp (disch := omega) only [z0, z1, z2, z3, z4, z5, z6, z7, z8, z9, z10, z11, z12, z13, z14, z15, z16, z17, z18, z19, z20, z24, z26, z30, z31, z40, z41, z50, z54, z60, z70, z80, z81, z99, z100, z200, z255, z599, z1000, z1299, z4096, z1000000, lw0, lw1, lw2, lw3, lw4, lw5, lw6, lw7, lw12, lw50, lw99, lw255, lw599, lw4096, bI_ok, ble_t, Int.cast_ofNat_Int,  decide_true, decide_false, bI_0, bI_1, b_tf, b_ft, eq_self, n_1, n_2, n_3, n_4, n_5, n_6, n_7, n_8, if_true, if_false, jin, ncl, cond_true, cond_false, Option.bind_some, j_ov, j_oi, j_ol, nle, nlt, neq, nI_add, nmul, nsub, ndiv, nrem2, if_pos, if_neg, Nat.zero_add, Nat.add_zero, j_w_ap, decide_eq_true, decide_eq_false, Bool.true_or, Bool.or_true, Bool.false_or, Bool.or_false, Bool.and_true, Bool.true_and, Bool.false_and, Bool.and_false, Bool.not_true, Bool.not_false, hx, hk1, q1, p1] at e
    exact e.trans r1
/-- bills on the way, and what is ordered -/
def pbl (n m : Nat) (pr jo gi : Nat → Nat) (rule : Nat) : Nat → Nat
  | 0 => 0
  | i + 1 => pbl n m pr jo gi rule i + pc pr (pe n m pr jo gi rule (n - i) (pbl n m pr jo gi rule i)).1
def oc (n m : Nat) (pr jo gi : Nat → Nat) (rule : Nat) (i : Nat) : Nat := (pe n m pr jo gi rule (n - i) (pbl n m pr jo gi rule i)).1
theorem pbl_le (hp : ∀ i, i < 3 → pr i ≤ 99) (hm : m ≤ 3) : ∀ i, pbl n m pr jo g rule i ≤ 99 * i
  | 0 => Nat.le_refl _
  | i + 1 => by
    have h1 := pbl_le hp hm i
    have h2 := (pe_le (n := n) (m := m) (pr := pr) (jo := jo) (gi := g) (rule := rule) hp hm (n - i) (pbl n m pr jo g rule i)).2
    have h3 := pc_le hp hm h2
    unfold pbl
    omega
theorem oc_le (hp : ∀ i, i < 3 → pr i ≤ 99) (hm : m ≤ 3) (i : Nat) : oc n m pr jo g rule i ≤ m := (pe_le hp hm (n - i) _).2
theorem X_ord_l (hd : 14 ≤ d) (hg : ∀ q, q < n → g q ≤ 99) (hr4 : rule ≤ 4) : ∀ (j i : Nat) (M : j_M), i + j = n → IG n a M → IM m pr jo M → wh n g n M → M 8 2 = nI rule → (∀ q, q < i → M 15 q = pd (oc n m pr jo g rule q)) → ∃ M', R d kX5_orderAll 15 [.ref 12, .int (nI (pbl n m pr jo g rule i)), .int (nI i)] [] (S0, M, N) = some (some (.int (nI (pbl n m pr jo g rule n))), (S0, M', N)) ∧ wh n g n M' ∧ M' 8 2 = nI rule ∧ (∀ q, q < n → M' 15 q = pd (oc n m pr jo g rule q)) ∧ Fr [8, 15] M M'
  | 0, i, M, hk, h, hi, hw, hr, h15 => by
    have hn := h.n6
    obtain rfl : i = n := by omega
    have e := bX5_orderAll_15 d (nI (pbl i m pr jo g rule i)) (nI i) M N
    have hx := h.x6
    simp (disch := omega) only [z0, z1, z2, z3, z4, z5, z6, z7, z8, z9, z10, z11, z12, z13, z14, z15, z16, z17, z18, z19, z20, z24, z26, z30, z31, z40, z41, z50, z54, z60, z70, z80, z81, z99, z100, z200, z255, z599, z1000, z1299, z4096, z1000000, lw0, lw1, lw2, lw3, lw4, lw5, lw6, lw7, lw12, lw50, lw99, lw255, lw599, lw4096, bI_ok, ble_t, Int.cast_ofNat_Int,  decide_true, decide_false, bI_0, bI_1, b_tf, b_ft, eq_self, n_1, n_2, n_3, n_4, n_5, n_6, n_7, n_8, if_true, if_false, jin, ncl, cond_true, cond_false, Option.bind_some, j_ov, j_oi, j_ol, nle, nlt, neq, nI_add, nmul, nsub, ndiv, nrem2, if_pos, if_neg, Nat.zero_add, Nat.add_zero, j_w_ap, decide_eq_true, decide_eq_false, Bool.true_or, Bool.or_true, Bool.false_or, Bool.or_false, Bool.and_true, Bool.true_and, Bool.false_and, Bool.and_false, Bool.not_true, Bool.not_false, hx] at e
    exact ⟨M, e, hw, hr, h15, Fr.rf⟩
  | j + 1, i, M, hk, h, hi, hw, hr, h15 => by
    have hn := h.n6
    have hx := h.x6
    have hm := hi.1
    have hpr := hi.2.2.2.1
    have sf : ∀ {M1 M2 : j_M}, Fr [8, 15] M1 M2 → Scr M1 M2 := fun f => Scr.fr f (fun c hc k => by
      simp only [List.mem_cons, List.not_mem_nil, or_false] at hc
      rcases hc with rfl | rfl <;> rfl)
    have hpb := pbl_le (n := n) (jo := jo) (g := g) (rule := rule) hpr hm i
    obtain ⟨M1, q1, q2, q3, q4, q5, q6⟩ := X_play (N := N) hg hr4 (n - i) d (pbl n m pr jo g rule i) M (by omega) (by omega) (by omega) h hi hw hr
    rw [show n - (n - i) = i by omega] at q1 q5 q6
    have hi1 := hi.scr (sf q4)
    have hc := oc_le (n := n) (jo := jo) (g := g) (rule := rule) hpr hm i
    have q7 := X_priceOf (d := d) (N := N) (c := oc n m pr jo g rule i) (by omega) hc hi1
    have h15i : M1 15 i = pd (oc n m pr jo g rule i) := q5 (by omega)
    have e := bX5_orderAll_15 d (nI (pbl n m pr jo g rule i)) (nI i) M N
    simp (disch := omega) only [z0, z1, z2, z3, z4, z5, z6, z7, z8, z9, z10, z11, z12, z13, z14, z15, z16, z17, z18, z19, z20, z24, z26, z30, z31, z40, z41, z50, z54, z60, z70, z80, z81, z99, z100, z200, z255, z599, z1000, z1299, z4096, z1000000, lw0, lw1, lw2, lw3, lw4, lw5, lw6, lw7, lw12, lw50, lw99, lw255, lw599, lw4096, bI_ok, ble_t, Int.cast_ofNat_Int,  decide_true, decide_false, bI_0, bI_1, b_tf, b_ft, eq_self, n_1, n_2, n_3, n_4, n_5, n_6, n_7, n_8, if_true, if_false, jin, ncl, cond_true, cond_false, Option.bind_some, j_ov, j_oi, j_ol, nle, nlt, neq, nI_add, nmul, nsub, ndiv, nrem2, if_pos, if_neg, Nat.zero_add, Nat.add_zero, j_w_ap, decide_eq_true, decide_eq_false, Bool.true_or, Bool.or_true, Bool.false_or, Bool.or_false, Bool.and_true, Bool.true_and, Bool.false_and, Bool.and_false, Bool.not_true, Bool.not_false, hx, q1, h15i, q7] at e
    obtain ⟨M', r1, r2, r3, r4, r5⟩ := X_ord_l hd hg hr4 j (i + 1) M1 (by omega) (h.scr (sf q4)) hi1 q2 q3 (fun q hq => by
      by_cases hqi : q = i
      · rw [hqi, h15i]
      · rw [q6 q (by omega)]; exact h15 q (by omega))
    exact ⟨M', e.trans r1, r2, r3, r4, q4.tr r5⟩
theorem M_joyOf {c : Nat} (hd : 1 ≤ d) (hc : c ≤ m) (hp : p < 6) (hi : IM m pr jo M) : C d 194 [.ref 46, .int (nI p), .int (pd c)] S0 M N = some (some (.int (nI (jc jo p c))), M, N) := by
  have hm := hi.1
  have h57 := hi.2.2.2.2.2.2.2.2
  refine eX11_joyOf hd ?_
  have e := bX11_joyOf_0 (d - 1) (nI p) (pd c) M N
  unfold jc
  cases c with
  | zero =>
    unfold pd at e ⊢
    simp (disch := omega) only [z0, z1, z2, z3, z4, z5, z6, z7, z8, z9, z10, z11, z12, z13, z14, z15, z16, z17, z18, z19, z20, z24, z26, z30, z31, z40, z41, z50, z54, z60, z70, z80, z81, z99, z100, z200, z255, z599, z1000, z1299, z4096, z1000000, lw0, lw1, lw2, lw3, lw4, lw5, lw6, lw7, lw12, lw50, lw99, lw255, lw599, lw4096, bI_ok, ble_t, Int.cast_ofNat_Int,  decide_true, decide_false, bI_0, bI_1, b_tf, b_ft, eq_self, n_1, n_2, n_3, n_4, n_5, n_6, n_7, n_8, if_true, if_false, jin, ncl, cond_true, cond_false, Option.bind_some, j_ov, j_oi, j_ol, nle, nlt, neq, nI_add, nmul, nsub, ndiv, nrem2, if_pos, if_neg, Nat.zero_add, Nat.add_zero, j_w_ap, decide_eq_true, decide_eq_false, Bool.true_or, Bool.or_true, Bool.false_or, Bool.or_false, Bool.and_true, Bool.true_and, Bool.false_and, Bool.and_false, Bool.not_true, Bool.not_false] at e
    exact e
  | succ c =>
    unfold pd at e ⊢
    rw [if_neg (by omega), Nat.add_sub_cancel]
    simp (disch := omega) only [z0, z1, z2, z3, z4, z5, z6, z7, z8, z9, z10, z11, z12, z13, z14, z15, z16, z17, z18, z19, z20, z24, z26, z30, z31, z40, z41, z50, z54, z60, z70, z80, z81, z99, z100, z200, z255, z599, z1000, z1299, z4096, z1000000, lw0, lw1, lw2, lw3, lw4, lw5, lw6, lw7, lw12, lw50, lw99, lw255, lw599, lw4096, bI_ok, ble_t, Int.cast_ofNat_Int,  decide_true, decide_false, bI_0, bI_1, b_tf, b_ft, eq_self, n_1, n_2, n_3, n_4, n_5, n_6, n_7, n_8, if_true, if_false, jin, ncl, cond_true, cond_false, Option.bind_some, j_ov, j_oi, j_ol, nle, nlt, neq, nI_add, nmul, nsub, ndiv, nrem2, if_pos, if_neg, Nat.zero_add, Nat.add_zero, j_w_ap, decide_eq_true, decide_eq_false, Bool.true_or, Bool.or_true, Bool.false_or, Bool.or_false, Bool.and_true, Bool.true_and, Bool.false_and, Bool.and_false, Bool.not_true, Bool.not_false, h57] at e
    exact e
/-- the way from one on -/
def pth (n m : Nat) (pr jo gi : Nat → Nat) (rule : Nat) : Nat → Nat → Nat → Nat
  | 0, _, _ => 0
  | k + 1, b, i => if i = n - (k + 1) then (pe n m pr jo gi rule (k + 1) b).1 else pth n m pr jo gi rule k (b + pc pr (pe n m pr jo gi rule (k + 1) b).1) i
theorem M_bill (hg : ∀ q, q < n → g q ≤ 99) (hr4 : rule ≤ 4) (eru : a 25 = rule) : ∀ (k d b : Nat) (M : j_M), k ≤ n → k + 6 ≤ d → b ≤ 99 * (n - k) → IG n a M → IM m pr jo M → lay n g M → ∃ M', C d 195 [.ref 46, .int (nI (n - k)), .int (nI b)] S0 M N = some (some (.int (nI (pe n m pr jo g rule k b).2)), M', N) ∧ lay n g M' ∧ (∀ i, n - k ≤ i → i < n → M' 58 i = pd (pth n m pr jo g rule k b i)) ∧ Scr M M'
  | 0, d, b, M, hk, hd, hb, h, hi, hl => by
    have hn := h.n6
    have hx := h.m6
    refine ⟨M, eX11_billFrom (by omega) ?_, hl, fun i h1 h2 => by omega, Scr.rf⟩
    have e := bX11_billFrom_0 (d - 1) (nI (n - 0)) (nI b) M N
    simp (disch := omega) only [z0, z1, z2, z3, z4, z5, z6, z7, z8, z9, z10, z11, z12, z13, z14, z15, z16, z17, z18, z19, z20, z24, z26, z30, z31, z40, z41, z50, z54, z60, z70, z80, z81, z99, z100, z200, z255, z599, z1000, z1299, z4096, z1000000, lw0, lw1, lw2, lw3, lw4, lw5, lw6, lw7, lw12, lw50, lw99, lw255, lw599, lw4096, bI_ok, ble_t, Int.cast_ofNat_Int,  decide_true, decide_false, bI_0, bI_1, b_tf, b_ft, eq_self, n_1, n_2, n_3, n_4, n_5, n_6, n_7, n_8, if_true, if_false, jin, ncl, cond_true, cond_false, Option.bind_some, j_ov, j_oi, j_ol, nle, nlt, neq, nI_add, nmul, nsub, ndiv, nrem2, if_pos, if_neg, Nat.zero_add, Nat.add_zero, j_w_ap, decide_eq_true, decide_eq_false, Bool.true_or, Bool.or_true, Bool.false_or, Bool.or_false, Bool.and_true, Bool.true_and, Bool.false_and, Bool.and_false, Bool.not_true, Bool.not_false, hx] at e
    exact e
  | k + 1, d, b, M, hk, hd, hb, h, hi, hl => by
    have hn := h.n6
    have hm := hi.1
    have hpr := hi.2.2.2.1
    have hx := h.m6
    have IH := fun (d b : Nat) (M : j_M) => M_bill hg hr4 eru k d b M
    have hbill : ∀ c, c ≤ m → (pe n m pr jo g rule k (b + pc pr c)).2 ≤ 1000 := fun c hc => by
      have h1 := (pe_le (n := n) (m := m) (pr := pr) (jo := jo) (gi := g) (rule := rule) hpr hm k (b + pc pr c)).1
      have h2 := pc_le hpr hm hc
      omega
    have hjc : ∀ c, c ≤ m → jc jo (n - (k + 1)) c ≤ 99 := fun c hc => by
      unfold jc
      split
      · omega
      · exact hi.2.2.2.2.2.2.1 _ (by omega)
    have hco : ∀ c, s_cost n g (pe n m pr jo g rule k (b + pc pr c)).2 rule (n - (k + 1)) ≤ (pe n m pr jo g rule k (b + pc pr c)).2 + 199 := fun c => s_cost_le (hg _ (by omega))
    have hk1 : n - (k + 1) + 1 = n - k := by omega
    generalize hW : (fun c => (jc jo (n - (k + 1)) c : Int) - (s_cost n g (pe n m pr jo g rule k (b + pc pr c)).2 rule (n - (k + 1)) : Int)) = W
    have hWc : ∀ c, W c = (jc jo (n - (k + 1)) c : Int) - (s_cost n g (pe n m pr jo g rule k (b + pc pr c)).2 rule (n - (k + 1)) : Int) := fun c => by rw [← hW]
    have hpe : pe n m pr jo g rule (k + 1) b = (bc W m, (pe n m pr jo g rule k (b + pc pr (bc W m))).2) := by rw [pe, hW]
    -- one dish tried: code c
    have try1 : ∀ (c : Nat) (M1 : j_M) (x3 x4 : Int32), c ≤ m → Scr M M1 → lay n g M1 → ∃ M2, lay n g M2 ∧ Scr M M2 ∧ R (d - 1) kX11_billFrom 49 [.ref 46, .int (nI (n - (k + 1))), .int (nI b), .int x3, .int x4, .int (pd c), .null, .null] [.int (nI (pc pr c)), .int (nI b), .int (nI (n - k)), .ref 46] (S0, M1, N) = (if x3 = -nI 2 then R (d - 1) kX11_billFrom 19 [.ref 46, .int (nI (n - (k + 1))), .int (nI b), .int (pd c), .int (nI (jc jo (n - (k + 1)) c) - nI (s_cost n g (pe n m pr jo g rule k (b + pc pr c)).2 rule (n - (k + 1)))), .int (nI c), .null, .null] [] (S0, M2, N) else if nI (jc jo (n - (k + 1)) c) - nI (s_cost n g (pe n m pr jo g rule k (b + pc pr c)).2 rule (n - (k + 1))) ≤ x4 then R (d - 1) kX11_billFrom 19 [.ref 46, .int (nI (n - (k + 1))), .int (nI b), .int x3, .int x4, .int (nI c), .null, .null] [] (S0, M2, N) else R (d - 1) kX11_billFrom 19 [.ref 46, .int (nI (n - (k + 1))), .int (nI b), .int (pd c), .int (nI (jc jo (n - (k + 1)) c) - nI (s_cost n g (pe n m pr jo g rule k (b + pc pr c)).2 rule (n - (k + 1)))), .int (nI c), .null, .null] [] (S0, M2, N)) := by
      intro c M1 x3 x4 hc hs hl1
      have hpcl := pc_le hpr hm hc
      obtain ⟨M2, q1, q2, -, q4⟩ := IH (d - 1) (b + pc pr c) M1 (by omega) (by omega) (by omega) (h.scr hs) (hi.scr hs) hl1
      have hs2 := hs.tr q4
      have h47 : M2 47 25 = nI rule := by rw [(h.scr hs2).may 25 (by omega), eru]
      obtain ⟨M3, p1, p2, p3⟩ := M_nightBy (d := d - 1) (N := N) (bill := (pe n m pr jo g rule k (b + pc pr c)).2) (rule := rule) (by omega) (by omega) hg (hbill c hc) hr4 q2
      have hs3 := hs2.tr (Scr.fn p3)
      have p4 := M_joyOf (d := d - 1) (N := N) (c := c) (p := n - (k + 1)) (by omega) hc (by omega) (hi.scr hs3)
      have p5 := M_costIn (d := d - 1) (N := N) (i := n - (k + 1)) (by omega) (by omega) p2 (by omega)
      have e := bX11_billFrom_49 (d - 1) (nI (n - (k + 1))) (nI b) x3 x4 (pd c) (nI (n - k)) (nI b) (nI (pc pr c)) M1 N
      have hpd : pd c + nI 1 = nI c := by
        cases c with
        | zero => rfl
        | succ c => exact nI_1 c
      simp (disch := omega) only [z0, z1, z2, z3, z4, z5, z6, z7, z8, z9, z10, z11, z12, z13, z14, z15, z16, z17, z18, z19, z20, z24, z26, z30, z31, z40, z41, z50, z54, z60, z70, z80, z81, z99, z100, z200, z255, z599, z1000, z1299, z4096, z1000000, lw0, lw1, lw2, lw3, lw4, lw5, lw6, lw7, lw12, lw50, lw99, lw255, lw599, lw4096, bI_ok, ble_t, Int.cast_ofNat_Int,  decide_true, decide_false, bI_0, bI_1, b_tf, b_ft, eq_self, n_1, n_2, n_3, n_4, n_5, n_6, n_7, n_8, if_true, if_false, jin, ncl, cond_true, cond_false, Option.bind_some, j_ov, j_oi, j_ol, nle, nlt, neq, nI_add, nmul, nsub, ndiv, nrem2, if_pos, if_neg, Nat.zero_add, Nat.add_zero, j_w_ap, decide_eq_true, decide_eq_false, Bool.true_or, Bool.or_true, Bool.false_or, Bool.or_false, Bool.and_true, Bool.true_and, Bool.false_and, Bool.and_false, Bool.not_true, Bool.not_false, q1, h47, p1, p4, p5, hpd] at e
      exact ⟨M3, p2.1, hs3, e⟩
    -- dishes behind the first code
    have loop : ∀ (j c : Nat) (M1 : j_M), c + j = m → Scr M M1 → lay n g M1 → ∃ M', R (d - 1) kX11_billFrom 19 [.ref 46, .int (nI (n - (k + 1))), .int (nI b), .int (pd (bc W c)), .int (nI (jc jo (n - (k + 1)) (bc W c)) - nI (s_cost n g (pe n m pr jo g rule k (b + pc pr (bc W c))).2 rule (n - (k + 1)))), .int (nI c), .null, .null] [] (S0, M1, N) = some (some (.int (nI (pe n m pr jo g rule (k + 1) b).2)), (S0, M', N)) ∧ lay n g M' ∧ (∀ i, n - (k + 1) ≤ i → i < n → M' 58 i = pd (pth n m pr jo g rule (k + 1) b i)) ∧ Scr M M' := by
      intro j
      induction j with
      | zero =>
        intro c M1 hc hs hl1
        obtain rfl : c = m := by omega
        have hbcl := bc_le (w := W) c
        have hpcl := pc_le hpr hm hbcl
        have e := bX11_billFrom_19 (d - 1) (nI (n - (k + 1))) (nI b) (pd (bc W c)) (nI (jc jo (n - (k + 1)) (bc W c)) - nI (s_cost n g (pe n c pr jo g rule k (b + pc pr (bc W c))).2 rule (n - (k + 1)))) (nI c) M1 N
        have h4617 := (hi.scr hs).2.2.1
        have h56 := (hi.scr hs).2.2.2.2.2.1
        obtain ⟨M2, q1, q2, q3, q4⟩ := IH (d - 1) (b + pc pr (bc W c)) M1 (by omega) (by omega) (by omega) (h.scr hs) (hi.scr hs) hl1
        have hpth : ∀ i, n - (k + 1) ≤ i → i < n → j_w M2 58 (n - (k + 1)) (pd (bc W c)) 58 i = pd (pth n c pr jo g rule (k + 1) b i) := by
          intro i h1 h2
          rw [pth, hpe]
          by_cases hik : i = n - (k + 1)
          · rw [if_pos hik, hik]; simp (disch := omega) only [z0, z1, z2, z3, z4, z5, z6, z7, z8, z9, z10, z11, z12, z13, z14, z15, z16, z17, z18, z19, z20, z24, z26, z30, z31, z40, z41, z50, z54, z60, z70, z80, z81, z99, z100, z200, z255, z599, z1000, z1299, z4096, z1000000, lw0, lw1, lw2, lw3, lw4, lw5, lw6, lw7, lw12, lw50, lw99, lw255, lw599, lw4096, bI_ok, ble_t, Int.cast_ofNat_Int,  decide_true, decide_false, bI_0, bI_1, b_tf, b_ft, eq_self, n_1, n_2, n_3, n_4, n_5, n_6, n_7, n_8, if_true, if_false, jin, ncl, cond_true, cond_false, Option.bind_some, j_ov, j_oi, j_ol, nle, nlt, neq, nI_add, nmul, nsub, ndiv, nrem2, if_pos, if_neg, Nat.zero_add, Nat.add_zero, j_w_ap, decide_eq_true, decide_eq_false, Bool.true_or, Bool.or_true, Bool.false_or, Bool.or_false, Bool.and_true, Bool.true_and, Bool.false_and, Bool.and_false, Bool.not_true, Bool.not_false]
          · rw [if_neg hik, j_w_ap, if_pos rfl, if_neg hik]
            exact q3 i (by omega) h2
        have hfin : R (d - 1) kX11_billFrom 19 [.ref 46, .int (nI (n - (k + 1))), .int (nI b), .int (pd (bc W c)), .int (nI (jc jo (n - (k + 1)) (bc W c)) - nI (s_cost n g (pe n c pr jo g rule k (b + pc pr (bc W c))).2 rule (n - (k + 1)))), .int (nI c), .null, .null] [] (S0, M1, N) = some (some (.int (nI (pe n c pr jo g rule k (b + pc pr (bc W c))).2)), (S0, j_w M2 58 (n - (k + 1)) (pd (bc W c)), N)) := by
          rw [e]
          generalize hbw : bc W c = cc at *
          cases cc with
          | zero =>
            rw [show pc pr 0 = 0 from rfl, Nat.add_zero] at q1 ⊢
            rw [show pd 0 = -nI 1 from rfl]
            simp (disch := omega) only [z0, z1, z2, z3, z4, z5, z6, z7, z8, z9, z10, z11, z12, z13, z14, z15, z16, z17, z18, z19, z20, z24, z26, z30, z31, z40, z41, z50, z54, z60, z70, z80, z81, z99, z100, z200, z255, z599, z1000, z1299, z4096, z1000000, lw0, lw1, lw2, lw3, lw4, lw5, lw6, lw7, lw12, lw50, lw99, lw255, lw599, lw4096, bI_ok, ble_t, Int.cast_ofNat_Int,  decide_true, decide_false, bI_0, bI_1, b_tf, b_ft, eq_self, n_1, n_2, n_3, n_4, n_5, n_6, n_7, n_8, if_true, if_false, jin, ncl, cond_true, cond_false, Option.bind_some, j_ov, j_oi, j_ol, nle, nlt, neq, nI_add, nmul, nsub, ndiv, nrem2, if_pos, if_neg, Nat.zero_add, Nat.add_zero, j_w_ap, decide_eq_true, decide_eq_false, Bool.true_or, Bool.or_true, Bool.false_or, Bool.or_false, Bool.and_true, Bool.true_and, Bool.false_and, Bool.and_false, Bool.not_true, Bool.not_false, h4617, hk1, q1]
          | succ cc =>
            have hpc : pc pr (cc + 1) = pr cc := by unfold pc; rw [if_neg (by omega), Nat.add_sub_cancel]
            rw [hpc] at q1 ⊢
            rw [show pd (cc + 1) = nI cc from rfl]
            simp (disch := omega) only [z0, z1, z2, z3, z4, z5, z6, z7, z8, z9, z10, z11, z12, z13, z14, z15, z16, z17, z18, z19, z20, z24, z26, z30, z31, z40, z41, z50, z54, z60, z70, z80, z81, z99, z100, z200, z255, z599, z1000, z1299, z4096, z1000000, lw0, lw1, lw2, lw3, lw4, lw5, lw6, lw7, lw12, lw50, lw99, lw255, lw599, lw4096, bI_ok, ble_t, Int.cast_ofNat_Int,  decide_true, decide_false, bI_0, bI_1, b_tf, b_ft, eq_self, n_1, n_2, n_3, n_4, n_5, n_6, n_7, n_8, if_true, if_false, jin, ncl, cond_true, cond_false, Option.bind_some, j_ov, j_oi, j_ol, nle, nlt, neq, nI_add, nmul, nsub, ndiv, nrem2, if_pos, if_neg, Nat.zero_add, Nat.add_zero, j_w_ap, decide_eq_true, decide_eq_false, Bool.true_or, Bool.or_true, Bool.false_or, Bool.or_false, Bool.and_true, Bool.true_and, Bool.false_and, Bool.and_false, Bool.not_true, Bool.not_false, h4617, h56, hk1, q1]
        rw [hpe]
        refine ⟨_, hfin, ⟨by simp (disch := omega) only [z0, z1, z2, z3, z4, z5, z6, z7, z8, z9, z10, z11, z12, z13, z14, z15, z16, z17, z18, z19, z20, z24, z26, z30, z31, z40, z41, z50, z54, z60, z70, z80, z81, z99, z100, z200, z255, z599, z1000, z1299, z4096, z1000000, lw0, lw1, lw2, lw3, lw4, lw5, lw6, lw7, lw12, lw50, lw99, lw255, lw599, lw4096, bI_ok, ble_t, Int.cast_ofNat_Int,  decide_true, decide_false, bI_0, bI_1, b_tf, b_ft, eq_self, n_1, n_2, n_3, n_4, n_5, n_6, n_7, n_8, if_true, if_false, jin, ncl, cond_true, cond_false, Option.bind_some, j_ov, j_oi, j_ol, nle, nlt, neq, nI_add, nmul, nsub, ndiv, nrem2, if_pos, if_neg, Nat.zero_add, Nat.add_zero, j_w_ap, decide_eq_true, decide_eq_false, Bool.true_or, Bool.or_true, Bool.false_or, Bool.or_false, Bool.and_true, Bool.true_and, Bool.false_and, Bool.and_false, Bool.not_true, Bool.not_false, q2.1], fun i hi => by simp (disch := omega) only [z0, z1, z2, z3, z4, z5, z6, z7, z8, z9, z10, z11, z12, z13, z14, z15, z16, z17, z18, z19, z20, z24, z26, z30, z31, z40, z41, z50, z54, z60, z70, z80, z81, z99, z100, z200, z255, z599, z1000, z1299, z4096, z1000000, lw0, lw1, lw2, lw3, lw4, lw5, lw6, lw7, lw12, lw50, lw99, lw255, lw599, lw4096, bI_ok, ble_t, Int.cast_ofNat_Int,  decide_true, decide_false, bI_0, bI_1, b_tf, b_ft, eq_self, n_1, n_2, n_3, n_4, n_5, n_6, n_7, n_8, if_true, if_false, jin, ncl, cond_true, cond_false, Option.bind_some, j_ov, j_oi, j_ol, nle, nlt, neq, nI_add, nmul, nsub, ndiv, nrem2, if_pos, if_neg, Nat.zero_add, Nat.add_zero, j_w_ap, decide_eq_true, decide_eq_false, Bool.true_or, Bool.or_true, Bool.false_or, Bool.or_false, Bool.and_true, Bool.true_and, Bool.false_and, Bool.and_false, Bool.not_true, Bool.not_false, q2.2 i hi]⟩, ?_, hs.tr (q4.tr (Scr.w rfl))⟩
        exact hpth
      | succ j ih =>
        intro c M1 hc hs hl1
        obtain ⟨M2, p1, p2, p3⟩ := try1 (c + 1) M1 (pd (bc W c)) (nI (jc jo (n - (k + 1)) (bc W c)) - nI (s_cost n g (pe n m pr jo g rule k (b + pc pr (bc W c))).2 rule (n - (k + 1)))) (by omega) hs hl1
        have e := bX11_billFrom_19 (d - 1) (nI (n - (k + 1))) (nI b) (pd (bc W c)) (nI (jc jo (n - (k + 1)) (bc W c)) - nI (s_cost n g (pe n m pr jo g rule k (b + pc pr (bc W c))).2 rule (n - (k + 1)))) (nI c) M1 N
        have h4617 := (hi.scr hs).2.2.1
        have h56 := (hi.scr hs).2.2.2.2.2.1
        have hpc : pc pr (c + 1) = pr c := by unfold pc; rw [if_neg (by omega), Nat.add_sub_cancel]
        simp (disch := omega) only [z0, z1, z2, z3, z4, z5, z6, z7, z8, z9, z10, z11, z12, z13, z14, z15, z16, z17, z18, z19, z20, z24, z26, z30, z31, z40, z41, z50, z54, z60, z70, z80, z81, z99, z100, z200, z255, z599, z1000, z1299, z4096, z1000000, lw0, lw1, lw2, lw3, lw4, lw5, lw6, lw7, lw12, lw50, lw99, lw255, lw599, lw4096, bI_ok, ble_t, Int.cast_ofNat_Int,  decide_true, decide_false, bI_0, bI_1, b_tf, b_ft, eq_self, n_1, n_2, n_3, n_4, n_5, n_6, n_7, n_8, if_true, if_false, jin, ncl, cond_true, cond_false, Option.bind_some, j_ov, j_oi, j_ol, nle, nlt, neq, nI_add, nmul, nsub, ndiv, nrem2, if_pos, if_neg, Nat.zero_add, Nat.add_zero, j_w_ap, decide_eq_true, decide_eq_false, Bool.true_or, Bool.or_true, Bool.false_or, Bool.or_false, Bool.and_true, Bool.true_and, Bool.false_and, Bool.and_false, Bool.not_true, Bool.not_false, h4617, h56, hk1, ← hpc] at e
        rw [show pd (c + 1) = nI c from rfl] at p3
        have hbcl := bc_le (w := W) c
        have h1 := hjc (c + 1) (by omega)
        have h2 := hjc (bc W c) (by omega)
        have h3 := hco (c + 1)
        have h4 := hco (bc W c)
        have h5 := hbill (c + 1) (by omega)
        have h6 := hbill (bc W c) (by omega)
        have hle : (nI (jc jo (n - (k + 1)) (c + 1)) - nI (s_cost n g (pe n m pr jo g rule k (b + pc pr (c + 1))).2 rule (n - (k + 1))) ≤ nI (jc jo (n - (k + 1)) (bc W c)) - nI (s_cost n g (pe n m pr jo g rule k (b + pc pr (bc W c))).2 rule (n - (k + 1)))) = (W (c + 1) ≤ W (bc W c)) := by
          rw [wle (by omega) (by omega) (by omega) (by omega), hWc, hWc]
        rw [if_neg (pd_ne2 (by omega))] at p3
        simp only [hle] at p3
        obtain ⟨M', r1, r2⟩ := ih (c + 1) M2 (by omega) p2 p1
        by_cases hlt : W (bc W c) < W (c + 1)
        · rw [if_neg (by omega)] at p3
          rw [show bc W (c + 1) = c + 1 by rw [bc, if_pos hlt], show pd (c + 1) = nI c from rfl] at r1
          exact ⟨M', e.trans (p3.trans r1), r2⟩
        · rw [if_pos (by omega)] at p3
          rw [show bc W (c + 1) = bc W c by rw [bc, if_neg hlt]] at r1
          exact ⟨M', e.trans (p3.trans r1), r2⟩
    obtain ⟨M2, p1, p2, p3⟩ := try1 0 M (-nI 2) (nI 0) (by omega) Scr.rf hl
    obtain ⟨M', r1, r2, r3, r4⟩ := loop m 0 M2 (by omega) p2 p1
    refine ⟨M', eX11_billFrom (by omega) ?_, r2, r3, r4⟩
    have e := bX11_billFrom_0 (d - 1) (nI (n - (k + 1))) (nI b) M N
    simp (disch := omega) only [z0, z1, z2, z3, z4, z5, z6, z7, z8, z9, z10, z11, z12, z13, z14, z15, z16, z17, z18, z19, z20, z24, z26, z30, z31, z40, z41, z50, z54, z60, z70, z80, z81, z99, z100, z200, z255, z599, z1000, z1299, z4096, z1000000, lw0, lw1, lw2, lw3, lw4, lw5, lw6, lw7, lw12, lw50, lw99, lw255, lw599, lw4096, bI_ok, ble_t, Int.cast_ofNat_Int,  decide_true, decide_false, bI_0, bI_1, b_tf, b_ft, eq_self, n_1, n_2, n_3, n_4, n_5, n_6, n_7, n_8, if_true, if_false, jin, ncl, cond_true, cond_false, Option.bind_some, j_ov, j_oi, j_ol, nle, nlt, neq, nI_add, nmul, nsub, ndiv, nrem2, if_pos, if_neg, Nat.zero_add, Nat.add_zero, j_w_ap, decide_eq_true, decide_eq_false, Bool.true_or, Bool.or_true, Bool.false_or, Bool.or_false, Bool.and_true, Bool.true_and, Bool.false_and, Bool.and_false, Bool.not_true, Bool.not_false, hx] at e
    have e2 := bX11_billFrom_19 (d - 1) (nI (n - (k + 1))) (nI b) (-nI 2) (nI 0) (-nI 1) M N
    have h4617 := hi.2.2.1
    simp (disch := omega) only [z0, z1, z2, z3, z4, z5, z6, z7, z8, z9, z10, z11, z12, z13, z14, z15, z16, z17, z18, z19, z20, z24, z26, z30, z31, z40, z41, z50, z54, z60, z70, z80, z81, z99, z100, z200, z255, z599, z1000, z1299, z4096, z1000000, lw0, lw1, lw2, lw3, lw4, lw5, lw6, lw7, lw12, lw50, lw99, lw255, lw599, lw4096, bI_ok, ble_t, Int.cast_ofNat_Int,  decide_true, decide_false, bI_0, bI_1, b_tf, b_ft, eq_self, n_1, n_2, n_3, n_4, n_5, n_6, n_7, n_8, if_true, if_false, jin, ncl, cond_true, cond_false, Option.bind_some, j_ov, j_oi, j_ol, nle, nlt, neq, nI_add, nmul, nsub, ndiv, nrem2, if_pos, if_neg, Nat.zero_add, Nat.add_zero, j_w_ap, decide_eq_true, decide_eq_false, Bool.true_or, Bool.or_true, Bool.false_or, Bool.or_false, Bool.and_true, Bool.true_and, Bool.false_and, Bool.and_false, Bool.not_true, Bool.not_false, h4617, hk1] at e2
    rw [show pc pr 0 = 0 from rfl, show pd 0 = -nI 1 from rfl] at p3
    rw [if_pos rfl] at p3
    rw [show bc W 0 = 0 from rfl, show pd 0 = -nI 1 from rfl] at r1
    exact e.trans (e2.trans (p3.trans r1))
theorem pth_oc : ∀ (k i : Nat), k ≤ n → n - k ≤ i → i < n → pth n m pr jo g rule k (pbl n m pr jo g rule (n - k)) i = oc n m pr jo g rule i
  | 0, i, hk, h1, h2 => by omega
  | k + 1, i, hk, h1, h2 => by
    rw [pth]
    by_cases hik : i = n - (k + 1)
    · rw [if_pos hik, hik, oc, show n - (n - (k + 1)) = k + 1 by omega]
    · rw [if_neg hik]
      have := pth_oc k i (by omega) (by omega) h2
      rw [show n - k = (n - (k + 1)) + 1 by omega, pbl, show n - (n - (k + 1)) = k + 1 by omega] at this
      exact this
theorem pe_pbl : ∀ k, k ≤ n → (pe n m pr jo g rule k (pbl n m pr jo g rule (n - k))).2 = pbl n m pr jo g rule n
  | 0, _ => by rw [pe]; rfl
  | k + 1, hk => by
    have := pe_pbl k (by omega)
    rw [show n - k = (n - (k + 1)) + 1 by omega, pbl, show n - (n - (k + 1)) = k + 1 by omega] at this
    rw [← this]
    conv => lhs; rw [pe]
    conv => rhs; rw [pe]
end ME
