/-! ===== gifts in the hat: the mathematics, and Hat.weigh (own text) ===== -/
def s_sum (g : Nat → Nat) : Nat → Nat
  | 0 => 0
  | k + 1 => s_sum g k + g k
/-- the least one by gifts, then numbers, but one -/
def s_lb (g : Nat → Nat) (but : Option Nat) : Nat → Option Nat
  | 0 => none
  | k + 1 => match s_lb g but k with
    | none => if some k = but then none else some k
    | some b => if some k = but then some b else if g k < g b then some k else some b
def s_mx (g : Nat → Nat) : Nat → Option Nat
  | 0 => none
  | k + 1 => match s_mx g k with
    | none => some k
    | some b => if g b < g k then some k else some b
def s_cnt (g : Nat → Nat) (v : Nat) : Nat → Nat
  | 0 => 0
  | k + 1 => s_cnt g v k + (if g k = v then 1 else 0)
def s_nx (g : Nat → Nat) (k : Nat) : Option Nat := match s_lb g none k with
  | none => none
  | some b => s_lb g (some b) k
def s_al (g : Nat → Nat) (k : Nat) : Nat := match s_lb g none k with
  | none => 0
  | some b => s_cnt g (g b) k
theorem s_lb_lt {g : Nat → Nat} {but : Option Nat} : ∀ {k b : Nat}, s_lb g but k = some b → b < k
  | 0, b, h => by cases h
  | k + 1, b, h => by
    unfold s_lb at h
    cases hx : s_lb g but k with
    | none =>
      rw [hx] at h
      dsimp only at h
      split at h
      · cases h
      · cases h; omega
    | some c =>
      have := s_lb_lt hx
      rw [hx] at h
      dsimp only at h
      split at h
      · cases h; omega
      · split at h
        · cases h; omega
        · cases h; omega
theorem s_mx_lt {g : Nat → Nat} : ∀ {k b : Nat}, s_mx g k = some b → b < k
  | 0, b, h => by cases h
  | k + 1, b, h => by
    unfold s_mx at h
    cases hx : s_mx g k with
    | none => rw [hx] at h; cases h; omega
    | some c =>
      have := s_mx_lt hx
      rw [hx] at h
      dsimp only at h
      split at h
      · cases h; omega
      · cases h; omega
theorem s_lb_none {g : Nat → Nat} : ∀ {k : Nat}, s_lb g none k = none → k = 0
  | 0, _ => rfl
  | k + 1, h => by
    unfold s_lb at h
    cases hx : s_lb g none k with
    | none => rw [hx] at h; simp at h
    | some c =>
      rw [hx] at h
      simp only [reduceCtorEq, if_false] at h
      split at h <;> cases h
theorem s_mx_none {g : Nat → Nat} : ∀ {k : Nat}, s_mx g k = none → k = 0
  | 0, _ => rfl
  | k + 1, h => by
    unfold s_mx at h
    cases hx : s_mx g k with
    | none => rw [hx] at h; cases h
    | some c =>
      rw [hx] at h
      dsimp only at h
      split at h <;> cases h
theorem s_lb_min {g : Nat → Nat} : ∀ {k b : Nat}, s_lb g none k = some b → ∀ j, j < k → g b ≤ g j
  | 0, b, h => by cases h
  | k + 1, b, h => by
    intro j hj
    unfold s_lb at h
    cases hx : s_lb g none k with
    | none =>
      have := s_lb_none hx
      rw [hx] at h
      simp only [reduceCtorEq, if_false] at h
      cases h
      rw [show j = k by omega]
      exact Nat.le_refl _
    | some c =>
      have ih := s_lb_min hx
      rw [hx] at h
      simp only [reduceCtorEq, if_false] at h
      by_cases hg : g k < g c
      · rw [if_pos hg] at h
        cases h
        rcases Nat.lt_or_ge j k with q | q
        · have := ih j q; omega
        · rw [show j = k by omega]; exact Nat.le_refl _
      · rw [if_neg hg] at h
        cases h
        rcases Nat.lt_or_ge j k with q | q
        · exact ih j q
        · rw [show j = k by omega]; omega
theorem s_lb_big {g : Nat → Nat} {m : Nat} : ∀ {k : Nat}, k ≤ m → s_lb g (some m) k = s_lb g none k
  | 0, _ => rfl
  | k + 1, h => by
    have ih := s_lb_big (g := g) (m := m) (k := k) (by omega)
    unfold s_lb
    rw [ih]
    have e : (some k = some m) = False := by simp; omega
    simp only [e, reduceCtorEq, if_false]
theorem s_cnt_0 {g : Nat → Nat} {v : Nat} : ∀ {k : Nat}, (∀ j, j < k → v < g j) → s_cnt g v k = 0
  | 0, _ => rfl
  | k + 1, h => by
    unfold s_cnt
    rw [s_cnt_0 (fun j hj => h j (by omega))]
    have := h k (by omega)
    rw [if_neg (by omega)]
theorem s_cnt_le {g : Nat → Nat} {v : Nat} : ∀ k, s_cnt g v k ≤ k
  | 0 => Nat.le_refl _
  | k + 1 => by
    have := s_cnt_le (g := g) (v := v) k
    unfold s_cnt
    split <;> omega
theorem s_al_le {g : Nat → Nat} (k : Nat) : s_al g k ≤ k := by
  unfold s_al
  split
  · omega
  · exact s_cnt_le k
theorem s_sum_le {g : Nat → Nat} {m : Nat} : ∀ {k : Nat}, (∀ i, i < k → g i ≤ m) → s_sum g k ≤ k * m
  | 0, _ => by simp [s_sum]
  | k + 1, h => by
    have := s_sum_le (g := g) (m := m) (k := k) (fun i hi => h i (by omega))
    have := h k (by omega)
    unfold s_sum
    rw [Nat.add_mul]
    omega
/-- one more gift: the least stays -/
theorem s_step_stay {g : Nat → Nat} {k b : Nat} (hb : s_lb g none k = some b) (hg : ¬ g k < g b) : s_lb g none (k + 1) = some b ∧ s_al g (k + 1) = s_al g k + (if g k = g b then 1 else 0) ∧ s_nx g (k + 1) = (match s_nx g k with | none => some k | some c => if g k < g c then some k else some c) := by
  have h1 : s_lb g none (k + 1) = some b := by
    unfold s_lb
    rw [hb]
    simp only [reduceCtorEq, if_false]
    rw [if_neg hg]
  refine ⟨h1, ?_, ?_⟩
  · unfold s_al
    rw [h1, hb]
    rfl
  · have hlt := s_lb_lt hb
    unfold s_nx
    rw [h1, hb]
    dsimp only
    rw [s_lb]
    have e : (some k = some b) = False := by simp; omega
    simp only [e, if_false]
theorem s_step_new {g : Nat → Nat} {k b : Nat} (hb : s_lb g none k = some b) (hg : g k < g b) : s_lb g none (k + 1) = some k ∧ s_al g (k + 1) = 1 ∧ s_nx g (k + 1) = some b := by
  have h1 : s_lb g none (k + 1) = some k := by
    unfold s_lb
    rw [hb]
    simp only [reduceCtorEq, if_false]
    rw [if_pos hg]
  refine ⟨h1, ?_, ?_⟩
  · unfold s_al
    rw [h1]
    dsimp only
    unfold s_cnt
    rw [s_cnt_0 (fun j hj => by have := s_lb_min hb j hj; omega)]
    simp
  · unfold s_nx
    rw [h1]
    dsimp only
    rw [s_lb, s_lb_big (Nat.le_refl k), hb]
    simp
theorem s_step_0 {g : Nat → Nat} : s_lb g none 1 = some 0 ∧ s_al g 1 = 1 ∧ s_nx g 1 = none := by
  have h : s_lb g none 1 = some 0 := by simp [s_lb]
  refine ⟨h, ?_, ?_⟩
  · unfold s_al; rw [h]; simp [s_cnt]
  · unfold s_nx; rw [h]; simp [s_lb]
/-- the hat at the head of weigh's loop, k gifts looked at -/
def wh (n : Nat) (g : Nat → Nat) (k : Nat) (M : j_M) : Prop := M 8 1 = nI n ∧ (∀ i, i < n → M 9 i = nI (g i)) ∧ M 8 4 = nI (s_sum g k) ∧ M 8 7 = oI (s_lb g none k) ∧ M 8 8 = oI (s_nx g k) ∧ M 8 9 = oI (s_mx g k) ∧ M 8 10 = nI (s_al g k)
/-- the hat weighed: n gifts, a bill -/
def hatOK (n : Nat) (g : Nat → Nat) (bill : Nat) (M : j_M) : Prop := wh n g n M ∧ M 8 3 = nI bill ∧ M 8 5 = nI (bill - s_sum g n) ∧ M 8 6 = nI (s_sum g n - bill)
theorem X_charge {d n bill : Nat} {g : Nat → Nat} {M : j_M} {N : j_N} (hd : 1 ≤ d) (hn : n ≤ 7) (hg : ∀ i, i < n → g i ≤ 99) (hb : bill ≤ 1000) (h : wh n g n M) : ∃ M', C d 25 [.ref 8, .int (nI bill)] S0 M N = some (none, M', N) ∧ hatOK n g bill M' ∧ Fr [8] M M' ∧ M' 8 2 = M 8 2 := by
  have hs := s_sum_le hg
  refine ⟨_, eX3_charge hd (bX3_charge_0 (d - 1) (nI bill) M N), ?_, ((Fr.w (by decide)).tr (Fr.w (by decide))).tr (Fr.w (by decide)), ?_⟩
  · obtain ⟨h1, h2, h3, h4, h5, h6, h7⟩ := h
    refine ⟨⟨?_, ?_, ?_, ?_, ?_, ?_, ?_⟩, ?_, ?_, ?_⟩
    all_goals simp only [j_w_ap, h1, h3, h4, h5, h6, h7, if_true, if_false, reduceCtorEq, Nat.reduceEqDiff]
    · exact h2
    · rw [nlack (by omega) (by omega)]
    · rw [nlack (by omega) (by omega)]
  · simp [j_w_ap]
/-- from 27 to 77: sum and most -/
theorem X_weigh_a {d n k : Nat} {g : Nat → Nat} {M : j_M} {N : j_N} (hn : n ≤ 7) (hk : k < n) (hg : ∀ i, i < n → g i ≤ 99) (h : wh n g k M) : ∃ M1, R d kX3_weigh 27 [.ref 8, .int (nI k), .null] [] (S0, M, N) = R d kX3_weigh 77 [.ref 8, .int (nI k), .int (nI (g k))] [] (S0, M1, N) ∧ Fr [8] M M1 ∧ M1 8 1 = M 8 1 ∧ M1 8 2 = M 8 2 ∧ M1 8 3 = M 8 3 ∧ M1 8 4 = nI (s_sum g (k + 1)) ∧ M1 8 7 = M 8 7 ∧ M1 8 8 = M 8 8 ∧ M1 8 9 = oI (s_mx g (k + 1)) ∧ M1 8 10 = M 8 10 := by
  obtain ⟨h1, h2, h3, h4, h5, h6, h7⟩ := h
  have gk := hg k hk
  have e := bX3_weigh_27 d (nI k) M N
  rw [h1, if_neg (fun z => absurd ((nI_leI (by omega) (by omega)).mp z) (by omega)), jin (k := k) (n := 7) (by omega) (by omega), cond_true, ncl (by omega), h2 k hk, h3, h6, nI_add, show s_sum g k + g k = s_sum g (k + 1) from rfl] at e
  cases hx : s_mx g k with
  | none =>
    rw [hx, if_pos (show oI none < 0 by decide)] at e
    refine ⟨_, e, (Fr.w (by decide)).tr (Fr.w (by decide)), ?_, ?_, ?_, ?_, ?_, ?_, ?_, ?_⟩
    all_goals simp only [j_w_ap, if_true, if_false, reduceCtorEq, Nat.reduceEqDiff]
    unfold s_mx; rw [hx]; rfl
  | some b =>
    have hb := s_mx_lt hx
    have gb := hg b (by omega)
    rw [hx, show oI (some b) = nI b from rfl, if_neg (nI_pos (by omega)), jin (k := b) (n := 7) (by omega) (by omega), cond_true, ncl (by omega), h2 b (by omega)] at e
    by_cases hc : g k ≤ g b
    · rw [if_pos ((nI_leI (by omega) (by omega)).mpr hc)] at e
      refine ⟨_, e, Fr.w (by decide), ?_, ?_, ?_, ?_, ?_, ?_, ?_, ?_⟩
      all_goals simp only [j_w_ap, if_true, if_false, reduceCtorEq, Nat.reduceEqDiff]
      unfold s_mx; rw [hx, h6, hx]; dsimp only; rw [if_neg (by omega)]
    · rw [if_neg (fun z => hc ((nI_leI (by omega) (by omega)).mp z))] at e
      refine ⟨_, e, (Fr.w (by decide)).tr (Fr.w (by decide)), ?_, ?_, ?_, ?_, ?_, ?_, ?_, ?_⟩
      all_goals simp only [j_w_ap, if_true, if_false, reduceCtorEq, Nat.reduceEqDiff]
      unfold s_mx; rw [hx]; dsimp only; rw [if_pos (by omega)]; rfl
/-- from 77 to 27: the least, the next, how many alike -/
theorem X_weigh_b {d n k : Nat} {g : Nat → Nat} {M : j_M} {N : j_N} (hn : n ≤ 7) (hk : k < n) (hg : ∀ i, i < n → g i ≤ 99) (h2 : ∀ i, i < n → M 9 i = nI (g i)) (h4 : M 8 7 = oI (s_lb g none k)) (h5 : M 8 8 = oI (s_nx g k)) (h7 : M 8 10 = nI (s_al g k)) : ∃ M1, R d kX3_weigh 77 [.ref 8, .int (nI k), .int (nI (g k))] [] (S0, M, N) = R d kX3_weigh 27 [.ref 8, .int (nI (k + 1)), .null] [] (S0, M1, N) ∧ Fr [8] M M1 ∧ M1 8 1 = M 8 1 ∧ M1 8 2 = M 8 2 ∧ M1 8 3 = M 8 3 ∧ M1 8 4 = M 8 4 ∧ M1 8 7 = oI (s_lb g none (k + 1)) ∧ M1 8 8 = oI (s_nx g (k + 1)) ∧ M1 8 9 = M 8 9 ∧ M1 8 10 = nI (s_al g (k + 1)) := by
  have gk := hg k hk
  have hk1 : nI k + 1 = nI (k + 1) := nI_1 k
  rw [bX3_weigh_77, h4, hk1]
  cases hx : s_lb g none k with
  | none =>
    have hk0 := s_lb_none hx
    subst hk0
    obtain ⟨e1, e2, e3⟩ := s_step_0 (g := g)
    rw [if_pos (show oI none < 0 by decide), e1, e2, e3]
    refine ⟨_, rfl, ((Fr.w (by decide)).tr (Fr.w (by decide))).tr (Fr.w (by decide)), ?_, ?_, ?_, ?_, ?_, ?_, ?_, ?_⟩
    all_goals simp only [j_w_ap, if_true, if_false, reduceCtorEq, Nat.reduceEqDiff]
    all_goals rfl
  | some b =>
    have hb := s_lb_lt hx
    have gb := hg b (by omega)
    rw [show oI (some b) = nI b from rfl, if_neg (nI_pos (by omega)), jin (k := b) (n := 7) (by omega) (by omega), cond_true, ncl (by omega), h2 b (by omega)]
    by_cases hc : g b ≤ g k
    · obtain ⟨e1, e2, e3⟩ := s_step_stay hx (by omega)
      rw [if_pos ((nI_leI (by omega) (by omega)).mpr hc), e1, e2, e3]
      simp only [cond_true, neq (a := g k) (b := g b) (by omega) (by omega)]
      have hone : (if g k = g b then R d kX3_weigh 141 [.ref 8, .int (nI k), .int (nI (g k))] [.int 1, .int (M 8 10), .ref 8] (S0, M, N) else R d kX3_weigh 141 [.ref 8, .int (nI k), .int (nI (g k))] [.int 0, .int (M 8 10), .ref 8] (S0, M, N)) = R d kX3_weigh 141 [.ref 8, .int (nI k), .int (nI (g k))] [.int (nI (if g k = g b then 1 else 0)), .int (nI (s_al g k)), .ref 8] (S0, M, N) := by
        rw [← h7]
        split <;> rfl
      rw [hone, bX3_weigh_141, h5, nI_add, hk1]
      cases hy : s_nx g k with
      | none =>
        rw [if_pos (show oI none < 0 by decide)]
        refine ⟨_, rfl, (Fr.w (by decide)).tr (Fr.w (by decide)), ?_, ?_, ?_, ?_, ?_, ?_, ?_, ?_⟩
        all_goals simp only [j_w_ap, if_true, if_false, reduceCtorEq, Nat.reduceEqDiff]
        · rw [h4, hx]
        · rfl
      | some c =>
        have hcl : c < k := by
          unfold s_nx at hy
          rw [hx] at hy
          exact s_lb_lt hy
        have gc := hg c (by omega)
        rw [show oI (some c) = nI c from rfl, if_neg (nI_pos (by omega)), jin (k := c) (n := 7) (by omega) (by omega), cond_true, ncl (by omega), h2 c (by omega)]
        by_cases hc2 : g c ≤ g k
        · rw [if_pos ((nI_leI (by omega) (by omega)).mpr hc2)]
          refine ⟨_, rfl, (Fr.w (by decide)).tr (Fr.w (by decide)), ?_, ?_, ?_, ?_, ?_, ?_, ?_, ?_⟩
          all_goals simp only [j_w_ap, if_true, if_false, reduceCtorEq, Nat.reduceEqDiff]
          · rw [h4, hx]
          · rw [if_neg (by omega)]; rfl
        · rw [if_neg (fun z => hc2 ((nI_leI (by omega) (by omega)).mp z))]
          refine ⟨_, rfl, (Fr.w (by decide)).tr (Fr.w (by decide)), ?_, ?_, ?_, ?_, ?_, ?_, ?_, ?_⟩
          all_goals simp only [j_w_ap, if_true, if_false, reduceCtorEq, Nat.reduceEqDiff]
          · rw [h4, hx]
          · rw [if_pos (by omega)]; rfl
    · obtain ⟨e1, e2, e3⟩ := s_step_new hx (by omega)
      rw [if_neg (fun z => hc ((nI_leI (by omega) (by omega)).mp z)), e1, e2, e3]
      refine ⟨_, rfl, ((Fr.w (by decide)).tr (Fr.w (by decide))).tr (Fr.w (by decide)), ?_, ?_, ?_, ?_, ?_, ?_, ?_, ?_⟩
      all_goals simp only [j_w_ap, if_true, if_false, reduceCtorEq, Nat.reduceEqDiff]
      all_goals rfl
theorem X_weigh_l {d n bill : Nat} {g : Nat → Nat} {N : j_N} (hd : 1 ≤ d) (hn : n ≤ 7) (hg : ∀ i, i < n → g i ≤ 99) (hb : bill ≤ 1000) : ∀ (j k : Nat) (M : j_M), k + j = n → wh n g k M → M 8 3 = nI bill → ∃ M', R d kX3_weigh 27 [.ref 8, .int (nI k), .null] [] (S0, M, N) = some (none, (S0, M', N)) ∧ hatOK n g bill M' ∧ Fr [8] M M' ∧ M' 8 2 = M 8 2
  | 0, k, M, hk, h, h3 => by
    obtain rfl : k = n := by omega
    obtain ⟨M', e, h4, h5, h6⟩ := X_charge (N := N) hd hn hg hb h
    refine ⟨M', ?_, h4, h5, h6⟩
    rw [bX3_weigh_27, h.1, if_pos ((nI_leI (by omega) (by omega)).mpr (Nat.le_refl _)), h3, e]
    rfl
  | j + 1, k, M, hk, h, h3 => by
    obtain ⟨M1, e1, f1, a1, a2, a3, a4, a7, a8, a9, a10⟩ := X_weigh_a (d := d) (N := N) hn (by omega) hg h
    obtain ⟨h1, h2, -, h4, h5, -, h7⟩ := h
    have f19 : M1 9 = M 9 := f1 9 (by decide)
    obtain ⟨M2, e2, f2, b1, b2, b3, b4, b7, b8, b9, b10⟩ := X_weigh_b (d := d) (M := M1) (N := N) hn (show k < n by omega) hg (fun i hi => by rw [f19]; exact h2 i hi) (a7.trans h4) (a8.trans h5) (a10.trans h7)
    have f29 : M2 9 = M1 9 := f2 9 (by decide)
    obtain ⟨M', e3, h8, h9, h10⟩ := X_weigh_l hd hn hg hb j (k + 1) M2 (by omega) ⟨b1.trans (a1.trans h1), fun i hi => by rw [f29, f19]; exact h2 i hi, b4.trans a4, b7, b8, b9.trans a9, b10⟩ (b3.trans (a3.trans h3))
    exact ⟨M', by rw [e1, e2, e3], h8, (f1.tr f2).tr h9, h10.trans (b2.trans a2)⟩
theorem X_weigh {d n bill : Nat} {g : Nat → Nat} {M : j_M} {N : j_N} (hd : 2 ≤ d) (hn : n ≤ 7) (hg : ∀ i, i < n → g i ≤ 99) (hb : bill ≤ 1000) (h1 : M 8 1 = nI n) (h2 : ∀ i, i < n → M 9 i = nI (g i)) (h3 : M 8 3 = nI bill) : ∃ M', C d 24 [.ref 8] S0 M N = some (none, M', N) ∧ hatOK n g bill M' ∧ Fr [8] M M' ∧ M' 8 2 = M 8 2 := by
  obtain ⟨M', e, h4, h5, h6⟩ := X_weigh_l (d := d - 1) (N := N) (by omega) hn hg hb n 0 (j_w (j_w (j_w (j_w (j_w M 8 4 0) 8 7 (-1)) 8 8 (-1)) 8 9 (-1)) 8 10 0) (by omega)
    ⟨by simp [j_w_ap, h1], fun i hi => by simp [j_w_ap, h2 i hi], by simp [j_w_ap, s_sum]; rfl, by simp [j_w_ap, s_lb, oI], by simp [j_w_ap, s_nx, s_lb, oI], by simp [j_w_ap, s_mx, oI], by simp [j_w_ap, s_al, s_lb]; rfl⟩ (by simp [j_w_ap, h3])
  refine ⟨M', eX3_weigh (by omega) ?_, h4, ?_, ?_⟩
  · rw [bX3_weigh_0]
    exact e
  · exact Fr.tr (((((Fr.w (by decide)).tr (Fr.w (by decide))).tr (Fr.w (by decide))).tr (Fr.w (by decide))).tr (Fr.w (by decide))) h5
  · rw [h6]; simp [j_w_ap]
