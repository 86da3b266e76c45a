/-! ===== costs in the hat: the class (own text) ===== -/
theorem s_lb_first {g : Nat → Nat} : ∀ {k b : Nat}, s_lb g none k = some b → ∀ j, j < b → g b < g j
  | 0, b, h => by cases h
  | k + 1, b, h => by
    intro j hj
    unfold s_lb at h
    cases hx : s_lb g none k with
    | none =>
      have := s_lb_none hx
      rw [hx] at h
      simp only [reduceCtorEq, if_false] at h
      cases h
      omega
    | some c =>
      have ih := s_lb_first hx
      have im := s_lb_min hx
      rw [hx] at h
      simp only [reduceCtorEq, if_false] at h
      by_cases hg : g k < g c
      · rw [if_pos hg] at h
        cases h
        have := im j hj; omega
      · rw [if_neg hg] at h
        cases h
        exact ih j hj
theorem s_cnt_pos {g : Nat → Nat} {b : Nat} : ∀ {k : Nat}, b < k → 0 < s_cnt g (g b) k
  | 0, h => by omega
  | k + 1, h => by
    unfold s_cnt
    rcases Nat.lt_or_ge b k with q | q
    · have := s_cnt_pos (g := g) q; omega
    · rw [show b = k by omega, if_pos rfl]; omega
theorem s_lb_some {g : Nat → Nat} {n : Nat} (h : 0 < n) : ∃ b, s_lb g none n = some b ∧ b < n := by
  cases hx : s_lb g none n with
  | none => exact absurd (s_lb_none hx) (by omega)
  | some b => exact ⟨b, rfl, s_lb_lt hx⟩
theorem s_mx_some {g : Nat → Nat} {n : Nat} (h : 0 < n) : ∃ b, s_mx g n = some b ∧ b < n := by
  cases hx : s_mx g n with
  | none => exact absurd (s_mx_none hx) (by omega)
  | some b => exact ⟨b, rfl, s_mx_lt hx⟩
theorem s_al_pos {g : Nat → Nat} {n : Nat} (h : 0 < n) : 0 < s_al g n := by
  obtain ⟨b, hb, hl⟩ := s_lb_some (g := g) h
  unfold s_al
  rw [hb]
  exact s_cnt_pos hl
/-- what one pays besides -/
def s_bes (n : Nat) (g : Nat → Nat) (bill rule i : Nat) : Nat :=
  if rule = 0 then (match s_lb g none n with
    | none => 0
    | some b => if g i = g b then (bill - s_sum g n) / s_al g n + (if s_cnt g (g b) i < (bill - s_sum g n) % s_al g n then 1 else 0) else 0)
  else if rule = 2 then (if s_lb g none n = some i then (bill - s_sum g n) - (if s_nx g n = none then 0 else (bill - s_sum g n) / 2) else if s_nx g n = some i then (bill - s_sum g n) / 2 else 0)
  else if s_lb g none n = some i then (bill - s_sum g n) + (if rule = 3 then g i else 0) else 0
/-- what one is given back -/
def s_giv (n : Nat) (g : Nat → Nat) (bill rule i : Nat) : Nat := if rule = 4 ∧ s_mx g n = some i then min (s_sum g n - bill) (g i) else 0
def s_cost (n : Nat) (g : Nat → Nat) (bill rule i : Nat) : Nat := g i + s_bes n g bill rule i - s_giv n g bill rule i
def s_chest (n : Nat) (g : Nat → Nat) (bill rule : Nat) : Nat :=
  if rule = 4 then (s_sum g n - bill) - (match s_mx g n with | none => 0 | some m => min (s_sum g n - bill) (g m))
  else if rule = 3 then (s_sum g n - bill) + (match s_lb g none n with | none => 0 | some b => g b)
  else s_sum g n - bill
theorem s_giv_le {n : Nat} {g : Nat → Nat} {bill rule i : Nat} : s_giv n g bill rule i ≤ g i := by
  unfold s_giv
  split
  · exact Nat.min_le_right _ _
  · omega
theorem s_bes_le {n : Nat} {g : Nat → Nat} {bill rule i : Nat} (hg : g i ≤ 99) : s_bes n g bill rule i ≤ bill + 100 := by
  unfold s_bes
  split
  · split
    · omega
    · split
      · rename_i b _ _
        have h1 : (bill - s_sum g n) / s_al g n ≤ bill - s_sum g n := Nat.div_le_self _ _
        split <;> omega
      · omega
  · split
    · split
      · omega
      · split
        · have h1 : (bill - s_sum g n) / 2 ≤ bill - s_sum g n := Nat.div_le_self _ _
          omega
        · omega
    · split
      · split <;> omega
      · omega
theorem s_cost_le {n : Nat} {g : Nat → Nat} {bill rule i : Nat} (hg : g i ≤ 99) : s_cost n g bill rule i ≤ bill + 199 := by
  have := s_bes_le (n := n) (bill := bill) (rule := rule) hg
  unfold s_cost
  omega
section XC
variable {d n bill : Nat} {g : Nat → Nat} {M : j_M} {N : j_N}
theorem X_alike_l {i b : Nat} (hn : n ≤ 7) (hg : ∀ q, q < n → g q ≤ 99) (hbl : bill ≤ 1000) (h : hatOK n g bill M) (hb : s_lb g none n = some b) (hi : i < n) (hgi : g i = g b) : ∀ (j k : Nat), k + j = i → R d kX3_partAmongAlike 34 [.ref 8, .int (nI i), .int (nI (s_cnt g (g b) k)), .int (nI k)] [] (S0, M, N) = some (some (.int (nI ((bill - s_sum g n) / s_al g n + (if s_cnt g (g b) i < (bill - s_sum g n) % s_al g n then 1 else 0)))), (S0, M, N)) := by
  obtain ⟨⟨h1, h2, h3, h4, h5, h6, h7⟩, h8, h9, h10⟩ := h
  have hbl2 := s_lb_lt hb
  have hal := s_al_pos (g := g) (n := n) (by omega)
  have hal2 := s_al_le (g := g) n
  intro j
  induction j with
  | zero =>
    intro k hk
    obtain rfl : k = i := by omega
    have e := bX3_partAmongAlike_34 d (nI k) (nI (s_cnt g (g b) k)) (nI k) M N
    have hc := s_cnt_le (g := g) (v := g b) k
    have hm : (bill - s_sum g n) % s_al g n < s_al g n := Nat.mod_lt _ hal
    rw [if_pos ((nI_leI (by omega) (by omega)).mpr (Nat.le_refl _)), h7, h9, if_neg (fun z => absurd ((eqL (k := 0) (by omega) (by omega)).mp z) (by omega)), if_neg (fun z => absurd ((eqL (k := 0) (by omega) (by omega)).mp z) (by omega)), nrem (by omega) hal (by omega), ndiv (by omega) hal (by omega)] at e
    rw [e]
    by_cases hx : (bill - s_sum g n) % s_al g n ≤ s_cnt g (g b) k
    · rw [if_pos ((nI_leI (by omega) (by omega)).mpr hx), if_neg (by omega)]
      exact congrArg (fun z => some (some (Value.int z), (S0, M, N))) (nI_add _ 0)
    · rw [if_neg (fun z => hx ((nI_leI (by omega) (by omega)).mp z)), if_pos (by omega)]
      exact congrArg (fun z => some (some (Value.int z), (S0, M, N))) (nI_add _ 1)
  | succ j ih =>
    intro k hk
    have e := bX3_partAmongAlike_34 d (nI i) (nI (s_cnt g (g b) k)) (nI k) M N
    have gk := hg k (by omega)
    have gb := hg b (by omega)
    rw [if_neg (fun z => absurd ((nI_leI (a := i) (b := k) (by omega) (by omega)).mp z) (by omega)), jin (k := k) (n := 7) (by omega) (by omega), cond_true, h4, hb, show oI (some b) = nI b from rfl, jin (k := b) (n := 7) (by omega) (by omega), cond_true, ncl (by omega), ncl (by omega), h2 k (by omega), h2 b (by omega), nI_1 k] at e
    have ih := ih (k + 1) (by omega)
    rw [e]
    by_cases hx : g k = g b
    · rw [if_pos (by rw [hx])]
      rw [show nI (s_cnt g (g b) k) + 1 = nI (s_cnt g (g b) (k + 1)) by rw [nI_1]; simp [s_cnt, hx]]
      exact ih
    · rw [if_neg (fun z => hx ((nI_eq (by omega) (by omega)).mp z))]
      rw [show nI (s_cnt g (g b) k) + 0 = nI (s_cnt g (g b) (k + 1)) by rw [addL]; simp [s_cnt, hx]]
      exact ih
theorem X_alike {i b : Nat} (hd : 1 ≤ d) (hn : n ≤ 7) (hg : ∀ q, q < n → g q ≤ 99) (hbl : bill ≤ 1000) (h : hatOK n g bill M) (hb : s_lb g none n = some b) (hi : i < n) : C d 28 [.ref 8, .int (nI i)] S0 M N = some (some (.int (nI (if g i = g b then (bill - s_sum g n) / s_al g n + (if s_cnt g (g b) i < (bill - s_sum g n) % s_al g n then 1 else 0) else 0))), M, N) := by
  have hbl2 := s_lb_lt hb
  have hal := s_al_pos (g := g) (n := n) (by omega)
  have hal2 := s_al_le (g := g) n
  have gi := hg i hi
  have gb := hg b hbl2
  refine eX3_partAmongAlike hd ?_
  have hh := h
  obtain ⟨⟨h1, h2, h3, h4, h5, h6, h7⟩, h8, h9, h10⟩ := hh
  have e := bX3_partAmongAlike_0 (d - 1) (nI i) M N
  rw [h7, if_neg (fun z => absurd ((eqL (k := 0) (by omega) (by omega)).mp z) (by omega)), jin (k := i) (n := 7) (by omega) (by omega), cond_true, h4, hb, show oI (some b) = nI b from rfl, jin (k := b) (n := 7) (by omega) (by omega), cond_true, ncl (by omega), ncl (by omega), h2 i hi, h2 b hbl2] at e
  rw [e]
  by_cases hx : g i = g b
  · rw [if_pos (by rw [hx]), if_pos hx]
    have hbi : b ≤ i := by
      rcases Nat.lt_or_ge i b with q | q
      · have := s_lb_first hb i q; omega
      · exact q
    have h0 : s_cnt g (g b) b = 0 := s_cnt_0 (fun j hj => s_lb_first hb j hj)
    have := X_alike_l (d := d - 1) (N := N) hn hg hbl h hb hi hx (i - b) b (by omega)
    rw [h0] at this
    exact this
  · rw [if_neg (fun z => hx ((nI_eq (by omega) (by omega)).mp z)), if_neg hx]
    rfl
theorem oI_eq {o : Option Nat} {i : Nat} (hi : i < 100) (ho : ∀ b, o = some b → b < 100) : (nI i = oI o) ↔ o = some i := by
  cases o with
  | none =>
    constructor
    · intro z
      exact absurd (show nI i < 0 by rw [z]; decide) (nI_pos (by omega))
    · intro z; cases z
  | some b =>
    have := ho b rfl
    show nI i = nI b ↔ _
    rw [nI_eq (by omega) (by omega)]
    constructor
    · intro z; rw [z]
    · intro z; exact (Option.some.inj z).symm
theorem oI_neg {o : Option Nat} (ho : ∀ b, o = some b → b < 100) : (0 ≤ oI o) ↔ o ≠ none := by
  cases o with
  | none => exact ⟨fun z => absurd z (by decide), fun z => absurd rfl z⟩
  | some b =>
    have := ho b rfl
    exact Iff.intro (fun _ => by simp) (fun _ => nI_pos' (by omega))
theorem s_nx_lt {g : Nat → Nat} {n c : Nat} (h : s_nx g n = some c) : c < n := by
  unfold s_nx at h
  split at h
  · cases h
  · exact s_lb_lt h
theorem X_two {i : Nat} (hd : 1 ≤ d) (hn : n ≤ 7) (hbl : bill ≤ 1000) (h : hatOK n g bill M) (hi : i < n) : C d 29 [.ref 8, .int (nI i)] S0 M N = some (some (.int (nI (if s_lb g none n = some i then (bill - s_sum g n) - (if s_nx g n = none then 0 else (bill - s_sum g n) / 2) else if s_nx g n = some i then (bill - s_sum g n) / 2 else 0))), M, N) := by
  refine eX3_partOfTwo hd ?_
  obtain ⟨⟨h1, h2, h3, h4, h5, h6, h7⟩, h8, h9, h10⟩ := h
  have e := bX3_partOfTwo_0 (d - 1) (nI i) M N
  have l1 : ∀ b, s_lb g none n = some b → b < 100 := fun b hb => by have := s_lb_lt hb; omega
  have l2 : ∀ b, s_nx g n = some b → b < 100 := fun b hb => by have := s_nx_lt hb; omega
  rw [h4, h5, h9] at e
  rw [e]
  have hdv : (bill - s_sum g n) / 2 ≤ bill - s_sum g n := Nat.div_le_self _ _
  have e2 : nI (bill - s_sum g n) / 2 = nI ((bill - s_sum g n) / 2) := ndiv (b := 2) (by omega) (by omega) (by omega)
  by_cases hnx : s_nx g n = none
  · rw [if_neg (fun z => (oI_neg l2).mp z hnx), if_pos hnx]
    by_cases hl : s_lb g none n = some i
    · rw [if_pos ((oI_eq (by omega) l1).mpr hl), if_pos hl]
      exact congrArg (fun z => some (some (Value.int z), (S0, M, N))) (nsub (b := 0) (by omega))
    · rw [if_neg (fun z => hl ((oI_eq (by omega) l1).mp z)), if_neg hl, if_neg (show ¬ s_nx g n = some i by rw [hnx]; simp)]
      split <;> rfl
  · rw [if_pos ((oI_neg l2).mpr hnx), if_neg hnx]
    by_cases hl : s_lb g none n = some i
    · rw [if_pos ((oI_eq (by omega) l1).mpr hl), if_pos hl, e2, nsub hdv]
    · rw [if_neg (fun z => hl ((oI_eq (by omega) l1).mp z)), if_neg hl]
      by_cases hx : s_nx g n = some i
      · rw [if_pos ((oI_eq (by omega) l2).mpr hx), if_pos hx, e2]
      · rw [if_neg (fun z => hx ((oI_eq (by omega) l2).mp z)), if_neg hx]
        rfl
theorem X_besides {i rule : Nat} (hd : 2 ≤ d) (hn : n ≤ 7) (hg : ∀ q, q < n → g q ≤ 99) (hbl : bill ≤ 1000) (h : hatOK n g bill M) (hr : M 8 2 = nI rule) (hr4 : rule ≤ 4) (hi : i < n) : C d 27 [.ref 8, .int (nI i)] S0 M N = some (some (.int (nI (s_bes n g bill rule i))), M, N) := by
  refine eX3_besides (by omega) ?_
  obtain ⟨b, hb, hbl2⟩ := s_lb_some (g := g) (n := n) (by omega)
  have e := bX3_besides_0 (d - 1) (nI i) M N
  have q1 := X_alike (N := N) (d := d - 1) (by omega) hn hg hbl h hb hi
  have q2 := X_two (N := N) (d := d - 1) (by omega) hn hbl h hi
  obtain ⟨⟨h1, h2, h3, h4, h5, h6, h7⟩, h8, h9, h10⟩ := h
  have l1 : ∀ b, s_lb g none n = some b → b < 100 := fun b hb => by have := s_lb_lt hb; omega
  have gi := hg i hi
  rw [q1, q2, hr, h4, h9, ncl (by omega), h2 i hi, jin (k := i) (n := 7) (by omega) (by omega)] at e
  have r0 : (nI rule = 0) = (rule = 0) := propext (eqL (k := 0) (by omega) (by omega))
  have r1 : (nI rule = 1) = (rule = 1) := propext (eqL (k := 1) (by omega) (by omega))
  have r2 : (nI rule = 2) = (rule = 2) := propext (eqL (k := 2) (by omega) (by omega))
  have r3 : (nI rule = 3) = (rule = 3) := propext (eqL (k := 3) (by omega) (by omega))
  have rl : (nI i = oI (s_lb g none n)) = (s_lb g none n = some i) := propext (oI_eq (by omega) l1)
  simp only [r0, r1, r2, r3, rl, cond_true, Option.bind_some, j_oi, nI_add] at e
  rw [e]
  unfold s_bes
  by_cases c0 : rule = 0
  · rw [if_pos c0, if_pos c0, hb]
  · rw [if_neg c0, if_neg c0]
    by_cases c2 : rule = 2
    · rw [if_neg (by omega), if_pos c2, if_pos c2]
    · rw [if_neg c2, if_neg c2]
      by_cases c3 : rule = 3
      · rw [if_neg (by omega), if_pos c3, if_pos c3]
        split <;> rfl
      · rw [if_neg c3, if_neg c3, Nat.add_zero]
        split <;> split <;> rfl
theorem nmin {a b : Nat} (ha : a < 2147483648) (hb : b < 2147483648) : (if nI b < nI a then nI b else nI a) = nI (min a b) := by
  by_cases h : b < a
  · rw [if_pos ((nI_ltI hb ha).mpr h), Nat.min_eq_right (by omega)]
  · rw [if_neg (fun z => h ((nI_ltI hb ha).mp z)), Nat.min_eq_left (by omega)]
theorem X_giv {i rule : Nat} (hd : 1 ≤ d) (hn : n ≤ 7) (hg : ∀ q, q < n → g q ≤ 99) (h : hatOK n g bill M) (hr : M 8 2 = nI rule) (hr4 : rule ≤ 4) (hi : i < n) : C d 30 [.ref 8, .int (nI i)] S0 M N = some (some (.int (nI (s_giv n g bill rule i))), M, N) := by
  refine eX3_givenBack hd ?_
  obtain ⟨⟨h1, h2, h3, h4, h5, h6, h7⟩, h8, h9, h10⟩ := h
  have l1 : ∀ b, s_mx g n = some b → b < 100 := fun b hb => by have := s_mx_lt hb; omega
  have gi := hg i hi
  have hs := s_sum_le hg
  have e := bX3_givenBack_0 (d - 1) (nI i) M N
  rw [hr, h6, h10, ncl (by omega), h2 i hi, jin (k := i) (n := 7) (by omega) (by omega), cond_true, nmin (by omega) (by omega)] at e
  rw [e]
  unfold s_giv
  by_cases h4' : rule = 4
  · rw [if_pos (by rw [h4']; rfl)]
    by_cases hl : s_mx g n = some i
    · rw [if_pos ((oI_eq (by omega) l1).mpr hl), if_pos ⟨h4', hl⟩]
    · rw [if_neg (fun z => hl ((oI_eq (by omega) l1).mp z)), if_neg (fun z => hl z.2)]
      rfl
  · rw [if_neg (fun z => h4' ((eqL (k := 4) (by omega) (by omega)).mp z)), if_neg (fun z => h4' z.1)]
    rfl
theorem X_cost {i rule : Nat} (hd : 3 ≤ d) (hn : n ≤ 7) (hg : ∀ q, q < n → g q ≤ 99) (hbl : bill ≤ 1000) (h : hatOK n g bill M) (hr : M 8 2 = nI rule) (hr4 : rule ≤ 4) (hi : i < n) : C d 26 [.ref 8, .int (nI i)] S0 M N = some (some (.int (nI (s_cost n g bill rule i))), M, N) := by
  refine eX3_cost (by omega) ?_
  have e := bX3_cost_0 (d - 1) (nI i) M N
  have q1 := X_besides (N := N) (d := d - 1) (by omega) hn hg hbl h hr hr4 hi
  have q2 := X_giv (N := N) (d := d - 1) (by omega) hn hg h hr hr4 hi
  rw [jin (k := i) (n := 7) (by omega) (by omega), cond_true, q1, Option.bind_some, j_oi] at e
  dsimp only at e
  rw [q2, Option.bind_some, j_oi] at e
  dsimp only at e
  rw [ncl (by omega), h.1.2.1 i hi, nI_add, nsub (by have := s_giv_le (n := n) (g := g) (bill := bill) (rule := rule) (i := i); omega)] at e
  exact e
theorem X_chest {rule : Nat} (hd : 2 ≤ d) (hn : n ≤ 7) (h0 : 0 < n) (hg : ∀ q, q < n → g q ≤ 99) (h : hatOK n g bill M) (hr : M 8 2 = nI rule) (hr4 : rule ≤ 4) : C d 31 [.ref 8] S0 M N = some (some (.int (nI (s_chest n g bill rule))), M, N) := by
  refine eX3_intoChest (by omega) ?_
  obtain ⟨b, hb, hbl2⟩ := s_lb_some (g := g) h0
  obtain ⟨m, hm, hml⟩ := s_mx_some (g := g) h0
  have q2 := X_giv (N := N) (d := d - 1) (by omega) hn hg h hr hr4 hml
  obtain ⟨⟨h1, h2, h3, h4, h5, h6, h7⟩, h8, h9, h10⟩ := h
  have e := bX3_intoChest_0 (d - 1) M N
  have gb := hg b hbl2
  have hs := s_sum_le hg
  rw [hr, h6, hm, show oI (some m) = nI m from rfl, q2, h4, hb, show oI (some b) = nI b from rfl, h10, if_pos (show (0 : Int32) ≤ nI m from nI_pos' (by omega)), if_neg (show ¬ nI b < 0 from nI_pos (by omega)), jin (k := b) (n := 7) (by omega) (by omega), cond_true, ncl (by omega), h2 b hbl2] at e
  rw [e]
  unfold s_chest
  by_cases h4' : rule = 4
  · rw [if_pos (by rw [h4']; rfl), if_pos h4', hm]
    unfold s_giv
    rw [if_pos ⟨h4', hm⟩, Option.bind_some, j_oi]
    dsimp only
    rw [nsub (Nat.min_le_left _ _)]
  · rw [if_neg (fun z => h4' ((eqL (k := 4) (by omega) (by omega)).mp z)), if_neg h4']
    by_cases h3' : rule = 3
    · rw [if_pos (by rw [h3']; rfl), if_pos h3', hb, nI_add]
    · rw [if_neg (fun z => h3' ((eqL (k := 3) (by omega) (by omega)).mp z)), if_neg h3']
end XC
