/-! ===== groups of cells, the parts of the invariant (own text) ===== -/
def grp (c k : Nat) : Nat :=
  bif Nat.beq c 46 then (bif Nat.beq k 6 then 1 else bif j_mem k [9, 10] then 2 else bif Nat.beq k 17 then 3 else bif j_mem k [22, 24] then 4 else bif j_mem k [4, 5] then 5 else bif j_mem k [31, 32, 33, 34] then 6 else bif j_mem k [37, 40] then 7 else 0)
  else bif Nat.beq c 1 then (bif j_mem k [6, 7, 8, 9] then 1 else bif j_mem k [10, 11] then 2 else 0)
  else bif j_mem c [2, 3, 4, 5, 47] then 1
  else bif j_mem c [6, 7, 51, 52] then 2
  else bif Nat.beq c 12 then (bif Nat.beq k 5 then 3 else 0)
  else bif j_mem c [13, 14, 56, 57] then 3
  else bif Nat.beq c 16 then (bif j_mem k [4, 8, 9] then 4 else 0)
  else bif j_mem c [17, 19, 59, 60] then 4
  else bif j_mem c [22, 23, 24, 25, 26, 48, 49, 50] then 5
  else bif j_mem c [27, 28, 29, 62, 63] then 6
  else bif Nat.beq c 30 then (bif j_mem k [2, 3] then 7 else 0)
  else bif j_mem c [31, 32, 64, 65] then 7
  else bif j_mem c [34, 36, 38, 40, 42, 44, 66, 67] then 8
  else 0
def Fg (gs : List Nat) (M M' : j_M) : Prop := ∀ c k, grp c k ≠ 0 → j_mem (grp c k) gs = false → M' c k = M c k
theorem Fg.rf {gs : List Nat} {M : j_M} : Fg gs M M := fun _ _ _ _ => rfl
theorem Fg.tr {gs : List Nat} {M M1 M2 : j_M} (h : Fg gs M M1) (h2 : Fg gs M1 M2) : Fg gs M M2 := fun c k q r => (h2 c k q r).trans (h c k q r)
theorem Fg.w {gs : List Nat} {M : j_M} {c k : Nat} {x : Int32} (h : j_mem (grp c k) gs = true) : Fg gs M (j_w M c k x) := by
  intro c' k' q r
  rw [j_w_ap]
  by_cases h1 : c' = c
  · rw [if_pos h1]
    by_cases h2 : k' = k
    · rw [h1, h2, h] at r; cases r
    · rw [if_neg h2]
  · rw [if_neg h1]
theorem Fg.w0 {gs : List Nat} {M : j_M} {c k : Nat} {x : Int32} (h : grp c k = 0) : Fg gs M (j_w M c k x) := by
  intro c' k' q r
  rw [j_w_ap]
  by_cases h1 : c' = c
  · rw [if_pos h1]
    by_cases h2 : k' = k
    · exact absurd (by rw [h1, h2]; exact h) q
    · rw [if_neg h2]
  · rw [if_neg h1]
theorem Fg.row {gs : List Nat} {M : j_M} {c : Nat} {f : Nat → Int32} (h : ∀ k, j_mem (grp c k) gs = true) : Fg gs M (j_row M c f) := by
  intro c' k' q r
  rw [j_row_ap]
  by_cases h1 : c' = c
  · rw [h1, h] at r; cases r
  · rw [if_neg h1]
theorem mem_c {k : Nat} : ∀ {l : List Nat}, j_mem k l = true → k ∈ l
  | [], h => by cases h
  | x :: r, h => by
    unfold j_mem at h
    rcases Bool.or_eq_true_iff.mp h with h1 | h1
    · rw [Nat.eq_of_beq_eq_true h1]; exact List.mem_cons_self ..
    · exact List.mem_cons_of_mem _ (mem_c h1)
theorem scr_grp {c k : Nat} (h : scr c k = true) : grp c k = 0 := by
  unfold scr at h
  cases h46 : Nat.beq c 46 with
  | true =>
    rw [h46, cond_true] at h
    have hc := Nat.eq_of_beq_eq_true h46
    have := mem_c h
    simp only [List.mem_cons, List.not_mem_nil, or_false] at this
    rw [hc]
    rcases this with rfl | rfl | rfl | rfl | rfl | rfl | rfl | rfl <;> rfl
  | false =>
    rw [h46, cond_false] at h
    cases h16 : Nat.beq c 16 with
    | true =>
      rw [h16, cond_true] at h
      have hc := Nat.eq_of_beq_eq_true h16
      have := mem_c h
      simp only [List.mem_cons, List.not_mem_nil, or_false] at this
      rw [hc]
      rcases this with rfl | rfl | rfl | rfl <;> rfl
    | false =>
      rw [h16, cond_false] at h
      have := mem_c h
      simp only [List.mem_cons, List.not_mem_nil, or_false] at this
      rcases this with rfl | rfl | rfl | rfl | rfl | rfl | rfl | rfl | rfl | rfl | rfl | rfl | rfl <;> rfl
theorem Fg.ofs {gs : List Nat} {M M' : j_M} (h : Scr M M') : Fg gs M M' := by
  intro c k q _
  refine h c k ?_
  cases hs : scr c k with
  | false => rfl
  | true => exact absurd (scr_grp hs) q
theorem wL_grp {c k : Nat} (h : wL c k = true) : grp c k = 0 ∨ grp c k = 4 := by
  unfold wL at h
  rcases Bool.or_eq_true_iff.mp h with h1 | h1
  · exact Or.inl (scr_grp h1)
  · right
    cases h16 : Nat.beq c 16 with
    | true =>
      rw [h16, cond_true] at h1
      have hc := Nat.eq_of_beq_eq_true h16
      have := mem_c h1
      simp only [List.mem_cons, List.not_mem_nil, or_false] at this
      rw [hc]
      rcases this with rfl | rfl | rfl <;> rfl
    | false =>
      rw [h16, cond_false] at h1
      cases h46 : Nat.beq c 46 with
      | true =>
        rw [h46, cond_true] at h1
        have hc := Nat.eq_of_beq_eq_true h46
        have := mem_c h1
        simp only [List.mem_cons, List.not_mem_nil, or_false] at this
        rw [hc]
        rcases this with rfl | rfl <;> rfl
      | false =>
        rw [h46, cond_false] at h1
        have := mem_c h1
        simp only [List.mem_cons, List.not_mem_nil, or_false] at this
        rcases this with rfl | rfl | rfl | rfl <;> rfl
theorem Fg.ofL {M M' : j_M} (h : Fw wL M M') : Fg [4] M M' := by
  intro c k q r
  refine h c k ?_
  cases hs : wL c k with
  | false => rfl
  | true =>
    rcases wL_grp hs with h1 | h1
    · exact absurd h1 q
    · rw [h1] at r; cases r
/-- a group that isn't touched -/
def Sg (i : Nat) (M M' : j_M) : Prop := ∀ c k, grp c k = i → M' c k = M c k
theorem Fg.sg {gs : List Nat} {i : Nat} {M M' : j_M} (h : Fg gs M M') (h0 : i ≠ 0) (hi : j_mem i gs = false) : Sg i M M' := fun c k q => h c k (by rw [q]; exact h0) (by rw [q]; exact hi)
theorem IG.g {n : Nat} {a : Nat → Nat} {M M' : j_M} (h : IG n a M) (hs : Sg 1 M M') : IG n a M' := by
  obtain ⟨h1, h2, h3, h4, h5, h6, h7, h8, h9, h10, h11, h12, h13, h14⟩ := h
  exact ⟨h1, h2, h3, (hs 1 6 rfl).trans h4, (hs 46 6 rfl).trans h5, fun k hk => (hs 47 k rfl).trans (h6 k hk), fun k hk => (hs 2 k rfl).trans (h7 k hk), fun k hk => (hs 3 k rfl).trans (h8 k hk), fun k hk => (hs 4 k rfl).trans (h9 k hk), fun k hk => (hs 5 k rfl).trans (h10 k hk), (hs 1 7 rfl).trans h11, (hs 1 8 rfl).trans h12, (hs 1 9 rfl).trans h13, h14⟩
theorem IP.g {n : Nat} {M M' : j_M} (h : IP n M) (hs : Sg 2 M M') : IP n M' := by
  obtain ⟨h1, h2, h3, h4, h5, h6⟩ := h
  refine ⟨fun i hi => ?_, fun i hi hi2 => (hs 51 i rfl).trans (h2 i hi hi2), fun i hi => by rw [hs 7 i rfl, hs 52 i rfl]; exact h3 i hi, fun i hi hi2 => (hs 52 i rfl).trans (h4 i hi hi2), by rw [hs 1 10 rfl, hs 46 10 rfl]; exact h5, by rw [hs 1 11 rfl, hs 46 9 rfl]; exact h6⟩
  rcases h1 i hi with ⟨k1, k2⟩ | ⟨q, k1, k2, k3⟩
  · exact Or.inl ⟨(hs 6 i rfl).trans k1, (hs 51 i rfl).trans k2⟩
  · exact Or.inr ⟨q, k1, (hs 6 i rfl).trans k2, (hs 51 i rfl).trans k3⟩
theorem IM.g {m : Nat} {pr jo : Nat → Nat} {M M' : j_M} (h : IM m pr jo M) (hs : Sg 3 M M') : IM m pr jo M' := by
  obtain ⟨h1, h2, h3, h4, h5, h6, h7, h8, h9⟩ := h
  exact ⟨h1, (hs 12 5 rfl).trans h2, (hs 46 17 rfl).trans h3, h4, fun k hk => (hs 13 k rfl).trans (h5 k hk), fun k hk => (hs 56 k rfl).trans (h6 k hk), h7, fun k hk => (hs 14 k rfl).trans (h8 k hk), fun k hk => (hs 57 k rfl).trans (h9 k hk)⟩
theorem IL.g {M M' : j_M} (h : IL M) (hs : Sg 4 M M') : IL M' := by
  obtain ⟨⟨L, T, h1, h2, h3, h4, h5, h6⟩, h7⟩ := h
  refine ⟨⟨L, T, h1, (hs 16 4 rfl).trans h2, (hs 46 22 rfl).trans h3, h4, fun i hi => (hs 17 i rfl).trans (h5 i hi), fun i hi => (hs 59 i rfl).trans (h6 i hi)⟩, ?_⟩
  rcases h7 with ⟨k1, k2⟩ | ⟨k1, L2, T2, ls, k2, k3, k4, k5, k6, k7⟩
  · exact Or.inl ⟨(hs 16 9 rfl).trans k1, (hs 46 24 rfl).trans k2⟩
  · exact Or.inr ⟨(hs 16 9 rfl).trans k1, L2, T2, ls, (hs 46 24 rfl).trans k2, k3, fun i hi => (hs 60 i rfl).trans (k4 i hi), ⟨(hs 16 8 rfl).trans k5.1, fun i z hz => (hs 19 i rfl).trans (k5.2.1 i z hz), k5.2.2⟩, k6, k7⟩
def wh' (w : Nat) : Nat := if w < 24 then w / 6 else w - 20
def nu (w : Nat) : Nat := if w < 24 then w % 6 else 0
/-- a place that may be told: whose it is, and in which bounds -/
def okw (n w v : Nat) : Prop := w < 27 ∧ (w < 24 → w % 6 < n) ∧ v ≤ Rg w ∧ (w = 26 → 1 ≤ v)
def CH (n : Nat) (q : Nat) (M : j_M) : Prop := ∃ w was is : Nat, okw n w was ∧ okw n w is ∧ M 48 q = nI w ∧ M 49 q = nI was ∧ M 50 q = nI is ∧ M 25 q = nI was ∧ M 26 q = nI is ∧ M 24 q = nI (wh' w) ∧ M 23 q = nI (nu w)
def IC (n : Nat) (M : j_M) : Prop := ∃ dn kp : Nat, dn ≤ kp ∧ kp ≤ 40 ∧ M 22 4 = nI dn ∧ M 22 5 = nI kp ∧ M 46 5 = nI dn ∧ M 46 4 = nI kp ∧ ∀ q, q < kp → CH n q M
theorem CH.g {n q : Nat} {M M' : j_M} (h : CH n q M) (hs : Sg 5 M M') : CH n q M' := by
  obtain ⟨w, was, is, h1, h2, h3, h4, h5, h6, h7, h8, h9⟩ := h
  exact ⟨w, was, is, h1, h2, (hs 48 q rfl).trans h3, (hs 49 q rfl).trans h4, (hs 50 q rfl).trans h5, (hs 25 q rfl).trans h6, (hs 26 q rfl).trans h7, (hs 24 q rfl).trans h8, (hs 23 q rfl).trans h9⟩
theorem IC.g {n : Nat} {M M' : j_M} (h : IC n M) (hs : Sg 5 M M') : IC n M' := by
  obtain ⟨dn, kp, h1, h2, h3, h4, h5, h6, h7⟩ := h
  exact ⟨dn, kp, h1, h2, (hs 22 4 rfl).trans h3, (hs 22 5 rfl).trans h4, (hs 46 5 rfl).trans h5, (hs 46 4 rfl).trans h6, fun q hq => (h7 q hq).g hs⟩
theorem okw.mono {n n' w v : Nat} (h : okw n w v) (hn : n ≤ n') : okw n' w v := ⟨h.1, fun z => by have := h.2.1 z; omega, h.2.2⟩
theorem CH.mono {n n' q : Nat} {M : j_M} (h : CH n q M) (hn : n ≤ n') : CH n' q M := by
  obtain ⟨w, was, is, h1, h2, h3⟩ := h
  exact ⟨w, was, is, h1.mono hn, h2.mono hn, h3⟩
theorem IC.mono {n n' : Nat} {M : j_M} (h : IC n M) (hn : n ≤ n') : IC n' M := by
  obtain ⟨dn, kp, h1, h2, h3, h4, h5, h6, h7⟩ := h
  exact ⟨dn, kp, h1, h2, h3, h4, h5, h6, fun q hq => (h7 q hq).mono hn⟩
/-- the image -/
def II (n : Nat) (M : j_M) : Prop := (M 27 5 = nI 0 ∧ M 46 31 = nI 0) ∨ (M 27 5 = nI 1 ∧ M 46 31 = nI 1 ∧ ∃ s : Nat, s ≤ n ∧ M 27 2 = nI s ∧ M 46 32 = nI s ∧ M 27 3 = M 46 33 ∧ M 27 4 = M 46 34 ∧ (∀ i, i < s → ∃ v : Nat, v ≤ 99 ∧ M 28 i = nI v ∧ M 62 i = nI v) ∧ (∀ i, i < s → M 29 i = M 63 i))
theorem II.g {n : Nat} {M M' : j_M} (h : II n M) (hs : Sg 6 M M') : II n M' := by
  rcases h with ⟨h1, h2⟩ | ⟨h1, h2, s, h3, h4, h5, h6, h7, h8, h9⟩
  · exact Or.inl ⟨(hs 27 5 rfl).trans h1, (hs 46 31 rfl).trans h2⟩
  · refine Or.inr ⟨(hs 27 5 rfl).trans h1, (hs 46 31 rfl).trans h2, s, h3, (hs 27 2 rfl).trans h4, (hs 46 32 rfl).trans h5, by rw [hs 27 3 rfl, hs 46 33 rfl]; exact h6, by rw [hs 27 4 rfl, hs 46 34 rfl]; exact h7, fun i hi => ?_, fun i hi => by rw [hs 29 i rfl, hs 63 i rfl]; exact h9 i hi⟩
    obtain ⟨v, k1, k2, k3⟩ := h8 i hi
    exact ⟨v, k1, (hs 28 i rfl).trans k2, (hs 62 i rfl).trans k3⟩
theorem II.mono {n n' : Nat} {M : j_M} (h : II n M) (hn : n ≤ n') : II n' M := by
  rcases h with h | ⟨h1, h2, s, h3, h4⟩
  · exact Or.inl h
  · exact Or.inr ⟨h1, h2, s, by omega, h4⟩
/-- hats' bodies, what ran -/
def IB (nb : Nat) (M : j_M) : Prop := nb ≤ 50 ∧ M 30 2 = nI nb ∧ M 46 37 = nI nb ∧ (∀ i, i < nb → ∃ k : Nat, k < 8 ∧ M 31 i = nI k ∧ M 64 i = nI k) ∧ (∃ r : Nat, r < 1000000 ∧ M 30 3 = nI r ∧ M 46 40 = nI r) ∧ (∀ i, i < 24 → nI i < M 30 3 → M 32 i = M 65 i)
theorem IB.g {nb : Nat} {M M' : j_M} (h : IB nb M) (hs : Sg 7 M M') : IB nb M' := by
  obtain ⟨h1, h2, h3, h4, ⟨r, h5, h6, h7⟩, h8⟩ := h
  refine ⟨h1, (hs 30 2 rfl).trans h2, (hs 46 37 rfl).trans h3, fun i hi => ?_, ⟨r, h5, (hs 30 3 rfl).trans h6, (hs 46 40 rfl).trans h7⟩, fun i hi hr => ?_⟩
  · obtain ⟨k, k1, k2, k3⟩ := h4 i hi
    exact ⟨k, k1, (hs 31 i rfl).trans k2, (hs 64 i rfl).trans k3⟩
  · rw [hs 32 i rfl, hs 65 i rfl]
    rw [hs 30 3 rfl] at hr
    exact h8 i hi hr
/-- shelves: what a shelf holds is told by one number in the reference -/
def SH (nb s : Nat) (M : j_M) (N : j_N) : Prop := (∃ l : Nat, l ≤ 60 ∧ M (34 + 2 * s) 2 = nI l ∧ M 67 s = nI l) ∧ (∀ k, k < 60 → N (35 + 2 * s) k = N 68 (60 * s + k)) ∧ ((M (34 + 2 * s) 4 = nI 0 ∧ M 66 s = -nI 1) ∨ (∃ b : Nat, b < nb ∧ M (34 + 2 * s) 4 = nI 1 ∧ M (34 + 2 * s) 3 = nI b ∧ M 66 s = nI b) ∨ (∃ t : Nat, t < 5 ∧ M (34 + 2 * s) 4 = nI 2 ∧ M (34 + 2 * s) 1 = nI t ∧ M 66 s = nI (50 + t))) ∧ (M 66 s = nI 50 → ∀ k, k < 60 → ∃ v : Int32, N 68 (60 * s + k) = v.toInt64)
def IS (nb : Nat) (M : j_M) (N : j_N) : Prop := ∀ s, s < 6 → SH nb s M N
theorem grp_sh {s k : Nat} (h : s < 6) : grp (34 + 2 * s) k = 8 := by
  have : s = 0 ∨ s = 1 ∨ s = 2 ∨ s = 3 ∨ s = 4 ∨ s = 5 := by omega
  rcases this with rfl | rfl | rfl | rfl | rfl | rfl <;> rfl
theorem SH.g {nb s : Nat} {M M' : j_M} {N : j_N} (h : SH nb s M N) (hs6 : s < 6) (hs : Sg 8 M M') : SH nb s M' N := by
  obtain ⟨⟨l, h1, h2, h3⟩, h4, h5, h6⟩ := h
  refine ⟨⟨l, h1, (hs _ _ (grp_sh hs6)).trans h2, (hs 67 s rfl).trans h3⟩, h4, ?_, fun hz => h6 ((hs 66 s rfl).symm.trans hz)⟩
  rw [hs _ 4 (grp_sh hs6), hs _ 3 (grp_sh hs6), hs _ 1 (grp_sh hs6), hs 66 s rfl]
  exact h5
theorem IS.g {nb : Nat} {M M' : j_M} {N : j_N} (h : IS nb M N) (hs : Sg 8 M M') : IS nb M' N := fun s hs6 => (h s hs6).g hs6 hs
theorem IS.mono {nb nb' : Nat} {M : j_M} {N : j_N} (h : IS nb M N) (hn : nb ≤ nb') : IS nb' M N := by
  intro s hs
  obtain ⟨h1, h2, h3, h4⟩ := h s hs
  refine ⟨h1, h2, ?_, h4⟩
  rcases h3 with h3 | ⟨b, h3, h4⟩ | h3
  · exact Or.inl h3
  · exact Or.inr (Or.inl ⟨b, by omega, h4⟩)
  · exact Or.inr (Or.inr h3)
def Inv (M : j_M) (N : j_N) : Prop := ∃ (n : Nat) (a : Nat → Nat) (m : Nat) (pr jo : Nat → Nat) (nb : Nat), IG n a M ∧ IP n M ∧ IM m pr jo M ∧ IL M ∧ IC n M ∧ II n M ∧ IB nb M ∧ IS nb M N
theorem Inv.scr {M M' : j_M} {N : j_N} (h : Inv M N) (hs : Scr M M') : Inv M' N := by
  obtain ⟨n, a, m, pr, jo, nb, h1, h2, h3, h4, h5, h6, h7, h8⟩ := h
  have hf : Fg [] M M' := Fg.ofs hs
  exact ⟨n, a, m, pr, jo, nb, h1.scr hs, h2.scr hs, h3.scr hs, h4.scr hs, h5.g (hf.sg (by decide) rfl), h6.g (hf.sg (by decide) rfl), h7.g (hf.sg (by decide) rfl), h8.g (hf.sg (by decide) rfl)⟩
/-! ===== calls that answer alike and keep the invariant (own text) ===== -/
def OpI (i j : Nat) (as : List Value) : Prop := ∀ (d : Nat) (M : j_M) (N : j_N), 100 ≤ d → Inv M N → ∃ r M1 N1 M2 N2, C d i (.ref 0 :: as) S0 M N = some (some (.int r), M1, N1) ∧ C d j (.ref 46 :: as) S0 M1 N1 = some (some (.int r), M2, N2) ∧ Inv M2 N2
def OpL (i j : Nat) (as : List Value) : Prop := ∀ (d : Nat) (M : j_M) (N : j_N), 100 ≤ d → Inv M N → ∃ r M1 N1 M2 N2, C d i (.ref 0 :: as) S0 M N = some (some (.long r), M1, N1) ∧ C d j (.ref 46 :: as) S0 M1 N1 = some (some (.long r), M2, N2) ∧ Inv M2 N2
section OPS
variable {x y w u : Int32}
theorem op_q {i j : Nat} {as : List Value} (h : ∀ (d : Nat) (M : j_M) (N : j_N) (n : Nat) (a : Nat → Nat) (m : Nat) (pr jo : Nat → Nat), 100 ≤ d → IG n a M → IP n M → IM m pr jo M → IL M → ∃ r M1 M2, C d i (.ref 0 :: as) S0 M N = some (some (.int r), M1, N) ∧ C d j (.ref 46 :: as) S0 M1 N = some (some (.int r), M2, N) ∧ Scr M M2) : OpI i j as := by
  intro d M N hd hI
  have hI2 := hI
  obtain ⟨n, a, m, pr, jo, nb, h1, h2, h3, h4, h5, h6, h7, h8⟩ := hI
  obtain ⟨r, M1, M2, q1, q2, q3⟩ := h d M N n a m pr jo hd h1 h2 h3 h4
  exact ⟨r, M1, N, M2, N, q1, q2, hI2.scr q3⟩
theorem op_ql {i j : Nat} {as : List Value} (h : ∀ (d : Nat) (M : j_M) (N : j_N) (n : Nat) (a : Nat → Nat), 100 ≤ d → IG n a M → ∃ r M1 M2, C d i (.ref 0 :: as) S0 M N = some (some (.long r), M1, N) ∧ C d j (.ref 46 :: as) S0 M1 N = some (some (.long r), M2, N) ∧ Scr M M2) : OpL i j as := by
  intro d M N hd hI
  have hI2 := hI
  obtain ⟨n, a, m, pr, jo, nb, h1, h2, h3, h4, h5, h6, h7, h8⟩ := hI
  obtain ⟨r, M1, M2, q1, q2, q3⟩ := h d M N n a hd h1
  exact ⟨r, M1, N, M2, N, q1, q2, hI2.scr q3⟩
theorem P_putIn : OpI 115 178 [.int x, .int y] := op_q (fun d M N n a m pr jo hd h _ _ _ => Q_putIn (by omega) h)
theorem P_mean : OpL 116 183 [.int x, .int y, .int w] := op_ql (fun d M N n a hd h => Q_mean (by omega) h)
theorem P_bestMean : OpI 117 184 [.int x] := op_q (fun d M N n a m pr jo hd h _ _ _ => Q_bestMean (by omega) h)
theorem P_rest : OpI 118 187 [.int x] := op_q (fun d M N n a m pr jo hd h _ _ _ => Q_rest (by omega) h)
theorem P_rests : OpI 119 189 [.int x] := op_q (fun d M N n a m pr jo hd h _ _ _ => Q_rests (by omega) h)
theorem P_turns : OpI 120 190 [.int x] := op_q (fun d M N n a m pr jo hd h _ _ _ => Q_turns (by omega) h)
theorem P_agree : OpI 121 191 [.int x, .int y] := op_q (fun d M N n a m pr jo hd h _ _ _ => Q_agree (by omega) h)
theorem P_ordered : OpI 124 196 [.int x, .int y] := op_q (fun d M N n a m pr jo hd h _ hm _ => Q_ordered (by omega) h hm)
theorem P_thought : OpI 125 211 [.int x, .int y, .int w] := op_q (fun d M N n a m pr jo hd h _ _ hl => Q_thought (by omega) h hl.2)
theorem P_given : OpI 126 213 [.int x] := op_q (fun d M N n a m pr jo hd h hp _ hl => Q_given (by omega) h hl.2 hp)
theorem P_stranger : OpL 127 214 [.int x, .int y, .int w] := op_ql (fun d M N n a hd h => Q_stranger (by omega) h)
theorem P_drawn : OpI 129 216 [.int x, .int y, .int w, .int u] := op_q (fun d M N n a m pr jo hd h _ _ _ => Q_drawn (by omega) h)
theorem P_fair : OpI 132 221 [.int x] := op_q (fun d M N n a m pr jo hd h _ _ _ => Q_fair (by omega) h)
theorem op_law {i j : Nat} {as : List Value} (h : ∀ (d : Nat) (M : j_M) (N : j_N), 100 ≤ d → IL M → ∃ r M1 M2, C d i (.ref 0 :: as) S0 M N = some (some (.int r), M1, N) ∧ C d j (.ref 46 :: as) S0 M1 N = some (some (.int r), M2, N) ∧ Fw wL M M2 ∧ IL M2) : OpI i j as := by
  intro d M N hd hI
  obtain ⟨n, a, m, pr, jo, nb, h1, h2, h3, h4, h5, h6, h7, h8⟩ := hI
  obtain ⟨r, M1, M2, q1, q2, q3, q4⟩ := h d M N hd h4
  have hf := Fg.ofL q3
  exact ⟨r, M1, N, M2, N, q1, q2, n, a, m, pr, jo, nb, h1.g (hf.sg (by decide) rfl), h2.g (hf.sg (by decide) rfl), h3.g (hf.sg (by decide) rfl), q4, h5.g (hf.sg (by decide) rfl), h6.g (hf.sg (by decide) rfl), h7.g (hf.sg (by decide) rfl), h8.g (hf.sg (by decide) rfl)⟩
theorem P_feed : OpI 113 197 [.int x] := op_law (fun d M N hd h => O_feed (by omega) h)
theorem P_law : OpI 114 209 [] := op_law (fun d M N hd h => O_law (by omega) h)
end OPS
