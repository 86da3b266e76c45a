/-! ===== a night in the reference: two pay, given back, the whole (own text) ===== -/
section MN2
variable {d n : Nat} {g : Nat → Nat} {N : j_N}
theorem M_two {M : j_M} {lack b : Nat} (hd : 2 ≤ d) (hn : n ≤ 7) (hg : ∀ q, q < n → g q ≤ 99) (h : lay n g M) (hl : lack ≤ 1000) (hb : s_lb g none n = some b) (hz : ∀ i, i < n → M 54 i = nI 0) : ∃ M', C d 170 [.ref 46, .int (nI lack)] S0 M N = some (none, M', N) ∧ Fr [54] M M' ∧ ∀ i, i < n → M' 54 i = nI (if s_lb g none n = some i then lack - (if s_nx g n = none then 0 else lack / 2) else if s_nx g n = some i then lack / 2 else 0) := by
  have hbl := s_lb_lt hb
  have hnx : s_nx g n = s_lb g (some b) n := by unfold s_nx; rw [hb]
  have e := bX11_twoPay_0 (d - 1) (nI lack) M N
  rw [show (Value.int (-1)) = Value.int (oI none) from rfl, M_lb (d := d - 1) (by omega) hn hg h (fun _ z => by cases z), hb, Option.bind_some, j_oi] at e
  dsimp only at e
  rw [M_lb (d := d - 1) (by omega) hn hg h (fun c z => by cases z; omega), ← hnx, Option.bind_some, j_oi] at e
  dsimp only at e
  have hdv : lack / 2 ≤ lack := Nat.div_le_self _ _
  rw [show oI (some b) = nI b from rfl, jin (k := b) (n := 7) (by omega) (by omega), cond_true, cond_true, ncl (by omega), divL (k := 2) (by omega) (by omega) (by omega), nsub hdv] at e
  cases hx : s_nx g n with
  | none =>
    rw [hx, if_neg (show ¬ (0 ≤ oI none) by decide), if_pos (show oI none < 0 by decide)] at e
    refine ⟨_, eX11_twoPay (by omega) e, Fr.w (by decide), fun i hi => ?_⟩
    rw [j_w_ap, if_pos rfl, if_pos rfl]
    by_cases hib : i = b
    · rw [if_pos hib, if_pos (by rw [hb, hib])]; rfl
    · rw [if_neg hib, if_neg (by rw [hb]; simp; omega), if_neg (by simp)]
      exact hz i hi
  | some c =>
    have hcl := s_nx_lt hx
    have hcb : c ≠ b := by
      intro z
      rw [z] at hx
      rw [hx] at hnx
      have key : ∀ k, s_lb g (some b) k ≠ some b := by
        intro k
        induction k with
        | zero => simp [s_lb]
        | succ k ih =>
          rw [s_lb]
          split
          · split
            · simp
            · rename_i q; intro w; apply q; exact w
          · rename_i c2 q
            split
            · rw [← q]; exact ih
            · rename_i q2
              split
              · intro w; apply q2; exact w
              · rw [← q]; exact ih
      exact key n hnx.symm
    rw [hx, show oI (some c) = nI c from rfl, if_pos (show (0 : Int32) ≤ nI c from nI_pos' (by omega)), if_neg (nI_pos (by omega)), jin (k := c) (n := 7) (by omega) (by omega), cond_true, ncl (by omega)] at e
    refine ⟨_, eX11_twoPay (by omega) e, (Fr.w (by decide)).tr (Fr.w (by decide)), fun i hi => ?_⟩
    rw [j_w_ap, if_pos rfl, j_w_ap, if_pos rfl]
    by_cases hic : i = c
    · rw [if_pos hic, if_neg (by rw [hb]; simp; omega), if_pos (by rw [hic])]
    · rw [if_neg hic]
      by_cases hib : i = b
      · rw [if_pos hib, if_pos (by rw [hb, hib]), if_neg (by simp)]
      · rw [if_neg hib, if_neg (by rw [hb]; simp; omega), if_neg (by simp; omega)]
        exact hz i hi
theorem M_gb_l {M : j_M} {over : Nat} (hn : n ≤ 7) (hg : ∀ q, q < n → g q ≤ 99) (h : lay n g M) (ho : over ≤ 1000) : ∀ (j k b : Nat), k + j = n → 1 ≤ k → s_mx g k = some b → ∃ m, s_mx g n = some m ∧ R d kX11_givesBack 4 [.ref 46, .int (nI over), .int (nI b), .int (nI k)] [] (S0, M, N) = some (none, (S0, j_w (j_w M 55 m (nI (min over (g m)))) 46 15 (nI (over - min over (g m))), N))
  | 0, k, b, hk, hk1, hb => by
    obtain rfl : k = n := by omega
    have hbl := s_mx_lt hb
    have gb := hg b hbl
    refine ⟨b, hb, ?_⟩
    have e := bX11_givesBack_4 d (nI over) (nI b) (nI k) M N
    rw [h.1, if_pos ((nI_leI (by omega) (by omega)).mpr (Nat.le_refl _)), jin (k := b) (n := 7) (by omega) (by omega)] at e
    simp only [cond_true] at e
    rw [ncl (by omega), h.2 b hbl] at e
    rw [e]
    by_cases hx : g b ≤ over
    · rw [if_pos ((nI_leI (by omega) (by omega)).mpr hx), Nat.min_eq_right hx, j_w_ap, if_pos rfl, if_pos rfl, nsub hx]
    · rw [if_neg (fun z => hx ((nI_leI (by omega) (by omega)).mp z)), Nat.min_eq_left (by omega), j_w_ap, if_pos rfl, if_pos rfl, nsub (Nat.le_refl _)]
  | j + 1, k, b, hk, hk1, hb => by
    have hbl := s_mx_lt hb
    have gb := hg b (by omega)
    have gk := hg k (by omega)
    have e := bX11_givesBack_4 d (nI over) (nI b) (nI k) M N
    rw [h.1, if_neg (fun z => absurd ((nI_leI (a := n) (b := k) (by omega) (by omega)).mp z) (by omega)), jin (k := k) (n := 7) (by omega) (by omega), jin (k := b) (n := 7) (by omega) (by omega), cond_true, cond_true, ncl (by omega), ncl (by omega), h.2 b (by omega), h.2 k (by omega), addL] at e
    by_cases hx : g k ≤ g b
    · rw [if_pos ((nI_leI (by omega) (by omega)).mpr hx)] at e
      obtain ⟨m, q1, q2⟩ := M_gb_l hn hg h ho j (k + 1) b (by omega) (by omega) (by rw [s_mx, hb]; dsimp only; rw [if_neg (by omega)])
      exact ⟨m, q1, e.trans q2⟩
    · rw [if_neg (fun z => hx ((nI_leI (by omega) (by omega)).mp z))] at e
      obtain ⟨m, q1, q2⟩ := M_gb_l hn hg h ho j (k + 1) k (by omega) (by omega) (by rw [s_mx, hb]; dsimp only; rw [if_pos (by omega)])
      exact ⟨m, q1, e.trans q2⟩
theorem M_gb {M : j_M} {over : Nat} (hd : 1 ≤ d) (hn : n ≤ 7) (h0 : 0 < n) (hg : ∀ q, q < n → g q ≤ 99) (h : lay n g M) (ho : over ≤ 1000) : ∃ m, s_mx g n = some m ∧ C d 171 [.ref 46, .int (nI over)] S0 M N = some (none, j_w (j_w M 55 m (nI (min over (g m)))) 46 15 (nI (over - min over (g m))), N) := by
  obtain ⟨m, q1, q2⟩ := M_gb_l (d := d - 1) (N := N) (M := M) hn hg h ho (n - 1) 1 0 (by omega) (by omega) (by simp [s_mx])
  refine ⟨m, q1, eX11_givesBack hd ?_⟩
  rw [bX11_givesBack_0]
  exact q2
/-- a night reckoned -/
def nightOK (n : Nat) (g : Nat → Nat) (bill rule : Nat) (M : j_M) : Prop := lay n g M ∧ (∀ i, i < n → M 54 i = nI (s_bes n g bill rule i)) ∧ (∀ i, i < n → M 55 i = nI (s_giv n g bill rule i)) ∧ M 46 15 = nI (s_chest n g bill rule)
/-- cells of the night: besides, back, the object's toChest -/
def Fn (M M' : j_M) : Prop := Fr [46, 54, 55] M M' ∧ ∀ k, k ≠ 15 → M' 46 k = M 46 k
theorem Fn.of {M M' : j_M} (h : Fr [54] M M') : Fn M M' := ⟨h.mono (by decide), fun k _ => by rw [h 46 (by decide)]⟩
theorem Fn.tr {M M1 M2 : j_M} (h : Fn M M1) (h2 : Fn M1 M2) : Fn M M2 := ⟨h.1.tr h2.1, fun k hk => (h2.2 k hk).trans (h.2 k hk)⟩
theorem Fn.rf {M : j_M} : Fn M M := ⟨Fr.rf, fun _ _ => rfl⟩
theorem Fn.ch {M : j_M} {x : Int32} : Fn M (j_w M 46 15 x) := ⟨Fr.w (by decide), fun k hk => by rw [j_w_ap, if_pos rfl, if_neg hk]⟩
theorem Fn.w54 {M : j_M} {k : Nat} {x : Int32} : Fn M (j_w M 54 k x) := Fn.of (Fr.w (by decide))
theorem Fn.w55 {M : j_M} {k : Nat} {x : Int32} : Fn M (j_w M 55 k x) := ⟨Fr.w (by decide), fun q _ => by rw [j_w_ap, if_neg (by decide)]⟩
theorem Fn.lay {M M' : j_M} (h : Fn M M') (hl : lay n g M) : lay n g M' := ⟨by rw [h.2 12 (by decide)]; exact hl.1, fun i hi => by rw [h.1 53 (by decide)]; exact hl.2 i hi⟩
theorem M_night_l {bill rule : Nat} (hn : n ≤ 7) (hg : ∀ q, q < n → g q ≤ 99) : ∀ (j k : Nat) (M : j_M), k + j = n → lay n g M → (∀ i, i < k → M 54 i = nI 0 ∧ M 55 i = nI 0) → ∃ M', R d kX11_nightBy 5 [.ref 46, .int (nI bill), .int (nI rule), .int (nI (s_sum g k)), .int (nI k), .null, .null] [] (S0, M, N) = R d kX11_nightBy 5 [.ref 46, .int (nI bill), .int (nI rule), .int (nI (s_sum g n)), .int (nI n), .null, .null] [] (S0, M', N) ∧ Fn M M' ∧ ∀ i, i < n → M' 54 i = nI 0 ∧ M' 55 i = nI 0
  | 0, k, M, hk, h, hz => by
    obtain rfl : k = n := by omega
    exact ⟨M, rfl, Fn.rf, hz⟩
  | j + 1, k, M, hk, h, hz => by
    have e := bX11_nightBy_5 d (nI bill) (nI rule) (nI (s_sum g k)) (nI k) M N
    rw [h.1, if_neg (fun z => absurd ((nI_leI (a := n) (b := k) (by omega) (by omega)).mp z) (by omega)), jin (k := k) (n := 7) (by omega) (by omega), cond_true, cond_true, cond_true, ncl (by omega), h.2 k (by omega), addL, nI_add] at e
    have hf : Fn M (j_w (j_w M 54 k 0) 55 k 0) := Fn.w54.tr Fn.w55
    obtain ⟨M', q1, q2, q3⟩ := M_night_l (bill := bill) (rule := rule) hn hg j (k + 1) _ (by omega) (hf.lay h) (fun i hi => by
      rw [j_w_ap, if_neg (by decide), j_w_ap, if_pos rfl, j_w_ap, if_pos rfl]
      by_cases hik : i = k
      · rw [if_pos hik, if_pos hik]; exact ⟨rfl, rfl⟩
      · rw [if_neg hik, if_neg hik, j_w_ap, if_neg (by decide)]; exact hz i (by omega))
    exact ⟨M', e.trans q1, hf.tr q2, q3⟩
end MN2
