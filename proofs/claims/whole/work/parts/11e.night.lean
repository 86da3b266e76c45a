/-! ===== costs of a night: the reference (own text) ===== -/
theorem i_dec {x : Int32} (h : -100000 ≤ x.toInt) (h2 : x.toInt ≤ 100000) : (x + (-1)).toInt = x.toInt - 1 := by
  rw [Int32.toInt_add, show (-1 : Int32).toInt = -1 by decide]
  rw [Int.bmod_eq_of_le (by omega) (by omega)]
  omega
section MN
variable {d n : Nat} {g : Nat → Nat} {N : j_N}
/-- gifts laid out in the reference -/
def lay (n : Nat) (g : Nat → Nat) (M : j_M) : Prop := M 46 12 = nI n ∧ ∀ i, i < n → M 53 i = nI (g i)
theorem M_lb_l {M : j_M} {bo : Option Nat} (hn : n ≤ 7) (hg : ∀ q, q < n → g q ≤ 99) (h : lay n g M) (hbo : ∀ b, bo = some b → b < 100) : ∀ (j k : Nat), k + j = n → R d kX11_leastBut 4 [.ref 46, .int (oI bo), .int (oI (s_lb g bo k)), .int (nI k)] [] (S0, M, N) = some (some (.int (oI (s_lb g bo n))), (S0, M, N))
  | 0, k, hk => by
    obtain rfl : k = n := by omega
    have e := bX11_leastBut_4 d (oI bo) (oI (s_lb g bo k)) (nI k) M N
    rw [h.1, if_pos ((nI_leI (by omega) (by omega)).mpr (Nat.le_refl _))] at e
    exact e
  | j + 1, k, hk => by
    have ih := M_lb_l (M := M) hn hg h hbo j (k + 1) (by omega)
    have e := bX11_leastBut_4 d (oI bo) (oI (s_lb g bo k)) (nI k) M N
    have hk1 : nI k + 1 = nI (k + 1) := nI_1 k
    have gk := hg k (by omega)
    rw [h.1, if_neg (fun z => absurd ((nI_leI (a := n) (b := k) (by omega) (by omega)).mp z) (by omega)), hk1] at e
    rw [e]
    by_cases hb : bo = some k
    · rw [if_pos ((oI_eq (by omega) hbo).mpr hb)]
      have es : s_lb g bo (k + 1) = s_lb g bo k := by
        rw [s_lb]
        cases hx : s_lb g bo k <;> simp [hb]
      rw [es] at ih
      exact ih
    · rw [if_neg (fun z => hb ((oI_eq (by omega) hbo).mp z))]
      cases hx : s_lb g bo k with
      | none =>
        have es : s_lb g bo (k + 1) = some k := by
          rw [s_lb, hx]; dsimp only; rw [if_neg (fun z => hb z.symm)]
        rw [if_pos (show oI none < 0 by decide)]
        rw [es] at ih
        exact ih
      | some b =>
        have hlt := s_lb_lt hx
        have gb := hg b (by omega)
        rw [show oI (some b) = nI b from rfl, if_neg (nI_pos (by omega)), jin (k := k) (n := 7) (by omega) (by omega), cond_true, jin (k := b) (n := 7) (by omega) (by omega), cond_true, ncl (by omega), ncl (by omega), h.2 k (by omega), h.2 b (by omega)]
        by_cases hc : g b ≤ g k
        · have es : s_lb g bo (k + 1) = some b := by
            rw [s_lb, hx]; dsimp only; rw [if_neg (fun z => hb z.symm), if_neg (by omega)]
          rw [if_pos ((nI_leI (by omega) (by omega)).mpr hc)]
          rw [es] at ih
          exact ih
        · have es : s_lb g bo (k + 1) = some k := by
            rw [s_lb, hx]; dsimp only; rw [if_neg (fun z => hb z.symm), if_pos (by omega)]
          rw [if_neg (fun z => hc ((nI_leI (by omega) (by omega)).mp z))]
          rw [es] at ih
          exact ih
theorem M_lb {M : j_M} {bo : Option Nat} (hd : 1 ≤ d) (hn : n ≤ 7) (hg : ∀ q, q < n → g q ≤ 99) (h : lay n g M) (hbo : ∀ b, bo = some b → b < 100) : C d 168 [.ref 46, .int (oI bo)] S0 M N = some (some (.int (oI (s_lb g bo n))), M, N) := by
  refine eX11_leastBut hd ?_
  rw [bX11_leastBut_0]
  exact M_lb_l hn hg h hbo n 0 (by omega)
/-- the first loop of alikePay: how many -/
theorem M_al_a {M : j_M} {lack v : Nat} (hn : n ≤ 7) (hg : ∀ q, q < n → g q ≤ 99) (hv : v ≤ 99) (h : lay n g M) (hl : lack ≤ 1000) (h0 : 0 < s_cnt g v n) : ∀ (j k : Nat), k + j = n → R d kX11_alikePay 16 [.ref 46, .int (nI lack), .int (nI v), .int (nI (s_cnt g v k)), .int (nI k), .null] [] (S0, M, N) = R d kX11_alikePay 58 [.ref 46, .int (nI lack), .int (nI v), .int (nI (s_cnt g v n)), .int (nI (lack % s_cnt g v n)), .int (nI 0)] [] (S0, M, N)
  | 0, k, hk => by
    obtain rfl : k = n := by omega
    have hc := s_cnt_le (g := g) (v := v) k
    have e := bX11_alikePay_16 d (nI lack) (nI v) (nI (s_cnt g v k)) (nI k) M N
    rw [h.1, if_pos ((nI_leI (by omega) (by omega)).mpr (Nat.le_refl _)), if_neg (fun z => absurd ((eqL (k := 0) (by omega) (by omega)).mp z) (by omega)), nrem (by omega) h0 (by omega)] at e
    exact e
  | j + 1, k, hk => by
    have ih := M_al_a (M := M) hn hg hv h hl h0 j (k + 1) (by omega)
    have e := bX11_alikePay_16 d (nI lack) (nI v) (nI (s_cnt g v k)) (nI k) M N
    have gk := hg k (by omega)
    rw [h.1, if_neg (fun z => absurd ((nI_leI (a := n) (b := k) (by omega) (by omega)).mp z) (by omega)), jin (k := k) (n := 7) (by omega) (by omega), cond_true, ncl (by omega), h.2 k (by omega), addL, addL, addL] at e
    rw [e]
    by_cases hx : g k = v
    · rw [if_pos (by rw [hx])]
      rw [show s_cnt g v (k + 1) = s_cnt g v k + 1 by simp [s_cnt, hx]] at ih
      exact ih
    · rw [if_neg (fun z => hx ((nI_eq (by omega) (by omega)).mp z))]
      rw [show s_cnt g v (k + 1) = s_cnt g v k + 0 by simp [s_cnt, hx]] at ih
      exact ih
def s_pa (g : Nat → Nat) (v lack c i : Nat) : Nat := if g i = v then lack / c + (if s_cnt g v i < lack % c then 1 else 0) else 0
/-- the second loop: who pays what -/
theorem M_al_b {lack v c : Nat} (hn : n ≤ 7) (hg : ∀ q, q < n → g q ≤ 99) (hv : v ≤ 99) (hl : lack ≤ 1000) (h0 : 0 < c) (hc : c ≤ 7) : ∀ (j k : Nat) (M : j_M) (x : Int32), k + j = n → lay n g M → x.toInt = (lack % c : Nat) - (s_cnt g v k : Nat) → (∀ i, i < k → M 54 i = nI (s_pa g v lack c i)) → (∀ i, k ≤ i → i < n → M 54 i = nI 0) → ∃ M', R d kX11_alikePay 58 [.ref 46, .int (nI lack), .int (nI v), .int (nI c), .int x, .int (nI k)] [] (S0, M, N) = some (none, (S0, M', N)) ∧ Fr [54] M M' ∧ ∀ i, i < n → M' 54 i = nI (s_pa g v lack c i)
  | 0, k, M, x, hk, h, hx, hp, hz => by
    obtain rfl : k = n := by omega
    refine ⟨M, ?_, Fr.rf, hp⟩
    have e := bX11_alikePay_58 d (nI lack) (nI v) (nI c) x (nI k) M N
    rw [h.1, if_pos ((nI_leI (by omega) (by omega)).mpr (Nat.le_refl _))] at e
    exact e
  | j + 1, k, M, x, hk, h, hx, hp, hz => by
    have e := bX11_alikePay_58 d (nI lack) (nI v) (nI c) x (nI k) M N
    have gk := hg k (by omega)
    have hcn := s_cnt_le (g := g) (v := v) k
    have hm : lack % c < c := Nat.mod_lt _ h0
    rw [h.1, if_neg (fun z => absurd ((nI_leI (a := n) (b := k) (by omega) (by omega)).mp z) (by omega)), jin (k := k) (n := 7) (by omega) (by omega), cond_true, ncl (by omega), h.2 k (by omega), addL] at e
    by_cases hgv : g k = v
    · rw [if_pos (by rw [hgv]), if_neg (fun z => absurd ((eqL (k := 0) (by omega) (by omega)).mp z) (by omega)), ndiv (by omega) h0 (by omega), addL, addL] at e
      have hx0 : (x ≤ 0) ↔ ¬ s_cnt g v k < lack % c := by
        rw [Int32.le_iff_toInt_le, hx, Int32.toInt_zero]
        omega
      have hd' : (x + (-1)).toInt = (lack % c : Nat) - (s_cnt g v (k + 1) : Nat) := by
        rw [i_dec (by omega) (by omega), hx, show s_cnt g v (k + 1) = s_cnt g v k + 1 by simp [s_cnt, hgv]]
        omega
      have go : ∀ y : Nat, y = s_pa g v lack c k → ∃ M', R d kX11_alikePay 58 [.ref 46, .int (nI lack), .int (nI v), .int (nI c), .int (x + (-1)), .int (nI (k + 1))] [] (S0, j_w M 54 k (nI y), N) = some (none, (S0, M', N)) ∧ Fr [54] M M' ∧ ∀ i, i < n → M' 54 i = nI (s_pa g v lack c i) := by
        intro y hy
        obtain ⟨M', q1, q2, q3⟩ := M_al_b hn hg hv hl h0 hc j (k + 1) (j_w M 54 k (nI y)) (x + (-1)) (by omega) ⟨by simp [j_w_ap, h.1], fun i hi => by simp [j_w_ap, h.2 i hi]⟩ hd'
          (fun i hi => by
            rw [j_w_ap, if_pos rfl]
            by_cases hik : i = k
            · rw [if_pos hik, hik, hy]
            · rw [if_neg hik]; exact hp i (by omega))
          (fun i hi hi2 => by
            rw [j_w_ap, if_pos rfl, if_neg (by omega)]
            exact hz i (by omega) hi2)
        exact ⟨M', q1, (Fr.w (by decide)).tr q2, q3⟩
      by_cases hlt : s_cnt g v k < lack % c
      · rw [if_neg (fun z => hx0.mp z hlt), cond_true] at e
        obtain ⟨M', q1, q2, q3⟩ := go (lack / c + 1) (by unfold s_pa; rw [if_pos hgv, if_pos hlt])
        exact ⟨M', e.trans q1, q2, q3⟩
      · rw [if_pos (hx0.mpr hlt), cond_true] at e
        obtain ⟨M', q1, q2, q3⟩ := go (lack / c + 0) (by unfold s_pa; rw [if_pos hgv, if_neg hlt])
        exact ⟨M', e.trans q1, q2, q3⟩
    · rw [if_neg (fun z => hgv ((nI_eq (by omega) (by omega)).mp z))] at e
      obtain ⟨M', q1, q2, q3⟩ := M_al_b hn hg hv hl h0 hc j (k + 1) M x (by omega) h (by rw [hx, show s_cnt g v (k + 1) = s_cnt g v k by simp [s_cnt, hgv]])
        (fun i hi => by
          by_cases hik : i = k
          · rw [hik, hz k (Nat.le_refl _) (by omega)]; unfold s_pa; rw [if_neg hgv]
          · exact hp i (by omega))
        (fun i hi hi2 => hz i (by omega) hi2)
      exact ⟨M', e.trans q1, q2, q3⟩
theorem M_alike {M : j_M} {lack b : Nat} (hd : 2 ≤ d) (hn : n ≤ 7) (hg : ∀ q, q < n → g q ≤ 99) (h : lay n g M) (hl : lack ≤ 1000) (hb : s_lb g none n = some b) (hz : ∀ i, i < n → M 54 i = nI 0) : ∃ M', C d 169 [.ref 46, .int (nI lack)] S0 M N = some (none, M', N) ∧ Fr [54] M M' ∧ ∀ i, i < n → M' 54 i = nI (s_pa g (g b) lack (s_cnt g (g b) n) i) := by
  have hbl := s_lb_lt hb
  have gb := hg b hbl
  have h0 := s_cnt_pos (g := g) hbl
  have hc := s_cnt_le (g := g) (v := g b) n
  have hm : lack % s_cnt g (g b) n < s_cnt g (g b) n := Nat.mod_lt _ h0
  obtain ⟨M', q1, q2, q3⟩ := M_al_b (d := d - 1) (N := N) hn hg gb hl h0 (by omega) n 0 M (nI (lack % s_cnt g (g b) n)) (by omega) h (by rw [nI_toInt (by omega)]; simp [s_cnt]) (fun i hi => by omega) (fun i _ hi => hz i hi)
  refine ⟨M', eX11_alikePay (by omega) ?_, q2, q3⟩
  have e := bX11_alikePay_0 (d - 1) (nI lack) M N
  rw [show (Value.int (-1)) = Value.int (oI none) from rfl, M_lb (d := d - 1) (by omega) hn hg h (fun _ z => by cases z), hb, Option.bind_some, j_oi] at e
  dsimp only at e
  rw [show oI (some b) = nI b from rfl, jin (k := b) (n := 7) (by omega) (by omega), cond_true, ncl (by omega), h.2 b hbl] at e
  exact e.trans ((M_al_a hn hg gb h hl h0 n 0 (by omega)).trans q1)
end MN
