/-! ===== a night in the reference, whole (own text) ===== -/
section MN3
variable {d n : Nat} {g : Nat → Nat} {N : j_N}
theorem M_n146 {M : j_M} {bill rule b w : Nat} (hw : w = if rule = 3 then g b else 0) (hd : 1 ≤ d) (hn : n ≤ 7) (h0 : 0 < n) (hg : ∀ q, q < n → g q ≤ 99) (hbl : bill ≤ 1000) (hr4 : rule ≤ 4) (h : lay n g M) (hb : s_lb g none n = some b) (hr0 : rule ≠ 0) (hr2 : rule ≠ 2) (hz : ∀ i, i < n → M 54 i = nI 0 ∧ M 55 i = nI 0) (ht : M 46 15 = nI (s_sum g n - bill)) :
    ∃ M', R d kX11_nightBy 146 [.ref 46, .null, .int (nI rule), .null, .null, .int (nI (s_sum g n - bill)), .int (nI b)] [.int (nI w), .int (nI (bill - s_sum g n)), .int (nI b), .ref 54] (S0, M, N) = some (none, (S0, M', N)) ∧ nightOK n g bill rule M' ∧ Fn M M' := by
  have hbl2 := s_lb_lt hb
  have gb := hg b hbl2
  have hs := s_sum_le hg
  have e := bX11_nightBy_146 d (nI rule) (nI (s_sum g n - bill)) (nI b) (nI b) (nI (bill - s_sum g n)) (nI w) M N
  have r3 : (nI rule = 3) = (rule = 3) := propext (eqL (k := 3) (by omega) (by omega))
  have r4 : (nI rule = 4) = (rule = 4) := propext (eqL (k := 4) (by omega) (by omega))
  rw [jin (k := b) (n := 7) (by omega) (by omega), cond_true, cond_true, ncl (by omega), h.2 b hbl2, ht, nI_add, nI_add, addL] at e
  simp only [r3, r4] at e
  have hbes : ∀ i, i < n → (if i = b then nI (bill - s_sum g n + w) else nI 0) = nI (s_bes n g bill rule i) := by
    intro i hi
    unfold s_bes
    rw [if_neg hr0, if_neg hr2, hb]
    by_cases hib : i = b
    · rw [if_pos hib, if_pos (by rw [hib]), hib, hw]
    · rw [if_neg hib, if_neg (by simp; omega)]
  by_cases c3 : rule = 3
  · rw [if_pos c3, if_neg (by omega)] at e
    refine ⟨_, e, ⟨(Fn.w54.tr Fn.ch).lay h, fun i hi => ?_, fun i hi => ?_, ?_⟩, Fn.w54.tr Fn.ch⟩
    · rw [j_w_ap, if_neg (by decide), j_w_ap, if_pos rfl, (hz i hi).1]
      exact hbes i hi
    · rw [j_w_ap, if_neg (by decide), j_w_ap, if_neg (by decide), (hz i hi).2]
      unfold s_giv
      rw [if_neg (fun z => by omega)]
    · rw [j_w_ap, if_pos rfl, if_pos rfl]
      unfold s_chest
      rw [if_neg (by omega), if_pos c3, hb]
  · rw [if_neg c3] at e
    by_cases c4 : rule = 4
    · rw [if_pos c4] at e
      have hf : Fn M (j_w (j_w M 54 b (nI (bill - s_sum g n + w))) 46 15 (nI (s_sum g n - bill + 0))) := Fn.w54.tr Fn.ch
      obtain ⟨m, q1, q2⟩ := M_gb (d := d) (N := N) hd hn h0 hg (hf.lay h) (over := s_sum g n - bill) (by omega)
      have hml := s_mx_lt q1
      rw [q2, Option.bind_some, j_ov] at e
      refine ⟨_, e, ⟨((hf.tr Fn.w55).tr Fn.ch).lay h, fun i hi => ?_, fun i hi => ?_, ?_⟩, (hf.tr Fn.w55).tr Fn.ch⟩
      · dsimp only
        rw [j_w_ap, if_neg (by decide), j_w_ap, if_neg (by decide), j_w_ap, if_neg (by decide), j_w_ap, if_pos rfl, (hz i hi).1]
        exact hbes i hi
      · dsimp only
        rw [j_w_ap, if_neg (by decide), j_w_ap, if_pos rfl]
        unfold s_giv
        by_cases him : i = m
        · rw [if_pos him, if_pos ⟨c4, by rw [q1, him]⟩, him]
        · rw [if_neg him, if_neg (fun z => him (Option.some.inj (z.2.symm.trans q1))), j_w_ap, if_neg (by decide), j_w_ap, if_neg (by decide), (hz i hi).2]
      · dsimp only
        rw [j_w_ap, if_pos rfl, if_pos rfl]
        unfold s_chest
        rw [if_pos c4, q1]
    · rw [if_neg c4] at e
      refine ⟨_, e, ⟨(Fn.w54.tr Fn.ch).lay h, fun i hi => ?_, fun i hi => ?_, ?_⟩, Fn.w54.tr Fn.ch⟩
      · rw [j_w_ap, if_neg (by decide), j_w_ap, if_pos rfl, (hz i hi).1]
        exact hbes i hi
      · rw [j_w_ap, if_neg (by decide), j_w_ap, if_neg (by decide), (hz i hi).2]
        unfold s_giv
        rw [if_neg (fun z => c4 z.1)]
      · rw [j_w_ap, if_pos rfl, if_pos rfl]
        unfold s_chest
        rw [if_neg c4, if_neg c3, Nat.add_zero]
theorem M_n72 {M : j_M} {bill rule : Nat} (hd : 2 ≤ d) (hn : n ≤ 7) (hg : ∀ q, q < n → g q ≤ 99) (hbl : bill ≤ 1000) (hr4 : rule ≤ 4) (h : lay n g M) (hz : ∀ i, i < n → M 54 i = nI 0 ∧ M 55 i = nI 0) :
    ∃ M', R d kX11_nightBy 72 [.ref 46, .null, .int (nI rule), .null, .int (nI (bill - s_sum g n)), .null, .null] [.int (nI (s_sum g n - bill))] (S0, M, N) = some (none, (S0, M', N)) ∧ nightOK n g bill rule M' ∧ Fn M M' := by
  have hs := s_sum_le hg
  have e := bX11_nightBy_72 d (nI rule) (nI (bill - s_sum g n)) (nI (s_sum g n - bill)) M N
  rw [h.1] at e
  by_cases h0 : n = 0
  · rw [if_pos (by rw [h0]; rfl)] at e
    refine ⟨_, e, ⟨Fn.ch.lay h, fun i hi => by omega, fun i hi => by omega, ?_⟩, Fn.ch⟩
    rw [j_w_ap, if_pos rfl, if_pos rfl, h0]
    unfold s_chest
    split
    · simp [s_mx]
    · split
      · simp [s_lb]
      · rfl
  · obtain ⟨b, hb, hbl2⟩ := s_lb_some (g := g) (n := n) (by omega)
    have gb := hg b hbl2
    have hf : Fn M (j_w M 46 15 (nI (s_sum g n - bill))) := Fn.ch
    have hz1 : ∀ i, i < n → j_w M 46 15 (nI (s_sum g n - bill)) 54 i = nI 0 ∧ j_w M 46 15 (nI (s_sum g n - bill)) 55 i = nI 0 := fun i hi => by
      rw [j_w_ap, if_neg (by decide), j_w_ap, if_neg (by decide)]; exact hz i hi
    have ht1 : j_w M 46 15 (nI (s_sum g n - bill)) 46 15 = nI (s_sum g n - bill) := by rw [j_w_ap, if_pos rfl, if_pos rfl]
    have r0 : (nI rule = 0) = (rule = 0) := propext (eqL (k := 0) (by omega) (by omega))
    have r2 : (nI rule = 2) = (rule = 2) := propext (eqL (k := 2) (by omega) (by omega))
    have r3 : (nI rule = 3) = (rule = 3) := propext (eqL (k := 3) (by omega) (by omega))
    have r4 : (nI rule = 4) = (rule = 4) := propext (eqL (k := 4) (by omega) (by omega))
    rw [if_neg (fun z => h0 ((eqL (k := 0) (by omega) (by omega)).mp z)), show (Value.int (-1)) = Value.int (oI none) from rfl, M_lb (d := d) (by omega) hn hg (hf.lay h) (fun _ z => by cases z), hb, Option.bind_some, j_oi] at e
    dsimp only at e
    simp only [r0, r2, r3, r4] at e
    by_cases c0 : rule = 0
    · obtain ⟨M', q1, q2, q3⟩ := M_alike (d := d) (N := N) (by omega) hn hg (hf.lay h) (lack := bill - s_sum g n) (by omega) hb (fun i hi => (hz1 i hi).1)
      rw [if_pos c0, q1, Option.bind_some, j_ov] at e
      dsimp only at e
      rw [if_neg (by omega)] at e
      refine ⟨M', e, ⟨(hf.tr (Fn.of q2)).lay h, fun i hi => ?_, fun i hi => ?_, ?_⟩, hf.tr (Fn.of q2)⟩
      · rw [q3 i hi]
        unfold s_bes s_al s_pa
        rw [if_pos c0, hb]
      · rw [q2 55 (by decide), (hz1 i hi).2]
        unfold s_giv
        rw [if_neg (fun z => by omega)]
      · rw [q2 46 (by decide), ht1]
        unfold s_chest
        rw [if_neg (by omega), if_neg (by omega)]
    · rw [if_neg c0] at e
      by_cases c2 : rule = 2
      · obtain ⟨M', q1, q2, q3⟩ := M_two (d := d) (N := N) (by omega) hn hg (hf.lay h) (lack := bill - s_sum g n) (by omega) hb (fun i hi => (hz1 i hi).1)
        rw [if_pos c2, q1, Option.bind_some, j_ov] at e
        dsimp only at e
        rw [if_neg (by omega)] at e
        refine ⟨M', e, ⟨(hf.tr (Fn.of q2)).lay h, fun i hi => ?_, fun i hi => ?_, ?_⟩, hf.tr (Fn.of q2)⟩
        · rw [q3 i hi]
          unfold s_bes
          rw [if_neg c0, if_pos c2]
        · rw [q2 55 (by decide), (hz1 i hi).2]
          unfold s_giv
          rw [if_neg (fun z => by omega)]
        · rw [q2 46 (by decide), ht1]
          unfold s_chest
          rw [if_neg (by omega), if_neg (by omega)]
      · rw [if_neg c2] at e
        obtain ⟨M', q1, q2, q3⟩ := M_n146 (d := d) (N := N) rfl (by omega) hn (by omega) hg hbl hr4 (hf.lay h) hb c0 c2 hz1 ht1
        refine ⟨M', ?_, q2, hf.tr q3⟩
        rw [e, show oI (some b) = nI b from rfl]
        by_cases c3 : rule = 3
        · rw [if_pos c3] at q1
          rw [if_pos c3, jin (k := b) (n := 7) (by omega) (by omega), cond_true, ncl (by omega), (hf.lay h).2 b hbl2]
          exact q1
        · rw [if_neg c3] at q1
          rw [if_neg c3]
          exact q1
theorem M_nightBy {M : j_M} {bill rule : Nat} (hd : 3 ≤ d) (hn : n ≤ 7) (hg : ∀ q, q < n → g q ≤ 99) (hbl : bill ≤ 1000) (hr4 : rule ≤ 4) (h : lay n g M) :
    ∃ M', C d 172 [.ref 46, .int (nI bill), .int (nI rule)] S0 M N = some (none, M', N) ∧ nightOK n g bill rule M' ∧ Fn M M' := by
  have hs := s_sum_le hg
  obtain ⟨M1, q1, q2, q3⟩ := M_night_l (d := d - 1) (N := N) (bill := bill) (rule := rule) hn hg n 0 M (by omega) h (fun i hi => by omega)
  obtain ⟨M', q4, q5, q6⟩ := M_n72 (d := d - 1) (N := N) (by omega) hn hg hbl hr4 (q2.lay h) q3
  refine ⟨M', eX11_nightBy (by omega) ?_, q5, q2.tr q6⟩
  rw [bX11_nightBy_0]
  refine Eq.trans q1 ?_
  have e := bX11_nightBy_5 (d - 1) (nI bill) (nI rule) (nI (s_sum g n)) (nI n) M1 N
  rw [(q2.lay h).1, if_pos ((nI_leI (by omega) (by omega)).mpr (Nat.le_refl _))] at e
  rw [e]
  by_cases h1 : bill ≤ s_sum g n
  · rw [if_pos ((nI_leI (by omega) (by omega)).mpr h1)]
    by_cases h2 : s_sum g n ≤ bill
    · rw [if_pos ((nI_leI (by omega) (by omega)).mpr h2)]
      rw [show bill - s_sum g n = 0 by omega, show s_sum g n - bill = 0 by omega] at q4
      exact q4
    · rw [if_neg (fun z => h2 ((nI_leI (by omega) (by omega)).mp z)), nsub h1]
      rw [show bill - s_sum g n = 0 by omega] at q4
      exact q4
  · rw [if_neg (fun z => h1 ((nI_leI (by omega) (by omega)).mp z)), if_pos ((nI_leI (by omega) (by omega)).mpr (by omega)), nsub (by omega)]
    rw [show s_sum g n - bill = 0 by omega] at q4
    exact q4
theorem M_costIn {M : j_M} {bill rule i : Nat} (hd : 1 ≤ d) (hn : n ≤ 7) (h : nightOK n g bill rule M) (hi : i < n) : C d 174 [.ref 46, .int (nI i)] S0 M N = some (some (.int (nI (s_cost n g bill rule i))), M, N) := by
  refine eX11_costIn hd ?_
  have e := bX11_costIn_0 (d - 1) (nI i) M N
  rw [jin (k := i) (n := 7) (by omega) (by omega), cond_true, cond_true, cond_true, ncl (by omega), h.1.2 i hi, h.2.1 i hi, h.2.2.1 i hi, nI_add, nsub (by have := s_giv_le (n := n) (g := g) (bill := bill) (rule := rule) (i := i); omega)] at e
  exact e
theorem M_nightAsIs {M : j_M} {bill rule : Nat} (hd : 4 ≤ d) (hn : n ≤ 7) (hg : ∀ q, q < n → g q ≤ 99) (hbl : bill ≤ 1000) (hr4 : rule ≤ 4) (h : lay n g M) (hb : M 47 24 = nI bill) (hr : M 47 25 = nI rule) :
    ∃ M', C d 173 [.ref 46] S0 M N = some (none, M', N) ∧ nightOK n g bill rule M' ∧ Fn M M' := by
  obtain ⟨M', q1, q2, q3⟩ := M_nightBy (d := d - 1) (N := N) (by omega) hn hg hbl hr4 h
  refine ⟨M', eX11_nightAsIs (by omega) ?_, q2, q3⟩
  rw [bX11_nightAsIs_0, hb, hr, q1]
  rfl
end MN3
