/-! ===== guests: both loops; the call (own text) ===== -/
section OZ
variable {d n s l q k x c v g : Nat} {M : j_M} {N : j_N} {w w2 : Int32}
theorem GL (hd : 10 ≤ d) (hs : s < 6) (hl : l ≤ 60) (hc : c ≤ 6) (hx : x < 2147483648) (hN : ∀ k, k < 60 → N (35 + 2 * s) k = N 68 (60 * s + k)) (hz : ∀ k, k < 60 → ∃ v : Int32, N 68 (60 * s + k) = v.toInt64) : ∀ (j k n : Nat), k + j = c → n ≤ 6 → ∃ L : List (Nat × Nat), n + L.length ≤ 6 ∧ (∀ p, p ∈ L → p.1 ≤ 99 ∧ p.2 ≤ p.1) ∧ (∀ M : j_M, M 1 6 = nI n → M (34 + 2 * s) 2 = nI l → R d kX10_guests 52 [.ref 0, .null, .int (nI x), .int (nI c), .ref (34 + 2 * s), .int (nI k)] [] (S0, M, N) = some (some (.int (nI (k + L.length))), (S0, cI L n M, N))) ∧ ∀ M : j_M, M 46 6 = nI n → M 67 s = nI l → R d kX11_guests 69 [.ref 46, .int (nI s), .int (nI x), .int (nI c), .int (nI k), .int (nI 1), .null] [] (S0, M, N) = some (some (.int (nI (k + L.length))), (S0, mI L n M, N))
  | 0, k, n, hk, hn => by
    refine ⟨[], by simp only [List.length_nil]; omega, (fun p hp => absurd hp (List.not_mem_nil)), fun M h1 h2 => ?_, fun M h1 h2 => ?_⟩
    · have e := bX10_guests_52 d (nI x) (nI c) (34 + 2 * s) (nI k) M N
      rw [if_pos (show nI c ≤ nI k by rw [nle (by omega) (by omega)]; omega)] at e
      exact e
    · have e := bX11_guests_69 d (nI s) (nI x) (nI c) (nI k) (nI 1) M N
      rw [if_neg (show ¬ nI 1 = 0 by decide), if_pos (show nI c ≤ nI k by rw [nle (by omega) (by omega)]; omega)] at e
      exact e
  | j + 1, k, n, hk, hn => by
    have ex := fun M => bX10_guests_52 d (nI x) (nI c) (34 + 2 * s) (nI k) M N
    rw [lY hx (by omega)] at ex
    have ex2 : ∀ M : j_M, R d kX10_guests 52 [.ref 0, .null, .int (nI x), .int (nI c), .ref (34 + 2 * s), .int (nI k)] [] (S0, M, N) = _ := fun M => (ex M).trans (if_neg (show ¬ nI c ≤ nI k by rw [nle (by omega) (by omega)]; omega))
    by_cases hb : n = 6 ∨ l ≤ x + 2 * k + 1
    · refine ⟨[], by simp only [List.length_nil]; omega, (fun p hp => absurd hp (List.not_mem_nil)), fun M h1 h2 => ?_, fun M h1 h2 => ?_⟩
      · have e := ex2 M
        rw [X_cf0 hd hs hl h2 hn h1 (by omega) hb, Option.bind_some, j_oi] at e
        dsimp only at e
        rw [if_pos (by decide)] at e
        exact e
      · have e := M_go (N := N) (x := x) (d := d) (k := k) (c := c) (n := n) hs hl (by omega) hc (by omega) hx h2 h1 hn
        rw [if_pos hb] at e
        exact e
    · obtain ⟨w, hw⟩ := hz (x + 2 * k) (by omega)
      obtain ⟨w2, hw2⟩ := hz (x + 2 * k + 1) (by omega)
      have hX := hN (x + 2 * k) (by omega)
      have hX2 := hN (x + 2 * k + 1) (by omega)
      cases hg : (ib w 0 99 && ib w2 0 w.toInt) with
      | false =>
        refine ⟨[], by simp only [List.length_nil]; omega, (fun p hp => absurd hp (List.not_mem_nil)), fun M h1 h2 => ?_, fun M h1 h2 => ?_⟩
        · have e := ex2 M
          obtain ⟨b, p1, p2⟩ := X_cf (d := d) (N := N) (w := w) (w2 := w2) hd hs hl h2 (by omega) h1 (by omega) (hX.trans hw) (hX2.trans hw2)
          rw [hg] at p2
          rw [p2, if_neg (by decide)] at p1
          rw [p1, Option.bind_some, j_oi] at e
          dsimp only at e
          rw [if_pos (by decide)] at e
          exact e
        · have e := M_go (N := N) (x := x) (d := d) (k := k) (c := c) (n := n) hs hl (by omega) hc (by omega) hx h2 h1 hn
          rw [if_neg hb] at e
          have f := M_tk (d := d) (M := M) (N := N) (c := c) (k := k) (x := x) (by omega) hs (by omega) hc (by omega) h1 (by omega) (by rw [Nat.add_assoc]; exact hw) (by rw [Nat.add_assoc, Nat.add_assoc]; exact hw2)
          rw [hg, if_neg (by decide)] at f
          exact e.trans f
      | true =>
        obtain ⟨hg1, hg2⟩ := Bool.and_eq_true_iff.mp hg
        obtain ⟨v, -, hv, rfl⟩ := ib_ex (lo := 0) (hi := 99) hg1 (by omega)
        rw [nI_toInt (by omega)] at hg2
        obtain ⟨g, -, hgv, rfl⟩ := ib_ex (lo := 0) (hi := v) hg2 (by omega)
        obtain ⟨L, r1, r2, r3, r4⟩ := GL hd hs hl hc hx hN hz j (k + 1) (n + 1) (by omega) (by omega)
        refine ⟨(v, g) :: L, by rw [List.length_cons]; omega, fun p hp => ?_, fun M h1 h2 => ?_, fun M h1 h2 => ?_⟩
        · rcases List.mem_cons.mp hp with rfl | hp
          · exact ⟨hv, hgv⟩
          · exact r2 p hp
        · have e := ex2 M
          obtain ⟨b, p1, p2⟩ := X_cf (d := d) (N := N) (w := nI v) (w2 := nI g) hd hs hl h2 (by omega) h1 (by omega) (hX.trans hw) (hX2.trans hw2)
          rw [hg] at p2
          rw [p2, if_pos rfl] at p1
          rw [p1, Option.bind_some, j_oi] at e
          dsimp only at e
          rw [if_neg (by decide), show nI k + 1 = nI (k + 1) from nI_1 k] at e
          have f := r3 (cU n v g M) rfl (by unfold cU; rw [j_w_ap, if_neg (by omega), j_w_ap, if_neg (by omega), j_w_ap, if_neg (by omega), j_w_ap, if_neg (by omega)]; exact h2)
          rw [show k + 1 + L.length = k + ((v, g) :: L).length by rw [List.length_cons]; omega] at f
          exact e.trans f
        · have e := M_go (N := N) (x := x) (d := d) (k := k) (c := c) (n := n) hs hl (by omega) hc (by omega) hx h2 h1 hn
          rw [if_neg hb] at e
          have f := M_tk (d := d) (M := M) (N := N) (c := c) (k := k) (x := x) (by omega) hs (by omega) hc (by omega) h1 (by omega) (by rw [Nat.add_assoc]; exact hw) (by rw [Nat.add_assoc, Nat.add_assoc]; exact hw2)
          rw [hg, if_pos rfl] at f
          have f2 := r4 (mU n v g M) rfl (by unfold mU; rw [j_w_ap, if_neg (by omega), j_w_ap, if_neg (by omega), j_w_ap, if_neg (by omega)]; exact h2)
          rw [show k + 1 + L.length = k + ((v, g) :: L).length by rw [List.length_cons]; omega] at f2
          exact e.trans (f.trans f2)
end OZ
