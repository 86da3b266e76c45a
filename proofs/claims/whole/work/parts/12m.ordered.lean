/-! ===== ordered (own text) ===== -/
section OR
variable {d n m bill rule p : Nat} {g a pr jo : Nat → Nat} {M : j_M} {N : j_N} {x y w u : Int32}
def ordR (n m : Nat) (pr jo g : Nat → Nat) (rule i w : Nat) : Int32 := if w = 0 then (if oc n m pr jo g rule i = 0 then -nI 2 else pd (oc n m pr jo g rule i)) else if w = 1 then nI (jc jo i (oc n m pr jo g rule i)) - nI (s_cost n g (pbl n m pr jo g rule n) rule i) else nI (pbl n m pr jo g rule n)
theorem X_ord32 {i q : Nat} (hd : 18 ≤ d) (h : IG n a M) (hm : IM m pr jo M) (hi : i < n) (hq : q ≤ 2) : ∃ M', R d kX10_ordered 32 [.ref 0, .int (nI i), .int (nI q), .null] [] (S0, M, N) = some (some (.int (ordR n m pr jo (gf a) (a 25) i q)), (S0, M', N)) ∧ Scr M M' := by
  have hn := h.n6
  have hg9 : ∀ q, q < n → gf a q ≤ 99 := fun q hq => h.gi99 q (by omega)
  have hm3 := hm.1
  have hpr := hm.2.2.2.1
  have sf : ∀ {M1 M2 : j_M}, Fr [8, 15] M1 M2 → Scr M1 M2 := fun f => Scr.fr f (fun c hc k => by
      simp only [List.mem_cons, List.not_mem_nil, or_false] at hc
      rcases hc with rfl | rfl <;> rfl)
  obtain ⟨M1, q1, q2, q3, q4⟩ := X_lay (d := d - 1) (N := N) (by omega) h
  obtain ⟨M2, p1, p2, p3, p4, p5⟩ := X_ord_l (d := d - 1) (N := N) (g := gf a) (m := m) (pr := pr) (jo := jo) (by omega) hg9 h.ru4 n 0 M1 (by omega) (h.scr q4) (hm.scr q4) q2.1 q3 (fun q hq => by omega)
  have hs := q4.tr (sf p5)
  have c1 : C d 65 [.ref 12] S0 M N = some (some (.int (nI (pbl n m pr jo (gf a) (a 25) n))), M2, N) := by
    refine eX5_orderAll (by omega) ?_
    have e := bX5_orderAll_0 (d - 1) M N
    simp (disch := omega) only [z0, z1, z2, z3, z4, z5, z6, z7, z8, z9, z10, z11, z12, z13, z14, z15, z16, z17, z18, z19, z20, z24, z26, z30, z31, z40, z41, z50, z54, z60, z70, z80, z81, z99, z100, z200, z255, z599, z1000, z1299, z4096, z1000000, lw0, lw1, lw2, lw3, lw4, lw5, lw6, lw7, lw12, lw50, lw99, lw255, lw599, lw4096, bI_ok, ble_t, Int.cast_ofNat_Int,  decide_true, decide_false, bI_0, bI_1, b_tf, b_ft, eq_self, n_1, n_2, n_3, n_4, n_5, n_6, n_7, n_8, if_true, if_false, jin, ncl, cond_true, cond_false, Option.bind_some, j_ov, j_oi, j_ol, nle, nlt, neq, nI_add, nmul, nsub, ndiv, nrem2, if_pos, if_neg, Nat.zero_add, Nat.add_zero, j_w_ap, decide_eq_true, decide_eq_false, Bool.true_or, Bool.or_true, Bool.false_or, Bool.or_false, Bool.and_true, Bool.true_and, Bool.false_and, Bool.and_false, Bool.not_true, Bool.not_false, q1] at e
    exact e.trans p1
  have h15 := p4 i hi
  have hoc := oc_le (n := n) (jo := jo) (g := gf a) (rule := a 25) hpr hm3 i
  have hpb := pbl_le (n := n) (jo := jo) (g := gf a) (rule := a 25) hpr hm3 n
  have e := bX10_ordered_32 d (nI i) (nI q) M N
  unfold ordR
  by_cases h0 : q = 0
  · rw [if_pos h0]
    by_cases hc : oc n m pr jo (gf a) (a 25) i = 0
    · rw [if_pos hc]
      rw [hc, show pd 0 = -nI 1 from rfl] at h15
      simp (disch := omega) only [z0, z1, z2, z3, z4, z5, z6, z7, z8, z9, z10, z11, z12, z13, z14, z15, z16, z17, z18, z19, z20, z24, z26, z30, z31, z40, z41, z50, z54, z60, z70, z80, z81, z99, z100, z200, z255, z599, z1000, z1299, z4096, z1000000, lw0, lw1, lw2, lw3, lw4, lw5, lw6, lw7, lw12, lw50, lw99, lw255, lw599, lw4096, bI_ok, ble_t, Int.cast_ofNat_Int,  decide_true, decide_false, bI_0, bI_1, b_tf, b_ft, eq_self, n_1, n_2, n_3, n_4, n_5, n_6, n_7, n_8, if_true, if_false, jin, ncl, cond_true, cond_false, Option.bind_some, j_ov, j_oi, j_ol, nle, nlt, neq, nI_add, nmul, nsub, ndiv, nrem2, if_pos, if_neg, Nat.zero_add, Nat.add_zero, j_w_ap, decide_eq_true, decide_eq_false, Bool.true_or, Bool.or_true, Bool.false_or, Bool.or_false, Bool.and_true, Bool.true_and, Bool.false_and, Bool.and_false, Bool.not_true, Bool.not_false, c1, h15] at e
      exact ⟨M2, e, hs⟩
    · rw [if_neg hc]
      obtain ⟨c, hcc⟩ : ∃ c, oc n m pr jo (gf a) (a 25) i = c + 1 := ⟨oc n m pr jo (gf a) (a 25) i - 1, by omega⟩
      rw [hcc, show pd (c + 1) = nI c from rfl] at h15 ⊢
      simp (disch := omega) only [z0, z1, z2, z3, z4, z5, z6, z7, z8, z9, z10, z11, z12, z13, z14, z15, z16, z17, z18, z19, z20, z24, z26, z30, z31, z40, z41, z50, z54, z60, z70, z80, z81, z99, z100, z200, z255, z599, z1000, z1299, z4096, z1000000, lw0, lw1, lw2, lw3, lw4, lw5, lw6, lw7, lw12, lw50, lw99, lw255, lw599, lw4096, bI_ok, ble_t, Int.cast_ofNat_Int,  decide_true, decide_false, bI_0, bI_1, b_tf, b_ft, eq_self, n_1, n_2, n_3, n_4, n_5, n_6, n_7, n_8, if_true, if_false, jin, ncl, cond_true, cond_false, Option.bind_some, j_ov, j_oi, j_ol, nle, nlt, neq, nI_add, nmul, nsub, ndiv, nrem2, if_pos, if_neg, Nat.zero_add, Nat.add_zero, j_w_ap, decide_eq_true, decide_eq_false, Bool.true_or, Bool.or_true, Bool.false_or, Bool.or_false, Bool.and_true, Bool.true_and, Bool.false_and, Bool.and_false, Bool.not_true, Bool.not_false, c1, h15] at e
      exact ⟨M2, e, hs⟩
  · rw [if_neg h0]
    by_cases h1 : q = 1
    · rw [if_pos h1]
      obtain ⟨M3, y1, y2, y3, y4⟩ := X_worth (d := d) (N := N) (c := oc n m pr jo (gf a) (a 25) i) (p := i) (bill := pbl n m pr jo (gf a) (a 25) n) (by omega) hn hg9 (by omega) h.ru4 hoc hi (hm.scr hs) p2 p3
      simp (disch := omega) only [z0, z1, z2, z3, z4, z5, z6, z7, z8, z9, z10, z11, z12, z13, z14, z15, z16, z17, z18, z19, z20, z24, z26, z30, z31, z40, z41, z50, z54, z60, z70, z80, z81, z99, z100, z200, z255, z599, z1000, z1299, z4096, z1000000, lw0, lw1, lw2, lw3, lw4, lw5, lw6, lw7, lw12, lw50, lw99, lw255, lw599, lw4096, bI_ok, ble_t, Int.cast_ofNat_Int,  decide_true, decide_false, bI_0, bI_1, b_tf, b_ft, eq_self, n_1, n_2, n_3, n_4, n_5, n_6, n_7, n_8, if_true, if_false, jin, ncl, cond_true, cond_false, Option.bind_some, j_ov, j_oi, j_ol, nle, nlt, neq, nI_add, nmul, nsub, ndiv, nrem2, if_pos, if_neg, Nat.zero_add, Nat.add_zero, j_w_ap, decide_eq_true, decide_eq_false, Bool.true_or, Bool.or_true, Bool.false_or, Bool.or_false, Bool.and_true, Bool.true_and, Bool.false_and, Bool.and_false, Bool.not_true, Bool.not_false, c1, h15, y1] at e
      exact ⟨M3, e, hs.tr (Scr.fr8 y4)⟩
    · rw [if_neg h1]
      simp (disch := omega) only [z0, z1, z2, z3, z4, z5, z6, z7, z8, z9, z10, z11, z12, z13, z14, z15, z16, z17, z18, z19, z20, z24, z26, z30, z31, z40, z41, z50, z54, z60, z70, z80, z81, z99, z100, z200, z255, z599, z1000, z1299, z4096, z1000000, lw0, lw1, lw2, lw3, lw4, lw5, lw6, lw7, lw12, lw50, lw99, lw255, lw599, lw4096, bI_ok, ble_t, Int.cast_ofNat_Int,  decide_true, decide_false, bI_0, bI_1, b_tf, b_ft, eq_self, n_1, n_2, n_3, n_4, n_5, n_6, n_7, n_8, if_true, if_false, jin, ncl, cond_true, cond_false, Option.bind_some, j_ov, j_oi, j_ol, nle, nlt, neq, nI_add, nmul, nsub, ndiv, nrem2, if_pos, if_neg, Nat.zero_add, Nat.add_zero, j_w_ap, decide_eq_true, decide_eq_false, Bool.true_or, Bool.or_true, Bool.false_or, Bool.or_false, Bool.and_true, Bool.true_and, Bool.false_and, Bool.and_false, Bool.not_true, Bool.not_false, c1] at e
      exact ⟨M2, e, hs⟩
theorem M_ord32 {i q : Nat} (hd : 18 ≤ d) (h : IG n a M) (hm : IM m pr jo M) (hi : i < n) (hq : q ≤ 2) : ∃ M', R d kX11_ordered 32 [.ref 46, .int (nI i), .int (nI q), .null] [] (S0, M, N) = some (some (.int (ordR n m pr jo (gf a) (a 25) i q)), (S0, M', N)) ∧ Scr M M' := by
  have hn := h.n6
  have hg9 : ∀ q, q < n → gf a q ≤ 99 := fun q hq => h.gi99 q (by omega)
  have hm3 := hm.1
  have hpr := hm.2.2.2.1
  obtain ⟨M1, q1, q2, q3⟩ := M_lay (d := d) (N := N) (by omega) h
  obtain ⟨M2, p1, p2, p3, p4⟩ := M_bill (N := N) (m := m) (pr := pr) (jo := jo) hg9 h.ru4 rfl n d 0 M1 (Nat.le_refl n) (by omega) (by omega) (h.scr q3) (hm.scr q3) q2
  have hs := q3.tr p4
  have h58 := p3 i (by omega) hi
  have k1 := pth_oc (m := m) (pr := pr) (jo := jo) (g := gf a) (rule := a 25) n i (Nat.le_refl n) (by omega) hi
  have k2 := pe_pbl (m := m) (pr := pr) (jo := jo) (g := gf a) (rule := a 25) n (Nat.le_refl n)
  rw [Nat.sub_self, show pbl n m pr jo (gf a) (a 25) 0 = 0 from rfl] at k1 k2
  rw [Nat.sub_self, k2] at p1
  rw [k1] at h58
  have hoc := oc_le (n := n) (jo := jo) (g := gf a) (rule := a 25) hpr hm3 i
  have hpb := pbl_le (n := n) (jo := jo) (g := gf a) (rule := a 25) hpr hm3 n
  have hm2 := (h.scr hs).may
  have e := bX11_ordered_32 d (nI i) (nI q) M N
  unfold ordR
  by_cases h0 : q = 0
  · rw [if_pos h0]
    by_cases hc : oc n m pr jo (gf a) (a 25) i = 0
    · rw [if_pos hc]
      rw [hc, show pd 0 = -nI 1 from rfl] at h58
      simp (disch := omega) only [z0, z1, z2, z3, z4, z5, z6, z7, z8, z9, z10, z11, z12, z13, z14, z15, z16, z17, z18, z19, z20, z24, z26, z30, z31, z40, z41, z50, z54, z60, z70, z80, z81, z99, z100, z200, z255, z599, z1000, z1299, z4096, z1000000, lw0, lw1, lw2, lw3, lw4, lw5, lw6, lw7, lw12, lw50, lw99, lw255, lw599, lw4096, bI_ok, ble_t, Int.cast_ofNat_Int,  decide_true, decide_false, bI_0, bI_1, b_tf, b_ft, eq_self, n_1, n_2, n_3, n_4, n_5, n_6, n_7, n_8, if_true, if_false, jin, ncl, cond_true, cond_false, Option.bind_some, j_ov, j_oi, j_ol, nle, nlt, neq, nI_add, nmul, nsub, ndiv, nrem2, if_pos, if_neg, Nat.zero_add, Nat.add_zero, j_w_ap, decide_eq_true, decide_eq_false, Bool.true_or, Bool.or_true, Bool.false_or, Bool.or_false, Bool.and_true, Bool.true_and, Bool.false_and, Bool.and_false, Bool.not_true, Bool.not_false, q1, p1, h58] at e
      exact ⟨M2, e, hs⟩
    · rw [if_neg hc]
      obtain ⟨c, hcc⟩ : ∃ c, oc n m pr jo (gf a) (a 25) i = c + 1 := ⟨oc n m pr jo (gf a) (a 25) i - 1, by omega⟩
      rw [hcc, show pd (c + 1) = nI c from rfl] at h58 ⊢
      simp (disch := omega) only [z0, z1, z2, z3, z4, z5, z6, z7, z8, z9, z10, z11, z12, z13, z14, z15, z16, z17, z18, z19, z20, z24, z26, z30, z31, z40, z41, z50, z54, z60, z70, z80, z81, z99, z100, z200, z255, z599, z1000, z1299, z4096, z1000000, lw0, lw1, lw2, lw3, lw4, lw5, lw6, lw7, lw12, lw50, lw99, lw255, lw599, lw4096, bI_ok, ble_t, Int.cast_ofNat_Int,  decide_true, decide_false, bI_0, bI_1, b_tf, b_ft, eq_self, n_1, n_2, n_3, n_4, n_5, n_6, n_7, n_8, if_true, if_false, jin, ncl, cond_true, cond_false, Option.bind_some, j_ov, j_oi, j_ol, nle, nlt, neq, nI_add, nmul, nsub, ndiv, nrem2, if_pos, if_neg, Nat.zero_add, Nat.add_zero, j_w_ap, decide_eq_true, decide_eq_false, Bool.true_or, Bool.or_true, Bool.false_or, Bool.or_false, Bool.and_true, Bool.true_and, Bool.false_and, Bool.and_false, Bool.not_true, Bool.not_false, q1, p1, h58] at e
      exact ⟨M2, e, hs⟩
  · rw [if_neg h0]
    by_cases h1 : q = 1
    · rw [if_pos h1]
      obtain ⟨M3, y1, y2, y3⟩ := M_nightBy (d := d) (N := N) (bill := pbl n m pr jo (gf a) (a 25) n) (rule := a 25) (by omega) (by omega) hg9 (by omega) h.ru4 p2
      have hs3 := hs.tr (Scr.fn y3)
      have f58 : M3 58 i = pd (oc n m pr jo (gf a) (a 25) i) := by rw [y3.1 58 (by decide)]; exact h58
      have y4 := M_joyOf (d := d) (N := N) (c := oc n m pr jo (gf a) (a 25) i) (p := i) (by omega) hoc (by omega) (hm.scr hs3)
      have y5 := M_costIn (d := d) (N := N) (i := i) (by omega) (by omega) y2 hi
      simp (disch := omega) only [z0, z1, z2, z3, z4, z5, z6, z7, z8, z9, z10, z11, z12, z13, z14, z15, z16, z17, z18, z19, z20, z24, z26, z30, z31, z40, z41, z50, z54, z60, z70, z80, z81, z99, z100, z200, z255, z599, z1000, z1299, z4096, z1000000, lw0, lw1, lw2, lw3, lw4, lw5, lw6, lw7, lw12, lw50, lw99, lw255, lw599, lw4096, bI_ok, ble_t, Int.cast_ofNat_Int,  decide_true, decide_false, bI_0, bI_1, b_tf, b_ft, eq_self, n_1, n_2, n_3, n_4, n_5, n_6, n_7, n_8, if_true, if_false, jin, ncl, cond_true, cond_false, Option.bind_some, j_ov, j_oi, j_ol, nle, nlt, neq, nI_add, nmul, nsub, ndiv, nrem2, if_pos, if_neg, Nat.zero_add, Nat.add_zero, j_w_ap, decide_eq_true, decide_eq_false, Bool.true_or, Bool.or_true, Bool.false_or, Bool.or_false, Bool.and_true, Bool.true_and, Bool.false_and, Bool.and_false, Bool.not_true, Bool.not_false, q1, p1, hm2, y1, f58, y4, y5] at e
      exact ⟨M3, e, hs3⟩
    · rw [if_neg h1]
      simp (disch := omega) only [z0, z1, z2, z3, z4, z5, z6, z7, z8, z9, z10, z11, z12, z13, z14, z15, z16, z17, z18, z19, z20, z24, z26, z30, z31, z40, z41, z50, z54, z60, z70, z80, z81, z99, z100, z200, z255, z599, z1000, z1299, z4096, z1000000, lw0, lw1, lw2, lw3, lw4, lw5, lw6, lw7, lw12, lw50, lw99, lw255, lw599, lw4096, bI_ok, ble_t, Int.cast_ofNat_Int,  decide_true, decide_false, bI_0, bI_1, b_tf, b_ft, eq_self, n_1, n_2, n_3, n_4, n_5, n_6, n_7, n_8, if_true, if_false, jin, ncl, cond_true, cond_false, Option.bind_some, j_ov, j_oi, j_ol, nle, nlt, neq, nI_add, nmul, nsub, ndiv, nrem2, if_pos, if_neg, Nat.zero_add, Nat.add_zero, j_w_ap, decide_eq_true, decide_eq_false, Bool.true_or, Bool.or_true, Bool.false_or, Bool.or_false, Bool.and_true, Bool.true_and, Bool.false_and, Bool.and_false, Bool.not_true, Bool.not_false, q1, p1] at e
      exact ⟨M2, e, hs⟩
theorem Q_ordered (hd : 30 ≤ d) (h : IG n a M) (hm : IM m pr jo M) : ∃ r M1 M2, C d 124 [.ref 0, .int x, .int y] S0 M N = some (some (.int r), M1, N) ∧ C d 196 [.ref 46, .int x, .int y] S0 M1 N = some (some (.int r), M2, N) ∧ Scr M M2 := by
  have hn := h.n6
  have hh := fun x => X_has (d := d - 1) (N := N) (x := x) (by omega) h.x6 (by omega)
  have hh2 : ∀ M1, Scr M M1 → ∀ x, C (d - 1) 160 [.ref 46, .int x] S0 M1 N = some (some (.int (bI (ib x 0 ((n : Int) - 1)))), M1, N) := fun M1 hs x => M_isGuest (by omega) (h.scr hs).m6 (by omega)
  have hg9 : ∀ q, q < n → gf a q ≤ 99 := fun q hq => h.gi99 q (by omega)
  have hb9 := h.bi599
  have e1 := bX10_ordered_0 (d - 1) x y M N
  have e2 := fun M1 => bX11_ordered_0 (d - 1) x y M1 N
  cases h1 : ib x 0 ((n : Int) - 1) with
  | false =>
    have e2 := e2 M
    have hh2 := hh2 M Scr.rf
    simp (disch := omega) only [z0, z1, z2, z3, z4, z5, z6, z7, z8, z9, z10, z11, z12, z13, z14, z15, z16, z17, z18, z19, z20, z24, z26, z30, z31, z40, z41, z50, z54, z60, z70, z80, z81, z99, z100, z200, z255, z599, z1000, z1299, z4096, z1000000, lw0, lw1, lw2, lw3, lw4, lw5, lw6, lw7, lw12, lw50, lw99, lw255, lw599, lw4096, bI_ok, ble_t, Int.cast_ofNat_Int,  decide_true, decide_false, bI_0, bI_1, b_tf, b_ft, eq_self, n_1, n_2, n_3, n_4, n_5, n_6, n_7, n_8, if_true, if_false, jin, ncl, cond_true, cond_false, Option.bind_some, j_ov, j_oi, j_ol, nle, nlt, neq, nI_add, nmul, nsub, ndiv, nrem2, if_pos, if_neg, Nat.zero_add, Nat.add_zero, j_w_ap, decide_eq_true, decide_eq_false, Bool.true_or, Bool.or_true, Bool.false_or, Bool.or_false, Bool.and_true, Bool.true_and, Bool.false_and, Bool.and_false, Bool.not_true, Bool.not_false, hh, h1] at e1
    simp (disch := omega) only [z0, z1, z2, z3, z4, z5, z6, z7, z8, z9, z10, z11, z12, z13, z14, z15, z16, z17, z18, z19, z20, z24, z26, z30, z31, z40, z41, z50, z54, z60, z70, z80, z81, z99, z100, z200, z255, z599, z1000, z1299, z4096, z1000000, lw0, lw1, lw2, lw3, lw4, lw5, lw6, lw7, lw12, lw50, lw99, lw255, lw599, lw4096, bI_ok, ble_t, Int.cast_ofNat_Int,  decide_true, decide_false, bI_0, bI_1, b_tf, b_ft, eq_self, n_1, n_2, n_3, n_4, n_5, n_6, n_7, n_8, if_true, if_false, jin, ncl, cond_true, cond_false, Option.bind_some, j_ov, j_oi, j_ol, nle, nlt, neq, nI_add, nmul, nsub, ndiv, nrem2, if_pos, if_neg, Nat.zero_add, Nat.add_zero, j_w_ap, decide_eq_true, decide_eq_false, Bool.true_or, Bool.or_true, Bool.false_or, Bool.or_false, Bool.and_true, Bool.true_and, Bool.false_and, Bool.and_false, Bool.not_true, Bool.not_false, hh2, h1] at e2
    exact ⟨_, _, _, eX10_ordered (by omega) e1, eX11_ordered (by omega) e2, Scr.rf⟩
  | true =>
    cases h2 : ib y 0 2 with
    | false =>
      have e2 := e2 M
      have hh2 := hh2 M Scr.rf
      simp (disch := omega) only [z0, z1, z2, z3, z4, z5, z6, z7, z8, z9, z10, z11, z12, z13, z14, z15, z16, z17, z18, z19, z20, z24, z26, z30, z31, z40, z41, z50, z54, z60, z70, z80, z81, z99, z100, z200, z255, z599, z1000, z1299, z4096, z1000000, lw0, lw1, lw2, lw3, lw4, lw5, lw6, lw7, lw12, lw50, lw99, lw255, lw599, lw4096, bI_ok, ble_t, Int.cast_ofNat_Int,  decide_true, decide_false, bI_0, bI_1, b_tf, b_ft, eq_self, n_1, n_2, n_3, n_4, n_5, n_6, n_7, n_8, if_true, if_false, jin, ncl, cond_true, cond_false, Option.bind_some, j_ov, j_oi, j_ol, nle, nlt, neq, nI_add, nmul, nsub, ndiv, nrem2, if_pos, if_neg, Nat.zero_add, Nat.add_zero, j_w_ap, decide_eq_true, decide_eq_false, Bool.true_or, Bool.or_true, Bool.false_or, Bool.or_false, Bool.and_true, Bool.true_and, Bool.false_and, Bool.and_false, Bool.not_true, Bool.not_false, hh, h1, X_within, h2] at e1
      simp (disch := omega) only [z0, z1, z2, z3, z4, z5, z6, z7, z8, z9, z10, z11, z12, z13, z14, z15, z16, z17, z18, z19, z20, z24, z26, z30, z31, z40, z41, z50, z54, z60, z70, z80, z81, z99, z100, z200, z255, z599, z1000, z1299, z4096, z1000000, lw0, lw1, lw2, lw3, lw4, lw5, lw6, lw7, lw12, lw50, lw99, lw255, lw599, lw4096, bI_ok, ble_t, Int.cast_ofNat_Int,  decide_true, decide_false, bI_0, bI_1, b_tf, b_ft, eq_self, n_1, n_2, n_3, n_4, n_5, n_6, n_7, n_8, if_true, if_false, jin, ncl, cond_true, cond_false, Option.bind_some, j_ov, j_oi, j_ol, nle, nlt, neq, nI_add, nmul, nsub, ndiv, nrem2, if_pos, if_neg, Nat.zero_add, Nat.add_zero, j_w_ap, decide_eq_true, decide_eq_false, Bool.true_or, Bool.or_true, Bool.false_or, Bool.or_false, Bool.and_true, Bool.true_and, Bool.false_and, Bool.and_false, Bool.not_true, Bool.not_false, hh2, h1, M_within, h2] at e2
      exact ⟨_, _, _, eX10_ordered (by omega) e1, eX11_ordered (by omega) e2, Scr.rf⟩
    | true =>
      obtain ⟨i, hi, rfl⟩ := ib_g h1 (by omega)
      obtain ⟨q, -, hq, rfl⟩ := ib_ex (lo := 0) (hi := 2) h2 (by omega)
      by_cases hz : q = 2 ∧ i ≠ 0
      · have e2 := e2 M
        have hh2 := hh2 M Scr.rf
        obtain ⟨hz1, hz2⟩ := hz
        simp (disch := omega) only [z0, z1, z2, z3, z4, z5, z6, z7, z8, z9, z10, z11, z12, z13, z14, z15, z16, z17, z18, z19, z20, z24, z26, z30, z31, z40, z41, z50, z54, z60, z70, z80, z81, z99, z100, z200, z255, z599, z1000, z1299, z4096, z1000000, lw0, lw1, lw2, lw3, lw4, lw5, lw6, lw7, lw12, lw50, lw99, lw255, lw599, lw4096, bI_ok, ble_t, Int.cast_ofNat_Int,  decide_true, decide_false, bI_0, bI_1, b_tf, b_ft, eq_self, n_1, n_2, n_3, n_4, n_5, n_6, n_7, n_8, if_true, if_false, jin, ncl, cond_true, cond_false, Option.bind_some, j_ov, j_oi, j_ol, nle, nlt, neq, nI_add, nmul, nsub, ndiv, nrem2, if_pos, if_neg, Nat.zero_add, Nat.add_zero, j_w_ap, decide_eq_true, decide_eq_false, Bool.true_or, Bool.or_true, Bool.false_or, Bool.or_false, Bool.and_true, Bool.true_and, Bool.false_and, Bool.and_false, Bool.not_true, Bool.not_false, hh, h1, X_within, h2] at e1
        simp (disch := omega) only [z0, z1, z2, z3, z4, z5, z6, z7, z8, z9, z10, z11, z12, z13, z14, z15, z16, z17, z18, z19, z20, z24, z26, z30, z31, z40, z41, z50, z54, z60, z70, z80, z81, z99, z100, z200, z255, z599, z1000, z1299, z4096, z1000000, lw0, lw1, lw2, lw3, lw4, lw5, lw6, lw7, lw12, lw50, lw99, lw255, lw599, lw4096, bI_ok, ble_t, Int.cast_ofNat_Int,  decide_true, decide_false, bI_0, bI_1, b_tf, b_ft, eq_self, n_1, n_2, n_3, n_4, n_5, n_6, n_7, n_8, if_true, if_false, jin, ncl, cond_true, cond_false, Option.bind_some, j_ov, j_oi, j_ol, nle, nlt, neq, nI_add, nmul, nsub, ndiv, nrem2, if_pos, if_neg, Nat.zero_add, Nat.add_zero, j_w_ap, decide_eq_true, decide_eq_false, Bool.true_or, Bool.or_true, Bool.false_or, Bool.or_false, Bool.and_true, Bool.true_and, Bool.false_and, Bool.and_false, Bool.not_true, Bool.not_false, hh2, h1, M_within, h2] at e2
        exact ⟨_, _, _, eX10_ordered (by omega) e1, eX11_ordered (by omega) e2, Scr.rf⟩
      · obtain ⟨M1, q1, q2⟩ := X_ord32 (d := d - 1) (N := N) (i := i) (q := q) (by omega) h hm hi hq
        obtain ⟨M2, p1, p2⟩ := M_ord32 (d := d - 1) (N := N) (i := i) (q := q) (by omega) (h.scr q2) (hm.scr q2) hi hq
        have e2 := e2 M1
        have hh2 := hh2 M1 q2
        by_cases hq2 : q = 2
        · have hi0 : i = 0 := by
            by_cases hi0 : i = 0
            · exact hi0
            · exact absurd ⟨hq2, hi0⟩ hz
          simp (disch := omega) only [z0, z1, z2, z3, z4, z5, z6, z7, z8, z9, z10, z11, z12, z13, z14, z15, z16, z17, z18, z19, z20, z24, z26, z30, z31, z40, z41, z50, z54, z60, z70, z80, z81, z99, z100, z200, z255, z599, z1000, z1299, z4096, z1000000, lw0, lw1, lw2, lw3, lw4, lw5, lw6, lw7, lw12, lw50, lw99, lw255, lw599, lw4096, bI_ok, ble_t, Int.cast_ofNat_Int,  decide_true, decide_false, bI_0, bI_1, b_tf, b_ft, eq_self, n_1, n_2, n_3, n_4, n_5, n_6, n_7, n_8, if_true, if_false, jin, ncl, cond_true, cond_false, Option.bind_some, j_ov, j_oi, j_ol, nle, nlt, neq, nI_add, nmul, nsub, ndiv, nrem2, if_pos, if_neg, Nat.zero_add, Nat.add_zero, j_w_ap, decide_eq_true, decide_eq_false, Bool.true_or, Bool.or_true, Bool.false_or, Bool.or_false, Bool.and_true, Bool.true_and, Bool.false_and, Bool.and_false, Bool.not_true, Bool.not_false, hh, h1, X_within, h2, q1] at e1
          simp (disch := omega) only [z0, z1, z2, z3, z4, z5, z6, z7, z8, z9, z10, z11, z12, z13, z14, z15, z16, z17, z18, z19, z20, z24, z26, z30, z31, z40, z41, z50, z54, z60, z70, z80, z81, z99, z100, z200, z255, z599, z1000, z1299, z4096, z1000000, lw0, lw1, lw2, lw3, lw4, lw5, lw6, lw7, lw12, lw50, lw99, lw255, lw599, lw4096, bI_ok, ble_t, Int.cast_ofNat_Int,  decide_true, decide_false, bI_0, bI_1, b_tf, b_ft, eq_self, n_1, n_2, n_3, n_4, n_5, n_6, n_7, n_8, if_true, if_false, jin, ncl, cond_true, cond_false, Option.bind_some, j_ov, j_oi, j_ol, nle, nlt, neq, nI_add, nmul, nsub, ndiv, nrem2, if_pos, if_neg, Nat.zero_add, Nat.add_zero, j_w_ap, decide_eq_true, decide_eq_false, Bool.true_or, Bool.or_true, Bool.false_or, Bool.or_false, Bool.and_true, Bool.true_and, Bool.false_and, Bool.and_false, Bool.not_true, Bool.not_false, hh2, h1, M_within, h2, p1] at e2
          exact ⟨_, _, _, eX10_ordered (by omega) e1, eX11_ordered (by omega) e2, q2.tr p2⟩
        · simp (disch := omega) only [z0, z1, z2, z3, z4, z5, z6, z7, z8, z9, z10, z11, z12, z13, z14, z15, z16, z17, z18, z19, z20, z24, z26, z30, z31, z40, z41, z50, z54, z60, z70, z80, z81, z99, z100, z200, z255, z599, z1000, z1299, z4096, z1000000, lw0, lw1, lw2, lw3, lw4, lw5, lw6, lw7, lw12, lw50, lw99, lw255, lw599, lw4096, bI_ok, ble_t, Int.cast_ofNat_Int,  decide_true, decide_false, bI_0, bI_1, b_tf, b_ft, eq_self, n_1, n_2, n_3, n_4, n_5, n_6, n_7, n_8, if_true, if_false, jin, ncl, cond_true, cond_false, Option.bind_some, j_ov, j_oi, j_ol, nle, nlt, neq, nI_add, nmul, nsub, ndiv, nrem2, if_pos, if_neg, Nat.zero_add, Nat.add_zero, j_w_ap, decide_eq_true, decide_eq_false, Bool.true_or, Bool.or_true, Bool.false_or, Bool.or_false, Bool.and_true, Bool.true_and, Bool.false_and, Bool.and_false, Bool.not_true, Bool.not_false, hh, h1, X_within, h2, q1] at e1
          simp (disch := omega) only [z0, z1, z2, z3, z4, z5, z6, z7, z8, z9, z10, z11, z12, z13, z14, z15, z16, z17, z18, z19, z20, z24, z26, z30, z31, z40, z41, z50, z54, z60, z70, z80, z81, z99, z100, z200, z255, z599, z1000, z1299, z4096, z1000000, lw0, lw1, lw2, lw3, lw4, lw5, lw6, lw7, lw12, lw50, lw99, lw255, lw599, lw4096, bI_ok, ble_t, Int.cast_ofNat_Int,  decide_true, decide_false, bI_0, bI_1, b_tf, b_ft, eq_self, n_1, n_2, n_3, n_4, n_5, n_6, n_7, n_8, if_true, if_false, jin, ncl, cond_true, cond_false, Option.bind_some, j_ov, j_oi, j_ol, nle, nlt, neq, nI_add, nmul, nsub, ndiv, nrem2, if_pos, if_neg, Nat.zero_add, Nat.add_zero, j_w_ap, decide_eq_true, decide_eq_false, Bool.true_or, Bool.or_true, Bool.false_or, Bool.or_false, Bool.and_true, Bool.true_and, Bool.false_and, Bool.and_false, Bool.not_true, Bool.not_false, hh2, h1, M_within, h2, p1] at e2
          exact ⟨_, _, _, eX10_ordered (by omega) e1, eX11_ordered (by omega) e2, q2.tr p2⟩
end OR
