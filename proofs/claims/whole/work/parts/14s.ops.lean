/-! ===== shift (own text) ===== -/
section OS
variable {d n nb i j c t s s2 l l2 : Nat} {M M' : j_M} {N : j_N} {x y z u v : Int32}
theorem M_sh1 (hs : s < 6) (hi : i + c ≤ 60) : ∀ (f k : Nat) (N : j_N), k + f = c → ∃ N', R d kX11_shift 113 [.ref 46, .int (nI s), .int (nI i), .int (nI s2), .int (nI j), .int (nI c), .int (nI k)] [] (S0, M, N) = R d kX11_shift 150 [.ref 46, .null, .null, .int (nI s2), .int (nI j), .int (nI c), .int (nI 0)] [] (S0, M, N') ∧ ∀ e q, N' e q = if e = 69 ∧ k ≤ q ∧ q < c then N 68 (60 * s + i + q) else N e q
  | 0, k, N, hk => by
    have e := bX11_shift_113 d (nI s) (nI i) (nI s2) (nI j) (nI c) (nI k) M N
    simp (disch := omega) only [z0, z1, z2, z3, z4, z5, z6, z7, z8, z9, z10, z11, z12, z13, z14, z15, z16, z17, z18, z19, z20, z24, z26, z30, z31, z40, z41, z50, z54, z60, z70, z80, z81, z99, z100, z200, z255, z599, z1000, z1299, z4096, z1000000, lw0, lw1, lw2, lw3, lw4, lw5, lw6, lw7, lw12, lw50, lw99, lw255, lw599, lw4096, bI_ok, ble_t, Int.cast_ofNat_Int,  decide_true, decide_false, bI_0, bI_1, b_tf, b_ft, eq_self, n_1, n_2, n_3, n_4, n_5, n_6, n_7, n_8, if_true, if_false, jin, ncl, cond_true, cond_false, Option.bind_some, j_ov, j_oi, j_ol, nle, nlt, neq, nI_add, nmul, nsub, ndiv, nrem2, if_pos, if_neg, Nat.zero_add, Nat.add_zero, j_w_ap, decide_eq_true, decide_eq_false, Bool.true_or, Bool.or_true, Bool.false_or, Bool.or_false, Bool.and_true, Bool.true_and, Bool.false_and, Bool.and_false, Bool.not_true, Bool.not_false] at e
    exact ⟨_, e, fun e q => by rw [if_neg (by omega)]⟩
  | f + 1, k, N, hk => by
    have e := bX11_shift_113 d (nI s) (nI i) (nI s2) (nI j) (nI c) (nI k) M N
    simp (disch := omega) only [z0, z1, z2, z3, z4, z5, z6, z7, z8, z9, z10, z11, z12, z13, z14, z15, z16, z17, z18, z19, z20, z24, z26, z30, z31, z40, z41, z50, z54, z60, z70, z80, z81, z99, z100, z200, z255, z599, z1000, z1299, z4096, z1000000, lw0, lw1, lw2, lw3, lw4, lw5, lw6, lw7, lw12, lw50, lw99, lw255, lw599, lw4096, bI_ok, ble_t, Int.cast_ofNat_Int,  decide_true, decide_false, bI_0, bI_1, b_tf, b_ft, eq_self, n_1, n_2, n_3, n_4, n_5, n_6, n_7, n_8, if_true, if_false, jin, ncl, cond_true, cond_false, Option.bind_some, j_ov, j_oi, j_ol, nle, nlt, neq, nI_add, nmul, nsub, ndiv, nrem2, if_pos, if_neg, Nat.zero_add, Nat.add_zero, j_w_ap, decide_eq_true, decide_eq_false, Bool.true_or, Bool.or_true, Bool.false_or, Bool.or_false, Bool.and_true, Bool.true_and, Bool.false_and, Bool.and_false, Bool.not_true, Bool.not_false] at e
    obtain ⟨N', q1, q2⟩ := M_sh1 hs hi f (k + 1) (j_wl N 69 k (N 68 (60 * s + i + k))) (by omega)
    refine ⟨N', e.trans q1, fun e q => ?_⟩
    rw [q2, j_wl_ap, j_wl_ap, if_neg (show ¬ 68 = 69 by omega)]
    by_cases h1 : e = 69
    · by_cases h2 : q = k
      · rw [if_neg (by omega), if_pos h1, if_pos h2, if_pos (by omega), h2]
      · rw [if_pos h1, if_neg h2]
        by_cases h3 : k ≤ q ∧ q < c
        · rw [if_pos (by omega), if_pos (by omega)]
        · rw [if_neg (by omega), if_neg (by omega)]
    · rw [if_neg (fun z => h1 z.1), if_neg h1, if_neg (fun z => h1 z.1)]
theorem M_sh2 (hs : s2 < 6) (hj : j + c ≤ 60) : ∀ (f k : Nat) (N : j_N), k + f = c → ∃ N', R d kX11_shift 150 [.ref 46, .null, .null, .int (nI s2), .int (nI j), .int (nI c), .int (nI k)] [] (S0, M, N) = some (some (.int (nI c)), (S0, M, N')) ∧ ∀ e q, N' e q = if e = 68 ∧ 60 * s2 + j + k ≤ q ∧ q < 60 * s2 + j + c then N 69 (q - (60 * s2 + j)) else N e q
  | 0, k, N, hk => by
    have e := bX11_shift_150 d (nI s2) (nI j) (nI c) (nI k) M N
    simp (disch := omega) only [z0, z1, z2, z3, z4, z5, z6, z7, z8, z9, z10, z11, z12, z13, z14, z15, z16, z17, z18, z19, z20, z24, z26, z30, z31, z40, z41, z50, z54, z60, z70, z80, z81, z99, z100, z200, z255, z599, z1000, z1299, z4096, z1000000, lw0, lw1, lw2, lw3, lw4, lw5, lw6, lw7, lw12, lw50, lw99, lw255, lw599, lw4096, bI_ok, ble_t, Int.cast_ofNat_Int,  decide_true, decide_false, bI_0, bI_1, b_tf, b_ft, eq_self, n_1, n_2, n_3, n_4, n_5, n_6, n_7, n_8, if_true, if_false, jin, ncl, cond_true, cond_false, Option.bind_some, j_ov, j_oi, j_ol, nle, nlt, neq, nI_add, nmul, nsub, ndiv, nrem2, if_pos, if_neg, Nat.zero_add, Nat.add_zero, j_w_ap, decide_eq_true, decide_eq_false, Bool.true_or, Bool.or_true, Bool.false_or, Bool.or_false, Bool.and_true, Bool.true_and, Bool.false_and, Bool.and_false, Bool.not_true, Bool.not_false] at e
    exact ⟨_, e, fun e q => by rw [if_neg (by omega)]⟩
  | f + 1, k, N, hk => by
    have e := bX11_shift_150 d (nI s2) (nI j) (nI c) (nI k) M N
    simp (disch := omega) only [z0, z1, z2, z3, z4, z5, z6, z7, z8, z9, z10, z11, z12, z13, z14, z15, z16, z17, z18, z19, z20, z24, z26, z30, z31, z40, z41, z50, z54, z60, z70, z80, z81, z99, z100, z200, z255, z599, z1000, z1299, z4096, z1000000, lw0, lw1, lw2, lw3, lw4, lw5, lw6, lw7, lw12, lw50, lw99, lw255, lw599, lw4096, bI_ok, ble_t, Int.cast_ofNat_Int,  decide_true, decide_false, bI_0, bI_1, b_tf, b_ft, eq_self, n_1, n_2, n_3, n_4, n_5, n_6, n_7, n_8, if_true, if_false, jin, ncl, cond_true, cond_false, Option.bind_some, j_ov, j_oi, j_ol, nle, nlt, neq, nI_add, nmul, nsub, ndiv, nrem2, if_pos, if_neg, Nat.zero_add, Nat.add_zero, j_w_ap, decide_eq_true, decide_eq_false, Bool.true_or, Bool.or_true, Bool.false_or, Bool.or_false, Bool.and_true, Bool.true_and, Bool.false_and, Bool.and_false, Bool.not_true, Bool.not_false] at e
    obtain ⟨N', q1, q2⟩ := M_sh2 hs hj f (k + 1) (j_wl N 68 (60 * s2 + j + k) (N 69 k)) (by omega)
    refine ⟨N', e.trans q1, fun e q => ?_⟩
    rw [q2, j_wl_ap, j_wl_ap, if_neg (show ¬ 69 = 68 by omega)]
    by_cases h1 : e = 68
    · by_cases h2 : q = 60 * s2 + j + k
      · rw [if_neg (by omega), if_pos h1, if_pos h2, if_pos (by omega), h2, show 60 * s2 + j + k - (60 * s2 + j) = k by omega]
      · rw [if_pos h1, if_neg h2]
        by_cases h3 : 60 * s2 + j + k ≤ q ∧ q < 60 * s2 + j + c
        · rw [if_pos (by omega), if_pos (by omega)]
        · rw [if_neg (by omega), if_neg (by omega)]
    · rw [if_neg (fun z => h1 z.1), if_neg h1, if_neg (fun z => h1 z.1)]
theorem X_isRowOf {t2 : Nat} (hd : 1 ≤ d) (hs : s < 6) (ht : t < 3) (h : M (34 + 2 * s) 4 = nI t) (h2 : t = 2 → ∃ w : Nat, w < 5 ∧ M (34 + 2 * s) 1 = nI w) (ht2 : t2 < 5) : ∃ b : Bool, C d 99 [.ref (34 + 2 * s), .int (nI t2)] S0 M N = some (some (.int (bI b)), M, N) ∧ (b = true ↔ t = 2 ∧ M (34 + 2 * s) 1 = nI t2) := by
  have e := bX9_isRowOf_0 (d - 1) (34 + 2 * s) (nI t2) M N
  by_cases c : t = 2
  · obtain ⟨w, w1, w2⟩ := h2 c
    by_cases c2 : w = t2
    · simp (disch := omega) only [z0, z1, z2, z3, z4, z5, z6, z7, z8, z9, z10, z11, z12, z13, z14, z15, z16, z17, z18, z19, z20, z24, z26, z30, z31, z40, z41, z50, z54, z60, z70, z80, z81, z99, z100, z200, z255, z599, z1000, z1299, z4096, z1000000, lw0, lw1, lw2, lw3, lw4, lw5, lw6, lw7, lw12, lw50, lw99, lw255, lw599, lw4096, bI_ok, ble_t, Int.cast_ofNat_Int,  decide_true, decide_false, bI_0, bI_1, b_tf, b_ft, eq_self, n_1, n_2, n_3, n_4, n_5, n_6, n_7, n_8, if_true, if_false, jin, ncl, cond_true, cond_false, Option.bind_some, j_ov, j_oi, j_ol, nle, nlt, neq, nI_add, nmul, nsub, ndiv, nrem2, if_pos, if_neg, Nat.zero_add, Nat.add_zero, j_w_ap, decide_eq_true, decide_eq_false, Bool.true_or, Bool.or_true, Bool.false_or, Bool.or_false, Bool.and_true, Bool.true_and, Bool.false_and, Bool.and_false, Bool.not_true, Bool.not_false, b12 hs, h, c, w2, c2] at e
      exact ⟨true, eX9_isRowOf hd e, fun _ => ⟨c, by rw [w2, c2]⟩, fun _ => rfl⟩
    · simp (disch := omega) only [z0, z1, z2, z3, z4, z5, z6, z7, z8, z9, z10, z11, z12, z13, z14, z15, z16, z17, z18, z19, z20, z24, z26, z30, z31, z40, z41, z50, z54, z60, z70, z80, z81, z99, z100, z200, z255, z599, z1000, z1299, z4096, z1000000, lw0, lw1, lw2, lw3, lw4, lw5, lw6, lw7, lw12, lw50, lw99, lw255, lw599, lw4096, bI_ok, ble_t, Int.cast_ofNat_Int,  decide_true, decide_false, bI_0, bI_1, b_tf, b_ft, eq_self, n_1, n_2, n_3, n_4, n_5, n_6, n_7, n_8, if_true, if_false, jin, ncl, cond_true, cond_false, Option.bind_some, j_ov, j_oi, j_ol, nle, nlt, neq, nI_add, nmul, nsub, ndiv, nrem2, if_pos, if_neg, Nat.zero_add, Nat.add_zero, j_w_ap, decide_eq_true, decide_eq_false, Bool.true_or, Bool.or_true, Bool.false_or, Bool.or_false, Bool.and_true, Bool.true_and, Bool.false_and, Bool.and_false, Bool.not_true, Bool.not_false, b12 hs, h, c, w2, c2] at e
      refine ⟨false, eX9_isRowOf hd e, (fun z => by cases z), fun z => absurd z.2 ?_⟩
      rw [w2]
      simp (disch := omega) only [z0, z1, z2, z3, z4, z5, z6, z7, z8, z9, z10, z11, z12, z13, z14, z15, z16, z17, z18, z19, z20, z24, z26, z30, z31, z40, z41, z50, z54, z60, z70, z80, z81, z99, z100, z200, z255, z599, z1000, z1299, z4096, z1000000, lw0, lw1, lw2, lw3, lw4, lw5, lw6, lw7, lw12, lw50, lw99, lw255, lw599, lw4096, bI_ok, ble_t, Int.cast_ofNat_Int,  decide_true, decide_false, bI_0, bI_1, b_tf, b_ft, eq_self, n_1, n_2, n_3, n_4, n_5, n_6, n_7, n_8, if_true, if_false, jin, ncl, cond_true, cond_false, Option.bind_some, j_ov, j_oi, j_ol, nle, nlt, neq, nI_add, nmul, nsub, ndiv, nrem2, if_pos, if_neg, Nat.zero_add, Nat.add_zero, j_w_ap, decide_eq_true, decide_eq_false, Bool.true_or, Bool.or_true, Bool.false_or, Bool.or_false, Bool.and_true, Bool.true_and, Bool.false_and, Bool.and_false, Bool.not_true, Bool.not_false, c2]
      exact fun z => z
  · simp (disch := omega) only [z0, z1, z2, z3, z4, z5, z6, z7, z8, z9, z10, z11, z12, z13, z14, z15, z16, z17, z18, z19, z20, z24, z26, z30, z31, z40, z41, z50, z54, z60, z70, z80, z81, z99, z100, z200, z255, z599, z1000, z1299, z4096, z1000000, lw0, lw1, lw2, lw3, lw4, lw5, lw6, lw7, lw12, lw50, lw99, lw255, lw599, lw4096, bI_ok, ble_t, Int.cast_ofNat_Int,  decide_true, decide_false, bI_0, bI_1, b_tf, b_ft, eq_self, n_1, n_2, n_3, n_4, n_5, n_6, n_7, n_8, if_true, if_false, jin, ncl, cond_true, cond_false, Option.bind_some, j_ov, j_oi, j_ol, nle, nlt, neq, nI_add, nmul, nsub, ndiv, nrem2, if_pos, if_neg, Nat.zero_add, Nat.add_zero, j_w_ap, decide_eq_true, decide_eq_false, Bool.true_or, Bool.or_true, Bool.false_or, Bool.or_false, Bool.and_true, Bool.true_and, Bool.false_and, Bool.and_false, Bool.not_true, Bool.not_false, b12 hs, h, c] at e
    exact ⟨false, eX9_isRowOf hd e, (fun z => by cases z), fun z => absurd z.1 c⟩
theorem pl_ex (hl : l ≤ 60) (h : pl x y l = true) : ∃ i c : Nat, x = nI i ∧ y = nI c ∧ i + c ≤ l := by
  unfold pl at h
  rw [Bool.and_eq_true, Bool.and_eq_true, decide_eq_true_eq, decide_eq_true_eq, decide_eq_true_eq] at h
  refine ⟨x.toInt.toNat, y.toInt.toNat, ?_, ?_, by omega⟩
  · rw [← Int32.toInt_inj, nI_toInt (by omega)]; omega
  · rw [← Int32.toInt_inj, nI_toInt (by omega)]; omega
theorem sh_tag (h : SH nb s M N) : ∃ t : Nat, t < 3 ∧ M (34 + 2 * s) 4 = nI t ∧ ((t = 0 ∧ M 66 s = -nI 1) ∨ (t = 1 ∧ ∃ b : Nat, b < nb ∧ M 66 s = nI b) ∨ (t = 2 ∧ ∃ w : Nat, w < 5 ∧ M (34 + 2 * s) 1 = nI w ∧ M 66 s = nI (50 + w))) := by
  rcases h.2.2.1 with ⟨c1, c2⟩ | ⟨b, b1, c1, c2, c3⟩ | ⟨t, t1, c1, c2, c3⟩
  · exact ⟨0, by omega, c1, Or.inl ⟨rfl, c2⟩⟩
  · exact ⟨1, by omega, c1, Or.inr (Or.inl ⟨rfl, b, b1, c3⟩)⟩
  · exact ⟨2, by omega, c1, Or.inr (Or.inr ⟨rfl, t, t1, c2, c3⟩)⟩
theorem M_bad {α : Type} {p q : α} (i1 : Decidable (v < nI 0)) (i2 : Decidable (y < nI 0)) (i3 : Decidable (u < nI 0)) (i4 : Decidable (nI l - v < y)) (i5 : Decidable (u ≤ nI l2 - v)) (h1 : l ≤ 60) (h2 : l2 ≤ 60) (h : pl y v l = false ∨ pl u v l2 = false) : (@ite α (v < nI 0) i1 p (@ite α (y < nI 0) i2 p (@ite α (u < nI 0) i3 p (@ite α (nI l - v < y) i4 p (@ite α (u ≤ nI l2 - v) i5 q p))))) = p := by
  by_cases c1 : v < nI 0
  · simp only [c1, if_true]
  by_cases c2 : y < nI 0
  · simp only [c1, c2, if_true, if_false]
  by_cases c3 : u < nI 0
  · simp only [c1, c2, c3, if_true, if_false]
  by_cases c4 : nI l - v < y
  · simp only [c1, c2, c3, c4, if_true, if_false]
  by_cases c5 : u ≤ nI l2 - v
  · exfalso
    rw [Int32.lt_iff_toInt_lt, nI_toInt (by omega)] at c1 c2 c3
    have hv := v.toInt_lt
    have sub : ∀ a : Nat, a ≤ 60 → (nI a - v).toInt = (a : Int) - v.toInt := fun a ha => by
      rw [Int32.toInt_sub, nI_toInt (by omega)]
      exact Int.bmod_eq_of_le (by omega) (by omega)
    rw [Int32.lt_iff_toInt_lt, sub l h1] at c4
    rw [Int32.le_iff_toInt_le, sub l2 h2] at c5
    unfold pl at h
    rw [decide_eq_true (show 0 ≤ y.toInt by omega), decide_eq_true (show 0 ≤ v.toInt by omega), decide_eq_true (show y.toInt + v.toInt ≤ l by omega), decide_eq_true (show 0 ≤ u.toInt by omega), decide_eq_true (show u.toInt + v.toInt ≤ l2 by omega)] at h
    rcases h with h | h <;> cases h
  · simp only [c1, c2, c3, c4, c5, if_false]
theorem P_shift : OpI 144 242 [.int x, .int y, .int z, .int u, .int v] := by
  intro d M N hd hI
  have hI0 := hI
  obtain ⟨n, a, m, pr, jo, nb, h1, h2, h3, h4, h5, h6, h7, h8⟩ := hI
  have b50 := h7.1
  have e1 := bX10_shift_0 (d - 1) x y z u v M N
  have st : (bI true = 0) = False := eq_false (by decide)
  have sf : (bI false = 0) = True := eq_true (by decide)
  have f1 := X_isShelf (d := d - 1) (M := M) (N := N) (x := x) (by omega)
  have f2 := X_isShelf (d := d - 1) (M := M) (N := N) (x := z) (by omega)
  rw [f1, Option.bind_some, j_oi] at e1
  dsimp only at e1
  cases hx : ib x 0 5 with
  | false =>
    rw [hx, if_pos (by decide)] at e1
    have e2 := bX11_shift_0 (d - 1) x y z u v M N
    rw [M_isShelf (by omega), hx, Option.bind_some, j_oi] at e2
    dsimp only at e2
    rw [if_pos (by decide)] at e2
    exact ⟨_, _, _, _, _, eX10_shift (by omega) e1, eX11_shift (by omega) e2, hI0⟩
  | true =>
    rw [hx, if_neg (by decide), f2, Option.bind_some, j_oi] at e1
    dsimp only at e1
    obtain ⟨s, -, hs, rfl⟩ := ib_ex (lo := 0) (hi := 5) hx (by omega)
    cases hz : ib z 0 5 with
    | false =>
      rw [hz, if_pos (by decide)] at e1
      have e2 := bX11_shift_0 (d - 1) (nI s) y z u v M N
      rw [M_isShelf (by omega), hx, Option.bind_some, j_oi] at e2
      dsimp only at e2
      rw [if_neg (by decide), M_isShelf (by omega), hz, Option.bind_some, j_oi] at e2
      dsimp only at e2
      rw [if_pos (by decide)] at e2
      exact ⟨_, _, _, _, _, eX10_shift (by omega) e1, eX11_shift (by omega) e2, hI0⟩
    | true =>
      rw [hz, if_neg (by decide)] at e1
      obtain ⟨s2, -, hs2, rfl⟩ := ib_ex (lo := 0) (hi := 5) hz (by omega)
      have hs6 : s < 6 := by omega
      have hs26 : s2 < 6 := by omega
      obtain ⟨t1, t13, g1, k1⟩ := sh_tag (h8 s hs6)
      obtain ⟨t2, t23, g2, k2⟩ := sh_tag (h8 s2 hs26)
      obtain ⟨⟨l, l1, l2, l3⟩, hN, -, hv⟩ := h8 s hs6
      obtain ⟨⟨l', l1', l2', l3'⟩, hN', -, hv'⟩ := h8 s2 hs26
      have n1 := X_nothing (d := d - 1) (N := N) (by omega) hs6 t13 g1
      have n2 := X_nothing (d := d - 1) (N := N) (by omega) hs26 t23 g2
      have r1 := X_isRow (d := d - 1) (N := N) (by omega) hs6 t13 g1
      have e2 := bX11_shift_0 (d - 1) (nI s) y (nI s2) u v M N
      have a1 : (nI s).toNatClampNeg = s := by simp (disch := omega) only [z0, z1, z2, z3, z4, z5, z6, z7, z8, z9, z10, z11, z12, z13, z14, z15, z16, z17, z18, z19, z20, z24, z26, z30, z31, z40, z41, z50, z54, z60, z70, z80, z81, z99, z100, z200, z255, z599, z1000, z1299, z4096, z1000000, lw0, lw1, lw2, lw3, lw4, lw5, lw6, lw7, lw12, lw50, lw99, lw255, lw599, lw4096, bI_ok, ble_t, Int.cast_ofNat_Int,  decide_true, decide_false, bI_0, bI_1, b_tf, b_ft, eq_self, n_1, n_2, n_3, n_4, n_5, n_6, n_7, n_8, if_true, if_false, jin, ncl, cond_true, cond_false, Option.bind_some, j_ov, j_oi, j_ol, nle, nlt, neq, nI_add, nmul, nsub, ndiv, nrem2, if_pos, if_neg, Nat.zero_add, Nat.add_zero, j_w_ap, decide_eq_true, decide_eq_false, Bool.true_or, Bool.or_true, Bool.false_or, Bool.or_false, Bool.and_true, Bool.true_and, Bool.false_and, Bool.and_false, Bool.not_true, Bool.not_false]
      have a2 : (nI s2).toNatClampNeg = s2 := by simp (disch := omega) only [z0, z1, z2, z3, z4, z5, z6, z7, z8, z9, z10, z11, z12, z13, z14, z15, z16, z17, z18, z19, z20, z24, z26, z30, z31, z40, z41, z50, z54, z60, z70, z80, z81, z99, z100, z200, z255, z599, z1000, z1299, z4096, z1000000, lw0, lw1, lw2, lw3, lw4, lw5, lw6, lw7, lw12, lw50, lw99, lw255, lw599, lw4096, bI_ok, ble_t, Int.cast_ofNat_Int,  decide_true, decide_false, bI_0, bI_1, b_tf, b_ft, eq_self, n_1, n_2, n_3, n_4, n_5, n_6, n_7, n_8, if_true, if_false, jin, ncl, cond_true, cond_false, Option.bind_some, j_ov, j_oi, j_ol, nle, nlt, neq, nI_add, nmul, nsub, ndiv, nrem2, if_pos, if_neg, Nat.zero_add, Nat.add_zero, j_w_ap, decide_eq_true, decide_eq_false, Bool.true_or, Bool.or_true, Bool.false_or, Bool.or_false, Bool.and_true, Bool.true_and, Bool.false_and, Bool.and_false, Bool.not_true, Bool.not_false]
      have a3 : j_in (nI s) 6 = true := by simp (disch := omega) only [z0, z1, z2, z3, z4, z5, z6, z7, z8, z9, z10, z11, z12, z13, z14, z15, z16, z17, z18, z19, z20, z24, z26, z30, z31, z40, z41, z50, z54, z60, z70, z80, z81, z99, z100, z200, z255, z599, z1000, z1299, z4096, z1000000, lw0, lw1, lw2, lw3, lw4, lw5, lw6, lw7, lw12, lw50, lw99, lw255, lw599, lw4096, bI_ok, ble_t, Int.cast_ofNat_Int,  decide_true, decide_false, bI_0, bI_1, b_tf, b_ft, eq_self, n_1, n_2, n_3, n_4, n_5, n_6, n_7, n_8, if_true, if_false, jin, ncl, cond_true, cond_false, Option.bind_some, j_ov, j_oi, j_ol, nle, nlt, neq, nI_add, nmul, nsub, ndiv, nrem2, if_pos, if_neg, Nat.zero_add, Nat.add_zero, j_w_ap, decide_eq_true, decide_eq_false, Bool.true_or, Bool.or_true, Bool.false_or, Bool.or_false, Bool.and_true, Bool.true_and, Bool.false_and, Bool.and_false, Bool.not_true, Bool.not_false]
      have a4 : j_in (nI s2) 6 = true := by simp (disch := omega) only [z0, z1, z2, z3, z4, z5, z6, z7, z8, z9, z10, z11, z12, z13, z14, z15, z16, z17, z18, z19, z20, z24, z26, z30, z31, z40, z41, z50, z54, z60, z70, z80, z81, z99, z100, z200, z255, z599, z1000, z1299, z4096, z1000000, lw0, lw1, lw2, lw3, lw4, lw5, lw6, lw7, lw12, lw50, lw99, lw255, lw599, lw4096, bI_ok, ble_t, Int.cast_ofNat_Int,  decide_true, decide_false, bI_0, bI_1, b_tf, b_ft, eq_self, n_1, n_2, n_3, n_4, n_5, n_6, n_7, n_8, if_true, if_false, jin, ncl, cond_true, cond_false, Option.bind_some, j_ov, j_oi, j_ol, nle, nlt, neq, nI_add, nmul, nsub, ndiv, nrem2, if_pos, if_neg, Nat.zero_add, Nat.add_zero, j_w_ap, decide_eq_true, decide_eq_false, Bool.true_or, Bool.or_true, Bool.false_or, Bool.or_false, Bool.and_true, Bool.true_and, Bool.false_and, Bool.and_false, Bool.not_true, Bool.not_false]
      have a5 : Nat.ble 0 8 = true := rfl
      simp only [a1, a2, a3, a4, a5, shc hs6, shc hs26, iss, gtd, b12 hs6, b12 hs26, shp hs6, shp hs26, sh60 hs6, sh60 hs26, bq1, bq10, Bool.and_true, cond_true, cond_false, Bool.true_and, Bool.false_and] at e1
      rw [M_isShelf (by omega), hx, Option.bind_some, j_oi] at e2
      dsimp only at e2
      rw [if_neg (by decide), M_isShelf (by omega), hz, Option.bind_some, j_oi] at e2
      dsimp only at e2
      rw [if_neg (by decide)] at e2
      simp only [a1, a2, a3, a4, cond_true] at e2
      rw [n1, Option.bind_some, j_oi] at e1
      dsimp only at e1
      rcases k1 with ⟨rfl, q1⟩ | ⟨rfl, b, hb, q1⟩ | ⟨rfl, w, hw, o1, q1⟩
      · rw [if_neg (by decide)] at e1
        simp (disch := omega) only [z0, z1, z2, z3, z4, z5, z6, z7, z8, z9, z10, z11, z12, z13, z14, z15, z16, z17, z18, z19, z20, z24, z26, z30, z31, z40, z41, z50, z54, z60, z70, z80, z81, z99, z100, z200, z255, z599, z1000, z1299, z4096, z1000000, lw0, lw1, lw2, lw3, lw4, lw5, lw6, lw7, lw12, lw50, lw99, lw255, lw599, lw4096, bI_ok, ble_t, Int.cast_ofNat_Int,  decide_true, decide_false, bI_0, bI_1, b_tf, b_ft, eq_self, n_1, n_2, n_3, n_4, n_5, n_6, n_7, n_8, if_true, if_false, jin, ncl, cond_true, cond_false, Option.bind_some, j_ov, j_oi, j_ol, nle, nlt, neq, nI_add, nmul, nsub, ndiv, nrem2, if_pos, if_neg, Nat.zero_add, Nat.add_zero, j_w_ap, decide_eq_true, decide_eq_false, Bool.true_or, Bool.or_true, Bool.false_or, Bool.or_false, Bool.and_true, Bool.true_and, Bool.false_and, Bool.and_false, Bool.not_true, Bool.not_false, q1] at e2
        exact ⟨_, _, _, _, _, eX10_shift (by omega) e1, eX11_shift (by omega) e2, hI0⟩
      · rcases k2 with ⟨rfl, q2⟩ | ⟨rfl, b', hb', q2⟩ | ⟨rfl, w', hw', o2, q2⟩
        · rw [if_pos (by decide), n2, Option.bind_some, j_oi] at e1
          dsimp only at e1
          rw [if_neg (by decide)] at e1
          simp (disch := omega) only [z0, z1, z2, z3, z4, z5, z6, z7, z8, z9, z10, z11, z12, z13, z14, z15, z16, z17, z18, z19, z20, z24, z26, z30, z31, z40, z41, z50, z54, z60, z70, z80, z81, z99, z100, z200, z255, z599, z1000, z1299, z4096, z1000000, lw0, lw1, lw2, lw3, lw4, lw5, lw6, lw7, lw12, lw50, lw99, lw255, lw599, lw4096, bI_ok, ble_t, Int.cast_ofNat_Int,  decide_true, decide_false, bI_0, bI_1, b_tf, b_ft, eq_self, n_1, n_2, n_3, n_4, n_5, n_6, n_7, n_8, if_true, if_false, jin, ncl, cond_true, cond_false, Option.bind_some, j_ov, j_oi, j_ol, nle, nlt, neq, nI_add, nmul, nsub, ndiv, nrem2, if_pos, if_neg, Nat.zero_add, Nat.add_zero, j_w_ap, decide_eq_true, decide_eq_false, Bool.true_or, Bool.or_true, Bool.false_or, Bool.or_false, Bool.and_true, Bool.true_and, Bool.false_and, Bool.and_false, Bool.not_true, Bool.not_false, q1, q2] at e2
          exact ⟨_, _, _, _, _, eX10_shift (by omega) e1, eX11_shift (by omega) e2, hI0⟩
        · rw [if_pos (by decide), n2, Option.bind_some, j_oi] at e1
          dsimp only at e1
          rw [if_pos (by decide), r1, Option.bind_some, j_oi] at e1
          dsimp only at e1
          rw [if_pos (by decide)] at e1
          simp (disch := omega) only [z0, z1, z2, z3, z4, z5, z6, z7, z8, z9, z10, z11, z12, z13, z14, z15, z16, z17, z18, z19, z20, z24, z26, z30, z31, z40, z41, z50, z54, z60, z70, z80, z81, z99, z100, z200, z255, z599, z1000, z1299, z4096, z1000000, lw0, lw1, lw2, lw3, lw4, lw5, lw6, lw7, lw12, lw50, lw99, lw255, lw599, lw4096, bI_ok, ble_t, Int.cast_ofNat_Int,  decide_true, decide_false, bI_0, bI_1, b_tf, b_ft, eq_self, n_1, n_2, n_3, n_4, n_5, n_6, n_7, n_8, if_true, if_false, jin, ncl, cond_true, cond_false, Option.bind_some, j_ov, j_oi, j_ol, nle, nlt, neq, nI_add, nmul, nsub, ndiv, nrem2, if_pos, if_neg, Nat.zero_add, Nat.add_zero, j_w_ap, decide_eq_true, decide_eq_false, Bool.true_or, Bool.or_true, Bool.false_or, Bool.or_false, Bool.and_true, Bool.true_and, Bool.false_and, Bool.and_false, Bool.not_true, Bool.not_false, q1, q2] at e2
          exact ⟨_, _, _, _, _, eX10_shift (by omega) e1, eX11_shift (by omega) e2, hI0⟩
        · rw [if_pos (by decide), n2, Option.bind_some, j_oi] at e1
          dsimp only at e1
          rw [if_pos (by decide), r1, Option.bind_some, j_oi] at e1
          dsimp only at e1
          rw [if_pos (by decide)] at e1
          simp (disch := omega) only [z0, z1, z2, z3, z4, z5, z6, z7, z8, z9, z10, z11, z12, z13, z14, z15, z16, z17, z18, z19, z20, z24, z26, z30, z31, z40, z41, z50, z54, z60, z70, z80, z81, z99, z100, z200, z255, z599, z1000, z1299, z4096, z1000000, lw0, lw1, lw2, lw3, lw4, lw5, lw6, lw7, lw12, lw50, lw99, lw255, lw599, lw4096, bI_ok, ble_t, Int.cast_ofNat_Int,  decide_true, decide_false, bI_0, bI_1, b_tf, b_ft, eq_self, n_1, n_2, n_3, n_4, n_5, n_6, n_7, n_8, if_true, if_false, jin, ncl, cond_true, cond_false, Option.bind_some, j_ov, j_oi, j_ol, nle, nlt, neq, nI_add, nmul, nsub, ndiv, nrem2, if_pos, if_neg, Nat.zero_add, Nat.add_zero, j_w_ap, decide_eq_true, decide_eq_false, Bool.true_or, Bool.or_true, Bool.false_or, Bool.or_false, Bool.and_true, Bool.true_and, Bool.false_and, Bool.and_false, Bool.not_true, Bool.not_false, q1, q2] at e2
          exact ⟨_, _, _, _, _, eX10_shift (by omega) e1, eX11_shift (by omega) e2, hI0⟩
      · rcases k2 with ⟨rfl, q2⟩ | ⟨rfl, b', hb', q2⟩ | ⟨rfl, w', hw', o2, q2⟩
        · rw [if_pos (by decide), n2, Option.bind_some, j_oi] at e1
          dsimp only at e1
          rw [if_neg (by decide)] at e1
          simp (disch := omega) only [z0, z1, z2, z3, z4, z5, z6, z7, z8, z9, z10, z11, z12, z13, z14, z15, z16, z17, z18, z19, z20, z24, z26, z30, z31, z40, z41, z50, z54, z60, z70, z80, z81, z99, z100, z200, z255, z599, z1000, z1299, z4096, z1000000, lw0, lw1, lw2, lw3, lw4, lw5, lw6, lw7, lw12, lw50, lw99, lw255, lw599, lw4096, bI_ok, ble_t, Int.cast_ofNat_Int,  decide_true, decide_false, bI_0, bI_1, b_tf, b_ft, eq_self, n_1, n_2, n_3, n_4, n_5, n_6, n_7, n_8, if_true, if_false, jin, ncl, cond_true, cond_false, Option.bind_some, j_ov, j_oi, j_ol, nle, nlt, neq, nI_add, nmul, nsub, ndiv, nrem2, if_pos, if_neg, Nat.zero_add, Nat.add_zero, j_w_ap, decide_eq_true, decide_eq_false, Bool.true_or, Bool.or_true, Bool.false_or, Bool.or_false, Bool.and_true, Bool.true_and, Bool.false_and, Bool.and_false, Bool.not_true, Bool.not_false, q1, q2] at e2
          exact ⟨_, _, _, _, _, eX10_shift (by omega) e1, eX11_shift (by omega) e2, hI0⟩
        · obtain ⟨b, p1, p2⟩ := X_isRowOf (d := d - 1) (M := M) (N := N) (s := s2) (t := 1) (t2 := w) (by omega) hs26 (by omega) g2 (fun z => by omega) hw
          have hbf : b = false := by
            cases b with
            | false => rfl
            | true => exact absurd (p2.1 rfl).1 (by omega)
          rw [if_pos (by decide), n2, Option.bind_some, j_oi] at e1
          dsimp only at e1
          rw [if_pos (by decide), r1, Option.bind_some, j_oi] at e1
          dsimp only at e1
          rw [if_neg (by decide), o1, p1, Option.bind_some, j_oi, hbf] at e1
          dsimp only at e1
          rw [if_pos (by decide)] at e1
          simp (disch := omega) only [z0, z1, z2, z3, z4, z5, z6, z7, z8, z9, z10, z11, z12, z13, z14, z15, z16, z17, z18, z19, z20, z24, z26, z30, z31, z40, z41, z50, z54, z60, z70, z80, z81, z99, z100, z200, z255, z599, z1000, z1299, z4096, z1000000, lw0, lw1, lw2, lw3, lw4, lw5, lw6, lw7, lw12, lw50, lw99, lw255, lw599, lw4096, bI_ok, ble_t, Int.cast_ofNat_Int,  decide_true, decide_false, bI_0, bI_1, b_tf, b_ft, eq_self, n_1, n_2, n_3, n_4, n_5, n_6, n_7, n_8, if_true, if_false, jin, ncl, cond_true, cond_false, Option.bind_some, j_ov, j_oi, j_ol, nle, nlt, neq, nI_add, nmul, nsub, ndiv, nrem2, if_pos, if_neg, Nat.zero_add, Nat.add_zero, j_w_ap, decide_eq_true, decide_eq_false, Bool.true_or, Bool.or_true, Bool.false_or, Bool.or_false, Bool.and_true, Bool.true_and, Bool.false_and, Bool.and_false, Bool.not_true, Bool.not_false, q1, q2] at e2
          exact ⟨_, _, _, _, _, eX10_shift (by omega) e1, eX11_shift (by omega) e2, hI0⟩
        · obtain ⟨b, p1, p2⟩ := X_isRowOf (d := d - 1) (M := M) (N := N) (s := s2) (t := 2) (t2 := w) (by omega) hs26 (by omega) g2 (fun z => ⟨w', hw', o2⟩) hw
          by_cases hww : w = w'
          · have hbt : b = true := p2.2 ⟨rfl, by rw [o2, hww]⟩
            have y1 := X_places (d := d - 1) (N := N) (x := y) (y := v) (by omega) hs6 l2 l1
            have y2 := X_places (d := d - 1) (N := N) (x := u) (y := v) (by omega) hs26 l2' l1'
            rw [if_pos (by decide), n2, Option.bind_some, j_oi] at e1
            dsimp only at e1
            rw [if_pos (by decide), r1, Option.bind_some, j_oi] at e1
            dsimp only at e1
            rw [if_neg (by decide), o1, p1, Option.bind_some, j_oi, hbt] at e1
            dsimp only at e1
            rw [if_neg (by decide), y1, Option.bind_some, j_oi] at e1
            dsimp only at e1
            simp (disch := omega) only [z0, z1, z2, z3, z4, z5, z6, z7, z8, z9, z10, z11, z12, z13, z14, z15, z16, z17, z18, z19, z20, z24, z26, z30, z31, z40, z41, z50, z54, z60, z70, z80, z81, z99, z100, z200, z255, z599, z1000, z1299, z4096, z1000000, lw0, lw1, lw2, lw3, lw4, lw5, lw6, lw7, lw12, lw50, lw99, lw255, lw599, lw4096, bI_ok, ble_t, Int.cast_ofNat_Int,  decide_true, decide_false, bI_0, bI_1, b_tf, b_ft, eq_self, n_1, n_2, n_3, n_4, n_5, n_6, n_7, n_8, if_true, if_false, jin, ncl, cond_true, cond_false, Option.bind_some, j_ov, j_oi, j_ol, nle, nlt, neq, nI_add, nmul, nsub, ndiv, nrem2, if_pos, if_neg, Nat.zero_add, Nat.add_zero, j_w_ap, decide_eq_true, decide_eq_false, Bool.true_or, Bool.or_true, Bool.false_or, Bool.or_false, Bool.and_true, Bool.true_and, Bool.false_and, Bool.and_false, Bool.not_true, Bool.not_false, q1, q2, l3, l3', hww] at e2
            cases f1 : pl y v l with
            | true =>
              rw [f1, if_neg (by decide), y2, Option.bind_some, j_oi] at e1
              dsimp only at e1
              cases f2 : pl u v l' with
              | true =>
                rw [f2, if_neg (by decide)] at e1
                obtain ⟨i, c, rfl, rfl, hic⟩ := pl_ex l1 f1
                obtain ⟨j, c', rfl, hcc, hjc⟩ := pl_ex l1' f2
                simp (disch := omega) only [z0, z1, z2, z3, z4, z5, z6, z7, z8, z9, z10, z11, z12, z13, z14, z15, z16, z17, z18, z19, z20, z24, z26, z30, z31, z40, z41, z50, z54, z60, z70, z80, z81, z99, z100, z200, z255, z599, z1000, z1299, z4096, z1000000, lw0, lw1, lw2, lw3, lw4, lw5, lw6, lw7, lw12, lw50, lw99, lw255, lw599, lw4096, bI_ok, ble_t, Int.cast_ofNat_Int,  decide_true, decide_false, bI_0, bI_1, b_tf, b_ft, eq_self, n_1, n_2, n_3, n_4, n_5, n_6, n_7, n_8, if_true, if_false, jin, ncl, cond_true, cond_false, Option.bind_some, j_ov, j_oi, j_ol, nle, nlt, neq, nI_add, nmul, nsub, ndiv, nrem2, if_pos, if_neg, Nat.zero_add, Nat.add_zero, j_w_ap, decide_eq_true, decide_eq_false, Bool.true_or, Bool.or_true, Bool.false_or, Bool.or_false, Bool.and_true, Bool.true_and, Bool.false_and, Bool.and_false, Bool.not_true, Bool.not_false] at hcc
                simp (disch := omega) only [z0, z1, z2, z3, z4, z5, z6, z7, z8, z9, z10, z11, z12, z13, z14, z15, z16, z17, z18, z19, z20, z24, z26, z30, z31, z40, z41, z50, z54, z60, z70, z80, z81, z99, z100, z200, z255, z599, z1000, z1299, z4096, z1000000, lw0, lw1, lw2, lw3, lw4, lw5, lw6, lw7, lw12, lw50, lw99, lw255, lw599, lw4096, bI_ok, ble_t, Int.cast_ofNat_Int,  decide_true, decide_false, bI_0, bI_1, b_tf, b_ft, eq_self, n_1, n_2, n_3, n_4, n_5, n_6, n_7, n_8, if_true, if_false, jin, ncl, cond_true, cond_false, Option.bind_some, j_ov, j_oi, j_ol, nle, nlt, neq, nI_add, nmul, nsub, ndiv, nrem2, if_pos, if_neg, Nat.zero_add, Nat.add_zero, j_w_ap, decide_eq_true, decide_eq_false, Bool.true_or, Bool.or_true, Bool.false_or, Bool.or_false, Bool.and_true, Bool.true_and, Bool.false_and, Bool.and_false, Bool.not_true, Bool.not_false] at e1
                obtain ⟨NA, hA⟩ : ∃ NA, NA = j_rowl N (35 + 2 * s2) (va_cpy (N (35 + 2 * s)) (N (35 + 2 * s2)) i j c) := ⟨_, rfl⟩
                rw [← hA] at e1
                have e3 := bX11_shift_0 (d - 1) (nI s) (nI i) (nI s2) (nI j) (nI c) M NA
                rw [M_isShelf (by omega), hx, Option.bind_some, j_oi] at e3
                dsimp only at e3
                rw [if_neg (by decide), M_isShelf (by omega), hz, Option.bind_some, j_oi] at e3
                dsimp only at e3
                rw [if_neg (by decide)] at e3
                simp only [a1, a2, a3, a4, cond_true] at e3
                simp (disch := omega) only [z0, z1, z2, z3, z4, z5, z6, z7, z8, z9, z10, z11, z12, z13, z14, z15, z16, z17, z18, z19, z20, z24, z26, z30, z31, z40, z41, z50, z54, z60, z70, z80, z81, z99, z100, z200, z255, z599, z1000, z1299, z4096, z1000000, lw0, lw1, lw2, lw3, lw4, lw5, lw6, lw7, lw12, lw50, lw99, lw255, lw599, lw4096, bI_ok, ble_t, Int.cast_ofNat_Int,  decide_true, decide_false, bI_0, bI_1, b_tf, b_ft, eq_self, n_1, n_2, n_3, n_4, n_5, n_6, n_7, n_8, if_true, if_false, jin, ncl, cond_true, cond_false, Option.bind_some, j_ov, j_oi, j_ol, nle, nlt, neq, nI_add, nmul, nsub, ndiv, nrem2, if_pos, if_neg, Nat.zero_add, Nat.add_zero, j_w_ap, decide_eq_true, decide_eq_false, Bool.true_or, Bool.or_true, Bool.false_or, Bool.or_false, Bool.and_true, Bool.true_and, Bool.false_and, Bool.and_false, Bool.not_true, Bool.not_false, q1, q2, l3, l3', hww] at e3
                obtain ⟨N1, w1, w2⟩ := M_sh1 (d := d - 1) (M := M) (i := i) (c := c) (s2 := s2) (j := j) hs6 (by omega) c 0 NA (by omega)
                obtain ⟨N2, u1, u2⟩ := M_sh2 (d := d - 1) (M := M) (j := j) (c := c) hs26 (by omega) c 0 N1 (by omega)
                have hA68 : ∀ q, NA 68 q = N 68 q := fun q => by rw [hA, j_rowl_ap, if_neg (by omega)]
                refine ⟨_, _, _, _, _, eX10_shift (by omega) e1, eX11_shift (by omega) (e3.trans (w1.trans u1)), n, a, m, pr, jo, nb, h1, h2, h3, h4, h5, h6, h7, fun s3 hs3 => sh_n (h8 s3 hs3) (fun k hk => ?_) (fun hz3 k hk => ?_)⟩
                · have hN3 := (h8 s3 hs3).2.1 k hk
                  rw [u2, if_neg (by omega), w2, if_neg (by omega), u2]
                  by_cases h9 : s3 = s2
                  · rw [h9]
                    by_cases h10 : j ≤ k ∧ k < j + c
                    · rw [if_pos (by omega), w2, if_pos (by omega), hA68, hA, j_rowl_ap, if_pos rfl]
                      unfold va_cpy
                      rw [if_pos h10, hN (i + (k - j)) (by omega)]
                      congr 1
                      omega
                    · rw [if_neg (by omega), w2, if_neg (by omega), hA68, hA, j_rowl_ap, if_pos rfl]
                      unfold va_cpy
                      rw [if_neg h10, ← h9]
                      exact hN3
                  · rw [if_neg (by omega), w2, if_neg (by omega), hA68, hA, j_rowl_ap, if_neg (by omega)]
                    exact hN3
                · rw [u2]
                  by_cases h9 : 60 * s2 + j + 0 ≤ 60 * s3 + k ∧ 60 * s3 + k < 60 * s2 + j + c
                  · rw [if_pos ⟨rfl, h9⟩, w2, if_pos (by omega), hA68]
                    have hss : s3 = s2 := by omega
                    rw [hss, q2] at hz3
                    have hv := hv (by rw [q1, hww]; exact hz3) (i + (60 * s3 + k - (60 * s2 + j))) (by omega)
                    rw [← Nat.add_assoc] at hv
                    exact hv
                  · rw [if_neg (fun z => h9 z.2), w2, if_neg (by omega), hA68]
                    exact (h8 s3 hs3).2.2.2 hz3 k hk
              | false =>
                rw [f2, if_pos (by decide)] at e1
                exact ⟨_, _, _, _, _, eX10_shift (by omega) e1, eX11_shift (by omega) (e2.trans (M_bad _ _ _ _ _ l1 l1' (Or.inr f2))), hI0⟩
            | false =>
              rw [f1, if_pos (by decide)] at e1
              exact ⟨_, _, _, _, _, eX10_shift (by omega) e1, eX11_shift (by omega) (e2.trans (M_bad _ _ _ _ _ l1 l1' (Or.inl f1))), hI0⟩
          · have hbf : b = false := by
              cases b with
              | false => rfl
              | true =>
                have := (p2.1 rfl).2
                rw [o2] at this
                simp (disch := omega) only [z0, z1, z2, z3, z4, z5, z6, z7, z8, z9, z10, z11, z12, z13, z14, z15, z16, z17, z18, z19, z20, z24, z26, z30, z31, z40, z41, z50, z54, z60, z70, z80, z81, z99, z100, z200, z255, z599, z1000, z1299, z4096, z1000000, lw0, lw1, lw2, lw3, lw4, lw5, lw6, lw7, lw12, lw50, lw99, lw255, lw599, lw4096, bI_ok, ble_t, Int.cast_ofNat_Int,  decide_true, decide_false, bI_0, bI_1, b_tf, b_ft, eq_self, n_1, n_2, n_3, n_4, n_5, n_6, n_7, n_8, if_true, if_false, jin, ncl, cond_true, cond_false, Option.bind_some, j_ov, j_oi, j_ol, nle, nlt, neq, nI_add, nmul, nsub, ndiv, nrem2, if_pos, if_neg, Nat.zero_add, Nat.add_zero, j_w_ap, decide_eq_true, decide_eq_false, Bool.true_or, Bool.or_true, Bool.false_or, Bool.or_false, Bool.and_true, Bool.true_and, Bool.false_and, Bool.and_false, Bool.not_true, Bool.not_false] at this
                exact absurd this.symm hww
            rw [if_pos (by decide), n2, Option.bind_some, j_oi] at e1
            dsimp only at e1
            rw [if_pos (by decide), r1, Option.bind_some, j_oi] at e1
            dsimp only at e1
            rw [if_neg (by decide), o1, p1, Option.bind_some, j_oi, hbf] at e1
            dsimp only at e1
            rw [if_pos (by decide)] at e1
            simp (disch := omega) only [z0, z1, z2, z3, z4, z5, z6, z7, z8, z9, z10, z11, z12, z13, z14, z15, z16, z17, z18, z19, z20, z24, z26, z30, z31, z40, z41, z50, z54, z60, z70, z80, z81, z99, z100, z200, z255, z599, z1000, z1299, z4096, z1000000, lw0, lw1, lw2, lw3, lw4, lw5, lw6, lw7, lw12, lw50, lw99, lw255, lw599, lw4096, bI_ok, ble_t, Int.cast_ofNat_Int,  decide_true, decide_false, bI_0, bI_1, b_tf, b_ft, eq_self, n_1, n_2, n_3, n_4, n_5, n_6, n_7, n_8, if_true, if_false, jin, ncl, cond_true, cond_false, Option.bind_some, j_ov, j_oi, j_ol, nle, nlt, neq, nI_add, nmul, nsub, ndiv, nrem2, if_pos, if_neg, Nat.zero_add, Nat.add_zero, j_w_ap, decide_eq_true, decide_eq_false, Bool.true_or, Bool.or_true, Bool.false_or, Bool.or_false, Bool.and_true, Bool.true_and, Bool.false_and, Bool.and_false, Bool.not_true, Bool.not_false, q1, q2, hww] at e2
            exact ⟨_, _, _, _, _, eX10_shift (by omega) e1, eX11_shift (by omega) e2, hI0⟩
end OS
