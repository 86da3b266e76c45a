/-! ===== image, back, undo, redo (own text) ===== -/
section OF
variable {d n g b bill rule : Nat} {a : Nat → Nat} {M : j_M} {N : j_N} {x y w u : Int32}
theorem at7 : j_at S0 7 = (0, 6, []) := rfl
theorem X_fill7 {v : Int32} : ∀ (j k : Nat) (M : j_M), k + j = 6 → (∀ i, i < k → M 7 i = v) → ∃ M', R d kJ7_fill_53178 5 [.ref 7, .int v, .int (nI k), .int (nI 6)] [] (S0, M, N) = some (none, (S0, M', N)) ∧ (∀ i, i < 6 → M' 7 i = v) ∧ Fr [7] M M'
  | 0, k, M, hk, h => by
    obtain rfl : k = 6 := by omega
    have e := bJ7_fill_53178_5 d 7 v (nI 6) (nI 6) M N
    simp (disch := omega) only [z0, z1, z2, z3, z4, z5, z6, z7, z8, z9, z10, z11, z12, z13, z14, z15, z16, z17, z18, z19, z20, z24, z26, z30, z31, z40, z41, z50, z54, z60, z70, z80, z81, z99, z100, z200, z255, z599, z1000, z1299, z4096, z1000000, lw0, lw1, lw2, lw3, lw4, lw5, lw6, lw7, lw12, lw50, lw99, lw255, lw599, lw4096, bI_ok, ble_t, Int.cast_ofNat_Int,  decide_true, decide_false, bI_0, bI_1, b_tf, b_ft, eq_self, n_1, n_2, n_3, n_4, n_5, n_6, n_7, n_8, if_true, if_false, jin, ncl, cond_true, cond_false, Option.bind_some, j_ov, j_oi, j_ol, nle, nlt, neq, nI_add, nmul, nsub, ndiv, nrem2, if_pos, if_neg, Nat.zero_add, Nat.add_zero, j_w_ap, decide_eq_true, decide_eq_false, Bool.true_or, Bool.or_true, Bool.false_or, Bool.or_false, Bool.and_true, Bool.true_and, Bool.false_and, Bool.and_false, Bool.not_true, Bool.not_false] at e
    exact ⟨M, e, h, Fr.rf⟩
  | j + 1, k, M, hk, h => by
    have e := bJ7_fill_53178_5 d 7 v (nI k) (nI 6) M N
    rw [if_neg (nI_ge (by omega) (by omega)), show j_at S0 7 = (0, 6, []) from rfl, show Nat.beq ((0, 6, []) : Nat × Nat × List (Option Nat)).1 0 = true from rfl, Bool.true_and, show ((0, 6, []) : Nat × Nat × List (Option Nat)).2.1 = 6 from rfl, jin (k := k) (n := 6) (by omega) (by omega), cond_true, ncl (by omega), nI_1] at e
    obtain ⟨M', r1, r2, r3⟩ := X_fill7 j (k + 1) (j_w M 7 k v) (by omega) (fun i hi => by
      rw [j_w_ap, if_pos rfl]
      by_cases hik : i = k
      · rw [if_pos hik]
      · rw [if_neg hik]; exact h i (by omega))
    exact ⟨M', e.trans r1, r2, (Fr.w (by decide)).tr r3⟩
theorem X_fill (v : Int32) (hd : 1 ≤ d) : ∃ M', C d 246 [.ref 7, .int v] S0 M N = some (none, M', N) ∧ (∀ i, i < 6 → M' 7 i = v) ∧ Fr [7] M M' := by
  obtain ⟨M', r1, r2, r3⟩ := X_fill7 (d := d - 1) (N := N) (v := v) 6 0 M (by omega) (fun i hi => by omega)
  refine ⟨M', eJ7_fill_53178 hd ?_, r2, r3⟩
  have e := bJ7_fill_53178_0 (d - 1) 7 v M N
  rw [show Nat.ble (j_at S0 7).1 2 = true from rfl, cond_true, show Int32.ofNat (j_at S0 7).2.1 = nI 6 from rfl] at e
  exact e.trans r1
theorem M_img {M0 : j_M} : ∀ (j k : Nat) (M : j_M), k + j = 6 → (∀ i, i < k → M 62 i = M0 47 (6 + i) ∧ M 63 i = M0 52 i) → Fr [62, 63] M0 M → ∃ M', R d kX11_image 31 [.ref 46, .int (nI k)] [] (S0, M, N) = some (some (.int (M0 46 9)), (S0, M', N)) ∧ (∀ i, i < 6 → M' 62 i = M0 47 (6 + i) ∧ M' 63 i = M0 52 i) ∧ Fr [62, 63] M0 M'
  | 0, k, M, hk, h, hf => by
    obtain rfl : k = 6 := by omega
    have e := bX11_image_31 d (nI 6) M N
    simp (disch := omega) only [z0, z1, z2, z3, z4, z5, z6, z7, z8, z9, z10, z11, z12, z13, z14, z15, z16, z17, z18, z19, z20, z24, z26, z30, z31, z40, z41, z50, z54, z60, z70, z80, z81, z99, z100, z200, z255, z599, z1000, z1299, z4096, z1000000, lw0, lw1, lw2, lw3, lw4, lw5, lw6, lw7, lw12, lw50, lw99, lw255, lw599, lw4096, bI_ok, ble_t, Int.cast_ofNat_Int,  decide_true, decide_false, bI_0, bI_1, b_tf, b_ft, eq_self, n_1, n_2, n_3, n_4, n_5, n_6, n_7, n_8, if_true, if_false, jin, ncl, cond_true, cond_false, Option.bind_some, j_ov, j_oi, j_ol, nle, nlt, neq, nI_add, nmul, nsub, ndiv, nrem2, if_pos, if_neg, Nat.zero_add, Nat.add_zero, j_w_ap, decide_eq_true, decide_eq_false, Bool.true_or, Bool.or_true, Bool.false_or, Bool.or_false, Bool.and_true, Bool.true_and, Bool.false_and, Bool.and_false, Bool.not_true, Bool.not_false] at e
    rw [hf 46 (by decide)] at e
    exact ⟨M, e, h, hf⟩
  | j + 1, k, M, hk, h, hf => by
    have e := bX11_image_31 d (nI k) M N
    have h47 : M 47 (6 + k) = M0 47 (6 + k) := by rw [hf 47 (by decide)]
    have h52 : M 52 k = M0 52 k := by rw [hf 52 (by decide)]
    simp (disch := omega) only [z0, z1, z2, z3, z4, z5, z6, z7, z8, z9, z10, z11, z12, z13, z14, z15, z16, z17, z18, z19, z20, z24, z26, z30, z31, z40, z41, z50, z54, z60, z70, z80, z81, z99, z100, z200, z255, z599, z1000, z1299, z4096, z1000000, lw0, lw1, lw2, lw3, lw4, lw5, lw6, lw7, lw12, lw50, lw99, lw255, lw599, lw4096, bI_ok, ble_t, Int.cast_ofNat_Int,  decide_true, decide_false, bI_0, bI_1, b_tf, b_ft, eq_self, n_1, n_2, n_3, n_4, n_5, n_6, n_7, n_8, if_true, if_false, jin, ncl, cond_true, cond_false, Option.bind_some, j_ov, j_oi, j_ol, nle, nlt, neq, nI_add, nmul, nsub, ndiv, nrem2, if_pos, if_neg, Nat.zero_add, Nat.add_zero, j_w_ap, decide_eq_true, decide_eq_false, Bool.true_or, Bool.or_true, Bool.false_or, Bool.or_false, Bool.and_true, Bool.true_and, Bool.false_and, Bool.and_false, Bool.not_true, Bool.not_false, h47, h52] at e
    obtain ⟨M', r1, r2, r3⟩ := M_img (M0 := M0) j (k + 1) (j_w (j_w M 62 k (M0 47 (6 + k))) 63 k (M0 52 k)) (by omega) (fun i hi => by
      by_cases hik : i = k
      · exact ⟨by simp (disch := omega) only [z0, z1, z2, z3, z4, z5, z6, z7, z8, z9, z10, z11, z12, z13, z14, z15, z16, z17, z18, z19, z20, z24, z26, z30, z31, z40, z41, z50, z54, z60, z70, z80, z81, z99, z100, z200, z255, z599, z1000, z1299, z4096, z1000000, lw0, lw1, lw2, lw3, lw4, lw5, lw6, lw7, lw12, lw50, lw99, lw255, lw599, lw4096, bI_ok, ble_t, Int.cast_ofNat_Int,  decide_true, decide_false, bI_0, bI_1, b_tf, b_ft, eq_self, n_1, n_2, n_3, n_4, n_5, n_6, n_7, n_8, if_true, if_false, jin, ncl, cond_true, cond_false, Option.bind_some, j_ov, j_oi, j_ol, nle, nlt, neq, nI_add, nmul, nsub, ndiv, nrem2, if_pos, if_neg, Nat.zero_add, Nat.add_zero, j_w_ap, decide_eq_true, decide_eq_false, Bool.true_or, Bool.or_true, Bool.false_or, Bool.or_false, Bool.and_true, Bool.true_and, Bool.false_and, Bool.and_false, Bool.not_true, Bool.not_false, hik], by simp (disch := omega) only [z0, z1, z2, z3, z4, z5, z6, z7, z8, z9, z10, z11, z12, z13, z14, z15, z16, z17, z18, z19, z20, z24, z26, z30, z31, z40, z41, z50, z54, z60, z70, z80, z81, z99, z100, z200, z255, z599, z1000, z1299, z4096, z1000000, lw0, lw1, lw2, lw3, lw4, lw5, lw6, lw7, lw12, lw50, lw99, lw255, lw599, lw4096, bI_ok, ble_t, Int.cast_ofNat_Int,  decide_true, decide_false, bI_0, bI_1, b_tf, b_ft, eq_self, n_1, n_2, n_3, n_4, n_5, n_6, n_7, n_8, if_true, if_false, jin, ncl, cond_true, cond_false, Option.bind_some, j_ov, j_oi, j_ol, nle, nlt, neq, nI_add, nmul, nsub, ndiv, nrem2, if_pos, if_neg, Nat.zero_add, Nat.add_zero, j_w_ap, decide_eq_true, decide_eq_false, Bool.true_or, Bool.or_true, Bool.false_or, Bool.or_false, Bool.and_true, Bool.true_and, Bool.false_and, Bool.and_false, Bool.not_true, Bool.not_false, hik]⟩
      · obtain ⟨z3, z4⟩ := h i (by omega)
        exact ⟨by simp (disch := omega) only [z0, z1, z2, z3, z4, z5, z6, z7, z8, z9, z10, z11, z12, z13, z14, z15, z16, z17, z18, z19, z20, z24, z26, z30, z31, z40, z41, z50, z54, z60, z70, z80, z81, z99, z100, z200, z255, z599, z1000, z1299, z4096, z1000000, lw0, lw1, lw2, lw3, lw4, lw5, lw6, lw7, lw12, lw50, lw99, lw255, lw599, lw4096, bI_ok, ble_t, Int.cast_ofNat_Int,  decide_true, decide_false, bI_0, bI_1, b_tf, b_ft, eq_self, n_1, n_2, n_3, n_4, n_5, n_6, n_7, n_8, if_true, if_false, jin, ncl, cond_true, cond_false, Option.bind_some, j_ov, j_oi, j_ol, nle, nlt, neq, nI_add, nmul, nsub, ndiv, nrem2, if_pos, if_neg, Nat.zero_add, Nat.add_zero, j_w_ap, decide_eq_true, decide_eq_false, Bool.true_or, Bool.or_true, Bool.false_or, Bool.or_false, Bool.and_true, Bool.true_and, Bool.false_and, Bool.and_false, Bool.not_true, Bool.not_false, z3], by simp (disch := omega) only [z0, z1, z2, z3, z4, z5, z6, z7, z8, z9, z10, z11, z12, z13, z14, z15, z16, z17, z18, z19, z20, z24, z26, z30, z31, z40, z41, z50, z54, z60, z70, z80, z81, z99, z100, z200, z255, z599, z1000, z1299, z4096, z1000000, lw0, lw1, lw2, lw3, lw4, lw5, lw6, lw7, lw12, lw50, lw99, lw255, lw599, lw4096, bI_ok, ble_t, Int.cast_ofNat_Int,  decide_true, decide_false, bI_0, bI_1, b_tf, b_ft, eq_self, n_1, n_2, n_3, n_4, n_5, n_6, n_7, n_8, if_true, if_false, jin, ncl, cond_true, cond_false, Option.bind_some, j_ov, j_oi, j_ol, nle, nlt, neq, nI_add, nmul, nsub, ndiv, nrem2, if_pos, if_neg, Nat.zero_add, Nat.add_zero, j_w_ap, decide_eq_true, decide_eq_false, Bool.true_or, Bool.or_true, Bool.false_or, Bool.or_false, Bool.and_true, Bool.true_and, Bool.false_and, Bool.and_false, Bool.not_true, Bool.not_false, z4]⟩) (hf.tr ((Fr.w (by decide)).tr (Fr.w (by decide))))
    exact ⟨M', e.trans r1, r2, r3⟩
theorem P_image : OpI 133 222 [] := by
  intro d M N hd hI
  obtain ⟨n, a, m, pr, jo, nb, h1, h2, h3, h4, h5, h6, h7, h8⟩ := hI
  have hn := h1.n6
  have hx6 := h1.x6
  have hm6 := h1.m6
  have e0 := bX8_take_0 (d - 1 - 1) M N
  simp (disch := omega) only [z0, z1, z2, z3, z4, z5, z6, z7, z8, z9, z10, z11, z12, z13, z14, z15, z16, z17, z18, z19, z20, z24, z26, z30, z31, z40, z41, z50, z54, z60, z70, z80, z81, z99, z100, z200, z255, z599, z1000, z1299, z4096, z1000000, lw0, lw1, lw2, lw3, lw4, lw5, lw6, lw7, lw12, lw50, lw99, lw255, lw599, lw4096, bI_ok, ble_t, Int.cast_ofNat_Int,  decide_true, decide_false, bI_0, bI_1, b_tf, b_ft, eq_self, n_1, n_2, n_3, n_4, n_5, n_6, n_7, n_8, if_true, if_false, jin, ncl, cond_true, cond_false, Option.bind_some, j_ov, j_oi, j_ol, nle, nlt, neq, nI_add, nmul, nsub, ndiv, nrem2, if_pos, if_neg, Nat.zero_add, Nat.add_zero, j_w_ap, decide_eq_true, decide_eq_false, Bool.true_or, Bool.or_true, Bool.false_or, Bool.or_false, Bool.and_true, Bool.true_and, Bool.false_and, Bool.and_false, Bool.not_true, Bool.not_false, hx6] at e0
  have q := eX8_take (d := d - 1) (by omega) e0
  generalize hA : (j_row (j_row (j_w (j_w (j_w (j_w M 27 5 (nI 1)) 27 2 (nI n)) 27 3 (M 1 11)) 27 4 (M 1 10)) 28 (va_cpy (j_w (j_w (j_w (j_w M 27 5 (nI 1)) 27 2 (nI n)) 27 3 (M 1 11)) 27 4 (M 1 10) 3) (j_w (j_w (j_w (j_w M 27 5 (nI 1)) 27 2 (nI n)) 27 3 (M 1 11)) 27 4 (M 1 10) 28) 0 0 n)) 29 (va_cpy (j_row (j_w (j_w (j_w (j_w M 27 5 (nI 1)) 27 2 (nI n)) 27 3 (M 1 11)) 27 4 (M 1 10)) 28 (va_cpy (j_w (j_w (j_w (j_w M 27 5 (nI 1)) 27 2 (nI n)) 27 3 (M 1 11)) 27 4 (M 1 10) 3) (j_w (j_w (j_w (j_w M 27 5 (nI 1)) 27 2 (nI n)) 27 3 (M 1 11)) 27 4 (M 1 10) 28) 0 0 n) 7) (j_row (j_w (j_w (j_w (j_w M 27 5 (nI 1)) 27 2 (nI n)) 27 3 (M 1 11)) 27 4 (M 1 10)) 28 (va_cpy (j_w (j_w (j_w (j_w M 27 5 (nI 1)) 27 2 (nI n)) 27 3 (M 1 11)) 27 4 (M 1 10) 3) (j_w (j_w (j_w (j_w M 27 5 (nI 1)) 27 2 (nI n)) 27 3 (M 1 11)) 27 4 (M 1 10) 28) 0 0 n) 29) 0 0 n)) = A at q
  have fA : Fg [6] M A := by
    rw [← hA]
    exact ((((Fg.w rfl).tr (Fg.w rfl)).tr (Fg.w rfl)).tr (Fg.w rfl)).tr ((Fg.row (fun _ => rfl)).tr (Fg.row (fun _ => rfl)))
  have a275 : A 27 5 = nI 1 := by rw [← hA]; simp only [j_row_ap, j_w_ap]; rfl
  have a272 : A 27 2 = nI n := by rw [← hA]; simp only [j_row_ap, j_w_ap]; rfl
  have a273 : A 27 3 = M 1 11 := by rw [← hA]; simp only [j_row_ap, j_w_ap]; rfl
  have a274 : A 27 4 = M 1 10 := by rw [← hA]; simp only [j_row_ap, j_w_ap]; rfl
  have a28 : ∀ i, i < n → A 28 i = M 3 i := fun i hi => by
    rw [← hA, j_row_ap, if_neg (by omega), j_row_ap, if_pos rfl, pk_cpy_in (by omega) (by omega), Nat.zero_add, Nat.sub_zero]
    simp only [j_w_ap]; rfl
  have a29 : ∀ i, i < n → A 29 i = M 7 i := fun i hi => by
    rw [← hA, j_row_ap, if_pos rfl, pk_cpy_in (by omega) (by omega), Nat.zero_add, Nat.sub_zero]
    simp only [j_row_ap, j_w_ap]; rfl
  have a111 : A 1 11 = M 1 11 := fA 1 11 (by decide) rfl
  have e1 := bX10_image_0 (d - 1) M N
  simp (disch := omega) only [z0, z1, z2, z3, z4, z5, z6, z7, z8, z9, z10, z11, z12, z13, z14, z15, z16, z17, z18, z19, z20, z24, z26, z30, z31, z40, z41, z50, z54, z60, z70, z80, z81, z99, z100, z200, z255, z599, z1000, z1299, z4096, z1000000, lw0, lw1, lw2, lw3, lw4, lw5, lw6, lw7, lw12, lw50, lw99, lw255, lw599, lw4096, bI_ok, ble_t, Int.cast_ofNat_Int,  decide_true, decide_false, bI_0, bI_1, b_tf, b_ft, eq_self, n_1, n_2, n_3, n_4, n_5, n_6, n_7, n_8, if_true, if_false, jin, ncl, cond_true, cond_false, Option.bind_some, j_ov, j_oi, j_ol, nle, nlt, neq, nI_add, nmul, nsub, ndiv, nrem2, if_pos, if_neg, Nat.zero_add, Nat.add_zero, j_w_ap, decide_eq_true, decide_eq_false, Bool.true_or, Bool.or_true, Bool.false_or, Bool.or_false, Bool.and_true, Bool.true_and, Bool.false_and, Bool.and_false, Bool.not_true, Bool.not_false, q, a111] at e1
  have e2 := bX11_image_0 (d - 1) A N
  have am6 : A 46 6 = nI n := (fA 46 6 (by decide) rfl).trans hm6
  simp (disch := omega) only [z0, z1, z2, z3, z4, z5, z6, z7, z8, z9, z10, z11, z12, z13, z14, z15, z16, z17, z18, z19, z20, z24, z26, z30, z31, z40, z41, z50, z54, z60, z70, z80, z81, z99, z100, z200, z255, z599, z1000, z1299, z4096, z1000000, lw0, lw1, lw2, lw3, lw4, lw5, lw6, lw7, lw12, lw50, lw99, lw255, lw599, lw4096, bI_ok, ble_t, Int.cast_ofNat_Int,  decide_true, decide_false, bI_0, bI_1, b_tf, b_ft, eq_self, n_1, n_2, n_3, n_4, n_5, n_6, n_7, n_8, if_true, if_false, jin, ncl, cond_true, cond_false, Option.bind_some, j_ov, j_oi, j_ol, nle, nlt, neq, nI_add, nmul, nsub, ndiv, nrem2, if_pos, if_neg, Nat.zero_add, Nat.add_zero, j_w_ap, decide_eq_true, decide_eq_false, Bool.true_or, Bool.or_true, Bool.false_or, Bool.or_false, Bool.and_true, Bool.true_and, Bool.false_and, Bool.and_false, Bool.not_true, Bool.not_false, am6] at e2
  generalize hB : j_w (j_w (j_w (j_w A 46 31 (nI 1)) 46 32 (nI n)) 46 33 (A 46 9)) 46 34 (A 46 10) = B at e2
  have fB : Fg [6] A B := by
    rw [← hB]
    exact (((Fg.w rfl).tr (Fg.w rfl)).tr (Fg.w rfl)).tr (Fg.w rfl)
  obtain ⟨E, r1, r2, r3⟩ := M_img (d := d - 1) (N := N) (M0 := B) 6 0 B (by omega) (fun i hi => by omega) Fr.rf
  have fE : Fg [6] B E := fun c k z1 z2 => by
    rw [r3 c (fun z => by
      simp only [List.mem_cons, List.not_mem_nil, or_false] at z
      rcases z with rfl | rfl <;> cases z2)]
  have hf := fA.tr (fB.tr fE)
  have b9 : B 46 9 = M 46 9 := by rw [fB 46 9 (by decide) rfl, fA 46 9 (by decide) rfl]
  have heq := h2.2.2.2.2.2
  rw [b9, ← heq] at r1
  refine ⟨_, _, _, _, _, eX10_image (by omega) e1, eX11_image (by omega) (e2.trans r1), n, a, m, pr, jo, nb, h1.g (hf.sg (by decide) rfl), h2.g (hf.sg (by decide) rfl), h3.g (hf.sg (by decide) rfl), h4.g (hf.sg (by decide) rfl), h5.g (hf.sg (by decide) rfl), ?_, h7.g (hf.sg (by decide) rfl), h8.g (hf.sg (by decide) rfl)⟩
  have e27 : ∀ k, E 27 k = A 27 k := fun k => by rw [r3 27 (by decide), ← hB]; simp only [j_w_ap]; rfl
  have e46 : ∀ k, E 46 k = B 46 k := fun k => by rw [r3 46 (by decide)]
  refine Or.inr ⟨by rw [e27, a275], by rw [e46, ← hB]; simp (disch := omega) only [z0, z1, z2, z3, z4, z5, z6, z7, z8, z9, z10, z11, z12, z13, z14, z15, z16, z17, z18, z19, z20, z24, z26, z30, z31, z40, z41, z50, z54, z60, z70, z80, z81, z99, z100, z200, z255, z599, z1000, z1299, z4096, z1000000, lw0, lw1, lw2, lw3, lw4, lw5, lw6, lw7, lw12, lw50, lw99, lw255, lw599, lw4096, bI_ok, ble_t, Int.cast_ofNat_Int,  decide_true, decide_false, bI_0, bI_1, b_tf, b_ft, eq_self, n_1, n_2, n_3, n_4, n_5, n_6, n_7, n_8, if_true, if_false, jin, ncl, cond_true, cond_false, Option.bind_some, j_ov, j_oi, j_ol, nle, nlt, neq, nI_add, nmul, nsub, ndiv, nrem2, if_pos, if_neg, Nat.zero_add, Nat.add_zero, j_w_ap, decide_eq_true, decide_eq_false, Bool.true_or, Bool.or_true, Bool.false_or, Bool.or_false, Bool.and_true, Bool.true_and, Bool.false_and, Bool.and_false, Bool.not_true, Bool.not_false], n, Nat.le_refl _, by rw [e27, a272], by rw [e46, ← hB]; simp (disch := omega) only [z0, z1, z2, z3, z4, z5, z6, z7, z8, z9, z10, z11, z12, z13, z14, z15, z16, z17, z18, z19, z20, z24, z26, z30, z31, z40, z41, z50, z54, z60, z70, z80, z81, z99, z100, z200, z255, z599, z1000, z1299, z4096, z1000000, lw0, lw1, lw2, lw3, lw4, lw5, lw6, lw7, lw12, lw50, lw99, lw255, lw599, lw4096, bI_ok, ble_t, Int.cast_ofNat_Int,  decide_true, decide_false, bI_0, bI_1, b_tf, b_ft, eq_self, n_1, n_2, n_3, n_4, n_5, n_6, n_7, n_8, if_true, if_false, jin, ncl, cond_true, cond_false, Option.bind_some, j_ov, j_oi, j_ol, nle, nlt, neq, nI_add, nmul, nsub, ndiv, nrem2, if_pos, if_neg, Nat.zero_add, Nat.add_zero, j_w_ap, decide_eq_true, decide_eq_false, Bool.true_or, Bool.or_true, Bool.false_or, Bool.or_false, Bool.and_true, Bool.true_and, Bool.false_and, Bool.and_false, Bool.not_true, Bool.not_false], ?_, ?_, fun i hi => ⟨a (6 + i), h1.gi99 i (by omega), ?_, ?_⟩, fun i hi => ?_⟩
  · rw [e27, a273, e46, ← hB]
    simp (disch := omega) only [z0, z1, z2, z3, z4, z5, z6, z7, z8, z9, z10, z11, z12, z13, z14, z15, z16, z17, z18, z19, z20, z24, z26, z30, z31, z40, z41, z50, z54, z60, z70, z80, z81, z99, z100, z200, z255, z599, z1000, z1299, z4096, z1000000, lw0, lw1, lw2, lw3, lw4, lw5, lw6, lw7, lw12, lw50, lw99, lw255, lw599, lw4096, bI_ok, ble_t, Int.cast_ofNat_Int,  decide_true, decide_false, bI_0, bI_1, b_tf, b_ft, eq_self, n_1, n_2, n_3, n_4, n_5, n_6, n_7, n_8, if_true, if_false, jin, ncl, cond_true, cond_false, Option.bind_some, j_ov, j_oi, j_ol, nle, nlt, neq, nI_add, nmul, nsub, ndiv, nrem2, if_pos, if_neg, Nat.zero_add, Nat.add_zero, j_w_ap, decide_eq_true, decide_eq_false, Bool.true_or, Bool.or_true, Bool.false_or, Bool.or_false, Bool.and_true, Bool.true_and, Bool.false_and, Bool.and_false, Bool.not_true, Bool.not_false]
    rw [fA 46 9 (by decide) rfl]; exact heq
  · rw [e27, a274, e46, ← hB]
    simp (disch := omega) only [z0, z1, z2, z3, z4, z5, z6, z7, z8, z9, z10, z11, z12, z13, z14, z15, z16, z17, z18, z19, z20, z24, z26, z30, z31, z40, z41, z50, z54, z60, z70, z80, z81, z99, z100, z200, z255, z599, z1000, z1299, z4096, z1000000, lw0, lw1, lw2, lw3, lw4, lw5, lw6, lw7, lw12, lw50, lw99, lw255, lw599, lw4096, bI_ok, ble_t, Int.cast_ofNat_Int,  decide_true, decide_false, bI_0, bI_1, b_tf, b_ft, eq_self, n_1, n_2, n_3, n_4, n_5, n_6, n_7, n_8, if_true, if_false, jin, ncl, cond_true, cond_false, Option.bind_some, j_ov, j_oi, j_ol, nle, nlt, neq, nI_add, nmul, nsub, ndiv, nrem2, if_pos, if_neg, Nat.zero_add, Nat.add_zero, j_w_ap, decide_eq_true, decide_eq_false, Bool.true_or, Bool.or_true, Bool.false_or, Bool.or_false, Bool.and_true, Bool.true_and, Bool.false_and, Bool.and_false, Bool.not_true, Bool.not_false]
    rw [fA 46 10 (by decide) rfl]; exact h2.2.2.2.2.1
  · rw [r3 28 (by decide), ← hB]
    simp (disch := omega) only [z0, z1, z2, z3, z4, z5, z6, z7, z8, z9, z10, z11, z12, z13, z14, z15, z16, z17, z18, z19, z20, z24, z26, z30, z31, z40, z41, z50, z54, z60, z70, z80, z81, z99, z100, z200, z255, z599, z1000, z1299, z4096, z1000000, lw0, lw1, lw2, lw3, lw4, lw5, lw6, lw7, lw12, lw50, lw99, lw255, lw599, lw4096, bI_ok, ble_t, Int.cast_ofNat_Int,  decide_true, decide_false, bI_0, bI_1, b_tf, b_ft, eq_self, n_1, n_2, n_3, n_4, n_5, n_6, n_7, n_8, if_true, if_false, jin, ncl, cond_true, cond_false, Option.bind_some, j_ov, j_oi, j_ol, nle, nlt, neq, nI_add, nmul, nsub, ndiv, nrem2, if_pos, if_neg, Nat.zero_add, Nat.add_zero, j_w_ap, decide_eq_true, decide_eq_false, Bool.true_or, Bool.or_true, Bool.false_or, Bool.or_false, Bool.and_true, Bool.true_and, Bool.false_and, Bool.and_false, Bool.not_true, Bool.not_false, a28 i hi]
    exact h1.gi i (by omega)
  · rw [(r2 i (by omega)).1, fB 47 _ (show (1 : Nat) ≠ 0 from Nat.one_ne_zero) rfl, fA 47 _ (show (1 : Nat) ≠ 0 from Nat.one_ne_zero) rfl]
    exact h1.may _ (by omega)
  · rw [(r2 i (by omega)).2, fB 52 _ (show (2 : Nat) ≠ 0 by omega) rfl, fA 52 _ (show (2 : Nat) ≠ 0 by omega) rfl, r3 29 (by decide), ← hB]
    simp (disch := omega) only [z0, z1, z2, z3, z4, z5, z6, z7, z8, z9, z10, z11, z12, z13, z14, z15, z16, z17, z18, z19, z20, z24, z26, z30, z31, z40, z41, z50, z54, z60, z70, z80, z81, z99, z100, z200, z255, z599, z1000, z1299, z4096, z1000000, lw0, lw1, lw2, lw3, lw4, lw5, lw6, lw7, lw12, lw50, lw99, lw255, lw599, lw4096, bI_ok, ble_t, Int.cast_ofNat_Int,  decide_true, decide_false, bI_0, bI_1, b_tf, b_ft, eq_self, n_1, n_2, n_3, n_4, n_5, n_6, n_7, n_8, if_true, if_false, jin, ncl, cond_true, cond_false, Option.bind_some, j_ov, j_oi, j_ol, nle, nlt, neq, nI_add, nmul, nsub, ndiv, nrem2, if_pos, if_neg, Nat.zero_add, Nat.add_zero, j_w_ap, decide_eq_true, decide_eq_false, Bool.true_or, Bool.or_true, Bool.false_or, Bool.or_false, Bool.and_true, Bool.true_and, Bool.false_and, Bool.and_false, Bool.not_true, Bool.not_false, a29 i hi]
    exact h2.2.2.1 i (by omega)
/-- gifts laid back -/
def gb' (a : Nat → Nat) (s : Nat) (gv : Nat → Nat) : Nat → Nat := fun k => if 6 ≤ k ∧ k < 6 + s then gv (k - 6) else a k
theorem M_bk {M0 : j_M} {s : Nat} {gv : Nat → Nat} (hn : n ≤ 6) (hs : s ≤ n) (h32 : M0 46 32 = nI s) (h6 : M0 46 6 = nI n) (hm : ∀ k, k < 27 → M0 47 k = nI (a k)) (hg : ∀ i, i < s → M0 62 i = nI (gv i)) : ∀ (j k : Nat) (M : j_M), k + j = n → (∀ q, q < 27 → M 47 q = nI (if q < 6 + k then gb' a s gv q else a q)) → (∀ i, i < k → M 52 i = if i < s then M0 63 i else nI 0) → (∀ i, k ≤ i → M 52 i = M0 52 i) → Fr [47, 52] M0 M → ∃ M', R d kX11_back 28 [.ref 46, .int (nI k)] [] (S0, M, N) = some (some (.int (M0 46 9)), (S0, M', N)) ∧ (∀ q, q < 27 → M' 47 q = nI (gb' a s gv q)) ∧ (∀ i, i < n → M' 52 i = if i < s then M0 63 i else nI 0) ∧ (∀ i, n ≤ i → M' 52 i = M0 52 i) ∧ Fr [47, 52] M0 M'
  | 0, k, M, hk, h1, h2, h3, hf => by
    obtain rfl : k = n := by omega
    have e := bX11_back_28 d (nI k) M N
    have k6 : M 46 6 = nI k := by rw [hf 46 (by decide)]; exact h6
    simp (disch := omega) only [z0, z1, z2, z3, z4, z5, z6, z7, z8, z9, z10, z11, z12, z13, z14, z15, z16, z17, z18, z19, z20, z24, z26, z30, z31, z40, z41, z50, z54, z60, z70, z80, z81, z99, z100, z200, z255, z599, z1000, z1299, z4096, z1000000, lw0, lw1, lw2, lw3, lw4, lw5, lw6, lw7, lw12, lw50, lw99, lw255, lw599, lw4096, bI_ok, ble_t, Int.cast_ofNat_Int,  decide_true, decide_false, bI_0, bI_1, b_tf, b_ft, eq_self, n_1, n_2, n_3, n_4, n_5, n_6, n_7, n_8, if_true, if_false, jin, ncl, cond_true, cond_false, Option.bind_some, j_ov, j_oi, j_ol, nle, nlt, neq, nI_add, nmul, nsub, ndiv, nrem2, if_pos, if_neg, Nat.zero_add, Nat.add_zero, j_w_ap, decide_eq_true, decide_eq_false, Bool.true_or, Bool.or_true, Bool.false_or, Bool.or_false, Bool.and_true, Bool.true_and, Bool.false_and, Bool.and_false, Bool.not_true, Bool.not_false, k6] at e
    rw [hf 46 (by decide)] at e
    refine ⟨M, e, fun q hq => ?_, h2, h3, hf⟩
    rw [h1 q hq]
    by_cases hq2 : q < 6 + k
    · rw [if_pos hq2]
    · rw [if_neg hq2]
      unfold gb'
      rw [if_neg (by omega)]
  | j + 1, k, M, hk, h1, h2, h3, hf => by
    have e := bX11_back_28 d (nI k) M N
    have k6 : M 46 6 = nI n := by rw [hf 46 (by decide)]; exact h6
    have k32 : M 46 32 = nI s := by rw [hf 46 (by decide)]; exact h32
    have k47 : M 47 (6 + k) = nI (a (6 + k)) := by rw [h1 (6 + k) (by omega), if_neg (by omega)]
    by_cases hks : k < s
    · have k62 : M 62 k = nI (gv k) := by rw [hf 62 (by decide)]; exact hg k hks
      have k63 : M 63 k = M0 63 k := by rw [hf 63 (by decide)]
      simp (disch := omega) only [z0, z1, z2, z3, z4, z5, z6, z7, z8, z9, z10, z11, z12, z13, z14, z15, z16, z17, z18, z19, z20, z24, z26, z30, z31, z40, z41, z50, z54, z60, z70, z80, z81, z99, z100, z200, z255, z599, z1000, z1299, z4096, z1000000, lw0, lw1, lw2, lw3, lw4, lw5, lw6, lw7, lw12, lw50, lw99, lw255, lw599, lw4096, bI_ok, ble_t, Int.cast_ofNat_Int,  decide_true, decide_false, bI_0, bI_1, b_tf, b_ft, eq_self, n_1, n_2, n_3, n_4, n_5, n_6, n_7, n_8, if_true, if_false, jin, ncl, cond_true, cond_false, Option.bind_some, j_ov, j_oi, j_ol, nle, nlt, neq, nI_add, nmul, nsub, ndiv, nrem2, if_pos, if_neg, Nat.zero_add, Nat.add_zero, j_w_ap, decide_eq_true, decide_eq_false, Bool.true_or, Bool.or_true, Bool.false_or, Bool.or_false, Bool.and_true, Bool.true_and, Bool.false_and, Bool.and_false, Bool.not_true, Bool.not_false, k6, k32, k62, k63] at e
      obtain ⟨M', r1, r2, r3, r4, r5⟩ := M_bk (M0 := M0) (gv := gv) hn hs h32 h6 hm hg j (k + 1) (j_w (j_w M 47 (6 + k) (nI (gv k))) 52 k (M0 63 k)) (by omega) (fun q hq => by
        rw [j_w_ap, if_neg (by omega), j_w_ap, if_pos rfl]
        by_cases hqk : q = 6 + k
        · rw [if_pos hqk, if_pos (by omega)]
          unfold gb'
          rw [if_pos (by omega), hqk, show 6 + k - 6 = k by omega]
        · rw [if_neg hqk, h1 q hq]
          by_cases hq2 : q < 6 + k
          · rw [if_pos hq2, if_pos (by omega)]
          · rw [if_neg hq2, if_neg (by omega)]) (fun i hi => by
        rw [j_w_ap, if_pos rfl]
        by_cases hik : i = k
        · rw [if_pos hik, if_pos (by omega), hik]
        · rw [if_neg hik, j_w_ap, if_neg (by omega)]; exact h2 i (by omega)) (fun i hi => by
        rw [j_w_ap, if_pos rfl, if_neg (by omega), j_w_ap, if_neg (by omega)]; exact h3 i (by omega)) (hf.tr ((Fr.w (by decide)).tr (Fr.w (by decide))))
      exact ⟨M', e.trans r1, r2, r3, r4, r5⟩
    · simp (disch := omega) only [z0, z1, z2, z3, z4, z5, z6, z7, z8, z9, z10, z11, z12, z13, z14, z15, z16, z17, z18, z19, z20, z24, z26, z30, z31, z40, z41, z50, z54, z60, z70, z80, z81, z99, z100, z200, z255, z599, z1000, z1299, z4096, z1000000, lw0, lw1, lw2, lw3, lw4, lw5, lw6, lw7, lw12, lw50, lw99, lw255, lw599, lw4096, bI_ok, ble_t, Int.cast_ofNat_Int,  decide_true, decide_false, bI_0, bI_1, b_tf, b_ft, eq_self, n_1, n_2, n_3, n_4, n_5, n_6, n_7, n_8, if_true, if_false, jin, ncl, cond_true, cond_false, Option.bind_some, j_ov, j_oi, j_ol, nle, nlt, neq, nI_add, nmul, nsub, ndiv, nrem2, if_pos, if_neg, Nat.zero_add, Nat.add_zero, j_w_ap, decide_eq_true, decide_eq_false, Bool.true_or, Bool.or_true, Bool.false_or, Bool.or_false, Bool.and_true, Bool.true_and, Bool.false_and, Bool.and_false, Bool.not_true, Bool.not_false, k6, k32, k47] at e
      obtain ⟨M', r1, r2, r3, r4, r5⟩ := M_bk (M0 := M0) (gv := gv) hn hs h32 h6 hm hg j (k + 1) (j_w (j_w M 47 (6 + k) (nI (a (6 + k)))) 52 k (nI 0)) (by omega) (fun q hq => by
        rw [j_w_ap, if_neg (by omega), j_w_ap, if_pos rfl]
        by_cases hqk : q = 6 + k
        · rw [if_pos hqk, if_pos (by omega)]
          unfold gb'
          rw [if_neg (by omega), hqk]
        · rw [if_neg hqk, h1 q hq]
          by_cases hq2 : q < 6 + k
          · rw [if_pos hq2, if_pos (by omega)]
          · rw [if_neg hq2, if_neg (by omega)]) (fun i hi => by
        rw [j_w_ap, if_pos rfl]
        by_cases hik : i = k
        · rw [if_pos hik, if_neg (by omega)]
        · rw [if_neg hik, j_w_ap, if_neg (by omega)]; exact h2 i (by omega)) (fun i hi => by
        rw [j_w_ap, if_pos rfl, if_neg (by omega), j_w_ap, if_neg (by omega)]; exact h3 i (by omega)) (hf.tr ((Fr.w (by decide)).tr (Fr.w (by decide))))
      exact ⟨M', e.trans r1, r2, r3, r4, r5⟩
theorem P_back : OpI 134 223 [] := by
  intro d M N hd hI
  obtain ⟨n, a, m, pr, jo, nb, h1, h2, h3, h4, h5, h6, h7, h8⟩ := hI
  have hn := h1.n6
  have hx6 := h1.x6
  have hm6 := h1.m6
  have e1 := bX10_back_0 (d - 1) M N
  rcases h6 with ⟨i1, i2⟩ | ⟨i1, i2, s, i3, i4, i5, i6, i7, i8, i9⟩
  · have e2 := bX11_back_0 (d - 1) M N
    simp (disch := omega) only [z0, z1, z2, z3, z4, z5, z6, z7, z8, z9, z10, z11, z12, z13, z14, z15, z16, z17, z18, z19, z20, z24, z26, z30, z31, z40, z41, z50, z54, z60, z70, z80, z81, z99, z100, z200, z255, z599, z1000, z1299, z4096, z1000000, lw0, lw1, lw2, lw3, lw4, lw5, lw6, lw7, lw12, lw50, lw99, lw255, lw599, lw4096, bI_ok, ble_t, Int.cast_ofNat_Int,  decide_true, decide_false, bI_0, bI_1, b_tf, b_ft, eq_self, n_1, n_2, n_3, n_4, n_5, n_6, n_7, n_8, if_true, if_false, jin, ncl, cond_true, cond_false, Option.bind_some, j_ov, j_oi, j_ol, nle, nlt, neq, nI_add, nmul, nsub, ndiv, nrem2, if_pos, if_neg, Nat.zero_add, Nat.add_zero, j_w_ap, decide_eq_true, decide_eq_false, Bool.true_or, Bool.or_true, Bool.false_or, Bool.or_false, Bool.and_true, Bool.true_and, Bool.false_and, Bool.and_false, Bool.not_true, Bool.not_false, i1] at e1
    simp (disch := omega) only [z0, z1, z2, z3, z4, z5, z6, z7, z8, z9, z10, z11, z12, z13, z14, z15, z16, z17, z18, z19, z20, z24, z26, z30, z31, z40, z41, z50, z54, z60, z70, z80, z81, z99, z100, z200, z255, z599, z1000, z1299, z4096, z1000000, lw0, lw1, lw2, lw3, lw4, lw5, lw6, lw7, lw12, lw50, lw99, lw255, lw599, lw4096, bI_ok, ble_t, Int.cast_ofNat_Int,  decide_true, decide_false, bI_0, bI_1, b_tf, b_ft, eq_self, n_1, n_2, n_3, n_4, n_5, n_6, n_7, n_8, if_true, if_false, jin, ncl, cond_true, cond_false, Option.bind_some, j_ov, j_oi, j_ol, nle, nlt, neq, nI_add, nmul, nsub, ndiv, nrem2, if_pos, if_neg, Nat.zero_add, Nat.add_zero, j_w_ap, decide_eq_true, decide_eq_false, Bool.true_or, Bool.or_true, Bool.false_or, Bool.or_false, Bool.and_true, Bool.true_and, Bool.false_and, Bool.and_false, Bool.not_true, Bool.not_false, i2] at e2
    exact ⟨_, _, _, _, _, eX10_back (by omega) e1, eX11_back (by omega) e2, n, a, m, pr, jo, nb, h1, h2, h3, h4, h5, Or.inl ⟨i1, i2⟩, h7, h8⟩
  · obtain ⟨F, f1, f2, f3⟩ := X_fill (d := d - 1 - 1) (M := j_w (j_w M 1 11 (M 27 3)) 1 10 (M 27 4)) (N := N) (nI 0) (by omega)
    have F27 : ∀ k, F 27 k = M 27 k := fun k => by rw [f3 27 (by decide)]; simp only [j_w_ap]; rfl
    have e0 := bX8_layBack_0 (d - 1 - 1) M N
    have F272 : F 27 2 = nI s := by rw [F27]; exact i4
    simp (disch := omega) only [z0, z1, z2, z3, z4, z5, z6, z7, z8, z9, z10, z11, z12, z13, z14, z15, z16, z17, z18, z19, z20, z24, z26, z30, z31, z40, z41, z50, z54, z60, z70, z80, z81, z99, z100, z200, z255, z599, z1000, z1299, z4096, z1000000, lw0, lw1, lw2, lw3, lw4, lw5, lw6, lw7, lw12, lw50, lw99, lw255, lw599, lw4096, bI_ok, ble_t, Int.cast_ofNat_Int,  decide_true, decide_false, bI_0, bI_1, b_tf, b_ft, eq_self, n_1, n_2, n_3, n_4, n_5, n_6, n_7, n_8, if_true, if_false, jin, ncl, cond_true, cond_false, Option.bind_some, j_ov, j_oi, j_ol, nle, nlt, neq, nI_add, nmul, nsub, ndiv, nrem2, if_pos, if_neg, Nat.zero_add, Nat.add_zero, j_w_ap, decide_eq_true, decide_eq_false, Bool.true_or, Bool.or_true, Bool.false_or, Bool.or_false, Bool.and_true, Bool.true_and, Bool.false_and, Bool.and_false, Bool.not_true, Bool.not_false, f1, F272] at e0
    have q := eX8_layBack (d := d - 1) (by omega) e0
    generalize hA : j_row (j_row F 3 (va_cpy (F 28) (F 3) 0 0 s)) 7 (va_cpy (j_row F 3 (va_cpy (F 28) (F 3) 0 0 s) 29) (j_row F 3 (va_cpy (F 28) (F 3) 0 0 s) 7) 0 0 s) = A at q
    have fF : Fg [1, 2] M F := fun c k z1 z2 => by
      rw [f3 c (fun z => by rw [List.mem_singleton] at z; rw [z] at z2; cases z2)]
      exact ((Fg.w (gs := [1, 2]) rfl).tr (Fg.w rfl)) c k z1 z2
    have fA : Fg [1, 2] M A := by
      rw [← hA]
      exact fF.tr ((Fg.row (fun _ => rfl)).tr (Fg.row (fun _ => rfl)))
    have A111 : A 1 11 = M 27 3 := by rw [← hA]; simp only [j_row_ap]; rw [if_neg (by omega), if_neg (by omega), f3 1 (by decide)]; simp (disch := omega) only [z0, z1, z2, z3, z4, z5, z6, z7, z8, z9, z10, z11, z12, z13, z14, z15, z16, z17, z18, z19, z20, z24, z26, z30, z31, z40, z41, z50, z54, z60, z70, z80, z81, z99, z100, z200, z255, z599, z1000, z1299, z4096, z1000000, lw0, lw1, lw2, lw3, lw4, lw5, lw6, lw7, lw12, lw50, lw99, lw255, lw599, lw4096, bI_ok, ble_t, Int.cast_ofNat_Int,  decide_true, decide_false, bI_0, bI_1, b_tf, b_ft, eq_self, n_1, n_2, n_3, n_4, n_5, n_6, n_7, n_8, if_true, if_false, jin, ncl, cond_true, cond_false, Option.bind_some, j_ov, j_oi, j_ol, nle, nlt, neq, nI_add, nmul, nsub, ndiv, nrem2, if_pos, if_neg, Nat.zero_add, Nat.add_zero, j_w_ap, decide_eq_true, decide_eq_false, Bool.true_or, Bool.or_true, Bool.false_or, Bool.or_false, Bool.and_true, Bool.true_and, Bool.false_and, Bool.and_false, Bool.not_true, Bool.not_false]
    have A110 : A 1 10 = M 27 4 := by rw [← hA]; simp only [j_row_ap]; rw [if_neg (by omega), if_neg (by omega), f3 1 (by decide)]; simp (disch := omega) only [z0, z1, z2, z3, z4, z5, z6, z7, z8, z9, z10, z11, z12, z13, z14, z15, z16, z17, z18, z19, z20, z24, z26, z30, z31, z40, z41, z50, z54, z60, z70, z80, z81, z99, z100, z200, z255, z599, z1000, z1299, z4096, z1000000, lw0, lw1, lw2, lw3, lw4, lw5, lw6, lw7, lw12, lw50, lw99, lw255, lw599, lw4096, bI_ok, ble_t, Int.cast_ofNat_Int,  decide_true, decide_false, bI_0, bI_1, b_tf, b_ft, eq_self, n_1, n_2, n_3, n_4, n_5, n_6, n_7, n_8, if_true, if_false, jin, ncl, cond_true, cond_false, Option.bind_some, j_ov, j_oi, j_ol, nle, nlt, neq, nI_add, nmul, nsub, ndiv, nrem2, if_pos, if_neg, Nat.zero_add, Nat.add_zero, j_w_ap, decide_eq_true, decide_eq_false, Bool.true_or, Bool.or_true, Bool.false_or, Bool.or_false, Bool.and_true, Bool.true_and, Bool.false_and, Bool.and_false, Bool.not_true, Bool.not_false]
    have Aoff : ∀ c k, c ≠ 1 → c ≠ 3 → c ≠ 7 → A c k = M c k := fun c k z1 z2 z3 => by
      rw [← hA, j_row_ap, if_neg z3, j_row_ap, if_neg z2, f3 c (fun z => z3 (List.mem_singleton.mp z)), j_w_ap, if_neg z1, j_w_ap, if_neg z1]
    have A1 : ∀ k, k ≠ 10 → k ≠ 11 → A 1 k = M 1 k := fun k z1 z2 => by
      rw [← hA, j_row_ap, if_neg (by omega), j_row_ap, if_neg (by omega), f3 1 (by decide), j_w_ap, if_pos rfl, if_neg z1, j_w_ap, if_pos rfl, if_neg z2]
    have A3 : ∀ i, i < 6 → A 3 i = if i < s then M 28 i else M 3 i := fun i hi => by
      rw [← hA, j_row_ap, if_neg (by omega), j_row_ap, if_pos rfl]
      by_cases his : i < s
      · rw [if_pos his, pk_cpy_in (by omega) (by omega), Nat.zero_add, Nat.sub_zero, f3 28 (by decide)]; simp only [j_w_ap]; rfl
      · rw [if_neg his, pk_cpy_out (by omega), f3 3 (by decide)]; simp only [j_w_ap]; rfl
    have A7 : ∀ i, i < 6 → A 7 i = if i < s then M 29 i else nI 0 := fun i hi => by
      rw [← hA, j_row_ap, if_pos rfl]
      by_cases his : i < s
      · rw [if_pos his, pk_cpy_in (by omega) (by omega), Nat.zero_add, Nat.sub_zero, j_row_ap, if_neg (by omega), f3 29 (by decide)]; simp only [j_w_ap]; rfl
      · rw [if_neg his, pk_cpy_out (by omega), j_row_ap, if_neg (by omega)]; exact f2 i hi
    simp (disch := omega) only [z0, z1, z2, z3, z4, z5, z6, z7, z8, z9, z10, z11, z12, z13, z14, z15, z16, z17, z18, z19, z20, z24, z26, z30, z31, z40, z41, z50, z54, z60, z70, z80, z81, z99, z100, z200, z255, z599, z1000, z1299, z4096, z1000000, lw0, lw1, lw2, lw3, lw4, lw5, lw6, lw7, lw12, lw50, lw99, lw255, lw599, lw4096, bI_ok, ble_t, Int.cast_ofNat_Int,  decide_true, decide_false, bI_0, bI_1, b_tf, b_ft, eq_self, n_1, n_2, n_3, n_4, n_5, n_6, n_7, n_8, if_true, if_false, jin, ncl, cond_true, cond_false, Option.bind_some, j_ov, j_oi, j_ol, nle, nlt, neq, nI_add, nmul, nsub, ndiv, nrem2, if_pos, if_neg, Nat.zero_add, Nat.add_zero, j_w_ap, decide_eq_true, decide_eq_false, Bool.true_or, Bool.or_true, Bool.false_or, Bool.or_false, Bool.and_true, Bool.true_and, Bool.false_and, Bool.and_false, Bool.not_true, Bool.not_false, i1, q, A111] at e1
    -- the reference
    let gv : Nat → Nat := fun i => (M 28 i).toNatClampNeg
    have hgv : ∀ i, i < s → gv i ≤ 99 ∧ M 28 i = nI (gv i) ∧ M 62 i = nI (gv i) := fun i hi => by
      obtain ⟨v, k1, k2, k3⟩ := i8 i hi
      have : gv i = v := by show (M 28 i).toNatClampNeg = v; rw [k2, ncl (by omega)]
      rw [this]
      exact ⟨k1, k2, k3⟩
    have e2 := bX11_back_0 (d - 1) A N
    have A31 : A 46 31 = nI 1 := by rw [Aoff 46 31 (by omega) (by omega) (by omega)]; exact i2
    simp (disch := omega) only [z0, z1, z2, z3, z4, z5, z6, z7, z8, z9, z10, z11, z12, z13, z14, z15, z16, z17, z18, z19, z20, z24, z26, z30, z31, z40, z41, z50, z54, z60, z70, z80, z81, z99, z100, z200, z255, z599, z1000, z1299, z4096, z1000000, lw0, lw1, lw2, lw3, lw4, lw5, lw6, lw7, lw12, lw50, lw99, lw255, lw599, lw4096, bI_ok, ble_t, Int.cast_ofNat_Int,  decide_true, decide_false, bI_0, bI_1, b_tf, b_ft, eq_self, n_1, n_2, n_3, n_4, n_5, n_6, n_7, n_8, if_true, if_false, jin, ncl, cond_true, cond_false, Option.bind_some, j_ov, j_oi, j_ol, nle, nlt, neq, nI_add, nmul, nsub, ndiv, nrem2, if_pos, if_neg, Nat.zero_add, Nat.add_zero, j_w_ap, decide_eq_true, decide_eq_false, Bool.true_or, Bool.or_true, Bool.false_or, Bool.or_false, Bool.and_true, Bool.true_and, Bool.false_and, Bool.and_false, Bool.not_true, Bool.not_false, A31] at e2
    generalize hB : j_w (j_w A 46 9 (A 46 33)) 46 10 (A 46 34) = B at e2
    have Boff : ∀ c k, c ≠ 46 → B c k = A c k := fun c k z => by rw [← hB, j_w_ap, if_neg z, j_w_ap, if_neg z]
    have B46 : ∀ k, k ≠ 9 → k ≠ 10 → B 46 k = A 46 k := fun k z1 z2 => by rw [← hB, j_w_ap, if_pos rfl, if_neg z2, j_w_ap, if_pos rfl, if_neg z1]
    have B9 : B 46 9 = M 46 33 := by rw [← hB]; simp (disch := omega) only [z0, z1, z2, z3, z4, z5, z6, z7, z8, z9, z10, z11, z12, z13, z14, z15, z16, z17, z18, z19, z20, z24, z26, z30, z31, z40, z41, z50, z54, z60, z70, z80, z81, z99, z100, z200, z255, z599, z1000, z1299, z4096, z1000000, lw0, lw1, lw2, lw3, lw4, lw5, lw6, lw7, lw12, lw50, lw99, lw255, lw599, lw4096, bI_ok, ble_t, Int.cast_ofNat_Int,  decide_true, decide_false, bI_0, bI_1, b_tf, b_ft, eq_self, n_1, n_2, n_3, n_4, n_5, n_6, n_7, n_8, if_true, if_false, jin, ncl, cond_true, cond_false, Option.bind_some, j_ov, j_oi, j_ol, nle, nlt, neq, nI_add, nmul, nsub, ndiv, nrem2, if_pos, if_neg, Nat.zero_add, Nat.add_zero, j_w_ap, decide_eq_true, decide_eq_false, Bool.true_or, Bool.or_true, Bool.false_or, Bool.or_false, Bool.and_true, Bool.true_and, Bool.false_and, Bool.and_false, Bool.not_true, Bool.not_false]; exact Aoff 46 33 (by omega) (by omega) (by omega)
    have B10 : B 46 10 = M 46 34 := by rw [← hB]; simp (disch := omega) only [z0, z1, z2, z3, z4, z5, z6, z7, z8, z9, z10, z11, z12, z13, z14, z15, z16, z17, z18, z19, z20, z24, z26, z30, z31, z40, z41, z50, z54, z60, z70, z80, z81, z99, z100, z200, z255, z599, z1000, z1299, z4096, z1000000, lw0, lw1, lw2, lw3, lw4, lw5, lw6, lw7, lw12, lw50, lw99, lw255, lw599, lw4096, bI_ok, ble_t, Int.cast_ofNat_Int,  decide_true, decide_false, bI_0, bI_1, b_tf, b_ft, eq_self, n_1, n_2, n_3, n_4, n_5, n_6, n_7, n_8, if_true, if_false, jin, ncl, cond_true, cond_false, Option.bind_some, j_ov, j_oi, j_ol, nle, nlt, neq, nI_add, nmul, nsub, ndiv, nrem2, if_pos, if_neg, Nat.zero_add, Nat.add_zero, j_w_ap, decide_eq_true, decide_eq_false, Bool.true_or, Bool.or_true, Bool.false_or, Bool.or_false, Bool.and_true, Bool.true_and, Bool.false_and, Bool.and_false, Bool.not_true, Bool.not_false]; exact Aoff 46 34 (by omega) (by omega) (by omega)
    have BM : ∀ c k, c ≠ 46 → c ≠ 1 → c ≠ 3 → c ≠ 7 → B c k = M c k := fun c k z1 z2 z3 z4 => by rw [Boff c k z1, Aoff c k z2 z3 z4]
    obtain ⟨E, r1, r2, r3, r4, r5⟩ := M_bk (d := d - 1) (N := N) (M0 := B) (a := a) (gv := gv) hn i3 (by rw [B46 32 (by omega) (by omega), Aoff 46 32 (by omega) (by omega) (by omega)]; exact i5) (by rw [B46 6 (by omega) (by omega), Aoff 46 6 (by omega) (by omega) (by omega)]; exact hm6) (fun k hk => by rw [BM 47 k (by omega) (by omega) (by omega) (by omega)]; exact h1.may k hk) (fun i hi => by rw [BM 62 i (by omega) (by omega) (by omega) (by omega)]; exact (hgv i hi).2.2) n 0 B (by omega) (fun q hq => by
      rw [BM 47 q (by omega) (by omega) (by omega) (by omega), h1.may q hq]
      unfold gb'
      by_cases hq2 : q < 6 + 0
      · rw [if_pos hq2, if_neg (by omega)]
      · rw [if_neg hq2]) (fun i hi => by omega) (fun i hi => rfl) Fr.rf
    rw [B9, ← i6] at r1
    have fE : Fg [1, 2] A E := fun c k z1 z2 => by
      rw [r5 c (fun z => by
        simp only [List.mem_cons, List.not_mem_nil, or_false] at z
        rcases z with rfl | rfl <;> cases z2), ← hB]
      exact ((Fg.w (gs := [1, 2]) rfl).tr (Fg.w rfl)) c k z1 z2
    have hf := fA.tr fE
    have E46 : ∀ k, E 46 k = B 46 k := fun k => by rw [r5 46 (by decide)]
    have EA : ∀ c k, c ≠ 46 → c ≠ 47 → c ≠ 52 → E c k = A c k := fun c k z1 z2 z3 => by
      rw [r5 c (fun z => by
        simp only [List.mem_cons, List.not_mem_nil, or_false] at z
        rcases z with rfl | rfl
        · exact z2 rfl
        · exact z3 rfl), Boff c k z1]
    have gbn : ∀ k, k < 6 ∨ 6 + s ≤ k → gb' a s gv k = a k := fun k hk => by unfold gb'; rw [if_neg (by omega)]
    have gbg : ∀ i, i < s → gb' a s gv (6 + i) = gv i := fun i hi => by unfold gb'; rw [if_pos (by omega), show 6 + i - 6 = i by omega]
    refine ⟨_, _, _, _, _, eX10_back (by omega) e1, eX11_back (by omega) (e2.trans r1), n, gb' a s gv, m, pr, jo, nb, ⟨hn, fun k hk => ?_, ?_, ?_, ?_, r2, fun i hi => ?_, fun i hi => ?_, fun i hi => ?_, fun i hi => ?_, ?_, ?_, ?_, fun i hi hi2 => ?_⟩, ?_, h3.g (hf.sg (by decide) rfl), h4.g (hf.sg (by decide) rfl), h5.g (hf.sg (by decide) rfl), II.g (Or.inr ⟨i1, i2, s, i3, i4, i5, i6, i7, i8, i9⟩) (hf.sg (by decide) rfl), h7.g (hf.sg (by decide) rfl), h8.g (hf.sg (by decide) rfl)⟩
    · unfold gb'
      split
      · rename_i hc
        unfold Rg
        rw [if_pos (by omega)]
        exact (hgv (k - 6) (by omega)).1
      · exact h1.rg k hk
    · rw [gbn 26 (by omega)]; exact h1.st1
    · rw [EA 1 6 (by omega) (by omega) (by omega), A1 6 (by omega) (by omega)]; exact hx6
    · rw [E46, B46 6 (by omega) (by omega), Aoff 46 6 (by omega) (by omega) (by omega)]; exact hm6
    · rw [EA 2 i (by omega) (by omega) (by omega), Aoff 2 i (by omega) (by omega) (by omega), gbn i (by omega)]; exact h1.pu i hi
    · rw [EA 3 i (by omega) (by omega) (by omega), A3 i hi]
      by_cases his : i < s
      · rw [if_pos his, gbg i his]; exact (hgv i his).2.1
      · rw [if_neg his, gbn (6 + i) (by omega)]; exact h1.gi i hi
    · rw [EA 4 i (by omega) (by omega) (by omega), Aoff 4 i (by omega) (by omega) (by omega), gbn (12 + i) (by omega)]; exact h1.od i hi
    · rw [EA 5 i (by omega) (by omega) (by omega), Aoff 5 i (by omega) (by omega) (by omega), gbn (18 + i) (by omega)]; exact h1.el i hi
    · rw [EA 1 7 (by omega) (by omega) (by omega), A1 7 (by omega) (by omega), gbn 24 (by omega)]; exact h1.bi
    · rw [EA 1 8 (by omega) (by omega) (by omega), A1 8 (by omega) (by omega), gbn 25 (by omega)]; exact h1.ru
    · rw [EA 1 9 (by omega) (by omega) (by omega), A1 9 (by omega) (by omega), gbn 26 (by omega)]; exact h1.st
    · rw [gbn (6 + i) (by omega)]; exact h1.gz i hi hi2
    · obtain ⟨u1, u2, u3, u4, u5, u6⟩ := h2
      refine ⟨fun i hi => ?_, fun i hi hi2 => ?_, fun i hi => ?_, fun i hi hi2 => ?_, ?_, ?_⟩
      · rw [EA 6 i (by omega) (by omega) (by omega), Aoff 6 i (by omega) (by omega) (by omega), EA 51 i (by omega) (by omega) (by omega), Aoff 51 i (by omega) (by omega) (by omega)]
        exact u1 i hi
      · rw [EA 51 i (by omega) (by omega) (by omega), Aoff 51 i (by omega) (by omega) (by omega)]
        exact u2 i hi hi2
      · rw [EA 7 i (by omega) (by omega) (by omega), A7 i hi]
        by_cases hin : i < n
        · rw [r3 i hin]
          by_cases his : i < s
          · rw [if_pos his, if_pos his, BM 63 i (by omega) (by omega) (by omega) (by omega)]; exact i9 i his
          · rw [if_neg his, if_neg his]
        · rw [if_neg (by omega), r4 i (by omega), BM 52 i (by omega) (by omega) (by omega) (by omega)]
          exact (u4 i (by omega) hi).symm
      · rw [r4 i hi, BM 52 i (by omega) (by omega) (by omega) (by omega)]; exact u4 i hi hi2
      · rw [EA 1 10 (by omega) (by omega) (by omega), A110, E46, B10]; exact i7
      · rw [EA 1 11 (by omega) (by omega) (by omega), A111, E46, B9]; exact i6
end OF
