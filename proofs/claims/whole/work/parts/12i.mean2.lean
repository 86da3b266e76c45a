/-! ===== means, by chances (own text) ===== -/
section MC
variable {d n bill rule p v s : Nat} {g a : Nat → Nat} {M : j_M} {N : j_N} {x y : Int32}
theorem bt01 {s i : Nat} : bt s i = 0 ∨ bt s i = 1 := by
  have : bt s i < 2 := Nat.mod_lt _ (by omega)
  omega
theorem hatL.up9 {i w : Nat} (h : hatL n g bill rule M) : hatL n (up g i w) bill rule (j_w M 9 i (nI w)) := h.w
theorem X_lbc_l (hp : p < n) (hs : s < 64) : ∀ (j k : Nat) (gg : Nat → Nat) (M : j_M), k + j = n → IG n a M → hatL n gg bill rule M → (∀ q, q < n → gg q ≤ 99) → (∀ i, i < k → i ≠ p → gg i = gs a s i) → ∃ M' gg', R d kX6_layByChance 5 [.ref 10, .int (nI s), .int (nI p), .long (lN (wgt a s p k)), .null, .int (nI k), .null] [] (S0, M, N) = some (some (.long (lN (wgt a s p n))), (S0, M', N)) ∧ hatL n gg' bill rule M' ∧ (∀ q, q < n → gg' q ≤ 99) ∧ (wgt a s p n ≠ 0 → ∀ i, i < n → i ≠ p → gg' i = gs a s i) ∧ Scr M M'
  | 0, k, gg, M, hk, h, hl, hg, he => by
    have hn := h.n6
    obtain rfl : k = n := by omega
    have e := bX6_layByChance_5 d (nI s) (nI p) (lN (wgt a s p k)) (nI k) M N
    have hx := h.x6
    simp (disch := omega) only [z0, z1, z2, z3, z4, z5, z6, z7, z8, z9, z10, z11, z12, z13, z14, z15, z16, z17, z18, z19, z20, z24, z26, z30, z31, z40, z41, z50, z54, z60, z70, z80, z81, z99, z100, z200, z255, z599, z1000, z1299, z4096, z1000000, lw0, lw1, lw2, lw3, lw4, lw5, lw6, lw7, lw12, lw50, lw99, lw255, lw599, lw4096, bI_ok, ble_t, Int.cast_ofNat_Int,  decide_true, decide_false, bI_0, bI_1, b_tf, b_ft, eq_self, n_1, n_2, n_3, n_4, n_5, n_6, n_7, n_8, if_true, if_false, jin, ncl, cond_true, cond_false, Option.bind_some, j_ov, j_oi, j_ol, nle, nlt, neq, nI_add, nmul, nsub, ndiv, nrem2, if_pos, if_neg, Nat.zero_add, Nat.add_zero, j_w_ap, decide_eq_true, decide_eq_false, Bool.true_or, Bool.or_true, Bool.false_or, Bool.or_false, Bool.and_true, Bool.true_and, Bool.false_and, Bool.and_false, Bool.not_true, Bool.not_false, hx] at e
    exact ⟨M, gg, e, hl, hg, fun _ => he, Scr.rf⟩
  | j + 1, k, gg, M, hk, h, hl, hg, he => by
    have hn := h.n6
    have hx := h.x6
    have hod := h.od
    have hel := h.el
    have hgi := h.gi
    have h12 := h.od12 k (by omega)
    have e := bX6_layByChance_5 d (nI s) (nI p) (lN (wgt a s p k)) (nI k) M N
    have hw1 := wgt_le (a := a) (s := s) (p := p) (k := k) (fun i hi => h.od12 i (by omega))
    have hw2 : 12 ^ k ≤ 12 ^ 6 := Nat.pow_le_pow_right (by omega) (by omega)
    have hw3 : wgt a s p k ≤ 2985984 := Nat.le_trans hw1 hw2
    by_cases hw0 : wgt a s p k = 0
    · have hwn := wgt_0 hw0 (j + 1)
      rw [hk] at hwn
      rw [hw0] at e
      simp (disch := omega) only [z0, z1, z2, z3, z4, z5, z6, z7, z8, z9, z10, z11, z12, z13, z14, z15, z16, z17, z18, z19, z20, z24, z26, z30, z31, z40, z41, z50, z54, z60, z70, z80, z81, z99, z100, z200, z255, z599, z1000, z1299, z4096, z1000000, lw0, lw1, lw2, lw3, lw4, lw5, lw6, lw7, lw12, lw50, lw99, lw255, lw599, lw4096, bI_ok, ble_t, Int.cast_ofNat_Int,  decide_true, decide_false, bI_0, bI_1, b_tf, b_ft, eq_self, n_1, n_2, n_3, n_4, n_5, n_6, n_7, n_8, if_true, if_false, jin, ncl, cond_true, cond_false, Option.bind_some, j_ov, j_oi, j_ol, nle, nlt, neq, nI_add, nmul, nsub, ndiv, nrem2, if_pos, if_neg, Nat.zero_add, Nat.add_zero, j_w_ap, decide_eq_true, decide_eq_false, Bool.true_or, Bool.or_true, Bool.false_or, Bool.or_false, Bool.and_true, Bool.true_and, Bool.false_and, Bool.and_false, Bool.not_true, Bool.not_false, hx, lgc_eq] at e
      rw [hw0, hwn]
      exact ⟨M, gg, e, hl, hg, fun z => absurd rfl z, Scr.rf⟩
    · have hbit := bitI (s := s) (i := k) (by omega) (by omega)
      by_cases hkp : k = p
      · simp (disch := omega) only [z0, z1, z2, z3, z4, z5, z6, z7, z8, z9, z10, z11, z12, z13, z14, z15, z16, z17, z18, z19, z20, z24, z26, z30, z31, z40, z41, z50, z54, z60, z70, z80, z81, z99, z100, z200, z255, z599, z1000, z1299, z4096, z1000000, lw0, lw1, lw2, lw3, lw4, lw5, lw6, lw7, lw12, lw50, lw99, lw255, lw599, lw4096, bI_ok, ble_t, Int.cast_ofNat_Int,  decide_true, decide_false, bI_0, bI_1, b_tf, b_ft, eq_self, n_1, n_2, n_3, n_4, n_5, n_6, n_7, n_8, if_true, if_false, jin, ncl, cond_true, cond_false, Option.bind_some, j_ov, j_oi, j_ol, nle, nlt, neq, nI_add, nmul, nsub, ndiv, nrem2, if_pos, if_neg, Nat.zero_add, Nat.add_zero, j_w_ap, decide_eq_true, decide_eq_false, Bool.true_or, Bool.or_true, Bool.false_or, Bool.or_false, Bool.and_true, Bool.true_and, Bool.false_and, Bool.and_false, Bool.not_true, Bool.not_false, hx, lgc_eq, leq] at e
        obtain ⟨M', gg', r1, r2, r3, r4, r5⟩ := X_lbc_l hp hs j (k + 1) gg M (by omega) h hl hg (fun i hi hip => he i (by omega) hip)
        rw [show wgt a s p (k + 1) = wgt a s p k by rw [wgt, if_pos hkp, Nat.mul_one]] at r1
        exact ⟨M', gg', e.trans r1, r2, r3, r4, r5⟩
      · have step : ∀ (b x6 : Nat), wgt a s p (k + 1) = wgt a s p k * b → b ≤ 12 → gs a s k = x6 → x6 ≤ 99 → R d kX6_layByChance 5 [.ref 10, .int (nI s), .int (nI p), .long (lN (wgt a s p k)), .null, .int (nI k), .null] [] (S0, M, N) = R d kX6_layByChance 5 [.ref 10, .int (nI s), .int (nI p), .long (lN (wgt a s p k * b)), .null, .int (nI (k + 1)), .null] [] (S0, j_w M 9 k (nI x6), N) → ∃ M' gg', R d kX6_layByChance 5 [.ref 10, .int (nI s), .int (nI p), .long (lN (wgt a s p k)), .null, .int (nI k), .null] [] (S0, M, N) = some (some (.long (lN (wgt a s p n))), (S0, M', N)) ∧ hatL n gg' bill rule M' ∧ (∀ q, q < n → gg' q ≤ 99) ∧ (wgt a s p n ≠ 0 → ∀ i, i < n → i ≠ p → gg' i = gs a s i) ∧ Scr M M' := by
          intro b x6 hb hb12 hx6 hx99 hr
          obtain ⟨M', gg', r1, r2, r3, r4, r5⟩ := X_lbc_l hp hs j (k + 1) (up gg k x6) (j_w M 9 k (nI x6)) (by omega) (h.scr (Scr.w rfl)) hl.w (up_le hg hx99) (fun i hi hip => by
            unfold up
            by_cases hik : i = k
            · rw [if_pos hik, hik, hx6]
            · rw [if_neg hik]; exact he i (by omega) hip)
          rw [hb] at r1
          exact ⟨M', gg', hr.trans r1, r2, r3, r4, (Scr.w rfl).tr r5⟩
        rcases bt01 (s := s) (i := k) with hb | hb
        · refine step (12 - a (12 + k)) (a (6 + k)) ?_ (by omega) ?_ (h.gi99 k (by omega)) ?_
          · rw [wgt, if_neg hkp, if_neg (by omega)]
          · unfold gs; rw [if_neg (by omega)]
          · unfold bt at hb
            rw [hb] at hbit
            simp (disch := omega) only [z0, z1, z2, z3, z4, z5, z6, z7, z8, z9, z10, z11, z12, z13, z14, z15, z16, z17, z18, z19, z20, z24, z26, z30, z31, z40, z41, z50, z54, z60, z70, z80, z81, z99, z100, z200, z255, z599, z1000, z1299, z4096, z1000000, lw0, lw1, lw2, lw3, lw4, lw5, lw6, lw7, lw12, lw50, lw99, lw255, lw599, lw4096, bI_ok, ble_t, Int.cast_ofNat_Int,  decide_true, decide_false, bI_0, bI_1, b_tf, b_ft, eq_self, n_1, n_2, n_3, n_4, n_5, n_6, n_7, n_8, if_true, if_false, jin, ncl, cond_true, cond_false, Option.bind_some, j_ov, j_oi, j_ol, nle, nlt, neq, nI_add, nmul, nsub, ndiv, nrem2, if_pos, if_neg, Nat.zero_add, Nat.add_zero, j_w_ap, decide_eq_true, decide_eq_false, Bool.true_or, Bool.or_true, Bool.false_or, Bool.or_false, Bool.and_true, Bool.true_and, Bool.false_and, Bool.and_false, Bool.not_true, Bool.not_false, hx, lgc_eq, leq, hbit, hgi] at e
            have e2 := bX6_layByChance_83 d (nI s) (nI p) (lN (wgt a s p k)) (nI k) (nI 0) (nI k) (nI (a (6 + k))) M N
            simp (disch := omega) only [z0, z1, z2, z3, z4, z5, z6, z7, z8, z9, z10, z11, z12, z13, z14, z15, z16, z17, z18, z19, z20, z24, z26, z30, z31, z40, z41, z50, z54, z60, z70, z80, z81, z99, z100, z200, z255, z599, z1000, z1299, z4096, z1000000, lw0, lw1, lw2, lw3, lw4, lw5, lw6, lw7, lw12, lw50, lw99, lw255, lw599, lw4096, bI_ok, ble_t, Int.cast_ofNat_Int,  decide_true, decide_false, bI_0, bI_1, b_tf, b_ft, eq_self, n_1, n_2, n_3, n_4, n_5, n_6, n_7, n_8, if_true, if_false, jin, ncl, cond_true, cond_false, Option.bind_some, j_ov, j_oi, j_ol, nle, nlt, neq, nI_add, nmul, nsub, ndiv, nrem2, if_pos, if_neg, Nat.zero_add, Nat.add_zero, j_w_ap, decide_eq_true, decide_eq_false, Bool.true_or, Bool.or_true, Bool.false_or, Bool.or_false, Bool.and_true, Bool.true_and, Bool.false_and, Bool.and_false, Bool.not_true, Bool.not_false, hod, nI_l, lN_mul] at e2
            exact e.trans e2
        · refine step (a (12 + k)) (a (18 + k)) ?_ (by omega) ?_ (h.el99 k (by omega)) ?_
          · rw [wgt, if_neg hkp, if_pos hb]
          · unfold gs; rw [if_pos hb]
          · unfold bt at hb
            rw [hb] at hbit
            simp (disch := omega) only [z0, z1, z2, z3, z4, z5, z6, z7, z8, z9, z10, z11, z12, z13, z14, z15, z16, z17, z18, z19, z20, z24, z26, z30, z31, z40, z41, z50, z54, z60, z70, z80, z81, z99, z100, z200, z255, z599, z1000, z1299, z4096, z1000000, lw0, lw1, lw2, lw3, lw4, lw5, lw6, lw7, lw12, lw50, lw99, lw255, lw599, lw4096, bI_ok, ble_t, Int.cast_ofNat_Int,  decide_true, decide_false, bI_0, bI_1, b_tf, b_ft, eq_self, n_1, n_2, n_3, n_4, n_5, n_6, n_7, n_8, if_true, if_false, jin, ncl, cond_true, cond_false, Option.bind_some, j_ov, j_oi, j_ol, nle, nlt, neq, nI_add, nmul, nsub, ndiv, nrem2, if_pos, if_neg, Nat.zero_add, Nat.add_zero, j_w_ap, decide_eq_true, decide_eq_false, Bool.true_or, Bool.or_true, Bool.false_or, Bool.or_false, Bool.and_true, Bool.true_and, Bool.false_and, Bool.and_false, Bool.not_true, Bool.not_false, hx, lgc_eq, leq, hbit, hel] at e
            have e2 := bX6_layByChance_83 d (nI s) (nI p) (lN (wgt a s p k)) (nI k) (nI 1) (nI k) (nI (a (18 + k))) M N
            simp (disch := omega) only [z0, z1, z2, z3, z4, z5, z6, z7, z8, z9, z10, z11, z12, z13, z14, z15, z16, z17, z18, z19, z20, z24, z26, z30, z31, z40, z41, z50, z54, z60, z70, z80, z81, z99, z100, z200, z255, z599, z1000, z1299, z4096, z1000000, lw0, lw1, lw2, lw3, lw4, lw5, lw6, lw7, lw12, lw50, lw99, lw255, lw599, lw4096, bI_ok, ble_t, Int.cast_ofNat_Int,  decide_true, decide_false, bI_0, bI_1, b_tf, b_ft, eq_self, n_1, n_2, n_3, n_4, n_5, n_6, n_7, n_8, if_true, if_false, jin, ncl, cond_true, cond_false, Option.bind_some, j_ov, j_oi, j_ol, nle, nlt, neq, nI_add, nmul, nsub, ndiv, nrem2, if_pos, if_neg, Nat.zero_add, Nat.add_zero, j_w_ap, decide_eq_true, decide_eq_false, Bool.true_or, Bool.or_true, Bool.false_or, Bool.or_false, Bool.and_true, Bool.true_and, Bool.false_and, Bool.and_false, Bool.not_true, Bool.not_false, hod, nI_l, lN_mul] at e2
            exact e.trans e2
theorem X_lbc {gg : Nat → Nat} (hd : 1 ≤ d) (hp : p < n) (hs : s < 64) (h : IG n a M) (hl : hatL n gg bill rule M) (hg : ∀ q, q < n → gg q ≤ 99) : ∃ M' gg', C d 84 [.ref 10, .int (nI s), .int (nI p)] S0 M N = some (some (.long (lN (wgt a s p n))), M', N) ∧ hatL n gg' bill rule M' ∧ (∀ q, q < n → gg' q ≤ 99) ∧ (wgt a s p n ≠ 0 → gg' = fun q => if q < n then up (gs a s) p (gg' p) q else gg' q) ∧ Scr M M' := by
  obtain ⟨M', gg', r1, r2, r3, r4, r5⟩ := X_lbc_l (d := d - 1) (N := N) hp hs n 0 gg M (by omega) h hl hg (fun i hi => by omega)
  refine ⟨M', gg', eX6_layByChance hd ?_, r2, r3, fun z => ?_, r5⟩
  · rw [bX6_layByChance_0]
    exact r1
  · funext q
    by_cases hq : q < n
    · rw [if_pos hq]
      unfold up
      by_cases hqp : q = p
      · rw [if_pos hqp, hqp]
      · rw [if_neg hqp]; exact r4 z q hq hqp
    · rw [if_neg hq]
theorem hatL.cg {g1 g2 : Nat → Nat} (h : hatL n g1 bill rule M) (hg : ∀ q, q < n → g1 q = g2 q) : hatL n g2 bill rule M := ⟨h.1, h.2.1, h.2.2.1, fun q hq => by rw [h.2.2.2 q hq, hg q hq]⟩
theorem X_wco_l (hd : 10 ≤ d) (hp : p < n) (hv : v ≤ 99) (hb : bill ≤ 1000) (hr4 : rule ≤ 4) : ∀ (j s : Nat) (gg : Nat → Nat) (M : j_M), s + j = 2 ^ n → IG n a M → hatL n gg bill rule M → (∀ q, q < n → gg q ≤ 99) → ∃ M', R d kX6_weighedCost 16 [.ref 10, .int (nI p), .int (nI v), .long (lN (mt n a bill rule p v s)), .null, .int (nI s), .null, .null] [] (S0, M, N) = some (some (.long (lN (mt n a bill rule p v (2 ^ n)))), (S0, M', N)) ∧ Scr M M'
  | 0, s, gg, M, hs, h, hl, hg => by
    have hn := h.n6
    have h2 : 2 ^ n ≤ 2 ^ 6 := Nat.pow_le_pow_right (by omega) hn
    obtain rfl : s = 2 ^ n := by omega
    have e := bX6_weighedCost_16 d (nI p) (nI v) (lN (mt n a bill rule p v (2 ^ n))) (nI (2 ^ n)) M N
    have hx := h.x6
    simp (disch := omega) only [z0, z1, z2, z3, z4, z5, z6, z7, z8, z9, z10, z11, z12, z13, z14, z15, z16, z17, z18, z19, z20, z24, z26, z30, z31, z40, z41, z50, z54, z60, z70, z80, z81, z99, z100, z200, z255, z599, z1000, z1299, z4096, z1000000, lw0, lw1, lw2, lw3, lw4, lw5, lw6, lw7, lw12, lw50, lw99, lw255, lw599, lw4096, bI_ok, ble_t, Int.cast_ofNat_Int,  decide_true, decide_false, bI_0, bI_1, b_tf, b_ft, eq_self, n_1, n_2, n_3, n_4, n_5, n_6, n_7, n_8, if_true, if_false, jin, ncl, cond_true, cond_false, Option.bind_some, j_ov, j_oi, j_ol, nle, nlt, neq, nI_add, nmul, nsub, ndiv, nrem2, if_pos, if_neg, Nat.zero_add, Nat.add_zero, j_w_ap, decide_eq_true, decide_eq_false, Bool.true_or, Bool.or_true, Bool.false_or, Bool.or_false, Bool.and_true, Bool.true_and, Bool.false_and, Bool.and_false, Bool.not_true, Bool.not_false, hx, shlI] at e
    exact ⟨M, e, Scr.rf⟩
  | j + 1, s, gg, M, hs, h, hl, hg => by
    have hn := h.n6
    have h2 : 2 ^ n ≤ 2 ^ 6 := Nat.pow_le_pow_right (by omega) hn
    have e := bX6_weighedCost_16 d (nI p) (nI v) (lN (mt n a bill rule p v s)) (nI s) M N
    have hx := h.x6
    have hbit := bitI (s := s) (i := p) (by omega) (by omega)
    have hmt : mt n a bill rule p v (s + 1) = mt n a bill rule p v s + mtm n a bill rule p v s := rfl
    rcases bt01 (s := s) (i := p) with hb0 | hb1
    · have hbb := hb0
      unfold bt at hbb
      rw [hbb] at hbit
      obtain ⟨M1, gg1, q1, q2, q3, q4, q5⟩ := X_lbc (d := d) (N := N) (s := s) (by omega) hp (by omega) h hl hg
      have hw1 := wgt_le (a := a) (s := s) (p := p) (k := n) (fun i hi => h.od12 i (by omega))
      have hw2 : 12 ^ n ≤ 12 ^ 6 := Nat.pow_le_pow_right (by omega) (by omega)
      have hw3 : wgt a s p n ≤ 2985984 := Nat.le_trans hw1 hw2
      have hmm : mtm n a bill rule p v s = wgt a s p n * s_cost n (up (gs a s) p v) bill rule p := by unfold mtm; rw [if_neg (by omega)]
      by_cases hw0 : wgt a s p n = 0
      · rw [hw0, Nat.zero_mul] at hmm
        rw [hw0] at q1
        simp (disch := omega) only [z0, z1, z2, z3, z4, z5, z6, z7, z8, z9, z10, z11, z12, z13, z14, z15, z16, z17, z18, z19, z20, z24, z26, z30, z31, z40, z41, z50, z54, z60, z70, z80, z81, z99, z100, z200, z255, z599, z1000, z1299, z4096, z1000000, lw0, lw1, lw2, lw3, lw4, lw5, lw6, lw7, lw12, lw50, lw99, lw255, lw599, lw4096, bI_ok, ble_t, Int.cast_ofNat_Int,  decide_true, decide_false, bI_0, bI_1, b_tf, b_ft, eq_self, n_1, n_2, n_3, n_4, n_5, n_6, n_7, n_8, if_true, if_false, jin, ncl, cond_true, cond_false, Option.bind_some, j_ov, j_oi, j_ol, nle, nlt, neq, nI_add, nmul, nsub, ndiv, nrem2, if_pos, if_neg, Nat.zero_add, Nat.add_zero, j_w_ap, decide_eq_true, decide_eq_false, Bool.true_or, Bool.or_true, Bool.false_or, Bool.or_false, Bool.and_true, Bool.true_and, Bool.false_and, Bool.and_false, Bool.not_true, Bool.not_false, hx, shlI, hbit, q1, lgc_eq, lN_add] at e
        obtain ⟨M', r1, r2⟩ := X_wco_l hd hp hv hb hr4 j (s + 1) gg1 M1 (by omega) (h.scr q5) q2 q3
        rw [hmt, hmm] at r1
        exact ⟨M', e.trans r1, q5.tr r2⟩
      · have hl1 : hatL n (up (gs a s) p (gg1 p)) bill rule M1 := q2.cg (fun q hq => by
          have := congrFun (q4 hw0) q
          rw [if_pos hq] at this
          exact this)
        obtain ⟨M2, p1, p2, p3, p4⟩ := X_costBy (d := d) (N := N) (v := v) (by omega) (by omega) (up_le (gs_le hn h.gi99 h.el99) (q3 p hp)) hv hb hr4 hp hl1
        rw [up_up] at p1 p2
        have hc := s_cost_le (n := n) (g := up (gs a s) p v) (bill := bill) (rule := rule) (i := p) (by rw [up_at]; exact hv)
        simp (disch := omega) only [z0, z1, z2, z3, z4, z5, z6, z7, z8, z9, z10, z11, z12, z13, z14, z15, z16, z17, z18, z19, z20, z24, z26, z30, z31, z40, z41, z50, z54, z60, z70, z80, z81, z99, z100, z200, z255, z599, z1000, z1299, z4096, z1000000, lw0, lw1, lw2, lw3, lw4, lw5, lw6, lw7, lw12, lw50, lw99, lw255, lw599, lw4096, bI_ok, ble_t, Int.cast_ofNat_Int,  decide_true, decide_false, bI_0, bI_1, b_tf, b_ft, eq_self, n_1, n_2, n_3, n_4, n_5, n_6, n_7, n_8, if_true, if_false, jin, ncl, cond_true, cond_false, Option.bind_some, j_ov, j_oi, j_ol, nle, nlt, neq, nI_add, nmul, nsub, ndiv, nrem2, if_pos, if_neg, Nat.zero_add, Nat.add_zero, j_w_ap, decide_eq_true, decide_eq_false, Bool.true_or, Bool.or_true, Bool.false_or, Bool.or_false, Bool.and_true, Bool.true_and, Bool.false_and, Bool.and_false, Bool.not_true, Bool.not_false, hx, shlI, hbit, q1, lgc_eq, leq, p1, nI_l, lN_mul, lN_add] at e
        obtain ⟨M', r1, r2⟩ := X_wco_l hd hp hv hb hr4 j (s + 1) (up (gs a s) p v) M2 (by omega) ((h.scr q5).scr (Scr.fr89 p4)) (p2.l p3) (up_le (gs_le hn h.gi99 h.el99) hv)
        rw [hmt, hmm] at r1
        exact ⟨M', e.trans r1, q5.tr ((Scr.fr89 p4).tr r2)⟩
    · have hbb := hb1
      unfold bt at hbb
      rw [hbb] at hbit
      have hmm : mtm n a bill rule p v s = 0 := by unfold mtm; rw [if_pos hb1]
      simp (disch := omega) only [z0, z1, z2, z3, z4, z5, z6, z7, z8, z9, z10, z11, z12, z13, z14, z15, z16, z17, z18, z19, z20, z24, z26, z30, z31, z40, z41, z50, z54, z60, z70, z80, z81, z99, z100, z200, z255, z599, z1000, z1299, z4096, z1000000, lw0, lw1, lw2, lw3, lw4, lw5, lw6, lw7, lw12, lw50, lw99, lw255, lw599, lw4096, bI_ok, ble_t, Int.cast_ofNat_Int,  decide_true, decide_false, bI_0, bI_1, b_tf, b_ft, eq_self, n_1, n_2, n_3, n_4, n_5, n_6, n_7, n_8, if_true, if_false, jin, ncl, cond_true, cond_false, Option.bind_some, j_ov, j_oi, j_ol, nle, nlt, neq, nI_add, nmul, nsub, ndiv, nrem2, if_pos, if_neg, Nat.zero_add, Nat.add_zero, j_w_ap, decide_eq_true, decide_eq_false, Bool.true_or, Bool.or_true, Bool.false_or, Bool.or_false, Bool.and_true, Bool.true_and, Bool.false_and, Bool.and_false, Bool.not_true, Bool.not_false, hx, shlI, hbit] at e
      obtain ⟨M', r1, r2⟩ := X_wco_l hd hp hv hb hr4 j (s + 1) gg M (by omega) h hl hg
      rw [hmt, hmm] at r1
      exact ⟨M', e.trans r1, r2⟩
theorem X_weighedCost (hd : 12 ≤ d) (hp : p < n) (hv : v ≤ 99) (h : IG n a M) : ∃ M', C d 83 [.ref 10, .int (nI p), .int (nI v)] S0 M N = some (some (.long (lN (mt n a (a 24) (a 25) p v (2 ^ n)))), M', N) ∧ Scr M M' := by
  have hn := h.n6
  obtain ⟨M1, q1, q2, q3, q4⟩ := X_lay (d := d - 1) (N := N) (by omega) h
  obtain ⟨M', r1, r2⟩ := X_wco_l (d := d - 1) (N := N) (p := p) (by omega) hp hv (by have := h.bi599; omega) h.ru4 (2 ^ n) 0 (gf a) M1 (by omega) (h.scr q4) (q2.l q3) (fun q hq => h.gi99 q (by omega))
  refine ⟨M', eX6_weighedCost (by omega) ?_, q4.tr r2⟩
  have e := bX6_weighedCost_0 (d - 1) (nI p) (nI v) M N
  simp (disch := omega) only [z0, z1, z2, z3, z4, z5, z6, z7, z8, z9, z10, z11, z12, z13, z14, z15, z16, z17, z18, z19, z20, z24, z26, z30, z31, z40, z41, z50, z54, z60, z70, z80, z81, z99, z100, z200, z255, z599, z1000, z1299, z4096, z1000000, lw0, lw1, lw2, lw3, lw4, lw5, lw6, lw7, lw12, lw50, lw99, lw255, lw599, lw4096, bI_ok, ble_t, Int.cast_ofNat_Int,  decide_true, decide_false, bI_0, bI_1, b_tf, b_ft, eq_self, n_1, n_2, n_3, n_4, n_5, n_6, n_7, n_8, if_true, if_false, jin, ncl, cond_true, cond_false, Option.bind_some, j_ov, j_oi, j_ol, nle, nlt, neq, nI_add, nmul, nsub, ndiv, nrem2, if_pos, if_neg, Nat.zero_add, Nat.add_zero, j_w_ap, decide_eq_true, decide_eq_false, Bool.true_or, Bool.or_true, Bool.false_or, Bool.or_false, Bool.and_true, Bool.true_and, Bool.false_and, Bool.and_false, Bool.not_true, Bool.not_false, q1] at e
  exact e.trans r1
theorem M_mean_i {y3 : Int64} (hd : 1 ≤ d) (hp : p < n) (hs : s < 64) (hbp : bt s p = 0) : ∀ (j k : Nat) (M : j_M), k + j = n → IG n a M → lay n (fun i => if i < k then gs a s i else gf a i) M → ∃ M', R d kX11_meanOf 39 [.ref 46, .int (nI p), .int x, .long y3, .null, .int (nI s), .long (lN (wgt a s p k)), .null, .int (nI k), .null] [] (S0, M, N) = R d kX11_meanOf 39 [.ref 46, .int (nI p), .int x, .long y3, .null, .int (nI s), .long (lN (wgt a s p n)), .null, .int (nI n), .null] [] (S0, M', N) ∧ lay n (gs a s) M' ∧ Scr M M'
  | 0, k, M, hk, h, hl => by
    obtain rfl : k = n := by omega
    exact ⟨M, rfl, ⟨hl.1, fun i hi => by have := hl.2 i hi; dsimp only at this; rw [if_pos hi] at this; exact this⟩, Scr.rf⟩
  | j + 1, k, M, hk, h, hl => by
    have hn := h.n6
    have hx := h.m6
    have hm := h.may
    have h12 := h.od12 k (by omega)
    have h53 : M 53 k = nI (a (6 + k)) := by
      have := hl.2 k (by omega)
      dsimp only at this
      rw [if_neg (by omega)] at this
      exact this
    have hbit := bitI (s := s) (i := k) (by omega) (by omega)
    have e := bX11_meanOf_39 d (nI p) x y3 (nI s) (lN (wgt a s p k)) (nI k) M N
    have step : ∀ (b x6 : Nat), wgt a s p (k + 1) = wgt a s p k * b → gs a s k = x6 → R d kX11_meanOf 39 [.ref 46, .int (nI p), .int x, .long y3, .null, .int (nI s), .long (lN (wgt a s p k)), .null, .int (nI k), .null] [] (S0, M, N) = R d kX11_meanOf 39 [.ref 46, .int (nI p), .int x, .long y3, .null, .int (nI s), .long (lN (wgt a s p k * b)), .null, .int (nI (k + 1)), .null] [] (S0, j_w M 53 k (nI x6), N) → ∃ M', R d kX11_meanOf 39 [.ref 46, .int (nI p), .int x, .long y3, .null, .int (nI s), .long (lN (wgt a s p k)), .null, .int (nI k), .null] [] (S0, M, N) = R d kX11_meanOf 39 [.ref 46, .int (nI p), .int x, .long y3, .null, .int (nI s), .long (lN (wgt a s p n)), .null, .int (nI n), .null] [] (S0, M', N) ∧ lay n (gs a s) M' ∧ Scr M M' := by
      intro b x6 hb hx6 hr
      obtain ⟨M', r1, r2, r3⟩ := M_mean_i (y3 := y3) hd hp hs hbp j (k + 1) (j_w M 53 k (nI x6)) (by omega) (h.scr (Scr.w rfl)) (by
        refine ⟨by simp (disch := omega) only [z0, z1, z2, z3, z4, z5, z6, z7, z8, z9, z10, z11, z12, z13, z14, z15, z16, z17, z18, z19, z20, z24, z26, z30, z31, z40, z41, z50, z54, z60, z70, z80, z81, z99, z100, z200, z255, z599, z1000, z1299, z4096, z1000000, lw0, lw1, lw2, lw3, lw4, lw5, lw6, lw7, lw12, lw50, lw99, lw255, lw599, lw4096, bI_ok, ble_t, Int.cast_ofNat_Int,  decide_true, decide_false, bI_0, bI_1, b_tf, b_ft, eq_self, n_1, n_2, n_3, n_4, n_5, n_6, n_7, n_8, if_true, if_false, jin, ncl, cond_true, cond_false, Option.bind_some, j_ov, j_oi, j_ol, nle, nlt, neq, nI_add, nmul, nsub, ndiv, nrem2, if_pos, if_neg, Nat.zero_add, Nat.add_zero, j_w_ap, decide_eq_true, decide_eq_false, Bool.true_or, Bool.or_true, Bool.false_or, Bool.or_false, Bool.and_true, Bool.true_and, Bool.false_and, Bool.and_false, Bool.not_true, Bool.not_false, hl.1], fun i hi => ?_⟩
        dsimp only
        by_cases hik : i = k
        · rw [if_pos (by omega), hik, hx6]
          simp (disch := omega) only [z0, z1, z2, z3, z4, z5, z6, z7, z8, z9, z10, z11, z12, z13, z14, z15, z16, z17, z18, z19, z20, z24, z26, z30, z31, z40, z41, z50, z54, z60, z70, z80, z81, z99, z100, z200, z255, z599, z1000, z1299, z4096, z1000000, lw0, lw1, lw2, lw3, lw4, lw5, lw6, lw7, lw12, lw50, lw99, lw255, lw599, lw4096, bI_ok, ble_t, Int.cast_ofNat_Int,  decide_true, decide_false, bI_0, bI_1, b_tf, b_ft, eq_self, n_1, n_2, n_3, n_4, n_5, n_6, n_7, n_8, if_true, if_false, jin, ncl, cond_true, cond_false, Option.bind_some, j_ov, j_oi, j_ol, nle, nlt, neq, nI_add, nmul, nsub, ndiv, nrem2, if_pos, if_neg, Nat.zero_add, Nat.add_zero, j_w_ap, decide_eq_true, decide_eq_false, Bool.true_or, Bool.or_true, Bool.false_or, Bool.or_false, Bool.and_true, Bool.true_and, Bool.false_and, Bool.and_false, Bool.not_true, Bool.not_false]
        · have := hl.2 i hi
          dsimp only at this
          rw [j_w_ap, if_pos rfl, if_neg hik, this]
          by_cases hik2 : i < k
          · rw [if_pos hik2, if_pos (by omega)]
          · rw [if_neg hik2, if_neg (by omega)])
      rw [hb] at r1
      exact ⟨M', hr.trans r1, r2, (Scr.w rfl).tr r3⟩
    rcases bt01 (s := s) (i := k) with hb | hb
    · have hbb := hb
      unfold bt at hbb
      rw [hbb] at hbit
      simp (disch := omega) only [z0, z1, z2, z3, z4, z5, z6, z7, z8, z9, z10, z11, z12, z13, z14, z15, z16, z17, z18, z19, z20, z24, z26, z30, z31, z40, z41, z50, z54, z60, z70, z80, z81, z99, z100, z200, z255, z599, z1000, z1299, z4096, z1000000, lw0, lw1, lw2, lw3, lw4, lw5, lw6, lw7, lw12, lw50, lw99, lw255, lw599, lw4096, bI_ok, ble_t, Int.cast_ofNat_Int,  decide_true, decide_false, bI_0, bI_1, b_tf, b_ft, eq_self, n_1, n_2, n_3, n_4, n_5, n_6, n_7, n_8, if_true, if_false, jin, ncl, cond_true, cond_false, Option.bind_some, j_ov, j_oi, j_ol, nle, nlt, neq, nI_add, nmul, nsub, ndiv, nrem2, if_pos, if_neg, Nat.zero_add, Nat.add_zero, j_w_ap, decide_eq_true, decide_eq_false, Bool.true_or, Bool.or_true, Bool.false_or, Bool.or_false, Bool.and_true, Bool.true_and, Bool.false_and, Bool.and_false, Bool.not_true, Bool.not_false, hx, hbit, h53] at e
      by_cases hkp : k = p
      · refine step 1 (a (6 + k)) ?_ ?_ ?_
        · rw [wgt, if_pos hkp]
        · unfold gs; rw [if_neg (by omega)]
        · have e2 := bX11_meanOf_97 d (nI p) x y3 (nI s) (lN (wgt a s p k)) (nI k) (nI 0) (nI k) (nI (a (6 + k))) M N
          simp (disch := omega) only [z0, z1, z2, z3, z4, z5, z6, z7, z8, z9, z10, z11, z12, z13, z14, z15, z16, z17, z18, z19, z20, z24, z26, z30, z31, z40, z41, z50, z54, z60, z70, z80, z81, z99, z100, z200, z255, z599, z1000, z1299, z4096, z1000000, lw0, lw1, lw2, lw3, lw4, lw5, lw6, lw7, lw12, lw50, lw99, lw255, lw599, lw4096, bI_ok, ble_t, Int.cast_ofNat_Int,  decide_true, decide_false, bI_0, bI_1, b_tf, b_ft, eq_self, n_1, n_2, n_3, n_4, n_5, n_6, n_7, n_8, if_true, if_false, jin, ncl, cond_true, cond_false, Option.bind_some, j_ov, j_oi, j_ol, nle, nlt, neq, nI_add, nmul, nsub, ndiv, nrem2, if_pos, if_neg, Nat.zero_add, Nat.add_zero, j_w_ap, decide_eq_true, decide_eq_false, Bool.true_or, Bool.or_true, Bool.false_or, Bool.or_false, Bool.and_true, Bool.true_and, Bool.false_and, Bool.and_false, Bool.not_true, Bool.not_false, lN_mul] at e2
          exact e.trans e2
      · refine step (12 - a (12 + k)) (a (6 + k)) ?_ ?_ ?_
        · rw [wgt, if_neg hkp, if_neg (by omega)]
        · unfold gs; rw [if_neg (by omega)]
        · have e2 := bX11_meanOf_97 d (nI p) x y3 (nI s) (lN (wgt a s p k)) (nI k) (nI 0) (nI k) (nI (a (6 + k))) M N
          simp (disch := omega) only [z0, z1, z2, z3, z4, z5, z6, z7, z8, z9, z10, z11, z12, z13, z14, z15, z16, z17, z18, z19, z20, z24, z26, z30, z31, z40, z41, z50, z54, z60, z70, z80, z81, z99, z100, z200, z255, z599, z1000, z1299, z4096, z1000000, lw0, lw1, lw2, lw3, lw4, lw5, lw6, lw7, lw12, lw50, lw99, lw255, lw599, lw4096, bI_ok, ble_t, Int.cast_ofNat_Int,  decide_true, decide_false, bI_0, bI_1, b_tf, b_ft, eq_self, n_1, n_2, n_3, n_4, n_5, n_6, n_7, n_8, if_true, if_false, jin, ncl, cond_true, cond_false, Option.bind_some, j_ov, j_oi, j_ol, nle, nlt, neq, nI_add, nmul, nsub, ndiv, nrem2, if_pos, if_neg, Nat.zero_add, Nat.add_zero, j_w_ap, decide_eq_true, decide_eq_false, Bool.true_or, Bool.or_true, Bool.false_or, Bool.or_false, Bool.and_true, Bool.true_and, Bool.false_and, Bool.and_false, Bool.not_true, Bool.not_false, hm, nI_l, lN_mul] at e2
          exact e.trans e2
    · have hbb := hb
      unfold bt at hbb
      rw [hbb] at hbit
      have hkp : k ≠ p := fun z => by rw [z] at hb; omega
      simp (disch := omega) only [z0, z1, z2, z3, z4, z5, z6, z7, z8, z9, z10, z11, z12, z13, z14, z15, z16, z17, z18, z19, z20, z24, z26, z30, z31, z40, z41, z50, z54, z60, z70, z80, z81, z99, z100, z200, z255, z599, z1000, z1299, z4096, z1000000, lw0, lw1, lw2, lw3, lw4, lw5, lw6, lw7, lw12, lw50, lw99, lw255, lw599, lw4096, bI_ok, ble_t, Int.cast_ofNat_Int,  decide_true, decide_false, bI_0, bI_1, b_tf, b_ft, eq_self, n_1, n_2, n_3, n_4, n_5, n_6, n_7, n_8, if_true, if_false, jin, ncl, cond_true, cond_false, Option.bind_some, j_ov, j_oi, j_ol, nle, nlt, neq, nI_add, nmul, nsub, ndiv, nrem2, if_pos, if_neg, Nat.zero_add, Nat.add_zero, j_w_ap, decide_eq_true, decide_eq_false, Bool.true_or, Bool.or_true, Bool.false_or, Bool.or_false, Bool.and_true, Bool.true_and, Bool.false_and, Bool.and_false, Bool.not_true, Bool.not_false, hx, hbit, hm] at e
      refine step (a (12 + k)) (a (18 + k)) ?_ ?_ ?_
      · rw [wgt, if_neg hkp, if_pos hb]
      · unfold gs; rw [if_pos hb]
      · have e2 := bX11_meanOf_97 d (nI p) x y3 (nI s) (lN (wgt a s p k)) (nI k) (nI 1) (nI k) (nI (a (18 + k))) M N
        simp (disch := omega) only [z0, z1, z2, z3, z4, z5, z6, z7, z8, z9, z10, z11, z12, z13, z14, z15, z16, z17, z18, z19, z20, z24, z26, z30, z31, z40, z41, z50, z54, z60, z70, z80, z81, z99, z100, z200, z255, z599, z1000, z1299, z4096, z1000000, lw0, lw1, lw2, lw3, lw4, lw5, lw6, lw7, lw12, lw50, lw99, lw255, lw599, lw4096, bI_ok, ble_t, Int.cast_ofNat_Int,  decide_true, decide_false, bI_0, bI_1, b_tf, b_ft, eq_self, n_1, n_2, n_3, n_4, n_5, n_6, n_7, n_8, if_true, if_false, jin, ncl, cond_true, cond_false, Option.bind_some, j_ov, j_oi, j_ol, nle, nlt, neq, nI_add, nmul, nsub, ndiv, nrem2, if_pos, if_neg, Nat.zero_add, Nat.add_zero, j_w_ap, decide_eq_true, decide_eq_false, Bool.true_or, Bool.or_true, Bool.false_or, Bool.or_false, Bool.and_true, Bool.true_and, Bool.false_and, Bool.and_false, Bool.not_true, Bool.not_false, hm, nI_l, lN_mul] at e2
        exact e.trans e2
theorem M_mean_l (hd : 10 ≤ d) (hp : p < n) (hv : v ≤ 99) (hb : bill ≤ 1000) (hr4 : rule ≤ 4) (ebi : a 24 = bill) (eru : a 25 = rule) : ∀ (j s : Nat) (M : j_M), s + j = 2 ^ n → IG n a M → ∃ M', R d kX11_meanOf 5 [.ref 46, .int (nI p), .int (nI v), .long (lN (mt n a bill rule p v s)), .null, .int (nI s), .null, .null, .null, .null] [] (S0, M, N) = some (some (.long (lN (mt n a bill rule p v (2 ^ n)))), (S0, M', N)) ∧ Scr M M'
  | 0, s, M, hs, h => by
    have hn := h.n6
    have h2 : 2 ^ n ≤ 2 ^ 6 := Nat.pow_le_pow_right (by omega) hn
    obtain rfl : s = 2 ^ n := by omega
    have e := bX11_meanOf_5 d (nI p) (nI v) (lN (mt n a bill rule p v (2 ^ n))) (nI (2 ^ n)) M N
    have hx := h.m6
    simp (disch := omega) only [z0, z1, z2, z3, z4, z5, z6, z7, z8, z9, z10, z11, z12, z13, z14, z15, z16, z17, z18, z19, z20, z24, z26, z30, z31, z40, z41, z50, z54, z60, z70, z80, z81, z99, z100, z200, z255, z599, z1000, z1299, z4096, z1000000, lw0, lw1, lw2, lw3, lw4, lw5, lw6, lw7, lw12, lw50, lw99, lw255, lw599, lw4096, bI_ok, ble_t, Int.cast_ofNat_Int,  decide_true, decide_false, bI_0, bI_1, b_tf, b_ft, eq_self, n_1, n_2, n_3, n_4, n_5, n_6, n_7, n_8, if_true, if_false, jin, ncl, cond_true, cond_false, Option.bind_some, j_ov, j_oi, j_ol, nle, nlt, neq, nI_add, nmul, nsub, ndiv, nrem2, if_pos, if_neg, Nat.zero_add, Nat.add_zero, j_w_ap, decide_eq_true, decide_eq_false, Bool.true_or, Bool.or_true, Bool.false_or, Bool.or_false, Bool.and_true, Bool.true_and, Bool.false_and, Bool.and_false, Bool.not_true, Bool.not_false, hx, shlI] at e
    exact ⟨M, e, Scr.rf⟩
  | j + 1, s, M, hs, h => by
    have hn := h.n6
    have h2 : 2 ^ n ≤ 2 ^ 6 := Nat.pow_le_pow_right (by omega) hn
    have e := bX11_meanOf_5 d (nI p) (nI v) (lN (mt n a bill rule p v s)) (nI s) M N
    have hx := h.m6
    have hbit := bitI (s := s) (i := p) (by omega) (by omega)
    have hmt : mt n a bill rule p v (s + 1) = mt n a bill rule p v s + mtm n a bill rule p v s := rfl
    rcases bt01 (s := s) (i := p) with hb0 | hb1
    · have hbb := hb0
      unfold bt at hbb
      rw [hbb] at hbit
      obtain ⟨M1, q1, q2, q3⟩ := M_lay (d := d) (N := N) (by omega) h
      obtain ⟨M2, p1, p2, p3⟩ := M_mean_i (d := d) (N := N) (x := nI v) (y3 := lN (mt n a bill rule p v s)) (by omega) hp (by omega) hb0 n 0 M1 (by omega) (h.scr q3) ⟨q2.1, fun i hi => by dsimp only; rw [if_neg (by omega)]; exact q2.2 i hi⟩
      have hs2 := q3.tr p3
      have hw1 := wgt_le (a := a) (s := s) (p := p) (k := n) (fun i hi => h.od12 i (by omega))
      have hw2 : 12 ^ n ≤ 12 ^ 6 := Nat.pow_le_pow_right (by omega) (by omega)
      have hw3 : wgt a s p n ≤ 2985984 := Nat.le_trans hw1 hw2
      have hmm : mtm n a bill rule p v s = wgt a s p n * s_cost n (up (gs a s) p v) bill rule p := by unfold mtm; rw [if_neg (by omega)]
      simp (disch := omega) only [z0, z1, z2, z3, z4, z5, z6, z7, z8, z9, z10, z11, z12, z13, z14, z15, z16, z17, z18, z19, z20, z24, z26, z30, z31, z40, z41, z50, z54, z60, z70, z80, z81, z99, z100, z200, z255, z599, z1000, z1299, z4096, z1000000, lw0, lw1, lw2, lw3, lw4, lw5, lw6, lw7, lw12, lw50, lw99, lw255, lw599, lw4096, bI_ok, ble_t, Int.cast_ofNat_Int,  decide_true, decide_false, bI_0, bI_1, b_tf, b_ft, eq_self, n_1, n_2, n_3, n_4, n_5, n_6, n_7, n_8, if_true, if_false, jin, ncl, cond_true, cond_false, Option.bind_some, j_ov, j_oi, j_ol, nle, nlt, neq, nI_add, nmul, nsub, ndiv, nrem2, if_pos, if_neg, Nat.zero_add, Nat.add_zero, j_w_ap, decide_eq_true, decide_eq_false, Bool.true_or, Bool.or_true, Bool.false_or, Bool.or_false, Bool.and_true, Bool.true_and, Bool.false_and, Bool.and_false, Bool.not_true, Bool.not_false, hx, shlI, hbit, q1] at e
      rw [show wgt a s p 0 = 1 from rfl] at p1
      have e2 := bX11_meanOf_39 d (nI p) (nI v) (lN (mt n a bill rule p v s)) (nI s) (lN (wgt a s p n)) (nI n) M2 N
      have hx2 := (h.scr hs2).m6
      have hm2 := (h.scr hs2).may
      by_cases hw0 : wgt a s p n = 0
      · rw [hw0, Nat.zero_mul] at hmm
        rw [hw0] at e2 p1
        simp (disch := omega) only [z0, z1, z2, z3, z4, z5, z6, z7, z8, z9, z10, z11, z12, z13, z14, z15, z16, z17, z18, z19, z20, z24, z26, z30, z31, z40, z41, z50, z54, z60, z70, z80, z81, z99, z100, z200, z255, z599, z1000, z1299, z4096, z1000000, lw0, lw1, lw2, lw3, lw4, lw5, lw6, lw7, lw12, lw50, lw99, lw255, lw599, lw4096, bI_ok, ble_t, Int.cast_ofNat_Int,  decide_true, decide_false, bI_0, bI_1, b_tf, b_ft, eq_self, n_1, n_2, n_3, n_4, n_5, n_6, n_7, n_8, if_true, if_false, jin, ncl, cond_true, cond_false, Option.bind_some, j_ov, j_oi, j_ol, nle, nlt, neq, nI_add, nmul, nsub, ndiv, nrem2, if_pos, if_neg, Nat.zero_add, Nat.add_zero, j_w_ap, decide_eq_true, decide_eq_false, Bool.true_or, Bool.or_true, Bool.false_or, Bool.or_false, Bool.and_true, Bool.true_and, Bool.false_and, Bool.and_false, Bool.not_true, Bool.not_false, hx2, lgc_eq, lN_add] at e2
        obtain ⟨M', r1, r2⟩ := M_mean_l hd hp hv hb hr4 ebi eru j (s + 1) M2 (by omega) (h.scr hs2)
        rw [hmt, hmm] at r1
        exact ⟨M', e.trans (p1.trans (e2.trans r1)), hs2.tr r2⟩
      · obtain ⟨M3, t1, t2, t3, -⟩ := M_costBy (d := d) (N := N) (v := v) (by omega) (by omega) (gs_le hn h.gi99 h.el99) hv hb hr4 hp p2 (by rw [hm2 24 (by omega), ebi]) (by rw [hm2 25 (by omega), eru])
        have hc := s_cost_le (n := n) (g := up (gs a s) p v) (bill := bill) (rule := rule) (i := p) (by rw [up_at]; exact hv)
        simp (disch := omega) only [z0, z1, z2, z3, z4, z5, z6, z7, z8, z9, z10, z11, z12, z13, z14, z15, z16, z17, z18, z19, z20, z24, z26, z30, z31, z40, z41, z50, z54, z60, z70, z80, z81, z99, z100, z200, z255, z599, z1000, z1299, z4096, z1000000, lw0, lw1, lw2, lw3, lw4, lw5, lw6, lw7, lw12, lw50, lw99, lw255, lw599, lw4096, bI_ok, ble_t, Int.cast_ofNat_Int,  decide_true, decide_false, bI_0, bI_1, b_tf, b_ft, eq_self, n_1, n_2, n_3, n_4, n_5, n_6, n_7, n_8, if_true, if_false, jin, ncl, cond_true, cond_false, Option.bind_some, j_ov, j_oi, j_ol, nle, nlt, neq, nI_add, nmul, nsub, ndiv, nrem2, if_pos, if_neg, Nat.zero_add, Nat.add_zero, j_w_ap, decide_eq_true, decide_eq_false, Bool.true_or, Bool.or_true, Bool.false_or, Bool.or_false, Bool.and_true, Bool.true_and, Bool.false_and, Bool.and_false, Bool.not_true, Bool.not_false, hx2, lgc_eq, leq, t1, nI_l, lN_mul, lN_add] at e2
        obtain ⟨M', r1, r2⟩ := M_mean_l hd hp hv hb hr4 ebi eru j (s + 1) M3 (by omega) (h.scr (hs2.tr t3))
        rw [hmt, hmm] at r1
        exact ⟨M', e.trans (p1.trans (e2.trans r1)), hs2.tr (t3.tr r2)⟩
    · have hbb := hb1
      unfold bt at hbb
      rw [hbb] at hbit
      have hmm : mtm n a bill rule p v s = 0 := by unfold mtm; rw [if_pos hb1]
      simp (disch := omega) only [z0, z1, z2, z3, z4, z5, z6, z7, z8, z9, z10, z11, z12, z13, z14, z15, z16, z17, z18, z19, z20, z24, z26, z30, z31, z40, z41, z50, z54, z60, z70, z80, z81, z99, z100, z200, z255, z599, z1000, z1299, z4096, z1000000, lw0, lw1, lw2, lw3, lw4, lw5, lw6, lw7, lw12, lw50, lw99, lw255, lw599, lw4096, bI_ok, ble_t, Int.cast_ofNat_Int,  decide_true, decide_false, bI_0, bI_1, b_tf, b_ft, eq_self, n_1, n_2, n_3, n_4, n_5, n_6, n_7, n_8, if_true, if_false, jin, ncl, cond_true, cond_false, Option.bind_some, j_ov, j_oi, j_ol, nle, nlt, neq, nI_add, nmul, nsub, ndiv, nrem2, if_pos, if_neg, Nat.zero_add, Nat.add_zero, j_w_ap, decide_eq_true, decide_eq_false, Bool.true_or, Bool.or_true, Bool.false_or, Bool.or_false, Bool.and_true, Bool.true_and, Bool.false_and, Bool.and_false, Bool.not_true, Bool.not_false, hx, shlI, hbit] at e
      obtain ⟨M', r1, r2⟩ := M_mean_l hd hp hv hb hr4 ebi eru j (s + 1) M (by omega) h
      rw [hmt, hmm] at r1
      exact ⟨M', e.trans r1, r2⟩
theorem M_meanOf (hd : 12 ≤ d) (hp : p < n) (hv : v ≤ 99) (h : IG n a M) : ∃ M', C d 181 [.ref 46, .int (nI p), .int (nI v)] S0 M N = some (some (.long (lN (mt n a (a 24) (a 25) p v (2 ^ n)))), M', N) ∧ Scr M M' := by
  obtain ⟨M', r1, r2⟩ := M_mean_l (d := d - 1) (N := N) (p := p) (by omega) hp hv (by have := h.bi599; omega) h.ru4 rfl rfl (2 ^ n) 0 M (by omega) h
  refine ⟨M', eX11_meanOf (by omega) ?_, r2⟩
  rw [bX11_meanOf_0]
  exact r1
end MC
