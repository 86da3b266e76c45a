/-! ===== leaves of the faces; putIn, rest (own text) ===== -/
def ib (x : Int32) (lo hi : Int) : Bool := decide (lo ≤ x.toInt) && decide (x.toInt ≤ hi)
theorem ib_ex {x : Int32} {lo hi : Nat} (h : ib x lo hi = true) (hh : hi < 2147483648) : ∃ j, lo ≤ j ∧ j ≤ hi ∧ x = nI j := by
  unfold ib at h
  rw [Bool.and_eq_true, decide_eq_true_eq, decide_eq_true_eq] at h
  refine ⟨x.toInt.toNat, by omega, by omega, ?_⟩
  rw [← Int32.toInt_inj, nI_toInt (by omega)]
  omega
theorem ib_g {x : Int32} {n : Nat} (h : ib x 0 ((n : Int) - 1) = true) (hn : n < 2147483648) : ∃ j, j < n ∧ x = nI j := by
  unfold ib at h
  rw [Bool.and_eq_true, decide_eq_true_eq, decide_eq_true_eq] at h
  refine ⟨x.toInt.toNat, by omega, ?_⟩
  rw [← Int32.toInt_inj, nI_toInt (by omega)]
  omega
theorem ib_nI {j : Nat} {lo hi : Int} (hj : j < 2147483648) : ib (nI j) lo hi = (decide (lo ≤ (j : Int)) && decide ((j : Int) ≤ hi)) := by
  unfold ib
  rw [nI_toInt hj]
theorem ib_g' {j n : Nat} (h : j < n) (hn : n < 2147483648) : ib (nI j) 0 ((n : Int) - 1) = true := by
  rw [ib_nI (by omega), decide_eq_true (by omega), decide_eq_true (by omega)]; rfl
section FA
variable {d n bill rule : Nat} {g a : Nat → Nat} {M : j_M} {N : j_N} {x : Int32}
theorem X_within0 {x1 x2 : Int32} (hd : 1 ≤ d) : C d 147 [.int x, .int x1, .int x2] S0 M N = some (some (.int (bI (ib x x1.toInt x2.toInt))), M, N) := by
  refine eX10_within hd ?_
  rw [bX10_within_0]
  unfold ib
  by_cases h1 : x < x1
  · rw [if_pos h1]
    rw [Int32.lt_iff_toInt_lt] at h1
    rw [decide_eq_false (by omega)]; rfl
  · rw [if_neg h1]
    rw [Int32.lt_iff_toInt_lt] at h1
    rw [decide_eq_true (by omega)]
    by_cases h2 : x2 < x
    · rw [if_pos h2]
      rw [Int32.lt_iff_toInt_lt] at h2
      rw [decide_eq_false (by omega)]; rfl
    · rw [if_neg h2]
      rw [Int32.lt_iff_toInt_lt] at h2
      rw [decide_eq_true (by omega)]; rfl
theorem X_within {lo hi : Nat} (hd : 1 ≤ d) (hl : lo < 2147483648) (hh : hi < 2147483648) : C d 147 [.int x, .int (nI lo), .int (nI hi)] S0 M N = some (some (.int (bI (ib x lo hi))), M, N) := by
  rw [X_within0 hd, nI_toInt hl, nI_toInt hh]
theorem X_withinM {lo hi : Nat} (hd : 1 ≤ d) (hl : lo < 2147483648) (hh : hi < 2147483648) : C d 147 [.int x, .int (-nI lo), .int (nI hi)] S0 M N = some (some (.int (bI (ib x (-(lo : Int)) hi))), M, N) := by
  rw [X_within0 hd, n_t hl, nI_toInt hh]
theorem M_within0 {y0 y1 y2 : Int64} (hd : 1 ≤ d) : C d 155 [.long y0, .long y1, .long y2] S0 M N = some (some (.int (bI (decide (y1.toInt ≤ y0.toInt) && decide (y0.toInt ≤ y2.toInt)))), M, N) := by
  refine eX11_within hd ?_
  rw [bX11_within_0]
  simp only [lg_cmp_lt, lg_cmp_gt]
  by_cases h1 : y0 < y1
  · rw [if_pos h1]
    rw [Int64.lt_iff_toInt_lt] at h1
    rw [decide_eq_false (by omega)]; rfl
  · rw [if_neg h1]
    rw [Int64.lt_iff_toInt_lt] at h1
    rw [decide_eq_true (by omega)]
    by_cases h2 : y2 < y0
    · rw [if_pos h2]
      rw [Int64.lt_iff_toInt_lt] at h2
      rw [decide_eq_false (by omega)]; rfl
    · rw [if_neg h2]
      rw [Int64.lt_iff_toInt_lt] at h2
      rw [decide_eq_true (by omega)]; rfl
theorem M_within {lo hi : Nat} (hd : 1 ≤ d) (hl : lo < 2147483648) (hh : hi < 2147483648) : C d 155 [.long x.toInt64, .long (lN lo), .long (lN hi)] S0 M N = some (some (.int (bI (ib x lo hi))), M, N) := by
  rw [M_within0 hd, Int32.toInt_toInt64, pk_lT (by omega), pk_lT (by omega)]; rfl
theorem M_withinV {x1 : Int32} {lo : Nat} (hd : 1 ≤ d) (hl : lo < 2147483648) : C d 155 [.long x.toInt64, .long (lN lo), .long x1.toInt64] S0 M N = some (some (.int (bI (ib x lo x1.toInt))), M, N) := by
  rw [M_within0 hd, Int32.toInt_toInt64, pk_lT (by omega), Int32.toInt_toInt64]; rfl
theorem X_isShelf (hd : 2 ≤ d) : C d 148 [.int x] S0 M N = some (some (.int (bI (ib x 0 5))), M, N) := by
  refine eX10_isShelf (by omega) ?_
  have e := bX10_isShelf_0 (d - 1) x M N
  simp (disch := omega) only [z0, z1, z2, z3, z4, z5, z6, z7, z8, z9, z10, z11, z12, z13, z14, z15, z16, z17, z18, z19, z20, z24, z26, z30, z31, z40, z41, z50, z54, z60, z70, z80, z81, z99, z100, z200, z255, z599, z1000, z1299, z4096, z1000000, lw0, lw1, lw2, lw3, lw4, lw5, lw6, lw7, lw12, lw50, lw99, lw255, lw599, lw4096, bI_ok, ble_t, Int.cast_ofNat_Int,  decide_true, decide_false, bI_0, bI_1, b_tf, b_ft, eq_self, n_1, n_2, n_3, n_4, n_5, n_6, n_7, n_8, if_true, if_false, jin, ncl, cond_true, cond_false, Option.bind_some, j_ov, j_oi, j_ol, nle, nlt, neq, nI_add, nmul, nsub, ndiv, nrem2, if_pos, if_neg, Nat.zero_add, Nat.add_zero, j_w_ap, decide_eq_true, decide_eq_false, Bool.true_or, Bool.or_true, Bool.false_or, Bool.or_false, Bool.and_true, Bool.true_and, Bool.false_and, Bool.and_false, Bool.not_true, Bool.not_false, X_within] at e
  exact e
theorem M_isShelf (hd : 2 ≤ d) : C d 235 [.int x] S0 M N = some (some (.int (bI (ib x 0 5))), M, N) := by
  refine eX11_isShelf (by omega) ?_
  have e := bX11_isShelf_0 (d - 1) x M N
  simp (disch := omega) only [z0, z1, z2, z3, z4, z5, z6, z7, z8, z9, z10, z11, z12, z13, z14, z15, z16, z17, z18, z19, z20, z24, z26, z30, z31, z40, z41, z50, z54, z60, z70, z80, z81, z99, z100, z200, z255, z599, z1000, z1299, z4096, z1000000, lw0, lw1, lw2, lw3, lw4, lw5, lw6, lw7, lw12, lw50, lw99, lw255, lw599, lw4096, bI_ok, ble_t, Int.cast_ofNat_Int,  decide_true, decide_false, bI_0, bI_1, b_tf, b_ft, eq_self, n_1, n_2, n_3, n_4, n_5, n_6, n_7, n_8, if_true, if_false, jin, ncl, cond_true, cond_false, Option.bind_some, j_ov, j_oi, j_ol, nle, nlt, neq, nI_add, nmul, nsub, ndiv, nrem2, if_pos, if_neg, Nat.zero_add, Nat.add_zero, j_w_ap, decide_eq_true, decide_eq_false, Bool.true_or, Bool.or_true, Bool.false_or, Bool.or_false, Bool.and_true, Bool.true_and, Bool.false_and, Bool.and_false, Bool.not_true, Bool.not_false, M_within] at e
  exact e
theorem X_has (hd : 1 ≤ d) (hx : M 1 6 = nI n) (hn : n < 2147483648) : C d 16 [.ref 1, .int x] S0 M N = some (some (.int (bI (ib x 0 ((n : Int) - 1)))), M, N) := by
  refine eX2_has hd ?_
  rw [bX2_has_0, hx]
  unfold ib
  by_cases h1 : x < 0
  · rw [if_pos h1]
    rw [Int32.lt_iff_toInt_lt, Int32.toInt_zero] at h1
    rw [decide_eq_false (by omega)]; rfl
  · rw [if_neg h1]
    rw [Int32.lt_iff_toInt_lt, Int32.toInt_zero] at h1
    rw [decide_eq_true (by omega)]
    by_cases h2 : nI n ≤ x
    · rw [if_pos h2]
      rw [Int32.le_iff_toInt_le, nI_toInt hn] at h2
      rw [decide_eq_false (by omega)]; rfl
    · rw [if_neg h2]
      rw [Int32.le_iff_toInt_le, nI_toInt hn] at h2
      rw [decide_eq_true (by omega)]; rfl
theorem M_isGuest (hd : 2 ≤ d) (hx : M 46 6 = nI n) (hn : n < 1073741824) : C d 160 [.ref 46, .int x] S0 M N = some (some (.int (bI (ib x 0 ((n : Int) - 1)))), M, N) := by
  refine eX11_isGuest (by omega) ?_
  rw [bX11_isGuest_0, M_within0 (by omega), hx, z1, Int32.toInt_toInt64, Int32.toInt_toInt64, pk_sub_toInt (by omega) (by omega)]
  simp (disch := omega) only [z0, z1, z2, z3, z4, z5, z6, z7, z8, z9, z10, z11, z12, z13, z14, z15, z16, z17, z18, z19, z20, z24, z26, z30, z31, z40, z41, z50, z54, z60, z70, z80, z81, z99, z100, z200, z255, z599, z1000, z1299, z4096, z1000000, lw0, lw1, lw2, lw3, lw4, lw5, lw6, lw7, lw12, lw50, lw99, lw255, lw599, lw4096, bI_ok, ble_t, Int.cast_ofNat_Int,  decide_true, decide_false, bI_0, bI_1, b_tf, b_ft, eq_self, n_1, n_2, n_3, n_4, n_5, n_6, n_7, n_8, if_true, if_false, jin, ncl, cond_true, cond_false, Option.bind_some, j_ov, j_oi, j_ol, nle, nlt, neq, nI_add, nmul, nsub, ndiv, nrem2, if_pos, if_neg, Nat.zero_add, Nat.add_zero, j_w_ap, decide_eq_true, decide_eq_false, Bool.true_or, Bool.or_true, Bool.false_or, Bool.or_false, Bool.and_true, Bool.true_and, Bool.false_and, Bool.and_false, Bool.not_true, Bool.not_false]
  rfl
theorem Q_putIn {y : Int32} (hd : 20 ≤ d) (h : IG n a M) : ∃ r M1 M2, C d 115 [.ref 0, .int x, .int y] S0 M N = some (some (.int r), M1, N) ∧ C d 178 [.ref 46, .int x, .int y] S0 M1 N = some (some (.int r), M2, N) ∧ Scr M M2 := by
  have hn := h.n6
  have e1 := bX10_putIn_0 (d - 1) x y M N
  have hh := fun x => X_has (d := d - 1) (N := N) (x := x) (by omega) h.x6 (by omega)
  have e2 := fun M1 => bX11_putIn_0 (d - 1) x y M1 N
  have hh2 : ∀ M1, Scr M M1 → ∀ x, C (d - 1) 160 [.ref 46, .int x] S0 M1 N = some (some (.int (bI (ib x 0 ((n : Int) - 1)))), M1, N) := fun M1 hs x => M_isGuest (by omega) (h.scr hs).m6 (by omega)
  cases h1 : ib x 0 ((n : Int) - 1) with
  | false =>
    have e2 := e2 M
    have hh2 := hh2 M Scr.rf
    simp (disch := omega) only [z0, z1, z2, z3, z4, z5, z6, z7, z8, z9, z10, z11, z12, z13, z14, z15, z16, z17, z18, z19, z20, z24, z26, z30, z31, z40, z41, z50, z54, z60, z70, z80, z81, z99, z100, z200, z255, z599, z1000, z1299, z4096, z1000000, lw0, lw1, lw2, lw3, lw4, lw5, lw6, lw7, lw12, lw50, lw99, lw255, lw599, lw4096, bI_ok, ble_t, Int.cast_ofNat_Int,  decide_true, decide_false, bI_0, bI_1, b_tf, b_ft, eq_self, n_1, n_2, n_3, n_4, n_5, n_6, n_7, n_8, if_true, if_false, jin, ncl, cond_true, cond_false, Option.bind_some, j_ov, j_oi, j_ol, nle, nlt, neq, nI_add, nmul, nsub, ndiv, nrem2, if_pos, if_neg, Nat.zero_add, Nat.add_zero, j_w_ap, decide_eq_true, decide_eq_false, Bool.true_or, Bool.or_true, Bool.false_or, Bool.or_false, Bool.and_true, Bool.true_and, Bool.false_and, Bool.and_false, Bool.not_true, Bool.not_false, hh, h1] at e1
    simp (disch := omega) only [z0, z1, z2, z3, z4, z5, z6, z7, z8, z9, z10, z11, z12, z13, z14, z15, z16, z17, z18, z19, z20, z24, z26, z30, z31, z40, z41, z50, z54, z60, z70, z80, z81, z99, z100, z200, z255, z599, z1000, z1299, z4096, z1000000, lw0, lw1, lw2, lw3, lw4, lw5, lw6, lw7, lw12, lw50, lw99, lw255, lw599, lw4096, bI_ok, ble_t, Int.cast_ofNat_Int,  decide_true, decide_false, bI_0, bI_1, b_tf, b_ft, eq_self, n_1, n_2, n_3, n_4, n_5, n_6, n_7, n_8, if_true, if_false, jin, ncl, cond_true, cond_false, Option.bind_some, j_ov, j_oi, j_ol, nle, nlt, neq, nI_add, nmul, nsub, ndiv, nrem2, if_pos, if_neg, Nat.zero_add, Nat.add_zero, j_w_ap, decide_eq_true, decide_eq_false, Bool.true_or, Bool.or_true, Bool.false_or, Bool.or_false, Bool.and_true, Bool.true_and, Bool.false_and, Bool.and_false, Bool.not_true, Bool.not_false, hh2, h1] at e2
    exact ⟨_, _, _, eX10_putIn (by omega) e1, eX11_putIn (by omega) e2, Scr.rf⟩
  | true =>
    cases h2 : ib y 0 1 with
    | false =>
      have e2 := e2 M
      have hh2 := hh2 M Scr.rf
      simp (disch := omega) only [z0, z1, z2, z3, z4, z5, z6, z7, z8, z9, z10, z11, z12, z13, z14, z15, z16, z17, z18, z19, z20, z24, z26, z30, z31, z40, z41, z50, z54, z60, z70, z80, z81, z99, z100, z200, z255, z599, z1000, z1299, z4096, z1000000, lw0, lw1, lw2, lw3, lw4, lw5, lw6, lw7, lw12, lw50, lw99, lw255, lw599, lw4096, bI_ok, ble_t, Int.cast_ofNat_Int,  decide_true, decide_false, bI_0, bI_1, b_tf, b_ft, eq_self, n_1, n_2, n_3, n_4, n_5, n_6, n_7, n_8, if_true, if_false, jin, ncl, cond_true, cond_false, Option.bind_some, j_ov, j_oi, j_ol, nle, nlt, neq, nI_add, nmul, nsub, ndiv, nrem2, if_pos, if_neg, Nat.zero_add, Nat.add_zero, j_w_ap, decide_eq_true, decide_eq_false, Bool.true_or, Bool.or_true, Bool.false_or, Bool.or_false, Bool.and_true, Bool.true_and, Bool.false_and, Bool.and_false, Bool.not_true, Bool.not_false, hh, h1, X_within, h2, Int.cast_ofNat_Int] at e1
      simp (disch := omega) only [z0, z1, z2, z3, z4, z5, z6, z7, z8, z9, z10, z11, z12, z13, z14, z15, z16, z17, z18, z19, z20, z24, z26, z30, z31, z40, z41, z50, z54, z60, z70, z80, z81, z99, z100, z200, z255, z599, z1000, z1299, z4096, z1000000, lw0, lw1, lw2, lw3, lw4, lw5, lw6, lw7, lw12, lw50, lw99, lw255, lw599, lw4096, bI_ok, ble_t, Int.cast_ofNat_Int,  decide_true, decide_false, bI_0, bI_1, b_tf, b_ft, eq_self, n_1, n_2, n_3, n_4, n_5, n_6, n_7, n_8, if_true, if_false, jin, ncl, cond_true, cond_false, Option.bind_some, j_ov, j_oi, j_ol, nle, nlt, neq, nI_add, nmul, nsub, ndiv, nrem2, if_pos, if_neg, Nat.zero_add, Nat.add_zero, j_w_ap, decide_eq_true, decide_eq_false, Bool.true_or, Bool.or_true, Bool.false_or, Bool.or_false, Bool.and_true, Bool.true_and, Bool.false_and, Bool.and_false, Bool.not_true, Bool.not_false, hh2, h1, M_within, h2, Int.cast_ofNat_Int] at e2
      exact ⟨_, _, _, eX10_putIn (by omega) e1, eX11_putIn (by omega) e2, Scr.rf⟩
    | true =>
      obtain ⟨M1, q1, q2, q3, q4⟩ := X_lay (d := d - 1) (N := N) (by omega) h
      obtain ⟨i, hi, rfl⟩ := ib_g h1 (by omega)
      obtain ⟨M2, p1, p2, p3, p4, p5⟩ := X_search (d := d - 1) (N := N) (by omega) (fun q hq => h.gi99 q (by omega)) (by have := h.bi599; omega) h.ru4 hi (h.scr q4) (q2.l q3)
      have hs := q4.tr p5
      obtain ⟨M3, s1, s2, s3⟩ := M_lay (d := d - 1) (N := N) (by omega) (h.scr hs)
      obtain ⟨M4, t1, t2, t3, t4⟩ := M_leastCost (d := d - 1) (N := N) (by omega) (fun q hq => h.gi99 q (by omega)) (by have := h.bi599; omega) h.ru4 hi rfl rfl (h.scr (hs.tr s3)) s2
      have e2 := e2 M2
      have hh2 := hh2 M2 hs
      simp (disch := omega) only [z0, z1, z2, z3, z4, z5, z6, z7, z8, z9, z10, z11, z12, z13, z14, z15, z16, z17, z18, z19, z20, z24, z26, z30, z31, z40, z41, z50, z54, z60, z70, z80, z81, z99, z100, z200, z255, z599, z1000, z1299, z4096, z1000000, lw0, lw1, lw2, lw3, lw4, lw5, lw6, lw7, lw12, lw50, lw99, lw255, lw599, lw4096, bI_ok, ble_t, Int.cast_ofNat_Int,  decide_true, decide_false, bI_0, bI_1, b_tf, b_ft, eq_self, n_1, n_2, n_3, n_4, n_5, n_6, n_7, n_8, if_true, if_false, jin, ncl, cond_true, cond_false, Option.bind_some, j_ov, j_oi, j_ol, nle, nlt, neq, nI_add, nmul, nsub, ndiv, nrem2, if_pos, if_neg, Nat.zero_add, Nat.add_zero, j_w_ap, decide_eq_true, decide_eq_false, Bool.true_or, Bool.or_true, Bool.false_or, Bool.or_false, Bool.and_true, Bool.true_and, Bool.false_and, Bool.and_false, Bool.not_true, Bool.not_false, hh, h1, X_within, h2, Int.cast_ofNat_Int, q1, p1] at e1
      simp (disch := omega) only [z0, z1, z2, z3, z4, z5, z6, z7, z8, z9, z10, z11, z12, z13, z14, z15, z16, z17, z18, z19, z20, z24, z26, z30, z31, z40, z41, z50, z54, z60, z70, z80, z81, z99, z100, z200, z255, z599, z1000, z1299, z4096, z1000000, lw0, lw1, lw2, lw3, lw4, lw5, lw6, lw7, lw12, lw50, lw99, lw255, lw599, lw4096, bI_ok, ble_t, Int.cast_ofNat_Int,  decide_true, decide_false, bI_0, bI_1, b_tf, b_ft, eq_self, n_1, n_2, n_3, n_4, n_5, n_6, n_7, n_8, if_true, if_false, jin, ncl, cond_true, cond_false, Option.bind_some, j_ov, j_oi, j_ol, nle, nlt, neq, nI_add, nmul, nsub, ndiv, nrem2, if_pos, if_neg, Nat.zero_add, Nat.add_zero, j_w_ap, decide_eq_true, decide_eq_false, Bool.true_or, Bool.or_true, Bool.false_or, Bool.or_false, Bool.and_true, Bool.true_and, Bool.false_and, Bool.and_false, Bool.not_true, Bool.not_false, hh2, h1, M_within, h2, Int.cast_ofNat_Int, s1, t1] at e2
      rw [p3, p4] at e1
      rw [t3] at e2
      obtain ⟨j, -, hj, rfl⟩ := ib_ex (lo := 0) (hi := 1) h2 (by omega)
      simp (disch := omega) only [z0, z1, z2, z3, z4, z5, z6, z7, z8, z9, z10, z11, z12, z13, z14, z15, z16, z17, z18, z19, z20, z24, z26, z30, z31, z40, z41, z50, z54, z60, z70, z80, z81, z99, z100, z200, z255, z599, z1000, z1299, z4096, z1000000, lw0, lw1, lw2, lw3, lw4, lw5, lw6, lw7, lw12, lw50, lw99, lw255, lw599, lw4096, bI_ok, ble_t, Int.cast_ofNat_Int,  decide_true, decide_false, bI_0, bI_1, b_tf, b_ft, eq_self, n_1, n_2, n_3, n_4, n_5, n_6, n_7, n_8, if_true, if_false, jin, ncl, cond_true, cond_false, Option.bind_some, j_ov, j_oi, j_ol, nle, nlt, neq, nI_add, nmul, nsub, ndiv, nrem2, if_pos, if_neg, Nat.zero_add, Nat.add_zero, j_w_ap, decide_eq_true, decide_eq_false, Bool.true_or, Bool.or_true, Bool.false_or, Bool.or_false, Bool.and_true, Bool.true_and, Bool.false_and, Bool.and_false, Bool.not_true, Bool.not_false] at e1 e2
      by_cases hj0 : j = 0
      · rw [if_pos hj0] at e1 e2
        exact ⟨_, _, _, eX10_putIn (by omega) e1, eX11_putIn (by omega) e2, (hs.tr s3).tr t4⟩
      · rw [if_neg hj0] at e1 e2
        exact ⟨_, _, _, eX10_putIn (by omega) e1, eX11_putIn (by omega) e2, (hs.tr s3).tr t4⟩
end FA
