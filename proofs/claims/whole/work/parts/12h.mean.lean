/-! ===== fractions, means (own text) ===== -/
theorem bitI {s i : Nat} (hs : s < 2147483648) (hi : i < 7) : ((nI s >>> (nI i &&& nI 31)) &&& nI 1) = nI (s / 2 ^ i % 2) := by
  have h1 : nI i &&& nI 31 = nI i := by
    rw [pk_andN (n := i) (by omega) 5 (by decide), Nat.mod_eq_of_lt (by omega)]
  have h2 : ((nI i).toBitVec.smod 32).toNat = i := by
    have : i = 0 ∨ i = 1 ∨ i = 2 ∨ i = 3 ∨ i = 4 ∨ i = 5 ∨ i = 6 := by omega
    rcases this with rfl | rfl | rfl | rfl | rfl | rfl | rfl <;> decide
  rw [h1, pk_shrN hs (nI i) i h2, pk_andN (n := s / 2 ^ i) (Nat.lt_of_le_of_lt (Nat.div_le_self _ _) (by omega)) 1 (by decide)]
theorem shlI {n : Nat} (hn : n < 7) : (nI 1 <<< (nI n &&& nI 31)) = nI (2 ^ n) := by
  have : n = 0 ∨ n = 1 ∨ n = 2 ∨ n = 3 ∨ n = 4 ∨ n = 5 ∨ n = 6 := by omega
  rcases this with rfl | rfl | rfl | rfl | rfl | rfl | rfl <;> decide
theorem lrem2 {a b : Nat} (ha : a < 9223372036854775808) (h0 : 0 < b) (hb : b < 9223372036854775808) : lN a - lN a / lN b * lN b = lN (a % b) := pk_lRem ha h0 hb
theorem ldiv2 {a b : Nat} (ha : a < 9223372036854775808) (h0 : 0 < b) (hb : b < 9223372036854775808) : lN a / lN b = lN (a / b) := pk_lDiv ha h0 hb
theorem gcd_st (a b : Nat) : Nat.gcd b (a % b) = Nat.gcd a b := by
  rw [Nat.gcd_comm a b, Nat.gcd_rec b a, Nat.gcd_comm]
theorem mod_half {a b : Nat} (h : a % b ≠ 0) (hb : 0 < b) : 2 * (b % (a % b)) < b := by
  have h1 : a % b < b := Nat.mod_lt _ hb
  have h2 : b % (a % b) < a % b := Nat.mod_lt _ (by omega)
  have h3 : b % (a % b) = (b - a % b) % (a % b) := by
    rw [Nat.mod_eq_sub_mod (by omega)]
  have h4 : (b - a % b) % (a % b) ≤ b - a % b := Nat.mod_le _ _
  omega
section FR
variable {d n bill rule : Nat} {g a : Nat → Nat} {M : j_M} {N : j_N} {x y : Int32}
theorem X_frac_l {A B p : Nat} : ∀ (k a b i : Nat), a < 4611686018427387904 → b < 2 ^ k → k ≤ 62 → i + 2 * k ≤ 200 → R d kX10_fraction 9 [.long (lN A), .null, .long (lN B), .null, .int (nI p), .long (lN a), .null, .long (lN b), .null, .int (nI i), .null, .null] [] (S0, M, N) = R d kX10_fraction 45 [.long (lN A), .null, .long (lN B), .null, .int (nI p), .long (lN (Nat.gcd a b)), .null, .null, .null, .null, .null, .null] [] (S0, M, N)
  | 0, a, b, i, ha, hb, hk, hi => by
    obtain rfl : b = 0 := by omega
    have e := bX10_fraction_9 d (lN A) (lN B) (nI p) (lN a) (lN 0) (nI i) M N
    simp (disch := omega) only [z0, z1, z2, z3, z4, z5, z6, z7, z8, z9, z10, z11, z12, z13, z14, z15, z16, z17, z18, z19, z20, z24, z26, z30, z31, z40, z41, z50, z54, z60, z70, z80, z81, z99, z100, z200, z255, z599, z1000, z1299, z4096, z1000000, lw0, lw1, lw2, lw3, lw4, lw5, lw6, lw7, lw12, lw50, lw99, lw255, lw599, lw4096, bI_ok, ble_t, Int.cast_ofNat_Int,  decide_true, decide_false, bI_0, bI_1, b_tf, b_ft, eq_self, n_1, n_2, n_3, n_4, n_5, n_6, n_7, n_8, if_true, if_false, jin, ncl, cond_true, cond_false, Option.bind_some, j_ov, j_oi, j_ol, nle, nlt, neq, nI_add, nmul, nsub, ndiv, nrem2, if_pos, if_neg, Nat.zero_add, Nat.add_zero, j_w_ap, decide_eq_true, decide_eq_false, Bool.true_or, Bool.or_true, Bool.false_or, Bool.or_false, Bool.and_true, Bool.true_and, Bool.false_and, Bool.and_false, Bool.not_true, Bool.not_false, lgc_eq, ite_self] at e
    rw [Nat.gcd_zero_right]
    exact e
  | k + 1, a, b, i, ha, hb, hk, hi => by
    have hb2 : b < 4611686018427387904 := Nat.lt_of_lt_of_le hb (Nat.pow_le_pow_right (n := 2) (j := 62) (by omega) hk)
    have e := bX10_fraction_9 d (lN A) (lN B) (nI p) (lN a) (lN b) (nI i) M N
    by_cases h0 : b = 0
    · subst h0
      simp (disch := omega) only [z0, z1, z2, z3, z4, z5, z6, z7, z8, z9, z10, z11, z12, z13, z14, z15, z16, z17, z18, z19, z20, z24, z26, z30, z31, z40, z41, z50, z54, z60, z70, z80, z81, z99, z100, z200, z255, z599, z1000, z1299, z4096, z1000000, lw0, lw1, lw2, lw3, lw4, lw5, lw6, lw7, lw12, lw50, lw99, lw255, lw599, lw4096, bI_ok, ble_t, Int.cast_ofNat_Int,  decide_true, decide_false, bI_0, bI_1, b_tf, b_ft, eq_self, n_1, n_2, n_3, n_4, n_5, n_6, n_7, n_8, if_true, if_false, jin, ncl, cond_true, cond_false, Option.bind_some, j_ov, j_oi, j_ol, nle, nlt, neq, nI_add, nmul, nsub, ndiv, nrem2, if_pos, if_neg, Nat.zero_add, Nat.add_zero, j_w_ap, decide_eq_true, decide_eq_false, Bool.true_or, Bool.or_true, Bool.false_or, Bool.or_false, Bool.and_true, Bool.true_and, Bool.false_and, Bool.and_false, Bool.not_true, Bool.not_false, lgc_eq, ite_self] at e
      rw [Nat.gcd_zero_right]
      exact e
    · simp (disch := omega) only [z0, z1, z2, z3, z4, z5, z6, z7, z8, z9, z10, z11, z12, z13, z14, z15, z16, z17, z18, z19, z20, z24, z26, z30, z31, z40, z41, z50, z54, z60, z70, z80, z81, z99, z100, z200, z255, z599, z1000, z1299, z4096, z1000000, lw0, lw1, lw2, lw3, lw4, lw5, lw6, lw7, lw12, lw50, lw99, lw255, lw599, lw4096, bI_ok, ble_t, Int.cast_ofNat_Int,  decide_true, decide_false, bI_0, bI_1, b_tf, b_ft, eq_self, n_1, n_2, n_3, n_4, n_5, n_6, n_7, n_8, if_true, if_false, jin, ncl, cond_true, cond_false, Option.bind_some, j_ov, j_oi, j_ol, nle, nlt, neq, nI_add, nmul, nsub, ndiv, nrem2, if_pos, if_neg, Nat.zero_add, Nat.add_zero, j_w_ap, decide_eq_true, decide_eq_false, Bool.true_or, Bool.or_true, Bool.false_or, Bool.or_false, Bool.and_true, Bool.true_and, Bool.false_and, Bool.and_false, Bool.not_true, Bool.not_false, lgc_eq, leq, lrem2] at e
      rw [e, ← gcd_st a b]
      have h1 : a % b < b := Nat.mod_lt _ (by omega)
      have e2 := bX10_fraction_9 d (lN A) (lN B) (nI p) (lN b) (lN (a % b)) (nI (i + 1)) M N
      by_cases h2 : a % b = 0
      · rw [h2] at e2 ⊢
        simp (disch := omega) only [z0, z1, z2, z3, z4, z5, z6, z7, z8, z9, z10, z11, z12, z13, z14, z15, z16, z17, z18, z19, z20, z24, z26, z30, z31, z40, z41, z50, z54, z60, z70, z80, z81, z99, z100, z200, z255, z599, z1000, z1299, z4096, z1000000, lw0, lw1, lw2, lw3, lw4, lw5, lw6, lw7, lw12, lw50, lw99, lw255, lw599, lw4096, bI_ok, ble_t, Int.cast_ofNat_Int,  decide_true, decide_false, bI_0, bI_1, b_tf, b_ft, eq_self, n_1, n_2, n_3, n_4, n_5, n_6, n_7, n_8, if_true, if_false, jin, ncl, cond_true, cond_false, Option.bind_some, j_ov, j_oi, j_ol, nle, nlt, neq, nI_add, nmul, nsub, ndiv, nrem2, if_pos, if_neg, Nat.zero_add, Nat.add_zero, j_w_ap, decide_eq_true, decide_eq_false, Bool.true_or, Bool.or_true, Bool.false_or, Bool.or_false, Bool.and_true, Bool.true_and, Bool.false_and, Bool.and_false, Bool.not_true, Bool.not_false, lgc_eq, ite_self] at e2
        rw [Nat.gcd_zero_right]
        exact e2
      · have h3 := mod_half h2 (by omega)
        have h4 : b % (a % b) < a % b := Nat.mod_lt _ (by omega)
        simp (disch := omega) only [z0, z1, z2, z3, z4, z5, z6, z7, z8, z9, z10, z11, z12, z13, z14, z15, z16, z17, z18, z19, z20, z24, z26, z30, z31, z40, z41, z50, z54, z60, z70, z80, z81, z99, z100, z200, z255, z599, z1000, z1299, z4096, z1000000, lw0, lw1, lw2, lw3, lw4, lw5, lw6, lw7, lw12, lw50, lw99, lw255, lw599, lw4096, bI_ok, ble_t, Int.cast_ofNat_Int,  decide_true, decide_false, bI_0, bI_1, b_tf, b_ft, eq_self, n_1, n_2, n_3, n_4, n_5, n_6, n_7, n_8, if_true, if_false, jin, ncl, cond_true, cond_false, Option.bind_some, j_ov, j_oi, j_ol, nle, nlt, neq, nI_add, nmul, nsub, ndiv, nrem2, if_pos, if_neg, Nat.zero_add, Nat.add_zero, j_w_ap, decide_eq_true, decide_eq_false, Bool.true_or, Bool.or_true, Bool.false_or, Bool.or_false, Bool.and_true, Bool.true_and, Bool.false_and, Bool.and_false, Bool.not_true, Bool.not_false, lgc_eq, leq, lrem2] at e2
        rw [e2, ← gcd_st b (a % b)]
        exact X_frac_l k (a % b) (b % (a % b)) (i + 2) (by omega) (by rw [Nat.pow_succ] at hb; omega) (by omega) (by omega)
/-- parts of a fraction in lowest terms -/
def frc (A B p : Nat) : Nat := if p = 0 then A / Nat.gcd A B else B / Nat.gcd A B
theorem X_fraction {A B p : Nat} (hd : 1 ≤ d) (hA : A < 4611686018427387904) (hB : B < 4611686018427387904) (hB0 : 0 < B) (hp : p ≤ 1) : C d 154 [.long (lN A), .long (lN B), .int (nI p)] S0 M N = some (some (.long (lN (frc A B p))), M, N) := by
  refine eX10_fraction hd ?_
  rw [bX10_fraction_0, z0, X_frac_l 62 A B 0 hA (Nat.lt_of_lt_of_le hB (by decide)) (by omega) (by omega)]
  have hg0 : 0 < Nat.gcd A B := Nat.gcd_pos_of_pos_right _ hB0
  have hg1 : Nat.gcd A B ≤ B := Nat.gcd_le_right _ hB0
  have e := bX10_fraction_45 (d - 1) (lN A) (lN B) (nI p) (lN (Nat.gcd A B)) M N
  unfold frc
  by_cases h0 : p = 0
  · simp (disch := omega) only [z0, z1, z2, z3, z4, z5, z6, z7, z8, z9, z10, z11, z12, z13, z14, z15, z16, z17, z18, z19, z20, z24, z26, z30, z31, z40, z41, z50, z54, z60, z70, z80, z81, z99, z100, z200, z255, z599, z1000, z1299, z4096, z1000000, lw0, lw1, lw2, lw3, lw4, lw5, lw6, lw7, lw12, lw50, lw99, lw255, lw599, lw4096, bI_ok, ble_t, Int.cast_ofNat_Int,  decide_true, decide_false, bI_0, bI_1, b_tf, b_ft, eq_self, n_1, n_2, n_3, n_4, n_5, n_6, n_7, n_8, if_true, if_false, jin, ncl, cond_true, cond_false, Option.bind_some, j_ov, j_oi, j_ol, nle, nlt, neq, nI_add, nmul, nsub, ndiv, nrem2, if_pos, if_neg, Nat.zero_add, Nat.add_zero, j_w_ap, decide_eq_true, decide_eq_false, Bool.true_or, Bool.or_true, Bool.false_or, Bool.or_false, Bool.and_true, Bool.true_and, Bool.false_and, Bool.and_false, Bool.not_true, Bool.not_false, lgc_eq, leq, ldiv2] at e
    rw [if_pos h0]
    exact e
  · simp (disch := omega) only [z0, z1, z2, z3, z4, z5, z6, z7, z8, z9, z10, z11, z12, z13, z14, z15, z16, z17, z18, z19, z20, z24, z26, z30, z31, z40, z41, z50, z54, z60, z70, z80, z81, z99, z100, z200, z255, z599, z1000, z1299, z4096, z1000000, lw0, lw1, lw2, lw3, lw4, lw5, lw6, lw7, lw12, lw50, lw99, lw255, lw599, lw4096, bI_ok, ble_t, Int.cast_ofNat_Int,  decide_true, decide_false, bI_0, bI_1, b_tf, b_ft, eq_self, n_1, n_2, n_3, n_4, n_5, n_6, n_7, n_8, if_true, if_false, jin, ncl, cond_true, cond_false, Option.bind_some, j_ov, j_oi, j_ol, nle, nlt, neq, nI_add, nmul, nsub, ndiv, nrem2, if_pos, if_neg, Nat.zero_add, Nat.add_zero, j_w_ap, decide_eq_true, decide_eq_false, Bool.true_or, Bool.or_true, Bool.false_or, Bool.or_false, Bool.and_true, Bool.true_and, Bool.false_and, Bool.and_false, Bool.not_true, Bool.not_false, lgc_eq, leq, ldiv2] at e
    rw [if_neg h0]
    exact e
theorem M_common_l : ∀ (b a : Nat), a < 4611686018427387904 → b < 4611686018427387904 → R d kX11_common 6 [.null, .null, .null, .null, .long (lN a), .null, .long (lN b), .null, .null, .null] [] (S0, M, N) = some (some (.long (lN (Nat.gcd a b))), (S0, M, N)) := by
  intro b
  induction b using Nat.strongRecOn with
  | _ b ih =>
    intro a ha hb
    have e := bX11_common_6 d (lN a) (lN b) M N
    by_cases h0 : b = 0
    · subst h0
      simp (disch := omega) only [z0, z1, z2, z3, z4, z5, z6, z7, z8, z9, z10, z11, z12, z13, z14, z15, z16, z17, z18, z19, z20, z24, z26, z30, z31, z40, z41, z50, z54, z60, z70, z80, z81, z99, z100, z200, z255, z599, z1000, z1299, z4096, z1000000, lw0, lw1, lw2, lw3, lw4, lw5, lw6, lw7, lw12, lw50, lw99, lw255, lw599, lw4096, bI_ok, ble_t, Int.cast_ofNat_Int,  decide_true, decide_false, bI_0, bI_1, b_tf, b_ft, eq_self, n_1, n_2, n_3, n_4, n_5, n_6, n_7, n_8, if_true, if_false, jin, ncl, cond_true, cond_false, Option.bind_some, j_ov, j_oi, j_ol, nle, nlt, neq, nI_add, nmul, nsub, ndiv, nrem2, if_pos, if_neg, Nat.zero_add, Nat.add_zero, j_w_ap, decide_eq_true, decide_eq_false, Bool.true_or, Bool.or_true, Bool.false_or, Bool.or_false, Bool.and_true, Bool.true_and, Bool.false_and, Bool.and_false, Bool.not_true, Bool.not_false, lgc_eq] at e
      rw [Nat.gcd_zero_right]
      exact e
    · simp (disch := omega) only [z0, z1, z2, z3, z4, z5, z6, z7, z8, z9, z10, z11, z12, z13, z14, z15, z16, z17, z18, z19, z20, z24, z26, z30, z31, z40, z41, z50, z54, z60, z70, z80, z81, z99, z100, z200, z255, z599, z1000, z1299, z4096, z1000000, lw0, lw1, lw2, lw3, lw4, lw5, lw6, lw7, lw12, lw50, lw99, lw255, lw599, lw4096, bI_ok, ble_t, Int.cast_ofNat_Int,  decide_true, decide_false, bI_0, bI_1, b_tf, b_ft, eq_self, n_1, n_2, n_3, n_4, n_5, n_6, n_7, n_8, if_true, if_false, jin, ncl, cond_true, cond_false, Option.bind_some, j_ov, j_oi, j_ol, nle, nlt, neq, nI_add, nmul, nsub, ndiv, nrem2, if_pos, if_neg, Nat.zero_add, Nat.add_zero, j_w_ap, decide_eq_true, decide_eq_false, Bool.true_or, Bool.or_true, Bool.false_or, Bool.or_false, Bool.and_true, Bool.true_and, Bool.false_and, Bool.and_false, Bool.not_true, Bool.not_false, lgc_eq, leq, lrem2] at e
      rw [e, ← gcd_st a b]
      have h1 : a % b < b := Nat.mod_lt _ (by omega)
      exact ih (a % b) h1 b hb (by omega)
theorem M_partOf {A B p : Nat} (hd : 2 ≤ d) (hA : A < 4611686018427387904) (hB : B < 4611686018427387904) (hB0 : 0 < B) (hp : p ≤ 1) : C d 180 [.long (lN A), .long (lN B), .int (nI p)] S0 M N = some (some (.long (lN (frc A B p))), M, N) := by
  refine eX11_partOf (by omega) ?_
  have hg0 : 0 < Nat.gcd A B := Nat.gcd_pos_of_pos_right _ hB0
  have hg1 : Nat.gcd A B ≤ B := Nat.gcd_le_right _ hB0
  have q : C (d - 1) 179 [.long (lN A), .long (lN B)] S0 M N = some (some (.long (lN (Nat.gcd A B))), M, N) := by
    refine eX11_common (by omega) ?_
    rw [bX11_common_0]
    exact M_common_l B A hA hB
  have e := bX11_partOf_0 (d - 1) (lN A) (lN B) (nI p) M N
  unfold frc
  by_cases hA0 : A = 0
  · subst hA0
    simp (disch := omega) only [z0, z1, z2, z3, z4, z5, z6, z7, z8, z9, z10, z11, z12, z13, z14, z15, z16, z17, z18, z19, z20, z24, z26, z30, z31, z40, z41, z50, z54, z60, z70, z80, z81, z99, z100, z200, z255, z599, z1000, z1299, z4096, z1000000, lw0, lw1, lw2, lw3, lw4, lw5, lw6, lw7, lw12, lw50, lw99, lw255, lw599, lw4096, bI_ok, ble_t, Int.cast_ofNat_Int,  decide_true, decide_false, bI_0, bI_1, b_tf, b_ft, eq_self, n_1, n_2, n_3, n_4, n_5, n_6, n_7, n_8, if_true, if_false, jin, ncl, cond_true, cond_false, Option.bind_some, j_ov, j_oi, j_ol, nle, nlt, neq, nI_add, nmul, nsub, ndiv, nrem2, if_pos, if_neg, Nat.zero_add, Nat.add_zero, j_w_ap, decide_eq_true, decide_eq_false, Bool.true_or, Bool.or_true, Bool.false_or, Bool.or_false, Bool.and_true, Bool.true_and, Bool.false_and, Bool.and_false, Bool.not_true, Bool.not_false, lgc_eq, nI_l] at e
    rw [Nat.gcd_zero_left, Nat.div_self hB0, Nat.zero_div]
    rw [show (if p = 0 then 0 else 1) = p by split <;> omega]
    exact e
  · by_cases h0 : p = 0
    · simp (disch := omega) only [z0, z1, z2, z3, z4, z5, z6, z7, z8, z9, z10, z11, z12, z13, z14, z15, z16, z17, z18, z19, z20, z24, z26, z30, z31, z40, z41, z50, z54, z60, z70, z80, z81, z99, z100, z200, z255, z599, z1000, z1299, z4096, z1000000, lw0, lw1, lw2, lw3, lw4, lw5, lw6, lw7, lw12, lw50, lw99, lw255, lw599, lw4096, bI_ok, ble_t, Int.cast_ofNat_Int,  decide_true, decide_false, bI_0, bI_1, b_tf, b_ft, eq_self, n_1, n_2, n_3, n_4, n_5, n_6, n_7, n_8, if_true, if_false, jin, ncl, cond_true, cond_false, Option.bind_some, j_ov, j_oi, j_ol, nle, nlt, neq, nI_add, nmul, nsub, ndiv, nrem2, if_pos, if_neg, Nat.zero_add, Nat.add_zero, j_w_ap, decide_eq_true, decide_eq_false, Bool.true_or, Bool.or_true, Bool.false_or, Bool.or_false, Bool.and_true, Bool.true_and, Bool.false_and, Bool.and_false, Bool.not_true, Bool.not_false, lgc_eq, leq, ldiv2, q] at e
      rw [if_pos h0]
      exact e
    · simp (disch := omega) only [z0, z1, z2, z3, z4, z5, z6, z7, z8, z9, z10, z11, z12, z13, z14, z15, z16, z17, z18, z19, z20, z24, z26, z30, z31, z40, z41, z50, z54, z60, z70, z80, z81, z99, z100, z200, z255, z599, z1000, z1299, z4096, z1000000, lw0, lw1, lw2, lw3, lw4, lw5, lw6, lw7, lw12, lw50, lw99, lw255, lw599, lw4096, bI_ok, ble_t, Int.cast_ofNat_Int,  decide_true, decide_false, bI_0, bI_1, b_tf, b_ft, eq_self, n_1, n_2, n_3, n_4, n_5, n_6, n_7, n_8, if_true, if_false, jin, ncl, cond_true, cond_false, Option.bind_some, j_ov, j_oi, j_ol, nle, nlt, neq, nI_add, nmul, nsub, ndiv, nrem2, if_pos, if_neg, Nat.zero_add, Nat.add_zero, j_w_ap, decide_eq_true, decide_eq_false, Bool.true_or, Bool.or_true, Bool.false_or, Bool.or_false, Bool.and_true, Bool.true_and, Bool.false_and, Bool.and_false, Bool.not_true, Bool.not_false, lgc_eq, leq, ldiv2, q] at e
      rw [if_neg h0]
      exact e
theorem X_allW_l (h6 : M 1 6 = nI n) (hn : n ≤ 6) : ∀ (j k : Nat), k + j = max n 1 → 1 ≤ k → R d kX6_allWeights 4 [.ref 10, .long (lN (12 ^ (k - 1))), .null, .int (nI k)] [] (S0, M, N) = some (some (.long (lN (12 ^ (n - 1)))), (S0, M, N))
  | 0, k, hk, hk1 => by
    have e := bX6_allWeights_4 d (lN (12 ^ (k - 1))) (nI k) M N
    simp (disch := omega) only [z0, z1, z2, z3, z4, z5, z6, z7, z8, z9, z10, z11, z12, z13, z14, z15, z16, z17, z18, z19, z20, z24, z26, z30, z31, z40, z41, z50, z54, z60, z70, z80, z81, z99, z100, z200, z255, z599, z1000, z1299, z4096, z1000000, lw0, lw1, lw2, lw3, lw4, lw5, lw6, lw7, lw12, lw50, lw99, lw255, lw599, lw4096, bI_ok, ble_t, Int.cast_ofNat_Int,  decide_true, decide_false, bI_0, bI_1, b_tf, b_ft, eq_self, n_1, n_2, n_3, n_4, n_5, n_6, n_7, n_8, if_true, if_false, jin, ncl, cond_true, cond_false, Option.bind_some, j_ov, j_oi, j_ol, nle, nlt, neq, nI_add, nmul, nsub, ndiv, nrem2, if_pos, if_neg, Nat.zero_add, Nat.add_zero, j_w_ap, decide_eq_true, decide_eq_false, Bool.true_or, Bool.or_true, Bool.false_or, Bool.or_false, Bool.and_true, Bool.true_and, Bool.false_and, Bool.and_false, Bool.not_true, Bool.not_false, h6] at e
    rw [show n - 1 = k - 1 by omega]
    exact e
  | j + 1, k, hk, hk1 => by
    have e := bX6_allWeights_4 d (lN (12 ^ (k - 1))) (nI k) M N
    simp (disch := omega) only [z0, z1, z2, z3, z4, z5, z6, z7, z8, z9, z10, z11, z12, z13, z14, z15, z16, z17, z18, z19, z20, z24, z26, z30, z31, z40, z41, z50, z54, z60, z70, z80, z81, z99, z100, z200, z255, z599, z1000, z1299, z4096, z1000000, lw0, lw1, lw2, lw3, lw4, lw5, lw6, lw7, lw12, lw50, lw99, lw255, lw599, lw4096, bI_ok, ble_t, Int.cast_ofNat_Int,  decide_true, decide_false, bI_0, bI_1, b_tf, b_ft, eq_self, n_1, n_2, n_3, n_4, n_5, n_6, n_7, n_8, if_true, if_false, jin, ncl, cond_true, cond_false, Option.bind_some, j_ov, j_oi, j_ol, nle, nlt, neq, nI_add, nmul, nsub, ndiv, nrem2, if_pos, if_neg, Nat.zero_add, Nat.add_zero, j_w_ap, decide_eq_true, decide_eq_false, Bool.true_or, Bool.or_true, Bool.false_or, Bool.or_false, Bool.and_true, Bool.true_and, Bool.false_and, Bool.and_false, Bool.not_true, Bool.not_false, h6, lN_mul] at e
    have ih := X_allW_l h6 hn j (k + 1) (by omega) (by omega)
    rw [show 12 ^ (k + 1 - 1) = 12 ^ (k - 1) * 12 by rw [← Nat.pow_succ]; congr 1; omega] at ih
    exact e.trans ih
theorem X_allWeights (hd : 1 ≤ d) (h : IG n a M) : C d 82 [.ref 10] S0 M N = some (some (.long (lN (12 ^ (n - 1)))), M, N) := by
  have hn := h.n6
  refine eX6_allWeights hd ?_
  rw [bX6_allWeights_0]
  exact X_allW_l h.x6 hn (max n 1 - 1) 1 (by omega) (by omega)
theorem M_wholeOf_l (h6 : M 46 6 = nI n) (hn : n ≤ 6) : ∀ (j k : Nat), k + j = max n 1 → 1 ≤ k → R d kX11_wholeOf 4 [.ref 46, .long (lN (12 ^ (k - 1))), .null, .int (nI k)] [] (S0, M, N) = some (some (.long (lN (12 ^ (n - 1)))), (S0, M, N))
  | 0, k, hk, hk1 => by
    have e := bX11_wholeOf_4 d (lN (12 ^ (k - 1))) (nI k) M N
    simp (disch := omega) only [z0, z1, z2, z3, z4, z5, z6, z7, z8, z9, z10, z11, z12, z13, z14, z15, z16, z17, z18, z19, z20, z24, z26, z30, z31, z40, z41, z50, z54, z60, z70, z80, z81, z99, z100, z200, z255, z599, z1000, z1299, z4096, z1000000, lw0, lw1, lw2, lw3, lw4, lw5, lw6, lw7, lw12, lw50, lw99, lw255, lw599, lw4096, bI_ok, ble_t, Int.cast_ofNat_Int,  decide_true, decide_false, bI_0, bI_1, b_tf, b_ft, eq_self, n_1, n_2, n_3, n_4, n_5, n_6, n_7, n_8, if_true, if_false, jin, ncl, cond_true, cond_false, Option.bind_some, j_ov, j_oi, j_ol, nle, nlt, neq, nI_add, nmul, nsub, ndiv, nrem2, if_pos, if_neg, Nat.zero_add, Nat.add_zero, j_w_ap, decide_eq_true, decide_eq_false, Bool.true_or, Bool.or_true, Bool.false_or, Bool.or_false, Bool.and_true, Bool.true_and, Bool.false_and, Bool.and_false, Bool.not_true, Bool.not_false, h6] at e
    rw [show n - 1 = k - 1 by omega]
    exact e
  | j + 1, k, hk, hk1 => by
    have e := bX11_wholeOf_4 d (lN (12 ^ (k - 1))) (nI k) M N
    simp (disch := omega) only [z0, z1, z2, z3, z4, z5, z6, z7, z8, z9, z10, z11, z12, z13, z14, z15, z16, z17, z18, z19, z20, z24, z26, z30, z31, z40, z41, z50, z54, z60, z70, z80, z81, z99, z100, z200, z255, z599, z1000, z1299, z4096, z1000000, lw0, lw1, lw2, lw3, lw4, lw5, lw6, lw7, lw12, lw50, lw99, lw255, lw599, lw4096, bI_ok, ble_t, Int.cast_ofNat_Int,  decide_true, decide_false, bI_0, bI_1, b_tf, b_ft, eq_self, n_1, n_2, n_3, n_4, n_5, n_6, n_7, n_8, if_true, if_false, jin, ncl, cond_true, cond_false, Option.bind_some, j_ov, j_oi, j_ol, nle, nlt, neq, nI_add, nmul, nsub, ndiv, nrem2, if_pos, if_neg, Nat.zero_add, Nat.add_zero, j_w_ap, decide_eq_true, decide_eq_false, Bool.true_or, Bool.or_true, Bool.false_or, Bool.or_false, Bool.and_true, Bool.true_and, Bool.false_and, Bool.and_false, Bool.not_true, Bool.not_false, h6, lN_mul] at e
    have ih := M_wholeOf_l h6 hn j (k + 1) (by omega) (by omega)
    rw [show 12 ^ (k + 1 - 1) = 12 ^ (k - 1) * 12 by rw [← Nat.pow_succ]; congr 1; omega] at ih
    exact e.trans ih
theorem M_wholeOf (hd : 1 ≤ d) (h : IG n a M) : C d 182 [.ref 46] S0 M N = some (some (.long (lN (12 ^ (n - 1)))), M, N) := by
  have hn := h.n6
  refine eX11_wholeOf hd ?_
  rw [bX11_wholeOf_0]
  exact M_wholeOf_l h.m6 hn (max n 1 - 1) 1 (by omega) (by omega)
end FR
/-- does one give ELSE -/
def bt (s i : Nat) : Nat := s / 2 ^ i % 2
def wgt (a : Nat → Nat) (s p : Nat) : Nat → Nat
  | 0 => 1
  | k + 1 => wgt a s p k * (if k = p then 1 else if bt s k = 1 then a (12 + k) else 12 - a (12 + k))
def gs (a : Nat → Nat) (s : Nat) : Nat → Nat := fun i => if bt s i = 1 then a (18 + i) else a (6 + i)
def mtm (n : Nat) (a : Nat → Nat) (bill rule p v s : Nat) : Nat := if bt s p = 1 then 0 else wgt a s p n * s_cost n (up (gs a s) p v) bill rule p
def mt (n : Nat) (a : Nat → Nat) (bill rule p v : Nat) : Nat → Nat
  | 0 => 0
  | s + 1 => mt n a bill rule p v s + mtm n a bill rule p v s
theorem wgt_le {a : Nat → Nat} {s p : Nat} : ∀ {k : Nat}, (∀ i, i < k → a (12 + i) ≤ 12) → wgt a s p k ≤ 12 ^ k
  | 0, _ => Nat.le_refl _
  | k + 1, h => by
    have h1 := wgt_le (a := a) (s := s) (p := p) (k := k) (fun i hi => h i (by omega))
    have h2 := h k (by omega)
    unfold wgt
    rw [Nat.pow_succ]
    refine Nat.mul_le_mul h1 ?_
    split
    · omega
    · split <;> omega
theorem wgt_0 {a : Nat → Nat} {s p k : Nat} (h : wgt a s p k = 0) : ∀ j, wgt a s p (k + j) = 0
  | 0 => h
  | j + 1 => by
    show wgt a s p (k + j) * _ = 0
    rw [wgt_0 h j, Nat.zero_mul]
theorem mtm_le {n bill rule p v s : Nat} {a : Nat → Nat} (hn : n ≤ 6) (hv : v ≤ 99) (hb : bill ≤ 1000) (ho : ∀ i, i < 6 → a (12 + i) ≤ 12) : mtm n a bill rule p v s ≤ 3600000000 := by
  unfold mtm
  split
  · omega
  · have h1 := wgt_le (a := a) (s := s) (p := p) (k := n) (fun i hi => ho i (by omega))
    have h2 : 12 ^ n ≤ 12 ^ 6 := Nat.pow_le_pow_right (by omega) hn
    have h3 := s_cost_le (n := n) (g := up (gs a s) p v) (bill := bill) (rule := rule) (i := p) (by rw [up_at]; exact hv)
    have h4 : wgt a s p n * s_cost n (up (gs a s) p v) bill rule p ≤ 12 ^ 6 * 1199 := Nat.mul_le_mul (by omega) (by omega)
    exact Nat.le_trans h4 (by decide)
theorem mt_le {n bill rule p v : Nat} {a : Nat → Nat} (hn : n ≤ 6) (hv : v ≤ 99) (hb : bill ≤ 1000) (ho : ∀ i, i < 6 → a (12 + i) ≤ 12) : ∀ s, mt n a bill rule p v s ≤ s * 3600000000
  | 0 => Nat.le_refl _
  | s + 1 => by
    have h1 := mt_le (n := n) (bill := bill) (rule := rule) (p := p) (v := v) (a := a) hn hv hb ho s
    have h2 := mtm_le (s := s) (rule := rule) (p := p) hn hv hb ho
    unfold mt
    omega
theorem gs_le {a : Nat → Nat} {s n : Nat} (hn : n ≤ 6) (hg : ∀ i, i < 6 → a (6 + i) ≤ 99) (he : ∀ i, i < 6 → a (18 + i) ≤ 99) : ∀ q, q < n → gs a s q ≤ 99 := by
  intro q hq
  have := hg q (by omega)
  have := he q (by omega)
  unfold gs
  split <;> omega
