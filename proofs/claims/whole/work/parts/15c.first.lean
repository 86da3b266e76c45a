/-! ===== the first memory keeps the invariant (own text) ===== -/
def i_M : j_M := i_r2.2.2.1
def i_N : j_N := i_r2.2.2.2
def i_a (k : Nat) : Nat := if k = 24 then 60 else if k = 26 then 10 else 0
theorem i_f1 : (∀ k, k < 27 → i_a k ≤ Rg k) ∧ i_M 1 6 = nI 0 ∧ i_M 46 6 = nI 0 ∧ (∀ k, k < 27 → i_M 47 k = nI (i_a k)) ∧ (∀ i, i < 6 → i_M 2 i = nI (i_a i)) ∧ (∀ i, i < 6 → i_M 3 i = nI (i_a (6 + i))) ∧ (∀ i, i < 6 → i_M 4 i = nI (i_a (12 + i))) ∧ (∀ i, i < 6 → i_M 5 i = nI (i_a (18 + i))) ∧ i_M 1 7 = nI (i_a 24) ∧ i_M 1 8 = nI (i_a 25) ∧ i_M 1 9 = nI (i_a 26) ∧ (∀ i, i < 6 → i_a (6 + i) = 0) := by decide +kernel
theorem i_f2 : (∀ i, i < 6 → i_M 51 i = -nI 1) ∧ (∀ i, i < 6 → i_M 7 i = i_M 52 i) ∧ (∀ i, i < 6 → i_M 52 i = nI 0) ∧ i_M 1 10 = i_M 46 10 ∧ i_M 1 11 = i_M 46 9 ∧ i_M 12 5 = nI 0 ∧ i_M 46 17 = nI 0 ∧ (∀ i, i < 3 → i_M 13 i = nI 0) ∧ (∀ i, i < 3 → i_M 56 i = nI 0) ∧ (∀ i, i < 18 → i_M 14 i = nI 0) ∧ (∀ i, i < 18 → i_M 57 i = nI 0) ∧ i_M 16 4 = nI 0 ∧ i_M 46 22 = nI 0 := by decide +kernel
theorem i_f3 : i_M 22 4 = nI 0 ∧ i_M 22 5 = nI 0 ∧ i_M 46 5 = nI 0 ∧ i_M 46 4 = nI 0 ∧ i_M 27 5 = nI 0 ∧ i_M 46 31 = nI 0 ∧ i_M 30 2 = nI 0 ∧ i_M 46 37 = nI 0 ∧ i_M 30 3 = nI 0 ∧ i_M 46 40 = nI 0 ∧ (∀ s, s < 6 → i_M (34 + 2 * s) 2 = nI 0 ∧ i_M 67 s = nI 0 ∧ i_M (34 + 2 * s) 4 = nI 0 ∧ i_M 66 s = -nI 1) := by decide +kernel
theorem i_f4 : ∀ s, s < 6 → ∀ k, k < 60 → i_N (35 + 2 * s) k = i_N 68 (60 * s + k) := by decide +kernel
theorem i_f5 : i_M 16 9 = nI 0 ∧ i_M 46 24 = -nI 1 := by decide +kernel
theorem i_inv : Inv i_M i_N := by
  obtain ⟨g1, g2, g3, g4, g5, g6, g7, g8, g9, g10, g11, g12⟩ := i_f1
  obtain ⟨p1, p2, p3, p4, p5, m1, m2, m3, m4, m5, m6, l1, l2⟩ := i_f2
  obtain ⟨c1, c2, c3, c4, f1, f2, b1, b2, b3, b4, s⟩ := i_f3
  refine ⟨0, i_a, 0, fun _ => 0, fun _ => 0, 0, ⟨by omega, g1, by decide, g2, g3, g4, g5, g6, g7, g8, g9, g10, g11, fun i _ hi => g12 i hi⟩, ⟨fun i hi => absurd hi (by omega), fun i _ hi => p1 i hi, p2, fun i _ hi => p3 i hi, p4, p5⟩, ⟨by omega, m1, m2, fun _ _ => Nat.zero_le _, m3, m4, fun _ _ => Nat.zero_le _, m5, m6⟩, ⟨⟨0, fun _ => 0, by omega, l1, l2, fun _ _ => Nat.zero_le _, fun i hi => absurd hi (by omega), fun i hi => absurd hi (by omega)⟩, Or.inl i_f5⟩, ⟨0, 0, by omega, by omega, c1, c2, c3, c4, fun q hq => absurd hq (by omega)⟩, Or.inl ⟨f1, f2⟩, ⟨by omega, b1, b2, fun i hi => absurd hi (by omega), ⟨0, by omega, b3, b4⟩, fun i hi hl => ?_⟩, fun t ht => ⟨⟨0, by omega, (s t ht).1, (s t ht).2.1⟩, fun k hk => i_f4 t ht k hk, Or.inl ⟨(s t ht).2.2.1, (s t ht).2.2.2⟩, fun hz => ?_⟩⟩
  · exfalso
    rw [b3, Int32.lt_iff_toInt_lt, nI_toInt (by omega), nI_toInt (by omega)] at hl
    omega
  · exfalso
    rw [(s t ht).2.2.2] at hz
    exact absurd hz (by decide)
