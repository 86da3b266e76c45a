/-! ===== the first memory keeps the invariant (own text) ===== -/
def i_M : j_M := i_r2.2.2.1
def i_N : j_N := i_r2.2.2.2
def i_a (k : Nat) : Nat := if k = 24 then 60 else if k = 26 then 10 else 0
theorem i_f1 : (∀ k, k < 27 → i_a k ≤ Rg k) ∧ i_M 1 6 = nI 0 ∧ i_M 46 6 = nI 0 ∧ (∀ k, k < 27 → i_M 47 k = nI (i_a k)) ∧ (∀ i, i < 6 → i_M 2 i = nI (i_a i)) ∧ (∀ i, i < 6 → i_M 3 i = nI (i_a (6 + i))) ∧ (∀ i, i < 6 → i_M 4 i = nI (i_a (12 + i))) ∧ (∀ i, i < 6 → i_M 5 i = nI (i_a (18 + i))) ∧ i_M 1 7 = nI (i_a 24) ∧ i_M 1 8 = nI (i_a 25) ∧ i_M 1 9 = nI (i_a 26) ∧ (∀ i, i < 6 → i_a (6 + i) = 0) := by decide +kernel
theorem i_f2 : (∀ i, i < 6 → i_M 51 i = -nI 1) ∧ (∀ i, i < 6 → i_M 7 i = i_M 52 i) ∧ (∀ i, i < 6 → i_M 52 i = nI 0) ∧ i_M 1 10 = i_M 46 10 ∧ i_M 1 11 = i_M 46 9 ∧ i_M 12 5 = nI 0 ∧ i_M 46 17 = nI 0 ∧ (∀ i, i < 3 → i_M 13 i = nI 0) ∧ (∀ i, i < 3 → i_M 56 i = nI 0) ∧ (∀ i, i < 18 → i_M 14 i = nI 0) ∧ (∀ i, i < 18 → i_M 57 i = nI 0) ∧ i_M 16 4 = nI 0 ∧ i_M 46 22 = nI 0 := by decide +kernel
theorem i_f3 : i_M 22 4 = nI 0 ∧ i_M 22 5 = nI 0 ∧ i_M 46 5 = nI 0 ∧ i_M 46 4 = nI 0 ∧ i_M 27 5 = nI 0 ∧ i_M 46 31 = nI 0 ∧ i_M 30 2 = nI 0 ∧ i_M 46 37 = nI 0 ∧ i_M 30 3 = nI 0 ∧ i_M 46 40 = nI 0 ∧ (∀ s, s < 6 → i_M (34 + 2 * s) 2 = nI 0 ∧ i_M 67 s = nI 0 ∧ i_M (34 + 2 * s) 4 = nI 0 ∧ i_M 66 s = -nI 1) := by decide +kernel
theorem i_f4 : ∀ s, s < 6 → ∀ k, k < 60 → i_N (35 + 2 * s) k = i_N 68 (60 * s + k) := by decide +kernel
theorem i_f5 : i_M 16 9 = nI 0 ∧ i_M 46 24 = -nI 1 := by decide +kernel
