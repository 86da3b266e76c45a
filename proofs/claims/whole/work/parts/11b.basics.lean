/-! ===== numbers and memory: small rows (own text) ===== -/
theorem lit (n : Nat) : (OfNat.ofNat n : Int32) = nI n := rfl
theorem nlt {a b : Nat} (ha : a < 2147483648) (hb : b < 2147483648) : (nI a < nI b) = (a < b) := propext (nI_ltI ha hb)
theorem nle {a b : Nat} (ha : a < 2147483648) (hb : b < 2147483648) : (nI a ≤ nI b) = (a ≤ b) := propext (nI_leI ha hb)
theorem neq {a b : Nat} (ha : a < 2147483648) (hb : b < 2147483648) : (nI a = nI b) = (a = b) := propext (nI_eq ha hb)
theorem ncl {n : Nat} (h : n < 2147483648) : (nI n).toNatClampNeg = n := nI_clamp h
theorem nsub {a b : Nat} (h : b ≤ a) : nI a - nI b = nI (a - b) := pk_sub h
theorem ndiv {a b : Nat} (ha : a < 2147483648) (h0 : 0 < b) (hb : b < 2147483648) : nI a / nI b = nI (a / b) := pk_div ha h0 hb
theorem nrem {a b : Nat} (ha : a < 2147483648) (h0 : 0 < b) (hb : b < 2147483648) : nI a - nI a / nI b * nI b = nI (a % b) := pk_rem ha h0 hb
theorem nmul (a b : Nat) : nI a * nI b = nI (a * b) := pk_mul a b
/-- what lacks, 0 at least -/
theorem nlack {a b : Nat} (ha : a < 1073741824) (hb : b < 1073741824) : (if nI a - nI b < (0 : Int32) then (0 : Int32) else nI a - nI b) = nI (a - b) := by
  rcases Nat.lt_or_ge a b with h | h
  · rw [if_pos (pk_sneg hb h), show a - b = 0 by omega]; rfl
  · rw [nsub h, if_neg (nI_pos (by omega))]
theorem jin {k n : Nat} (h : k < n) (hn : n < 2147483648) : j_in (nI k) n = true := by
  unfold j_in
  rw [ncl (by omega), decide_eq_false (nI_pos (by omega))]
  have : Nat.ble n k = false := by
    cases hb : Nat.ble n k with
    | false => rfl
    | true => exact absurd (Nat.le_of_ble_eq_true hb) (by omega)
  rw [this]
  rfl
theorem j_w_ap (M : j_M) (c k : Nat) (x : Int32) (c' k' : Nat) : j_w M c k x c' k' = if c' = c then (if k' = k then x else M c' k') else M c' k' := by
  unfold j_w upd
  by_cases h : c' = c
  · subst h; simp
  · simp [h]
theorem j_wl_ap (N : j_N) (c k : Nat) (x : Int64) (c' k' : Nat) : j_wl N c k x c' k' = if c' = c then (if k' = k then x else N c' k') else N c' k' := by
  unfold j_wl vp_updL
  by_cases h : c' = c
  · subst h; simp
  · simp [h]
theorem j_row_ap (M : j_M) (c : Nat) (f : Nat → Int32) (c' k' : Nat) : j_row M c f c' k' = if c' = c then f k' else M c' k' := by
  unfold j_row
  by_cases h : c' = c <;> simp [h]
theorem j_rowl_ap (N : j_N) (c : Nat) (f : Nat → Int64) (c' k' : Nat) : j_rowl N c f c' k' = if c' = c then f k' else N c' k' := by
  unfold j_rowl
  by_cases h : c' = c <;> simp [h]
def oI : Option Nat → Int32
  | none => -1
  | some k => nI k
/-- cells that may differ -/
def Fr (cs : List Nat) (M M' : j_M) : Prop := ∀ c, c ∉ cs → M' c = M c
theorem Fr.rf {cs : List Nat} {M : j_M} : Fr cs M M := fun _ _ => rfl
theorem Fr.tr {cs : List Nat} {M M1 M2 : j_M} (h : Fr cs M M1) (h2 : Fr cs M1 M2) : Fr cs M M2 := fun c hc => (h2 c hc).trans (h c hc)
theorem Fr.mono {cs ds : List Nat} {M M' : j_M} (h : Fr cs M M') (hs : ∀ c, c ∈ cs → c ∈ ds) : Fr ds M M' := fun c hc => h c (fun z => hc (hs c z))
theorem Fr.w {cs : List Nat} {M : j_M} {c k : Nat} {x : Int32} (hc : c ∈ cs) : Fr cs M (j_w M c k x) := fun q hq => j_w_off q (fun e => hq (e ▸ hc))
theorem Fr.row {cs : List Nat} {M : j_M} {c : Nat} {f : Nat → Int32} (hc : c ∈ cs) : Fr cs M (j_row M c f) := fun q hq => j_row_off q (fun e => hq (e ▸ hc))
theorem eqL {a k : Nat} (ha : a < 2147483648) (hk : k < 2147483648) : (nI a = (OfNat.ofNat k : Int32)) ↔ a = k := nI_eq ha hk
theorem ltL {a k : Nat} (ha : a < 2147483648) (hk : k < 2147483648) : (nI a < (OfNat.ofNat k : Int32)) ↔ a < k := nI_ltI ha hk
theorem leL {a k : Nat} (ha : a < 2147483648) (hk : k < 2147483648) : (nI a ≤ (OfNat.ofNat k : Int32)) ↔ a ≤ k := nI_leI ha hk
theorem Llt {a k : Nat} (ha : a < 2147483648) (hk : k < 2147483648) : ((OfNat.ofNat k : Int32) < nI a) ↔ k < a := nI_ltI hk ha
theorem Lle {a k : Nat} (ha : a < 2147483648) (hk : k < 2147483648) : ((OfNat.ofNat k : Int32) ≤ nI a) ↔ k ≤ a := nI_leI hk ha
theorem addL (a k : Nat) : nI a + (OfNat.ofNat k : Int32) = nI (a + k) := nI_add a k
theorem Ladd (k a : Nat) : (OfNat.ofNat k : Int32) + nI a = nI (k + a) := nI_add k a
theorem subL {a k : Nat} (h : k ≤ a) : nI a - (OfNat.ofNat k : Int32) = nI (a - k) := nsub h
theorem mulL (a k : Nat) : nI a * (OfNat.ofNat k : Int32) = nI (a * k) := nmul a k
theorem Lmul (k a : Nat) : (OfNat.ofNat k : Int32) * nI a = nI (k * a) := nmul k a
theorem divL {a k : Nat} (ha : a < 2147483648) (h0 : 0 < k) (hk : k < 2147483648) : nI a / (OfNat.ofNat k : Int32) = nI (a / k) := ndiv ha h0 hk
theorem remL {a k : Nat} (ha : a < 2147483648) (h0 : 0 < k) (hk : k < 2147483648) : nI a - nI a / (OfNat.ofNat k : Int32) * (OfNat.ofNat k : Int32) = nI (a % k) := nrem ha h0 hk
