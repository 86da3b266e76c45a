/-! ===== literals, scratch cells, the guests' part of the invariant (own text) ===== -/
theorem z0 : (0 : Int32) = nI 0 := rfl
theorem z1 : (1 : Int32) = nI 1 := rfl
theorem z2 : (2 : Int32) = nI 2 := rfl
theorem z3 : (3 : Int32) = nI 3 := rfl
theorem z4 : (4 : Int32) = nI 4 := rfl
theorem z5 : (5 : Int32) = nI 5 := rfl
theorem z6 : (6 : Int32) = nI 6 := rfl
theorem z7 : (7 : Int32) = nI 7 := rfl
theorem z8 : (8 : Int32) = nI 8 := rfl
theorem z9 : (9 : Int32) = nI 9 := rfl
theorem z10 : (10 : Int32) = nI 10 := rfl
theorem z11 : (11 : Int32) = nI 11 := rfl
theorem z12 : (12 : Int32) = nI 12 := rfl
theorem z13 : (13 : Int32) = nI 13 := rfl
theorem z14 : (14 : Int32) = nI 14 := rfl
theorem z15 : (15 : Int32) = nI 15 := rfl
theorem z16 : (16 : Int32) = nI 16 := rfl
theorem z17 : (17 : Int32) = nI 17 := rfl
theorem z18 : (18 : Int32) = nI 18 := rfl
theorem z19 : (19 : Int32) = nI 19 := rfl
theorem z20 : (20 : Int32) = nI 20 := rfl
theorem z24 : (24 : Int32) = nI 24 := rfl
theorem z26 : (26 : Int32) = nI 26 := rfl
theorem z30 : (30 : Int32) = nI 30 := rfl
theorem z31 : (31 : Int32) = nI 31 := rfl
theorem z40 : (40 : Int32) = nI 40 := rfl
theorem z41 : (41 : Int32) = nI 41 := rfl
theorem z50 : (50 : Int32) = nI 50 := rfl
theorem z54 : (54 : Int32) = nI 54 := rfl
theorem z60 : (60 : Int32) = nI 60 := rfl
theorem z70 : (70 : Int32) = nI 70 := rfl
theorem z80 : (80 : Int32) = nI 80 := rfl
theorem z81 : (81 : Int32) = nI 81 := rfl
theorem z99 : (99 : Int32) = nI 99 := rfl
theorem z100 : (100 : Int32) = nI 100 := rfl
theorem z200 : (200 : Int32) = nI 200 := rfl
theorem z255 : (255 : Int32) = nI 255 := rfl
theorem z599 : (599 : Int32) = nI 599 := rfl
theorem z1000 : (1000 : Int32) = nI 1000 := rfl
theorem z1299 : (1299 : Int32) = nI 1299 := rfl
theorem z4096 : (4096 : Int32) = nI 4096 := rfl
theorem z1000000 : (1000000 : Int32) = nI 1000000 := rfl
theorem lw0 : (0 : Int64) = lN 0 := rfl
theorem lw1 : (1 : Int64) = lN 1 := rfl
theorem lw2 : (2 : Int64) = lN 2 := rfl
theorem lw3 : (3 : Int64) = lN 3 := rfl
theorem lw4 : (4 : Int64) = lN 4 := rfl
theorem lw5 : (5 : Int64) = lN 5 := rfl
theorem lw6 : (6 : Int64) = lN 6 := rfl
theorem lw7 : (7 : Int64) = lN 7 := rfl
theorem lw12 : (12 : Int64) = lN 12 := rfl
theorem lw50 : (50 : Int64) = lN 50 := rfl
theorem lw99 : (99 : Int64) = lN 99 := rfl
theorem lw255 : (255 : Int64) = lN 255 := rfl
theorem lw599 : (599 : Int64) = lN 599 := rfl
theorem lw4096 : (4096 : Int64) = lN 4096 := rfl
theorem nrem2 {a b : Nat} : nI a - nI (a / b * b) = nI (a % b) := by
  rw [nsub (Nat.div_mul_le_self a b)]
  congr 1
  have := Nat.div_add_mod a b
  rw [Nat.mul_comm] at this
  omega
theorem n_t {b : Nat} (h : b < 2147483648) : (-nI b).toInt = -(b : Int) := by
  rw [Int32.toInt_neg, nI_toInt h]
  exact Int.bmod_eq_of_le (by omega) (by omega)
theorem n_1 {a b : Nat} (ha : a < 2147483648) (h0 : 0 < b) (hb : b < 2147483648) : (-nI b < nI a) = True := by
  rw [Int32.lt_iff_toInt_lt, n_t hb, nI_toInt ha]; exact eq_true (by omega)
theorem n_2 {a b : Nat} (ha : a < 2147483648) (h0 : 0 < b) (hb : b < 2147483648) : (nI a < -nI b) = False := by
  rw [Int32.lt_iff_toInt_lt, n_t hb, nI_toInt ha]; exact eq_false (by omega)
theorem n_3 {a b : Nat} (ha : a < 2147483648) (h0 : 0 < b) (hb : b < 2147483648) : (-nI b ≤ nI a) = True := by
  rw [Int32.le_iff_toInt_le, n_t hb, nI_toInt ha]; exact eq_true (by omega)
theorem n_4 {a b : Nat} (ha : a < 2147483648) (h0 : 0 < b) (hb : b < 2147483648) : (nI a ≤ -nI b) = False := by
  rw [Int32.le_iff_toInt_le, n_t hb, nI_toInt ha]; exact eq_false (by omega)
theorem n_5 {a b : Nat} (ha : a < 2147483648) (h0 : 0 < b) (hb : b < 2147483648) : (nI a = -nI b) = False := by
  rw [← Int32.toInt_inj, n_t hb, nI_toInt ha]; exact eq_false (by omega)
theorem n_6 {a b : Nat} (ha : a < 2147483648) (h0 : 0 < b) (hb : b < 2147483648) : (-nI b = nI a) = False := by
  rw [← Int32.toInt_inj, n_t hb, nI_toInt ha]; exact eq_false (by omega)
theorem n_7 {a b : Nat} (ha : a < 2147483648) (hb : b < 2147483648) : (-nI a = -nI b) = (a = b) := by
  rw [← Int32.toInt_inj, n_t hb, n_t ha]; exact propext (by omega)
theorem n_8 {a b : Nat} (h : b ≤ a) : nI a + -nI b = nI (a - b) := by
  rw [← nsub h, Int32.sub_eq_add_neg]
def bI (b : Bool) : Int32 := bif b then nI 1 else nI 0
theorem bI_t : (bI true = nI 0) = False := eq_false (by decide)
theorem bI_f : (bI false = nI 0) = True := eq_true rfl
theorem bI_0 {b : Bool} : (bI b = nI 0) = (b = false) := by cases b <;> simp [bI] <;> decide
theorem bI_1 {b : Bool} : (bI b = nI 1) = (b = true) := by cases b <;> simp [bI] <;> decide
theorem bI_ok {b : Bool} {i1 : Decidable (b = false)} {i2 : Decidable (b = true)} : (@decide (b = false) i1 || @decide (b = true) i2) = true := by
  cases b
  · rw [decide_eq_true (show false = false from rfl)]; rfl
  · rw [decide_eq_true (show true = true from rfl), Bool.or_true]
theorem b_tf : (true = false) = False := eq_false (by decide)
theorem b_ft : (false = true) = False := eq_false (by decide)
theorem ble_t {a b : Nat} (h : a ≤ b) : Nat.ble a b = true := Nat.ble_eq_true_of_le h
def j_mem (k : Nat) : List Nat → Bool
  | [] => false
  | x :: r => Nat.beq k x || j_mem k r
/-- cells that no later call reads before it writes them -/
def scr (c k : Nat) : Bool := bif Nat.beq c 46 then j_mem k [12, 15, 16, 25, 26, 27, 28, 29] else bif Nat.beq c 16 then j_mem k [5, 6, 7, 10] else j_mem c [8, 9, 10, 11, 15, 18, 20, 21, 53, 54, 55, 58, 61]
def Scr (M M' : j_M) : Prop := ∀ c k, scr c k = false → M' c k = M c k
theorem Scr.rf {M : j_M} : Scr M M := fun _ _ _ => rfl
theorem Scr.tr {M M1 M2 : j_M} (h : Scr M M1) (h2 : Scr M1 M2) : Scr M M2 := fun c k q => (h2 c k q).trans (h c k q)
theorem Scr.w {M : j_M} {c k : Nat} {x : Int32} (h : scr c k = true) : Scr M (j_w M c k x) := by
  intro c' k' q
  rw [j_w_ap]
  by_cases h1 : c' = c
  · rw [if_pos h1]
    by_cases h2 : k' = k
    · rw [h1, h2, h] at q; cases q
    · rw [if_neg h2]
  · rw [if_neg h1]
theorem Scr.row {M : j_M} {c : Nat} {f : Nat → Int32} (h : ∀ k, scr c k = true) : Scr M (j_row M c f) := by
  intro c' k' q
  rw [j_row_ap]
  by_cases h1 : c' = c
  · rw [h1, h] at q; cases q
  · rw [if_neg h1]
theorem Scr.fr {M M' : j_M} {cs : List Nat} (h : Fr cs M M') (hc : ∀ c, c ∈ cs → ∀ k, scr c k = true) : Scr M M' := by
  intro c k q
  rw [h c (fun z => by rw [hc c z k] at q; cases q)]
theorem Scr.fr8 {M M' : j_M} (h : Fr [8] M M') : Scr M M' := Scr.fr h (fun c hc k => by
  rw [List.mem_singleton] at hc; rw [hc]; rfl)
theorem Scr.fr89 {M M' : j_M} (h : Fr [8, 9] M M') : Scr M M' := Scr.fr h (fun c hc k => by
  simp only [List.mem_cons, List.not_mem_nil, or_false] at hc
  rcases hc with rfl | rfl <;> rfl)
theorem Scr.fn {M M' : j_M} (h : Fn M M') : Scr M M' := by
  intro c k q
  by_cases h1 : c = 46
  · subst h1
    exact h.2 k (fun z => by subst z; cases q)
  · have h2 := h.1 c
    by_cases h3 : c ∈ [46, 54, 55]
    · simp only [List.mem_cons, List.not_mem_nil, or_false] at h3
      rcases h3 with rfl | rfl | rfl
      · exact absurd rfl h1
      · cases q
      · cases q
    · rw [h2 h3]
def Rg (k : Nat) : Nat := if k < 12 then 99 else if k < 18 then 12 else if k < 24 then 99 else if k = 24 then 599 else if k = 25 then 4 else 99
/-- the guests, on both sides: how many, and what may be mended -/
def IG (n : Nat) (a : Nat → Nat) (M : j_M) : Prop := n ≤ 6 ∧ (∀ k, k < 27 → a k ≤ Rg k) ∧ 1 ≤ a 26 ∧ M 1 6 = nI n ∧ M 46 6 = nI n ∧ (∀ k, k < 27 → M 47 k = nI (a k)) ∧ (∀ i, i < 6 → M 2 i = nI (a i)) ∧ (∀ i, i < 6 → M 3 i = nI (a (6 + i))) ∧ (∀ i, i < 6 → M 4 i = nI (a (12 + i))) ∧ (∀ i, i < 6 → M 5 i = nI (a (18 + i))) ∧ M 1 7 = nI (a 24) ∧ M 1 8 = nI (a 25) ∧ M 1 9 = nI (a 26) ∧ (∀ i, n ≤ i → i < 6 → a (6 + i) = 0)
section IG
variable {n : Nat} {a : Nat → Nat} {M M' : j_M}
theorem IG.scr (h : IG n a M) (hs : Scr M M') : IG n a M' := by
  obtain ⟨h1, h2, h3, h4, h5, h6, h7, h8, h9, h10, h11, h12, h13, h14⟩ := h
  exact ⟨h1, h2, h3, (hs 1 6 rfl).trans h4, (hs 46 6 rfl).trans h5, fun k hk => (hs 47 k rfl).trans (h6 k hk), fun k hk => (hs 2 k rfl).trans (h7 k hk), fun k hk => (hs 3 k rfl).trans (h8 k hk), fun k hk => (hs 4 k rfl).trans (h9 k hk), fun k hk => (hs 5 k rfl).trans (h10 k hk), (hs 1 7 rfl).trans h11, (hs 1 8 rfl).trans h12, (hs 1 9 rfl).trans h13, h14⟩
theorem IG.n6 (h : IG n a M) : n ≤ 6 := h.1
theorem IG.st1 (h : IG n a M) : 1 ≤ a 26 := h.2.2.1
theorem IG.x6 (h : IG n a M) : M 1 6 = nI n := h.2.2.2.1
theorem IG.m6 (h : IG n a M) : M 46 6 = nI n := h.2.2.2.2.1
theorem IG.may (h : IG n a M) : ∀ k, k < 27 → M 47 k = nI (a k) := h.2.2.2.2.2.1
theorem IG.pu (h : IG n a M) : ∀ i, i < 6 → M 2 i = nI (a i) := h.2.2.2.2.2.2.1
theorem IG.gi (h : IG n a M) : ∀ i, i < 6 → M 3 i = nI (a (6 + i)) := h.2.2.2.2.2.2.2.1
theorem IG.od (h : IG n a M) : ∀ i, i < 6 → M 4 i = nI (a (12 + i)) := h.2.2.2.2.2.2.2.2.1
theorem IG.el (h : IG n a M) : ∀ i, i < 6 → M 5 i = nI (a (18 + i)) := h.2.2.2.2.2.2.2.2.2.1
theorem IG.bi (h : IG n a M) : M 1 7 = nI (a 24) := h.2.2.2.2.2.2.2.2.2.2.1
theorem IG.ru (h : IG n a M) : M 1 8 = nI (a 25) := h.2.2.2.2.2.2.2.2.2.2.2.1
theorem IG.st (h : IG n a M) : M 1 9 = nI (a 26) := h.2.2.2.2.2.2.2.2.2.2.2.2.1
theorem IG.gz (h : IG n a M) : ∀ i, n ≤ i → i < 6 → a (6 + i) = 0 := h.2.2.2.2.2.2.2.2.2.2.2.2.2
theorem IG.rg (h : IG n a M) : ∀ k, k < 27 → a k ≤ Rg k := h.2.1
theorem IG.pu99 (h : IG n a M) : ∀ i, i < 6 → a i ≤ 99 := fun i hi => by have := h.rg i (by omega); unfold Rg at this; rw [if_pos (by omega)] at this; exact this
theorem IG.gi99 (h : IG n a M) : ∀ i, i < 6 → a (6 + i) ≤ 99 := fun i hi => by have := h.rg (6 + i) (by omega); unfold Rg at this; rw [if_pos (by omega)] at this; exact this
theorem IG.od12 (h : IG n a M) : ∀ i, i < 6 → a (12 + i) ≤ 12 := fun i hi => by have := h.rg (12 + i) (by omega); unfold Rg at this; rw [if_neg (by omega), if_pos (by omega)] at this; exact this
theorem IG.el99 (h : IG n a M) : ∀ i, i < 6 → a (18 + i) ≤ 99 := fun i hi => by have := h.rg (18 + i) (by omega); unfold Rg at this; rw [if_neg (by omega), if_neg (by omega), if_pos (by omega)] at this; exact this
theorem IG.bi599 (h : IG n a M) : a 24 ≤ 599 := h.rg 24 (by omega)
theorem IG.ru4 (h : IG n a M) : a 25 ≤ 4 := h.rg 25 (by omega)
theorem IG.st99 (h : IG n a M) : a 26 ≤ 99 := h.rg 26 (by omega)
end IG
/-- gifts laid into the hat, the class -/
def hatL (n : Nat) (g : Nat → Nat) (bill rule : Nat) (M : j_M) : Prop := M 8 1 = nI n ∧ M 8 2 = nI rule ∧ M 8 3 = nI bill ∧ ∀ i, i < n → M 9 i = nI (g i)
theorem hatOK.l {n bill rule : Nat} {g : Nat → Nat} {M : j_M} (h : hatOK n g bill M) (hr : M 8 2 = nI rule) : hatL n g bill rule M := ⟨h.1.1, hr, h.2.1, h.1.2.1⟩
def up (g : Nat → Nat) (i v : Nat) : Nat → Nat := fun q => if q = i then v else g q
theorem up_le {g : Nat → Nat} {i v n m : Nat} (hg : ∀ q, q < n → g q ≤ m) (hv : v ≤ m) : ∀ q, q < n → up g i v q ≤ m := by
  intro q hq
  unfold up
  split
  · exact hv
  · exact hg q hq
theorem up_up {g : Nat → Nat} {i v w : Nat} : up (up g i w) i v = up g i v := by
  funext q
  unfold up
  split <;> rfl
theorem up_self {g : Nat → Nat} {i : Nat} : up g i (g i) = g := by
  funext q
  unfold up
  split
  · rename_i h; rw [h]
  · rfl
theorem up_at {g : Nat → Nat} {i v : Nat} : up g i v i = v := if_pos rfl
def gf (a : Nat → Nat) : Nat → Nat := fun i => a (6 + i)
section LY
variable {d n bill rule : Nat} {g a : Nat → Nat} {M : j_M} {N : j_N}
theorem X_lay (hd : 3 ≤ d) (h : IG n a M) : ∃ M', C d 22 [.ref 8, .ref 1] S0 M N = some (none, M', N) ∧ hatOK n (gf a) (a 24) M' ∧ M' 8 2 = nI (a 25) ∧ Scr M M' := by
  have hn := h.n6
  have hg : ∀ i, i < n → gf a i ≤ 99 := fun i hi => h.gi99 i (by omega)
  have hb := h.bi599
  obtain ⟨M', e, q, f, r⟩ := X_weigh (d := d - 1) (N := N) (M := j_row (j_w (j_w (j_w M 8 1 (M 1 6)) 8 2 (M 1 8)) 8 3 (M 1 7)) 9 (va_cpy ((j_w (j_w (j_w M 8 1 (M 1 6)) 8 2 (M 1 8)) 8 3 (M 1 7)) 3) ((j_w (j_w (j_w M 8 1 (M 1 6)) 8 2 (M 1 8)) 8 3 (M 1 7)) 9) 0 0 ((M 1 6)).toNatClampNeg)) (g := gf a) (n := n) (bill := a 24) (by omega) (by omega) hg (by omega) (by simp only [j_row_ap, j_w_ap, h.x6]; rfl)
    (fun i hi => by
      rw [j_row_ap, if_pos rfl, h.x6, ncl (by omega), pk_cpy_in (by omega) (by omega), Nat.zero_add, Nat.sub_zero, j_w_ap, if_neg (by decide), j_w_ap, if_neg (by decide), j_w_ap, if_neg (by decide), h.gi i (by omega)]
      rfl) (by simp only [j_row_ap, j_w_ap, h.bi]; rfl)
  refine ⟨M', eX3_lay (by omega) ?_, q, ?_, ?_⟩
  · rw [bX3_lay_0, e]
    rw [h.x6, ncl (by omega), decide_eq_false (show ¬ nI n < 0 from nI_pos (by omega)), Nat.ble_eq_true_of_le (show 0 + n ≤ 6 by omega), Nat.ble_eq_true_of_le (show 0 + n ≤ 7 by omega)]
    rfl
  · rw [r]; simp only [j_row_ap, j_w_ap, h.ru]; rfl
  · exact ((((Scr.w rfl).tr (Scr.w rfl)).tr (Scr.w rfl)).tr (Scr.row (fun _ => rfl))).tr (Scr.fr8 f)
theorem M_lay_l (hd : 1 ≤ d) : ∀ (j k : Nat) (M : j_M), k + j = n → IG n a M → M 46 12 = nI n → (∀ i, i < k → M 53 i = nI (gf a i)) → ∃ M', R d kX11_laysOut 10 [.ref 46, .int (nI k)] [] (S0, M, N) = some (none, (S0, M', N)) ∧ lay n (gf a) M' ∧ Scr M M'
  | 0, k, M, hk, h, h12, hp => by
    have hn := h.n6
    obtain rfl : k = n := by omega
    refine ⟨M, ?_, ⟨h12, hp⟩, Scr.rf⟩
    have e := bX11_laysOut_10 d (nI k) M N
    have hx := h.m6
    simp (disch := omega) only [z0, z1, z2, z3, z4, z5, z6, z7, z8, z9, z10, z11, z12, z13, z14, z15, z16, z17, z18, z19, z20, z24, z26, z30, z31, z40, z41, z50, z54, z60, z70, z80, z81, z99, z100, z200, z255, z599, z1000, z1299, z4096, z1000000, lw0, lw1, lw2, lw3, lw4, lw5, lw6, lw7, lw12, lw50, lw99, lw255, lw599, lw4096, bI_ok, ble_t, Int.cast_ofNat_Int,  decide_true, decide_false, bI_0, bI_1, b_tf, b_ft, eq_self, n_1, n_2, n_3, n_4, n_5, n_6, n_7, n_8, if_true, if_false, jin, ncl, cond_true, cond_false, Option.bind_some, j_ov, j_oi, j_ol, nle, nlt, neq, nI_add, nmul, nsub, ndiv, nrem2, if_pos, if_neg, Nat.zero_add, Nat.add_zero, j_w_ap, decide_eq_true, decide_eq_false, Bool.true_or, Bool.or_true, Bool.false_or, Bool.or_false, Bool.and_true, Bool.true_and, Bool.false_and, Bool.and_false, Bool.not_true, Bool.not_false, hx] at e
    exact e
  | j + 1, k, M, hk, h, h12, hp => by
    have hn := h.n6
    have e := bX11_laysOut_10 d (nI k) M N
    have hx := h.m6
    have hm := h.may
    simp (disch := omega) only [z0, z1, z2, z3, z4, z5, z6, z7, z8, z9, z10, z11, z12, z13, z14, z15, z16, z17, z18, z19, z20, z24, z26, z30, z31, z40, z41, z50, z54, z60, z70, z80, z81, z99, z100, z200, z255, z599, z1000, z1299, z4096, z1000000, lw0, lw1, lw2, lw3, lw4, lw5, lw6, lw7, lw12, lw50, lw99, lw255, lw599, lw4096, bI_ok, ble_t, Int.cast_ofNat_Int,  decide_true, decide_false, bI_0, bI_1, b_tf, b_ft, eq_self, n_1, n_2, n_3, n_4, n_5, n_6, n_7, n_8, if_true, if_false, jin, ncl, cond_true, cond_false, Option.bind_some, j_ov, j_oi, j_ol, nle, nlt, neq, nI_add, nmul, nsub, ndiv, nrem2, if_pos, if_neg, Nat.zero_add, Nat.add_zero, j_w_ap, decide_eq_true, decide_eq_false, Bool.true_or, Bool.or_true, Bool.false_or, Bool.or_false, Bool.and_true, Bool.true_and, Bool.false_and, Bool.and_false, Bool.not_true, Bool.not_false, hx, hm] at e
    have hs : Scr M (j_w M 53 k (nI (a (6 + k)))) := Scr.w rfl
    obtain ⟨M', q1, q2, q3⟩ := M_lay_l hd j (k + 1) _ (by omega) (h.scr hs) (by simp (disch := omega) only [z0, z1, z2, z3, z4, z5, z6, z7, z8, z9, z10, z11, z12, z13, z14, z15, z16, z17, z18, z19, z20, z24, z26, z30, z31, z40, z41, z50, z54, z60, z70, z80, z81, z99, z100, z200, z255, z599, z1000, z1299, z4096, z1000000, lw0, lw1, lw2, lw3, lw4, lw5, lw6, lw7, lw12, lw50, lw99, lw255, lw599, lw4096, bI_ok, ble_t, Int.cast_ofNat_Int,  decide_true, decide_false, bI_0, bI_1, b_tf, b_ft, eq_self, n_1, n_2, n_3, n_4, n_5, n_6, n_7, n_8, if_true, if_false, jin, ncl, cond_true, cond_false, Option.bind_some, j_ov, j_oi, j_ol, nle, nlt, neq, nI_add, nmul, nsub, ndiv, nrem2, if_pos, if_neg, Nat.zero_add, Nat.add_zero, j_w_ap, decide_eq_true, decide_eq_false, Bool.true_or, Bool.or_true, Bool.false_or, Bool.or_false, Bool.and_true, Bool.true_and, Bool.false_and, Bool.and_false, Bool.not_true, Bool.not_false, h12]) (fun i hi => by
      by_cases hik : i = k
      · simp (disch := omega) only [z0, z1, z2, z3, z4, z5, z6, z7, z8, z9, z10, z11, z12, z13, z14, z15, z16, z17, z18, z19, z20, z24, z26, z30, z31, z40, z41, z50, z54, z60, z70, z80, z81, z99, z100, z200, z255, z599, z1000, z1299, z4096, z1000000, lw0, lw1, lw2, lw3, lw4, lw5, lw6, lw7, lw12, lw50, lw99, lw255, lw599, lw4096, bI_ok, ble_t, Int.cast_ofNat_Int,  decide_true, decide_false, bI_0, bI_1, b_tf, b_ft, eq_self, n_1, n_2, n_3, n_4, n_5, n_6, n_7, n_8, if_true, if_false, jin, ncl, cond_true, cond_false, Option.bind_some, j_ov, j_oi, j_ol, nle, nlt, neq, nI_add, nmul, nsub, ndiv, nrem2, if_pos, if_neg, Nat.zero_add, Nat.add_zero, j_w_ap, decide_eq_true, decide_eq_false, Bool.true_or, Bool.or_true, Bool.false_or, Bool.or_false, Bool.and_true, Bool.true_and, Bool.false_and, Bool.and_false, Bool.not_true, Bool.not_false, hik]; rfl
      · simp (disch := omega) only [z0, z1, z2, z3, z4, z5, z6, z7, z8, z9, z10, z11, z12, z13, z14, z15, z16, z17, z18, z19, z20, z24, z26, z30, z31, z40, z41, z50, z54, z60, z70, z80, z81, z99, z100, z200, z255, z599, z1000, z1299, z4096, z1000000, lw0, lw1, lw2, lw3, lw4, lw5, lw6, lw7, lw12, lw50, lw99, lw255, lw599, lw4096, bI_ok, ble_t, Int.cast_ofNat_Int,  decide_true, decide_false, bI_0, bI_1, b_tf, b_ft, eq_self, n_1, n_2, n_3, n_4, n_5, n_6, n_7, n_8, if_true, if_false, jin, ncl, cond_true, cond_false, Option.bind_some, j_ov, j_oi, j_ol, nle, nlt, neq, nI_add, nmul, nsub, ndiv, nrem2, if_pos, if_neg, Nat.zero_add, Nat.add_zero, j_w_ap, decide_eq_true, decide_eq_false, Bool.true_or, Bool.or_true, Bool.false_or, Bool.or_false, Bool.and_true, Bool.true_and, Bool.false_and, Bool.and_false, Bool.not_true, Bool.not_false, hp i (by omega)])
    exact ⟨M', e.trans q1, q2, hs.tr q3⟩
theorem M_lay (hd : 2 ≤ d) (h : IG n a M) : ∃ M', C d 167 [.ref 46] S0 M N = some (none, M', N) ∧ lay n (gf a) M' ∧ Scr M M' := by
  have hs : Scr M (j_w M 46 12 (M 46 6)) := Scr.w rfl
  have hx := h.m6
  obtain ⟨M', q1, q2, q3⟩ := M_lay_l (d := d - 1) (N := N) (by omega) n 0 _ (by omega) (h.scr hs) (by simp (disch := omega) only [z0, z1, z2, z3, z4, z5, z6, z7, z8, z9, z10, z11, z12, z13, z14, z15, z16, z17, z18, z19, z20, z24, z26, z30, z31, z40, z41, z50, z54, z60, z70, z80, z81, z99, z100, z200, z255, z599, z1000, z1299, z4096, z1000000, lw0, lw1, lw2, lw3, lw4, lw5, lw6, lw7, lw12, lw50, lw99, lw255, lw599, lw4096, bI_ok, ble_t, Int.cast_ofNat_Int,  decide_true, decide_false, bI_0, bI_1, b_tf, b_ft, eq_self, n_1, n_2, n_3, n_4, n_5, n_6, n_7, n_8, if_true, if_false, jin, ncl, cond_true, cond_false, Option.bind_some, j_ov, j_oi, j_ol, nle, nlt, neq, nI_add, nmul, nsub, ndiv, nrem2, if_pos, if_neg, Nat.zero_add, Nat.add_zero, j_w_ap, decide_eq_true, decide_eq_false, Bool.true_or, Bool.or_true, Bool.false_or, Bool.or_false, Bool.and_true, Bool.true_and, Bool.false_and, Bool.and_false, Bool.not_true, Bool.not_false, hx]) (fun i hi => by omega)
  refine ⟨M', eX11_laysOut (by omega) ?_, q2, hs.tr q3⟩
  rw [bX11_laysOut_0]
  exact q1
theorem X_costBy {i v : Nat} (hd : 4 ≤ d) (hn : n ≤ 7) (hg : ∀ q, q < n → g q ≤ 99) (hv : v ≤ 99) (hb : bill ≤ 1000) (hr4 : rule ≤ 4) (hi : i < n) (h : hatL n g bill rule M) : ∃ M', C d 70 [.ref 10, .int (nI i), .int (nI v)] S0 M N = some (some (.int (nI (s_cost n (up g i v) bill rule i))), M', N) ∧ hatOK n (up g i v) bill M' ∧ M' 8 2 = nI rule ∧ Fr [8, 9] M M' := by
  obtain ⟨h1, h2, h3, h4⟩ := h
  obtain ⟨M', e, q, f, r⟩ := X_weigh (d := d - 1) (N := N) (M := j_w M 9 i (nI v)) (g := up g i v) (n := n) (bill := bill) (by omega) hn (up_le hg hv) hb (by simp (disch := omega) only [z0, z1, z2, z3, z4, z5, z6, z7, z8, z9, z10, z11, z12, z13, z14, z15, z16, z17, z18, z19, z20, z24, z26, z30, z31, z40, z41, z50, z54, z60, z70, z80, z81, z99, z100, z200, z255, z599, z1000, z1299, z4096, z1000000, lw0, lw1, lw2, lw3, lw4, lw5, lw6, lw7, lw12, lw50, lw99, lw255, lw599, lw4096, bI_ok, ble_t, Int.cast_ofNat_Int,  decide_true, decide_false, bI_0, bI_1, b_tf, b_ft, eq_self, n_1, n_2, n_3, n_4, n_5, n_6, n_7, n_8, if_true, if_false, jin, ncl, cond_true, cond_false, Option.bind_some, j_ov, j_oi, j_ol, nle, nlt, neq, nI_add, nmul, nsub, ndiv, nrem2, if_pos, if_neg, Nat.zero_add, Nat.add_zero, j_w_ap, decide_eq_true, decide_eq_false, Bool.true_or, Bool.or_true, Bool.false_or, Bool.or_false, Bool.and_true, Bool.true_and, Bool.false_and, Bool.and_false, Bool.not_true, Bool.not_false, h1]) (fun k hk => by
    unfold up
    by_cases hik : k = i
    · simp (disch := omega) only [z0, z1, z2, z3, z4, z5, z6, z7, z8, z9, z10, z11, z12, z13, z14, z15, z16, z17, z18, z19, z20, z24, z26, z30, z31, z40, z41, z50, z54, z60, z70, z80, z81, z99, z100, z200, z255, z599, z1000, z1299, z4096, z1000000, lw0, lw1, lw2, lw3, lw4, lw5, lw6, lw7, lw12, lw50, lw99, lw255, lw599, lw4096, bI_ok, ble_t, Int.cast_ofNat_Int,  decide_true, decide_false, bI_0, bI_1, b_tf, b_ft, eq_self, n_1, n_2, n_3, n_4, n_5, n_6, n_7, n_8, if_true, if_false, jin, ncl, cond_true, cond_false, Option.bind_some, j_ov, j_oi, j_ol, nle, nlt, neq, nI_add, nmul, nsub, ndiv, nrem2, if_pos, if_neg, Nat.zero_add, Nat.add_zero, j_w_ap, decide_eq_true, decide_eq_false, Bool.true_or, Bool.or_true, Bool.false_or, Bool.or_false, Bool.and_true, Bool.true_and, Bool.false_and, Bool.and_false, Bool.not_true, Bool.not_false, hik]
    · simp (disch := omega) only [z0, z1, z2, z3, z4, z5, z6, z7, z8, z9, z10, z11, z12, z13, z14, z15, z16, z17, z18, z19, z20, z24, z26, z30, z31, z40, z41, z50, z54, z60, z70, z80, z81, z99, z100, z200, z255, z599, z1000, z1299, z4096, z1000000, lw0, lw1, lw2, lw3, lw4, lw5, lw6, lw7, lw12, lw50, lw99, lw255, lw599, lw4096, bI_ok, ble_t, Int.cast_ofNat_Int,  decide_true, decide_false, bI_0, bI_1, b_tf, b_ft, eq_self, n_1, n_2, n_3, n_4, n_5, n_6, n_7, n_8, if_true, if_false, jin, ncl, cond_true, cond_false, Option.bind_some, j_ov, j_oi, j_ol, nle, nlt, neq, nI_add, nmul, nsub, ndiv, nrem2, if_pos, if_neg, Nat.zero_add, Nat.add_zero, j_w_ap, decide_eq_true, decide_eq_false, Bool.true_or, Bool.or_true, Bool.false_or, Bool.or_false, Bool.and_true, Bool.true_and, Bool.false_and, Bool.and_false, Bool.not_true, Bool.not_false, h4 k hk]) (by simp (disch := omega) only [z0, z1, z2, z3, z4, z5, z6, z7, z8, z9, z10, z11, z12, z13, z14, z15, z16, z17, z18, z19, z20, z24, z26, z30, z31, z40, z41, z50, z54, z60, z70, z80, z81, z99, z100, z200, z255, z599, z1000, z1299, z4096, z1000000, lw0, lw1, lw2, lw3, lw4, lw5, lw6, lw7, lw12, lw50, lw99, lw255, lw599, lw4096, bI_ok, ble_t, Int.cast_ofNat_Int,  decide_true, decide_false, bI_0, bI_1, b_tf, b_ft, eq_self, n_1, n_2, n_3, n_4, n_5, n_6, n_7, n_8, if_true, if_false, jin, ncl, cond_true, cond_false, Option.bind_some, j_ov, j_oi, j_ol, nle, nlt, neq, nI_add, nmul, nsub, ndiv, nrem2, if_pos, if_neg, Nat.zero_add, Nat.add_zero, j_w_ap, decide_eq_true, decide_eq_false, Bool.true_or, Bool.or_true, Bool.false_or, Bool.or_false, Bool.and_true, Bool.true_and, Bool.false_and, Bool.and_false, Bool.not_true, Bool.not_false, h3])
  have r2 : M' 8 2 = nI rule := by rw [r]; simp (disch := omega) only [z0, z1, z2, z3, z4, z5, z6, z7, z8, z9, z10, z11, z12, z13, z14, z15, z16, z17, z18, z19, z20, z24, z26, z30, z31, z40, z41, z50, z54, z60, z70, z80, z81, z99, z100, z200, z255, z599, z1000, z1299, z4096, z1000000, lw0, lw1, lw2, lw3, lw4, lw5, lw6, lw7, lw12, lw50, lw99, lw255, lw599, lw4096, bI_ok, ble_t, Int.cast_ofNat_Int,  decide_true, decide_false, bI_0, bI_1, b_tf, b_ft, eq_self, n_1, n_2, n_3, n_4, n_5, n_6, n_7, n_8, if_true, if_false, jin, ncl, cond_true, cond_false, Option.bind_some, j_ov, j_oi, j_ol, nle, nlt, neq, nI_add, nmul, nsub, ndiv, nrem2, if_pos, if_neg, Nat.zero_add, Nat.add_zero, j_w_ap, decide_eq_true, decide_eq_false, Bool.true_or, Bool.or_true, Bool.false_or, Bool.or_false, Bool.and_true, Bool.true_and, Bool.false_and, Bool.and_false, Bool.not_true, Bool.not_false, h2]
  refine ⟨M', eX6_costBy (by omega) ?_, q, r2, (Fr.w (by decide)).tr (f.mono (by decide))⟩
  rw [bX6_costBy_0, jin (by omega) (by omega), cond_true, ncl (by omega), e]
  simp only [Option.bind_some, j_ov]
  rw [X_cost (by omega) hn (up_le hg hv) hb q r2 hr4 hi]
  rfl
theorem M_costBy {i v : Nat} (hd : 5 ≤ d) (hn : n ≤ 7) (hg : ∀ q, q < n → g q ≤ 99) (hv : v ≤ 99) (hb : bill ≤ 1000) (hr4 : rule ≤ 4) (hi : i < n) (h : lay n g M) (hbm : M 47 24 = nI bill) (hrm : M 47 25 = nI rule) : ∃ M', C d 176 [.ref 46, .int (nI i), .int (nI v)] S0 M N = some (some (.int (nI (s_cost n (up g i v) bill rule i))), M', N) ∧ lay n g M' ∧ Scr M M' ∧ ∀ k, k ≠ 15 → M' 46 k = M 46 k := by
  have hs : Scr M (j_w M 53 i (nI v)) := Scr.w rfl
  have h4 := h.2
  have h2 : lay n (up g i v) (j_w M 53 i (nI v)) := by
    refine ⟨by simp (disch := omega) only [z0, z1, z2, z3, z4, z5, z6, z7, z8, z9, z10, z11, z12, z13, z14, z15, z16, z17, z18, z19, z20, z24, z26, z30, z31, z40, z41, z50, z54, z60, z70, z80, z81, z99, z100, z200, z255, z599, z1000, z1299, z4096, z1000000, lw0, lw1, lw2, lw3, lw4, lw5, lw6, lw7, lw12, lw50, lw99, lw255, lw599, lw4096, bI_ok, ble_t, Int.cast_ofNat_Int,  decide_true, decide_false, bI_0, bI_1, b_tf, b_ft, eq_self, n_1, n_2, n_3, n_4, n_5, n_6, n_7, n_8, if_true, if_false, jin, ncl, cond_true, cond_false, Option.bind_some, j_ov, j_oi, j_ol, nle, nlt, neq, nI_add, nmul, nsub, ndiv, nrem2, if_pos, if_neg, Nat.zero_add, Nat.add_zero, j_w_ap, decide_eq_true, decide_eq_false, Bool.true_or, Bool.or_true, Bool.false_or, Bool.or_false, Bool.and_true, Bool.true_and, Bool.false_and, Bool.and_false, Bool.not_true, Bool.not_false, h.1], fun k hk => ?_⟩
    unfold up
    by_cases hik : k = i
    · simp (disch := omega) only [z0, z1, z2, z3, z4, z5, z6, z7, z8, z9, z10, z11, z12, z13, z14, z15, z16, z17, z18, z19, z20, z24, z26, z30, z31, z40, z41, z50, z54, z60, z70, z80, z81, z99, z100, z200, z255, z599, z1000, z1299, z4096, z1000000, lw0, lw1, lw2, lw3, lw4, lw5, lw6, lw7, lw12, lw50, lw99, lw255, lw599, lw4096, bI_ok, ble_t, Int.cast_ofNat_Int,  decide_true, decide_false, bI_0, bI_1, b_tf, b_ft, eq_self, n_1, n_2, n_3, n_4, n_5, n_6, n_7, n_8, if_true, if_false, jin, ncl, cond_true, cond_false, Option.bind_some, j_ov, j_oi, j_ol, nle, nlt, neq, nI_add, nmul, nsub, ndiv, nrem2, if_pos, if_neg, Nat.zero_add, Nat.add_zero, j_w_ap, decide_eq_true, decide_eq_false, Bool.true_or, Bool.or_true, Bool.false_or, Bool.or_false, Bool.and_true, Bool.true_and, Bool.false_and, Bool.and_false, Bool.not_true, Bool.not_false, hik]
    · simp (disch := omega) only [z0, z1, z2, z3, z4, z5, z6, z7, z8, z9, z10, z11, z12, z13, z14, z15, z16, z17, z18, z19, z20, z24, z26, z30, z31, z40, z41, z50, z54, z60, z70, z80, z81, z99, z100, z200, z255, z599, z1000, z1299, z4096, z1000000, lw0, lw1, lw2, lw3, lw4, lw5, lw6, lw7, lw12, lw50, lw99, lw255, lw599, lw4096, bI_ok, ble_t, Int.cast_ofNat_Int,  decide_true, decide_false, bI_0, bI_1, b_tf, b_ft, eq_self, n_1, n_2, n_3, n_4, n_5, n_6, n_7, n_8, if_true, if_false, jin, ncl, cond_true, cond_false, Option.bind_some, j_ov, j_oi, j_ol, nle, nlt, neq, nI_add, nmul, nsub, ndiv, nrem2, if_pos, if_neg, Nat.zero_add, Nat.add_zero, j_w_ap, decide_eq_true, decide_eq_false, Bool.true_or, Bool.or_true, Bool.false_or, Bool.or_false, Bool.and_true, Bool.true_and, Bool.false_and, Bool.and_false, Bool.not_true, Bool.not_false, h4 k hk]
  obtain ⟨M', q1, q2, q3⟩ := M_nightAsIs (d := d - 1) (N := N) (M := j_w M 53 i (nI v)) (g := up g i v) (by omega) hn (up_le hg hv) hb hr4 h2 (by simp (disch := omega) only [z0, z1, z2, z3, z4, z5, z6, z7, z8, z9, z10, z11, z12, z13, z14, z15, z16, z17, z18, z19, z20, z24, z26, z30, z31, z40, z41, z50, z54, z60, z70, z80, z81, z99, z100, z200, z255, z599, z1000, z1299, z4096, z1000000, lw0, lw1, lw2, lw3, lw4, lw5, lw6, lw7, lw12, lw50, lw99, lw255, lw599, lw4096, bI_ok, ble_t, Int.cast_ofNat_Int,  decide_true, decide_false, bI_0, bI_1, b_tf, b_ft, eq_self, n_1, n_2, n_3, n_4, n_5, n_6, n_7, n_8, if_true, if_false, jin, ncl, cond_true, cond_false, Option.bind_some, j_ov, j_oi, j_ol, nle, nlt, neq, nI_add, nmul, nsub, ndiv, nrem2, if_pos, if_neg, Nat.zero_add, Nat.add_zero, j_w_ap, decide_eq_true, decide_eq_false, Bool.true_or, Bool.or_true, Bool.false_or, Bool.or_false, Bool.and_true, Bool.true_and, Bool.false_and, Bool.and_false, Bool.not_true, Bool.not_false, hbm]) (by simp (disch := omega) only [z0, z1, z2, z3, z4, z5, z6, z7, z8, z9, z10, z11, z12, z13, z14, z15, z16, z17, z18, z19, z20, z24, z26, z30, z31, z40, z41, z50, z54, z60, z70, z80, z81, z99, z100, z200, z255, z599, z1000, z1299, z4096, z1000000, lw0, lw1, lw2, lw3, lw4, lw5, lw6, lw7, lw12, lw50, lw99, lw255, lw599, lw4096, bI_ok, ble_t, Int.cast_ofNat_Int,  decide_true, decide_false, bI_0, bI_1, b_tf, b_ft, eq_self, n_1, n_2, n_3, n_4, n_5, n_6, n_7, n_8, if_true, if_false, jin, ncl, cond_true, cond_false, Option.bind_some, j_ov, j_oi, j_ol, nle, nlt, neq, nI_add, nmul, nsub, ndiv, nrem2, if_pos, if_neg, Nat.zero_add, Nat.add_zero, j_w_ap, decide_eq_true, decide_eq_false, Bool.true_or, Bool.or_true, Bool.false_or, Bool.or_false, Bool.and_true, Bool.true_and, Bool.false_and, Bool.and_false, Bool.not_true, Bool.not_false, hrm])
  have q4 := M_costIn (d := d - 1) (N := N) (by omega) hn q2 hi
  refine ⟨j_w M' 53 i (nI (g i)), eX11_costBy (by omega) ?_, ⟨?_, fun k hk => ?_⟩, (hs.tr (Scr.fn q3)).tr (Scr.w rfl), fun k hk => ?_⟩
  · rw [bX11_costBy_0, jin (by omega) (by omega), cond_true, cond_true, ncl (by omega), q1]
    simp only [Option.bind_some, j_ov]
    rw [q4, h4 i hi]
    rfl
  · simp (disch := omega) only [z0, z1, z2, z3, z4, z5, z6, z7, z8, z9, z10, z11, z12, z13, z14, z15, z16, z17, z18, z19, z20, z24, z26, z30, z31, z40, z41, z50, z54, z60, z70, z80, z81, z99, z100, z200, z255, z599, z1000, z1299, z4096, z1000000, lw0, lw1, lw2, lw3, lw4, lw5, lw6, lw7, lw12, lw50, lw99, lw255, lw599, lw4096, bI_ok, ble_t, Int.cast_ofNat_Int,  decide_true, decide_false, bI_0, bI_1, b_tf, b_ft, eq_self, n_1, n_2, n_3, n_4, n_5, n_6, n_7, n_8, if_true, if_false, jin, ncl, cond_true, cond_false, Option.bind_some, j_ov, j_oi, j_ol, nle, nlt, neq, nI_add, nmul, nsub, ndiv, nrem2, if_pos, if_neg, Nat.zero_add, Nat.add_zero, j_w_ap, decide_eq_true, decide_eq_false, Bool.true_or, Bool.or_true, Bool.false_or, Bool.or_false, Bool.and_true, Bool.true_and, Bool.false_and, Bool.and_false, Bool.not_true, Bool.not_false, q2.1.1]
  · have := q2.1.2 k hk
    unfold up at this
    by_cases hik : k = i
    · simp (disch := omega) only [z0, z1, z2, z3, z4, z5, z6, z7, z8, z9, z10, z11, z12, z13, z14, z15, z16, z17, z18, z19, z20, z24, z26, z30, z31, z40, z41, z50, z54, z60, z70, z80, z81, z99, z100, z200, z255, z599, z1000, z1299, z4096, z1000000, lw0, lw1, lw2, lw3, lw4, lw5, lw6, lw7, lw12, lw50, lw99, lw255, lw599, lw4096, bI_ok, ble_t, Int.cast_ofNat_Int,  decide_true, decide_false, bI_0, bI_1, b_tf, b_ft, eq_self, n_1, n_2, n_3, n_4, n_5, n_6, n_7, n_8, if_true, if_false, jin, ncl, cond_true, cond_false, Option.bind_some, j_ov, j_oi, j_ol, nle, nlt, neq, nI_add, nmul, nsub, ndiv, nrem2, if_pos, if_neg, Nat.zero_add, Nat.add_zero, j_w_ap, decide_eq_true, decide_eq_false, Bool.true_or, Bool.or_true, Bool.false_or, Bool.or_false, Bool.and_true, Bool.true_and, Bool.false_and, Bool.and_false, Bool.not_true, Bool.not_false, hik]
    · rw [if_neg hik] at this
      simp (disch := omega) only [z0, z1, z2, z3, z4, z5, z6, z7, z8, z9, z10, z11, z12, z13, z14, z15, z16, z17, z18, z19, z20, z24, z26, z30, z31, z40, z41, z50, z54, z60, z70, z80, z81, z99, z100, z200, z255, z599, z1000, z1299, z4096, z1000000, lw0, lw1, lw2, lw3, lw4, lw5, lw6, lw7, lw12, lw50, lw99, lw255, lw599, lw4096, bI_ok, ble_t, Int.cast_ofNat_Int,  decide_true, decide_false, bI_0, bI_1, b_tf, b_ft, eq_self, n_1, n_2, n_3, n_4, n_5, n_6, n_7, n_8, if_true, if_false, jin, ncl, cond_true, cond_false, Option.bind_some, j_ov, j_oi, j_ol, nle, nlt, neq, nI_add, nmul, nsub, ndiv, nrem2, if_pos, if_neg, Nat.zero_add, Nat.add_zero, j_w_ap, decide_eq_true, decide_eq_false, Bool.true_or, Bool.or_true, Bool.false_or, Bool.or_false, Bool.and_true, Bool.true_and, Bool.false_and, Bool.and_false, Bool.not_true, Bool.not_false, this]
  · simp (disch := omega) only [z0, z1, z2, z3, z4, z5, z6, z7, z8, z9, z10, z11, z12, z13, z14, z15, z16, z17, z18, z19, z20, z24, z26, z30, z31, z40, z41, z50, z54, z60, z70, z80, z81, z99, z100, z200, z255, z599, z1000, z1299, z4096, z1000000, lw0, lw1, lw2, lw3, lw4, lw5, lw6, lw7, lw12, lw50, lw99, lw255, lw599, lw4096, bI_ok, ble_t, Int.cast_ofNat_Int,  decide_true, decide_false, bI_0, bI_1, b_tf, b_ft, eq_self, n_1, n_2, n_3, n_4, n_5, n_6, n_7, n_8, if_true, if_false, jin, ncl, cond_true, cond_false, Option.bind_some, j_ov, j_oi, j_ol, nle, nlt, neq, nI_add, nmul, nsub, ndiv, nrem2, if_pos, if_neg, Nat.zero_add, Nat.add_zero, j_w_ap, decide_eq_true, decide_eq_false, Bool.true_or, Bool.or_true, Bool.false_or, Bool.or_false, Bool.and_true, Bool.true_and, Bool.false_and, Bool.and_false, Bool.not_true, Bool.not_false, q3.2 k hk]
end LY
