/-! ===== the law: both readers side by side, loops (own text) ===== -/
def Jx (T : Nat → Nat) (L mx dd op pos pos' : Nat) (fl : Option Nat) (cs : List Int32) : Prop := ∀ (d : Nat) (M : j_M) (N : j_N) (D : List Int32), dd ≤ d → XS T L pos none D M → D.length ≤ pos → ∃ M', C d mx [.ref 16, .int (nI op)] S0 M N = some (none, M', N) ∧ XS T L pos' fl (D ++ cs) M' ∧ FX M M'
def Je (T : Nat → Nat) (L me dd op pos pos' : Nat) (fl : Option Nat) (cs : List Int32) : Prop := ∀ (d : Nat) (M : j_M) (N : j_N) (b : Bool) (e : Nat → Int32), dd ≤ d → ES T L b e pos none op M → ∃ M' v, C d me [.ref 46] S0 M N = some (some (.int v), M', N) ∧ ES T L b e pos' fl op M' ∧ FE M M' ∧ (fl = none → ∀ st, ev e cs st = v :: st)
def J (T : Nat → Nat) (L mx me dd op pos : Nat) : Prop := ∃ pos' fl cs, pos ≤ pos' ∧ pos' ≤ L ∧ pos + cs.length ≤ pos' ∧ (fl = none → pos < pos') ∧ (∀ f, fl = some f → f ≤ L) ∧ Jx T L mx dd op pos pos' fl cs ∧ Je T L me dd op pos pos' fl cs
theorem n_9 {a b : Nat} (ha : a < 2147483648) (hb : b < 2147483648) : (-nI a < -nI b) = (b < a) := by
  rw [Int32.lt_iff_toInt_lt, n_t hb, n_t ha]; exact propext (by omega)
theorem ev1_bin {e : Nat → Int32} {k : Nat} {r l : Int32} {st : List Int32} (h1 : 6 ≤ k) (h2 : k ≤ 15) : ev1 e (-nI k) (r :: l :: st) = jn (-nI k) l r :: st := by
  unfold ev1
  rw [if_neg (by rw [n_9 (by omega) (by omega)]; omega), if_neg (by rw [n_7 (by omega) (by omega)]; omega), if_neg (by rw [n_7 (by omega) (by omega)]; omega), if_pos (by rw [n_9 (by omega) (by omega)]; omega)]
  rfl
theorem ev1_neg {e : Nat → Int32} {r : Int32} {st : List Int32} : ev1 e (-nI 17) (r :: st) = -r :: st := by
  unfold ev1
  rw [if_neg (by rw [n_9 (by omega) (by omega)]; omega), if_pos rfl]; rfl
theorem ev1_inv {e : Nat → Int32} {r : Int32} {st : List Int32} : ev1 e (-nI 16) (r :: st) = (if r = 0 then nI 1 else nI 0) :: st := by
  unfold ev1
  rw [if_neg (by rw [n_9 (by omega) (by omega)]; omega), if_neg (by rw [n_7 (by omega) (by omega)]; omega), if_pos rfl]; rfl
theorem ev1_num {e : Nat → Int32} {v : Nat} {st : List Int32} (hv : v < 2147483648) : ev1 e (nI v) st = nI v :: st := by
  unfold ev1
  rw [if_neg (by rw [n_2 hv (by omega) (by omega)]; exact id), if_neg (by rw [n_5 hv (by omega) (by omega)]; exact id), if_neg (by rw [n_5 hv (by omega) (by omega)]; exact id), if_neg (by rw [n_2 hv (by omega) (by omega)]; exact id), if_neg (by rw [nlt hv (by omega)]; omega)]
theorem ev1_nam {e : Nat → Int32} {k : Nat} {st : List Int32} (h1 : 1 ≤ k) (h2 : k ≤ 5) : ev1 e (-nI k) st = nmv e (-nI k) :: st := by
  unfold ev1
  rw [if_neg (by rw [n_9 (by omega) (by omega)]; omega), if_neg (by rw [n_7 (by omega) (by omega)]; omega), if_neg (by rw [n_7 (by omega) (by omega)]; omega), if_neg (by rw [n_9 (by omega) (by omega)]; omega), if_pos (by rw [n_1 (by omega) (by omega) (by omega)]; trivial)]
section LL
variable {T : Nat → Nat} {L pos d op dd : Nat} {fl : Option Nat} {D : List Int32} {M : j_M} {N : j_N} {b : Bool} {e : Nat → Int32} {x : Int32}
theorem tk_s {f c : Nat} : ¬ tk T L pos (some f) c := fun z => by cases z.1
/-- the loop of the ors, at its head -/
def LE (T : Nat → Nat) (L dd op pos : Nat) : Prop := ∃ pos' fl cs, pos ≤ pos' ∧ pos' ≤ L ∧ pos + cs.length ≤ pos' ∧ (∀ f, fl = some f → f ≤ L) ∧
  (∀ (d i : Nat) (M : j_M) (N : j_N) (D : List Int32), dd ≤ d → XS T L pos none D M → D.length ≤ pos → i ≤ pos → ∃ M', R d kX4_readEither 7 [.ref 16, .int (nI op), .int (nI i)] [] (S0, M, N) = some (none, (S0, M', N)) ∧ XS T L pos' fl (D ++ cs) M' ∧ FX M M') ∧
  (∀ (d : Nat) (M : j_M) (N : j_N) (b : Bool) (e : Nat → Int32) (x : Int32), dd ≤ d → ES T L b e pos none op M → ∃ M' v, R d kX11_either 5 [.ref 46, .int x, .null] [] (S0, M, N) = some (some (.int v), (S0, M', N)) ∧ ES T L b e pos' fl op M' ∧ FE M M' ∧ (fl = none → ∀ st, ev e cs (x :: st) = v :: st))
theorem X_ei_end {i : Nat} (hd : 2 ≤ d) (hL : L ≤ 120) (hp : pos ≤ L) (hT : ∀ i, i < L → T i ≤ 255) (hf : ∀ f, fl = some f → f ≤ L) (ht : ¬ tk T L pos fl 124) (h : XS T L pos fl D M) : R d kX4_readEither 7 [.ref 16, .int (nI op), .int (nI i)] [] (S0, M, N) = some (none, (S0, M, N)) := by
  have q := X_takes_f (d := d) (N := N) hd hL hp hT (by omega) hf ht h
  have e := bX4_readEither_7 d (nI op) (nI i) M N
  simp (disch := omega) only [z33, z37, z38, z42, z43, z45, z47, z48, z57, z59, z61, z62, z63, z98, z107, z110, z112, z114, z120, z122, z124, z0, z1, z2, z3, z4, z5, z6, z7, z8, z9, z10, z11, z12, z13, z14, z15, z16, z17, z18, z19, z20, z24, z26, z30, z31, z40, z41, z50, z54, z60, z70, z80, z81, z99, z100, z200, z255, z599, z1000, z1299, z4096, z1000000, lw0, lw1, lw2, lw3, lw4, lw5, lw6, lw7, lw12, lw50, lw99, lw255, lw599, lw4096, bI_ok, ble_t, Int.cast_ofNat_Int,  decide_true, decide_false, bI_0, bI_1, b_tf, b_ft, eq_self, n_1, n_2, n_3, n_4, n_5, n_6, n_7, n_8, if_true, if_false, jin, ncl, cond_true, cond_false, Option.bind_some, j_ov, j_oi, j_ol, nle, nlt, neq, nI_add, nmul, nsub, ndiv, nrem2, if_pos, if_neg, Nat.zero_add, Nat.add_zero, j_w_ap, decide_eq_true, decide_eq_false, Bool.true_or, Bool.or_true, Bool.false_or, Bool.or_false, Bool.and_true, Bool.true_and, Bool.false_and, Bool.and_false, Bool.not_true, Bool.not_false, q, ite_self] at e
  exact e
theorem M_ei_end (hd : 2 ≤ d) (hL : L ≤ 120) (hp : pos ≤ L) (hT : ∀ i, i < L → T i ≤ 255) (hf : ∀ f, fl = some f → f ≤ L) (ht : ¬ tk T L pos fl 124) (h : ES T L b e pos fl op M) : R d kX11_either 5 [.ref 46, .int x, .null] [] (S0, M, N) = some (some (.int x), (S0, M, N)) := by
  have q := M_takes_f (d := d) (N := N) hd hL hp hT (by omega) (by omega) hf ht h
  have e := bX11_either_5 d x M N
  simp (disch := omega) only [z33, z37, z38, z42, z43, z45, z47, z48, z57, z59, z61, z62, z63, z98, z107, z110, z112, z114, z120, z122, z124, z0, z1, z2, z3, z4, z5, z6, z7, z8, z9, z10, z11, z12, z13, z14, z15, z16, z17, z18, z19, z20, z24, z26, z30, z31, z40, z41, z50, z54, z60, z70, z80, z81, z99, z100, z200, z255, z599, z1000, z1299, z4096, z1000000, lw0, lw1, lw2, lw3, lw4, lw5, lw6, lw7, lw12, lw50, lw99, lw255, lw599, lw4096, bI_ok, ble_t, Int.cast_ofNat_Int,  decide_true, decide_false, bI_0, bI_1, b_tf, b_ft, eq_self, n_1, n_2, n_3, n_4, n_5, n_6, n_7, n_8, if_true, if_false, jin, ncl, cond_true, cond_false, Option.bind_some, j_ov, j_oi, j_ol, nle, nlt, neq, nI_add, nmul, nsub, ndiv, nrem2, if_pos, if_neg, Nat.zero_add, Nat.add_zero, j_w_ap, decide_eq_true, decide_eq_false, Bool.true_or, Bool.or_true, Bool.false_or, Bool.or_false, Bool.and_true, Bool.true_and, Bool.false_and, Bool.and_false, Bool.not_true, Bool.not_false, q] at e
  exact e
theorem jn_or {l r : Int32} : jn (-nI 6) l r = (if l = 0 then (if r = 0 then nI 0 else nI 1) else nI 1) := by
  unfold jn
  simp (disch := omega) only [n_7, Nat.reduceEqDiff, if_false, if_true]
theorem L_either (hT : ∀ i, i < L → T i ≤ 255) (hL : L ≤ 120) (hdd : 2 ≤ dd) : ∀ (r pos : Nat), L - pos ≤ r → pos ≤ L → (∀ p, pos < p → p ≤ L → J T L 38 202 dd op p) → LE T L dd op pos := by
  intro r
  induction r with
  | zero =>
    intro pos hr hp H
    have ht : ¬ tk T L pos none 124 := fun z => by have := z.2.1; omega
    refine ⟨pos, none, [], Nat.le_refl _, hp, Nat.le_refl _, (fun f hf => by cases hf), fun d i M N D hd h hD hi => ?_, fun d M N b e x hd h => ?_⟩
    · exact ⟨M, X_ei_end (by omega) hL hp hT (fun f hf => by cases hf) ht h, by rw [List.append_nil]; exact h, FX.rf⟩
    · exact ⟨M, x, M_ei_end (by omega) hL hp hT (fun f hf => by cases hf) ht h, h, FE.rf, fun _ st => rfl⟩
  | succ r ih =>
    intro pos hr hp H
    by_cases ht : tk T L pos none 124
    · have hpl := ht.2.1
      obtain ⟨p1, f1, c1, g1, g2, g3, g4, g5, gx, ge⟩ := H (pos + 1) (by omega) (by omega)
      -- what one turn does
      have stx : ∀ (d i : Nat) (M : j_M) (N : j_N) (D : List Int32), dd ≤ d → XS T L pos none D M → D.length ≤ pos → i ≤ pos → ∃ M', R d kX4_readEither 7 [.ref 16, .int (nI op), .int (nI i)] [] (S0, M, N) = R d kX4_readEither 7 [.ref 16, .int (nI op), .int (nI (i + 1))] [] (S0, M', N) ∧ XS T L p1 f1 (D ++ (c1 ++ [-nI 6])) M' ∧ FX M M' := by
        intro d i M N D hd h hD hi
        have q := X_takes_t (d := d) (N := N) (by omega) hL (by omega) ht h
        obtain ⟨M1, q1, q2, q3⟩ := gx d _ N D hd h.adv (by omega)
        obtain ⟨M2, q4, q5, q6⟩ := X_write (d := d) (N := N) (x := -nI 6) (by omega) (by rw [List.length_append]; omega) q2
        have e := bX4_readEither_7 d (nI op) (nI i) M N
        simp (disch := omega) only [z33, z37, z38, z42, z43, z45, z47, z48, z57, z59, z61, z62, z63, z98, z107, z110, z112, z114, z120, z122, z124, z0, z1, z2, z3, z4, z5, z6, z7, z8, z9, z10, z11, z12, z13, z14, z15, z16, z17, z18, z19, z20, z24, z26, z30, z31, z40, z41, z50, z54, z60, z70, z80, z81, z99, z100, z200, z255, z599, z1000, z1299, z4096, z1000000, lw0, lw1, lw2, lw3, lw4, lw5, lw6, lw7, lw12, lw50, lw99, lw255, lw599, lw4096, bI_ok, ble_t, Int.cast_ofNat_Int,  decide_true, decide_false, bI_0, bI_1, b_tf, b_ft, eq_self, n_1, n_2, n_3, n_4, n_5, n_6, n_7, n_8, if_true, if_false, jin, ncl, cond_true, cond_false, Option.bind_some, j_ov, j_oi, j_ol, nle, nlt, neq, nI_add, nmul, nsub, ndiv, nrem2, if_pos, if_neg, Nat.zero_add, Nat.add_zero, j_w_ap, decide_eq_true, decide_eq_false, Bool.true_or, Bool.or_true, Bool.false_or, Bool.or_false, Bool.and_true, Bool.true_and, Bool.false_and, Bool.and_false, Bool.not_true, Bool.not_false, q, q1, q4] at e
        rw [List.append_assoc] at q5
        exact ⟨M2, e, q5, (FX.w (by omega)).tr (q3.tr q6)⟩
      have ste : ∀ (d : Nat) (M : j_M) (N : j_N) (b : Bool) (e : Nat → Int32) (x : Int32), dd ≤ d → ES T L b e pos none op M → ∃ M' r2, R d kX11_either 5 [.ref 46, .int x, .null] [] (S0, M, N) = R d kX11_either 5 [.ref 46, .int (jn (-nI 6) x r2), .null] [] (S0, M', N) ∧ ES T L b e p1 f1 op M' ∧ FE M M' ∧ (f1 = none → ∀ st, ev e c1 st = r2 :: st) := by
        intro d M N b e x hd h
        have q := M_takes_t (d := d) (N := N) (by omega) hL (by omega) ht h
        obtain ⟨M1, r2, q1, q2, q3, q4⟩ := ge d _ N b e hd h.adv
        have e1 := bX11_either_5 d x M N
        refine ⟨M1, r2, ?_, q2, (FE.w (by omega)).tr q3, q4⟩
        rw [jn_or]
        by_cases hx0 : x = nI 0
        · by_cases hr0 : r2 = nI 0
          · simp (disch := omega) only [z33, z37, z38, z42, z43, z45, z47, z48, z57, z59, z61, z62, z63, z98, z107, z110, z112, z114, z120, z122, z124, z0, z1, z2, z3, z4, z5, z6, z7, z8, z9, z10, z11, z12, z13, z14, z15, z16, z17, z18, z19, z20, z24, z26, z30, z31, z40, z41, z50, z54, z60, z70, z80, z81, z99, z100, z200, z255, z599, z1000, z1299, z4096, z1000000, lw0, lw1, lw2, lw3, lw4, lw5, lw6, lw7, lw12, lw50, lw99, lw255, lw599, lw4096, bI_ok, ble_t, Int.cast_ofNat_Int,  decide_true, decide_false, bI_0, bI_1, b_tf, b_ft, eq_self, n_1, n_2, n_3, n_4, n_5, n_6, n_7, n_8, if_true, if_false, jin, ncl, cond_true, cond_false, Option.bind_some, j_ov, j_oi, j_ol, nle, nlt, neq, nI_add, nmul, nsub, ndiv, nrem2, if_pos, if_neg, Nat.zero_add, Nat.add_zero, j_w_ap, decide_eq_true, decide_eq_false, Bool.true_or, Bool.or_true, Bool.false_or, Bool.or_false, Bool.and_true, Bool.true_and, Bool.false_and, Bool.and_false, Bool.not_true, Bool.not_false, q, q1, hx0, hr0] at e1
            simp (disch := omega) only [z33, z37, z38, z42, z43, z45, z47, z48, z57, z59, z61, z62, z63, z98, z107, z110, z112, z114, z120, z122, z124, z0, z1, z2, z3, z4, z5, z6, z7, z8, z9, z10, z11, z12, z13, z14, z15, z16, z17, z18, z19, z20, z24, z26, z30, z31, z40, z41, z50, z54, z60, z70, z80, z81, z99, z100, z200, z255, z599, z1000, z1299, z4096, z1000000, lw0, lw1, lw2, lw3, lw4, lw5, lw6, lw7, lw12, lw50, lw99, lw255, lw599, lw4096, bI_ok, ble_t, Int.cast_ofNat_Int,  decide_true, decide_false, bI_0, bI_1, b_tf, b_ft, eq_self, n_1, n_2, n_3, n_4, n_5, n_6, n_7, n_8, if_true, if_false, jin, ncl, cond_true, cond_false, Option.bind_some, j_ov, j_oi, j_ol, nle, nlt, neq, nI_add, nmul, nsub, ndiv, nrem2, if_pos, if_neg, Nat.zero_add, Nat.add_zero, j_w_ap, decide_eq_true, decide_eq_false, Bool.true_or, Bool.or_true, Bool.false_or, Bool.or_false, Bool.and_true, Bool.true_and, Bool.false_and, Bool.and_false, Bool.not_true, Bool.not_false, hx0, hr0]
            exact e1
          · simp (disch := omega) only [z33, z37, z38, z42, z43, z45, z47, z48, z57, z59, z61, z62, z63, z98, z107, z110, z112, z114, z120, z122, z124, z0, z1, z2, z3, z4, z5, z6, z7, z8, z9, z10, z11, z12, z13, z14, z15, z16, z17, z18, z19, z20, z24, z26, z30, z31, z40, z41, z50, z54, z60, z70, z80, z81, z99, z100, z200, z255, z599, z1000, z1299, z4096, z1000000, lw0, lw1, lw2, lw3, lw4, lw5, lw6, lw7, lw12, lw50, lw99, lw255, lw599, lw4096, bI_ok, ble_t, Int.cast_ofNat_Int,  decide_true, decide_false, bI_0, bI_1, b_tf, b_ft, eq_self, n_1, n_2, n_3, n_4, n_5, n_6, n_7, n_8, if_true, if_false, jin, ncl, cond_true, cond_false, Option.bind_some, j_ov, j_oi, j_ol, nle, nlt, neq, nI_add, nmul, nsub, ndiv, nrem2, if_pos, if_neg, Nat.zero_add, Nat.add_zero, j_w_ap, decide_eq_true, decide_eq_false, Bool.true_or, Bool.or_true, Bool.false_or, Bool.or_false, Bool.and_true, Bool.true_and, Bool.false_and, Bool.and_false, Bool.not_true, Bool.not_false, q, q1, hx0, hr0] at e1
            simp (disch := omega) only [z33, z37, z38, z42, z43, z45, z47, z48, z57, z59, z61, z62, z63, z98, z107, z110, z112, z114, z120, z122, z124, z0, z1, z2, z3, z4, z5, z6, z7, z8, z9, z10, z11, z12, z13, z14, z15, z16, z17, z18, z19, z20, z24, z26, z30, z31, z40, z41, z50, z54, z60, z70, z80, z81, z99, z100, z200, z255, z599, z1000, z1299, z4096, z1000000, lw0, lw1, lw2, lw3, lw4, lw5, lw6, lw7, lw12, lw50, lw99, lw255, lw599, lw4096, bI_ok, ble_t, Int.cast_ofNat_Int,  decide_true, decide_false, bI_0, bI_1, b_tf, b_ft, eq_self, n_1, n_2, n_3, n_4, n_5, n_6, n_7, n_8, if_true, if_false, jin, ncl, cond_true, cond_false, Option.bind_some, j_ov, j_oi, j_ol, nle, nlt, neq, nI_add, nmul, nsub, ndiv, nrem2, if_pos, if_neg, Nat.zero_add, Nat.add_zero, j_w_ap, decide_eq_true, decide_eq_false, Bool.true_or, Bool.or_true, Bool.false_or, Bool.or_false, Bool.and_true, Bool.true_and, Bool.false_and, Bool.and_false, Bool.not_true, Bool.not_false, hx0, hr0]
            exact e1
        · simp (disch := omega) only [z33, z37, z38, z42, z43, z45, z47, z48, z57, z59, z61, z62, z63, z98, z107, z110, z112, z114, z120, z122, z124, z0, z1, z2, z3, z4, z5, z6, z7, z8, z9, z10, z11, z12, z13, z14, z15, z16, z17, z18, z19, z20, z24, z26, z30, z31, z40, z41, z50, z54, z60, z70, z80, z81, z99, z100, z200, z255, z599, z1000, z1299, z4096, z1000000, lw0, lw1, lw2, lw3, lw4, lw5, lw6, lw7, lw12, lw50, lw99, lw255, lw599, lw4096, bI_ok, ble_t, Int.cast_ofNat_Int,  decide_true, decide_false, bI_0, bI_1, b_tf, b_ft, eq_self, n_1, n_2, n_3, n_4, n_5, n_6, n_7, n_8, if_true, if_false, jin, ncl, cond_true, cond_false, Option.bind_some, j_ov, j_oi, j_ol, nle, nlt, neq, nI_add, nmul, nsub, ndiv, nrem2, if_pos, if_neg, Nat.zero_add, Nat.add_zero, j_w_ap, decide_eq_true, decide_eq_false, Bool.true_or, Bool.or_true, Bool.false_or, Bool.or_false, Bool.and_true, Bool.true_and, Bool.false_and, Bool.and_false, Bool.not_true, Bool.not_false, q, q1, hx0] at e1
          simp (disch := omega) only [z33, z37, z38, z42, z43, z45, z47, z48, z57, z59, z61, z62, z63, z98, z107, z110, z112, z114, z120, z122, z124, z0, z1, z2, z3, z4, z5, z6, z7, z8, z9, z10, z11, z12, z13, z14, z15, z16, z17, z18, z19, z20, z24, z26, z30, z31, z40, z41, z50, z54, z60, z70, z80, z81, z99, z100, z200, z255, z599, z1000, z1299, z4096, z1000000, lw0, lw1, lw2, lw3, lw4, lw5, lw6, lw7, lw12, lw50, lw99, lw255, lw599, lw4096, bI_ok, ble_t, Int.cast_ofNat_Int,  decide_true, decide_false, bI_0, bI_1, b_tf, b_ft, eq_self, n_1, n_2, n_3, n_4, n_5, n_6, n_7, n_8, if_true, if_false, jin, ncl, cond_true, cond_false, Option.bind_some, j_ov, j_oi, j_ol, nle, nlt, neq, nI_add, nmul, nsub, ndiv, nrem2, if_pos, if_neg, Nat.zero_add, Nat.add_zero, j_w_ap, decide_eq_true, decide_eq_false, Bool.true_or, Bool.or_true, Bool.false_or, Bool.or_false, Bool.and_true, Bool.true_and, Bool.false_and, Bool.and_false, Bool.not_true, Bool.not_false, hx0]
          exact e1
      cases f1 with
      | some f =>
        refine ⟨p1, some f, c1 ++ [-nI 6], by omega, g2, by rw [List.length_append, List.length_singleton]; omega, g5, fun d i M N D hd h hD hi => ?_, fun d M N b e x hd h => ?_⟩
        · obtain ⟨M1, q1, q2, q3⟩ := stx d i M N D hd h hD hi
          exact ⟨M1, q1.trans (X_ei_end (by omega) hL g2 hT g5 tk_s q2), q2, q3⟩
        · obtain ⟨M1, r2, q1, q2, q3, -⟩ := ste d M N b e x hd h
          exact ⟨M1, _, q1.trans (M_ei_end (by omega) hL g2 hT g5 tk_s q2), q2, q3, fun z => by cases z⟩
      | none =>
        have hlt := g4 rfl
        obtain ⟨p2, f2, c2, k1, k2, k3, k4, kx, ke⟩ := ih p1 (by omega) g2 (fun p hp1 hp2 => H p (by omega) hp2)
        refine ⟨p2, f2, c1 ++ [-nI 6] ++ c2, by omega, k2, by rw [List.length_append, List.length_append, List.length_singleton]; omega, k4, fun d i M N D hd h hD hi => ?_, fun d M N b e x hd h => ?_⟩
        · obtain ⟨M1, q1, q2, q3⟩ := stx d i M N D hd h hD hi
          obtain ⟨M2, q4, q5, q6⟩ := kx d (i + 1) M1 N _ hd q2 (by rw [List.length_append, List.length_append, List.length_singleton]; omega) (by omega)
          rw [List.append_assoc] at q5
          exact ⟨M2, q1.trans q4, q5, q3.tr q6⟩
        · obtain ⟨M1, r2, q1, q2, q3, q4⟩ := ste d M N b e x hd h
          obtain ⟨M2, v, q5, q6, q7, q8⟩ := ke d M1 N b e (jn (-nI 6) x r2) hd q2
          refine ⟨M2, v, q1.trans q5, q6, q3.tr q7, fun z st => ?_⟩
          rw [ev_app, ev_app, q4 rfl]
          show ev e c2 (ev1 e (-nI 6) (r2 :: x :: st)) = _
          rw [ev1_bin (by omega) (by omega)]
          exact q8 z st
    · refine ⟨pos, none, [], Nat.le_refl _, hp, Nat.le_refl _, (fun f hf => by cases hf), fun d i M N D hd h hD hi => ?_, fun d M N b e x hd h => ?_⟩
      · exact ⟨M, X_ei_end (by omega) hL hp hT (fun f hf => by cases hf) ht h, by rw [List.append_nil]; exact h, FX.rf⟩
      · exact ⟨M, x, M_ei_end (by omega) hL hp hT (fun f hf => by cases hf) ht h, h, FE.rf, fun _ st => rfl⟩
/-- either, out of both and its loop -/
theorem J_either (hT : ∀ i, i < L → T i ≤ 255) (hL : L ≤ 120) (hdd : 2 ≤ dd) (hp : pos ≤ L) (h0 : J T L 38 202 dd op pos) (H : ∀ p, pos < p → p ≤ L → J T L 38 202 dd op p) : J T L 37 201 (dd + 1) op pos := by
  obtain ⟨p1, f1, c1, g1, g2, g3, g4, g5, gx, ge⟩ := h0
  have bx : ∀ (d : Nat) (M : j_M) (N : j_N) (D : List Int32), dd + 1 ≤ d → XS T L pos none D M → D.length ≤ pos → ∃ M1, R (d - 1) kX4_readEither 0 [.ref 16, .int (nI op), .null] [] (S0, M, N) = R (d - 1) kX4_readEither 7 [.ref 16, .int (nI op), .int (nI 0)] [] (S0, M1, N) ∧ XS T L p1 f1 (D ++ c1) M1 ∧ FX M M1 := by
    intro d M N D hd h hD
    obtain ⟨M1, q1, q2, q3⟩ := gx (d - 1) M N D (by omega) h hD
    have e := bX4_readEither_0 (d - 1) (nI op) M N
    simp (disch := omega) only [z33, z37, z38, z42, z43, z45, z47, z48, z57, z59, z61, z62, z63, z98, z107, z110, z112, z114, z120, z122, z124, z0, z1, z2, z3, z4, z5, z6, z7, z8, z9, z10, z11, z12, z13, z14, z15, z16, z17, z18, z19, z20, z24, z26, z30, z31, z40, z41, z50, z54, z60, z70, z80, z81, z99, z100, z200, z255, z599, z1000, z1299, z4096, z1000000, lw0, lw1, lw2, lw3, lw4, lw5, lw6, lw7, lw12, lw50, lw99, lw255, lw599, lw4096, bI_ok, ble_t, Int.cast_ofNat_Int,  decide_true, decide_false, bI_0, bI_1, b_tf, b_ft, eq_self, n_1, n_2, n_3, n_4, n_5, n_6, n_7, n_8, if_true, if_false, jin, ncl, cond_true, cond_false, Option.bind_some, j_ov, j_oi, j_ol, nle, nlt, neq, nI_add, nmul, nsub, ndiv, nrem2, if_pos, if_neg, Nat.zero_add, Nat.add_zero, j_w_ap, decide_eq_true, decide_eq_false, Bool.true_or, Bool.or_true, Bool.false_or, Bool.or_false, Bool.and_true, Bool.true_and, Bool.false_and, Bool.and_false, Bool.not_true, Bool.not_false, q1] at e
    exact ⟨M1, e, q2, q3⟩
  have be : ∀ (d : Nat) (M : j_M) (N : j_N) (b : Bool) (e : Nat → Int32), dd + 1 ≤ d → ES T L b e pos none op M → ∃ M1 v, R (d - 1) kX11_either 0 [.ref 46, .null, .null] [] (S0, M, N) = R (d - 1) kX11_either 5 [.ref 46, .int v, .null] [] (S0, M1, N) ∧ ES T L b e p1 f1 op M1 ∧ FE M M1 ∧ (f1 = none → ∀ st, ev e c1 st = v :: st) := by
    intro d M N b e hd h
    obtain ⟨M1, v, q1, q2, q3, q4⟩ := ge (d - 1) M N b e (by omega) h
    have e1 := bX11_either_0 (d - 1) M N
    simp (disch := omega) only [z33, z37, z38, z42, z43, z45, z47, z48, z57, z59, z61, z62, z63, z98, z107, z110, z112, z114, z120, z122, z124, z0, z1, z2, z3, z4, z5, z6, z7, z8, z9, z10, z11, z12, z13, z14, z15, z16, z17, z18, z19, z20, z24, z26, z30, z31, z40, z41, z50, z54, z60, z70, z80, z81, z99, z100, z200, z255, z599, z1000, z1299, z4096, z1000000, lw0, lw1, lw2, lw3, lw4, lw5, lw6, lw7, lw12, lw50, lw99, lw255, lw599, lw4096, bI_ok, ble_t, Int.cast_ofNat_Int,  decide_true, decide_false, bI_0, bI_1, b_tf, b_ft, eq_self, n_1, n_2, n_3, n_4, n_5, n_6, n_7, n_8, if_true, if_false, jin, ncl, cond_true, cond_false, Option.bind_some, j_ov, j_oi, j_ol, nle, nlt, neq, nI_add, nmul, nsub, ndiv, nrem2, if_pos, if_neg, Nat.zero_add, Nat.add_zero, j_w_ap, decide_eq_true, decide_eq_false, Bool.true_or, Bool.or_true, Bool.false_or, Bool.or_false, Bool.and_true, Bool.true_and, Bool.false_and, Bool.and_false, Bool.not_true, Bool.not_false, q1] at e1
    exact ⟨M1, v, e1, q2, q3, q4⟩
  cases f1 with
  | some f =>
    refine ⟨p1, some f, c1, g1, g2, g3, (fun z => by cases z), g5, fun d M N D hd h hD => ?_, fun d M N b e hd h => ?_⟩
    · obtain ⟨M1, q1, q2, q3⟩ := bx d M N D hd h hD
      exact ⟨M1, eX4_readEither (by omega) (q1.trans (X_ei_end (by omega) hL g2 hT g5 tk_s q2)), q2, q3⟩
    · obtain ⟨M1, v, q1, q2, q3, -⟩ := be d M N b e hd h
      exact ⟨M1, v, eX11_either (by omega) (q1.trans (M_ei_end (by omega) hL g2 hT g5 tk_s q2)), q2, q3, fun z => by cases z⟩
  | none =>
    have hlt := g4 rfl
    obtain ⟨p2, f2, c2, k1, k2, k3, k4, kx, ke⟩ := L_either hT hL hdd (L - p1) p1 (Nat.le_refl _) g2 (fun p hp1 hp2 => H p (by omega) hp2)
    refine ⟨p2, f2, c1 ++ c2, by omega, k2, by rw [List.length_append]; omega, fun z => by omega, k4, fun d M N D hd h hD => ?_, fun d M N b e hd h => ?_⟩
    · obtain ⟨M1, q1, q2, q3⟩ := bx d M N D hd h hD
      obtain ⟨M2, q4, q5, q6⟩ := kx (d - 1) 0 M1 N (D ++ c1) (by omega) q2 (by rw [List.length_append]; omega) (by omega)
      rw [List.append_assoc] at q5
      exact ⟨M2, eX4_readEither (by omega) (q1.trans q4), q5, q3.tr q6⟩
    · obtain ⟨M1, v, q1, q2, q3, q4⟩ := be d M N b e hd h
      obtain ⟨M2, v2, q5, q6, q7, q8⟩ := ke (d - 1) M1 N b e v (by omega) q2
      refine ⟨M2, v2, eX11_either (by omega) (q1.trans q5), q6, q3.tr q7, fun z st => ?_⟩
      rw [ev_app, q4 rfl]
      exact q8 z st
end LL
