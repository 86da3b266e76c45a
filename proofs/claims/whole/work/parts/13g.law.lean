/-! ===== the law: lines (own text) ===== -/
abbrev Ln : Type := List Int32 × Option (List Int32)
def lc (l : Ln) : List Int32 := match l.2 with
  | none => l.1 ++ [-nI 19]
  | some c2 => l.1 ++ [-nI 18] ++ c2 ++ [-nI 19]
def lcs : List Ln → List Int32
  | [] => []
  | l :: r => lc l ++ lcs r
def okc (cs : List Int32) : Prop := ∀ x, x ∈ cs → ¬ x < -nI 17
def gd (c : List Int32) : Prop := okc c ∧ ∀ e : Nat → Int32, ∃ v, ∀ st, ev e c st = v :: st
def okl (l : Ln) : Prop := gd l.1 ∧ ∀ c2, l.2 = some c2 → gd c2
def lval (e : Nat → Int32) (l : Ln) : Option Int32 := match l.2 with
  | none => some ((ev e l.1 []).headD 0)
  | some c2 => if (ev e l.1 []).headD 0 = 0 then none else some ((ev e c2 []).headD 0)
def orO (o p : Option Int32) : Option Int32 := match o with
  | some g => some g
  | none => p
def lvs (e : Nat → Int32) : List Ln → Option Int32
  | [] => none
  | l :: r => orO (lval e l) (lvs e r)
theorem tail_len (st : List Int32) : st.tail.length ≤ st.length := by
  rw [List.length_tail]; omega
theorem ev1_len {e : Nat → Int32} {c : Int32} {st : List Int32} : (ev1 e c st).length ≤ st.length + 1 := by
  have h1 := tail_len st
  have h2 := tail_len st.tail
  unfold ev1
  split
  · simp
  · split
    · rw [List.length_cons]; omega
    · split
      · rw [List.length_cons]; omega
      · split
        · rw [List.length_cons]; omega
        · split
          · rw [List.length_cons]; omega
          · rw [List.length_cons]; omega
theorem ev_len {e : Nat → Int32} : ∀ (cs st : List Int32), (ev e cs st).length ≤ st.length + cs.length
  | [], st => by unfold ev; simp
  | c :: cs, st => by
    have h1 := ev_len (e := e) cs (ev1 e c st)
    have h2 := ev1_len (e := e) (c := c) (st := st)
    unfold ev
    rw [List.length_cons]
    omega
theorem ev_bad (e : Nat → Int32) {x : Int32} (hx : x < -nI 17) : ∀ (cs st : List Int32), x ∈ cs → (ev e cs st).length ≤ cs.length
  | [], st, h => by cases h
  | c :: cs, st, h => by
    unfold ev
    rw [List.length_cons]
    rcases List.mem_cons.mp h with h1 | h1
    · have h2 := ev_len (e := e) cs (ev1 e c st)
      have h3 : ev1 e c st = [] := by unfold ev1; rw [if_pos (by rw [← h1]; exact hx)]
      rw [h3] at h2 ⊢
      simp at h2
      omega
    · have := ev_bad e hx cs (ev1 e c st) h1
      omega
theorem okc_of {e : Nat → Int32} {cs : List Int32} {v : Int32} (h : ∀ st, ev e cs st = v :: st) : okc cs := by
  intro x hx hlt
  have h1 := ev_bad e hlt cs (List.replicate cs.length 0) hx
  rw [h, List.length_cons, List.length_replicate] at h1
  omega
section LR
variable {T : Nat → Nat} {L pos d op dd : Nat} {fl : Option Nat} {D : List Int32} {M : j_M} {N : j_N} {b : Bool} {e : Nat → Int32} {x : Int32}
/-- one line, side by side -/
theorem J_line (hT : ∀ i, i < L → T i ≤ 255) (hL : L ≤ 120) (hp : pos ≤ L)
    (E0 : ∀ p : Nat, p ≤ L → ∀ (d : Nat), 60 ≤ d → ∃ M0 : j_M, ∃ e0 : Nat → Int32, ES T L true e0 p none 0 M0) :
    ∃ pos' fl l, pos ≤ pos' ∧ pos' ≤ L ∧ pos + (lc l).length ≤ pos' + 1 ∧ (∀ f, fl = some f → f ≤ L) ∧ (fl = none → okl l ∧ pos < pos') ∧
    (∀ (d : Nat) (M : j_M) (N : j_N) (D : List Int32), 60 ≤ d → XS T L pos none D M → D.length ≤ pos → ∃ M', C d 36 [.ref 16] S0 M N = some (none, M', N) ∧ XS T L pos' fl (D ++ lc l) M' ∧ FX M M') ∧
    (∀ (d : Nat) (M : j_M) (N : j_N) (b : Bool) (e : Nat → Int32) (x3 x4 : Int32), 60 ≤ d → ES T L b e pos none 0 M → ∃ M' v hol, R d kX11_workOut 33 [.ref 46, .null, .null, .int x3, .int x4, .int (nI 1), .null, .null] [] (S0, M, N) = R d kX11_workOut 74 [.ref 46, .null, .null, .int x3, .int x4, .null, .int v, .int (bI hol)] [] (S0, M', N) ∧ ES T L b e pos' fl 0 M' ∧ FE M M' ∧ (fl = none → lval e l = bif hol then some v else none)) := by
  obtain ⟨p1, f1, c1, g1, g2, g3, g4, g5, gx, ge⟩ := J_top (pos := pos) hT hL hp
  have gdd : ∀ {p q : Nat} {c : List Int32}, p ≤ L → Je T L 201 46 0 p q none c → gd c := by
    intro p q c hpL hj
    have hv : ∀ e : Nat → Int32, ∃ v, ∀ st, ev e c st = v :: st := by
      intro e
      obtain ⟨M0, e0, h0⟩ := E0 p hpL 60 (Nat.le_refl _)
      have h1 : ES T L true e p none 0 (j_w (j_w (j_w (j_w (j_w M0 61 0 (e 0)) 61 1 (e 1)) 61 2 (e 2)) 61 3 (e 3)) 61 4 (e 4)) := by
        obtain ⟨k1, k2, k3, k4, k5, k6⟩ := h0
        refine ⟨by simp (disch := omega) only [z0, z1, z2, z3, z4, z5, z6, z7, z8, z9, z10, z11, z12, z13, z14, z15, z16, z17, z18, z19, z20, z24, z26, z30, z31, z40, z41, z50, z54, z60, z70, z80, z81, z99, z100, z200, z255, z599, z1000, z1299, z4096, z1000000, lw0, lw1, lw2, lw3, lw4, lw5, lw6, lw7, lw12, lw50, lw99, lw255, lw599, lw4096, bI_ok, ble_t, Int.cast_ofNat_Int,  decide_true, decide_false, bI_0, bI_1, b_tf, b_ft, eq_self, n_1, n_2, n_3, n_4, n_5, n_6, n_7, n_8, if_true, if_false, jin, ncl, cond_true, cond_false, Option.bind_some, j_ov, j_oi, j_ol, nle, nlt, neq, nI_add, nmul, nsub, ndiv, nrem2, if_pos, if_neg, Nat.zero_add, Nat.add_zero, j_w_ap, decide_eq_true, decide_eq_false, Bool.true_or, Bool.or_true, Bool.false_or, Bool.or_false, Bool.and_true, Bool.true_and, Bool.false_and, Bool.and_false, Bool.not_true, Bool.not_false, k1], by simp (disch := omega) only [z0, z1, z2, z3, z4, z5, z6, z7, z8, z9, z10, z11, z12, z13, z14, z15, z16, z17, z18, z19, z20, z24, z26, z30, z31, z40, z41, z50, z54, z60, z70, z80, z81, z99, z100, z200, z255, z599, z1000, z1299, z4096, z1000000, lw0, lw1, lw2, lw3, lw4, lw5, lw6, lw7, lw12, lw50, lw99, lw255, lw599, lw4096, bI_ok, ble_t, Int.cast_ofNat_Int,  decide_true, decide_false, bI_0, bI_1, b_tf, b_ft, eq_self, n_1, n_2, n_3, n_4, n_5, n_6, n_7, n_8, if_true, if_false, jin, ncl, cond_true, cond_false, Option.bind_some, j_ov, j_oi, j_ol, nle, nlt, neq, nI_add, nmul, nsub, ndiv, nrem2, if_pos, if_neg, Nat.zero_add, Nat.add_zero, j_w_ap, decide_eq_true, decide_eq_false, Bool.true_or, Bool.or_true, Bool.false_or, Bool.or_false, Bool.and_true, Bool.true_and, Bool.false_and, Bool.and_false, Bool.not_true, Bool.not_false, k2], by simp (disch := omega) only [z0, z1, z2, z3, z4, z5, z6, z7, z8, z9, z10, z11, z12, z13, z14, z15, z16, z17, z18, z19, z20, z24, z26, z30, z31, z40, z41, z50, z54, z60, z70, z80, z81, z99, z100, z200, z255, z599, z1000, z1299, z4096, z1000000, lw0, lw1, lw2, lw3, lw4, lw5, lw6, lw7, lw12, lw50, lw99, lw255, lw599, lw4096, bI_ok, ble_t, Int.cast_ofNat_Int,  decide_true, decide_false, bI_0, bI_1, b_tf, b_ft, eq_self, n_1, n_2, n_3, n_4, n_5, n_6, n_7, n_8, if_true, if_false, jin, ncl, cond_true, cond_false, Option.bind_some, j_ov, j_oi, j_ol, nle, nlt, neq, nI_add, nmul, nsub, ndiv, nrem2, if_pos, if_neg, Nat.zero_add, Nat.add_zero, j_w_ap, decide_eq_true, decide_eq_false, Bool.true_or, Bool.or_true, Bool.false_or, Bool.or_false, Bool.and_true, Bool.true_and, Bool.false_and, Bool.and_false, Bool.not_true, Bool.not_false, k3], ⟨by simp (disch := omega) only [z0, z1, z2, z3, z4, z5, z6, z7, z8, z9, z10, z11, z12, z13, z14, z15, z16, z17, z18, z19, z20, z24, z26, z30, z31, z40, z41, z50, z54, z60, z70, z80, z81, z99, z100, z200, z255, z599, z1000, z1299, z4096, z1000000, lw0, lw1, lw2, lw3, lw4, lw5, lw6, lw7, lw12, lw50, lw99, lw255, lw599, lw4096, bI_ok, ble_t, Int.cast_ofNat_Int,  decide_true, decide_false, bI_0, bI_1, b_tf, b_ft, eq_self, n_1, n_2, n_3, n_4, n_5, n_6, n_7, n_8, if_true, if_false, jin, ncl, cond_true, cond_false, Option.bind_some, j_ov, j_oi, j_ol, nle, nlt, neq, nI_add, nmul, nsub, ndiv, nrem2, if_pos, if_neg, Nat.zero_add, Nat.add_zero, j_w_ap, decide_eq_true, decide_eq_false, Bool.true_or, Bool.or_true, Bool.false_or, Bool.or_false, Bool.and_true, Bool.true_and, Bool.false_and, Bool.and_false, Bool.not_true, Bool.not_false, k4.1], fun i hi => by simp (disch := omega) only [z0, z1, z2, z3, z4, z5, z6, z7, z8, z9, z10, z11, z12, z13, z14, z15, z16, z17, z18, z19, z20, z24, z26, z30, z31, z40, z41, z50, z54, z60, z70, z80, z81, z99, z100, z200, z255, z599, z1000, z1299, z4096, z1000000, lw0, lw1, lw2, lw3, lw4, lw5, lw6, lw7, lw12, lw50, lw99, lw255, lw599, lw4096, bI_ok, ble_t, Int.cast_ofNat_Int,  decide_true, decide_false, bI_0, bI_1, b_tf, b_ft, eq_self, n_1, n_2, n_3, n_4, n_5, n_6, n_7, n_8, if_true, if_false, jin, ncl, cond_true, cond_false, Option.bind_some, j_ov, j_oi, j_ol, nle, nlt, neq, nI_add, nmul, nsub, ndiv, nrem2, if_pos, if_neg, Nat.zero_add, Nat.add_zero, j_w_ap, decide_eq_true, decide_eq_false, Bool.true_or, Bool.or_true, Bool.false_or, Bool.or_false, Bool.and_true, Bool.true_and, Bool.false_and, Bool.and_false, Bool.not_true, Bool.not_false, k4.2 i hi]⟩, fun k hk => ?_, fun z => by simp (disch := omega) only [z0, z1, z2, z3, z4, z5, z6, z7, z8, z9, z10, z11, z12, z13, z14, z15, z16, z17, z18, z19, z20, z24, z26, z30, z31, z40, z41, z50, z54, z60, z70, z80, z81, z99, z100, z200, z255, z599, z1000, z1299, z4096, z1000000, lw0, lw1, lw2, lw3, lw4, lw5, lw6, lw7, lw12, lw50, lw99, lw255, lw599, lw4096, bI_ok, ble_t, Int.cast_ofNat_Int,  decide_true, decide_false, bI_0, bI_1, b_tf, b_ft, eq_self, n_1, n_2, n_3, n_4, n_5, n_6, n_7, n_8, if_true, if_false, jin, ncl, cond_true, cond_false, Option.bind_some, j_ov, j_oi, j_ol, nle, nlt, neq, nI_add, nmul, nsub, ndiv, nrem2, if_pos, if_neg, Nat.zero_add, Nat.add_zero, j_w_ap, decide_eq_true, decide_eq_false, Bool.true_or, Bool.or_true, Bool.false_or, Bool.or_false, Bool.and_true, Bool.true_and, Bool.false_and, Bool.and_false, Bool.not_true, Bool.not_false, k6 z]⟩
        have : k = 0 ∨ k = 1 ∨ k = 2 ∨ k = 3 ∨ k = 4 := by omega
        rcases this with rfl | rfl | rfl | rfl | rfl <;> simp (disch := omega) only [z0, z1, z2, z3, z4, z5, z6, z7, z8, z9, z10, z11, z12, z13, z14, z15, z16, z17, z18, z19, z20, z24, z26, z30, z31, z40, z41, z50, z54, z60, z70, z80, z81, z99, z100, z200, z255, z599, z1000, z1299, z4096, z1000000, lw0, lw1, lw2, lw3, lw4, lw5, lw6, lw7, lw12, lw50, lw99, lw255, lw599, lw4096, bI_ok, ble_t, Int.cast_ofNat_Int,  decide_true, decide_false, bI_0, bI_1, b_tf, b_ft, eq_self, n_1, n_2, n_3, n_4, n_5, n_6, n_7, n_8, if_true, if_false, jin, ncl, cond_true, cond_false, Option.bind_some, j_ov, j_oi, j_ol, nle, nlt, neq, nI_add, nmul, nsub, ndiv, nrem2, if_pos, if_neg, Nat.zero_add, Nat.add_zero, j_w_ap, decide_eq_true, decide_eq_false, Bool.true_or, Bool.or_true, Bool.false_or, Bool.or_false, Bool.and_true, Bool.true_and, Bool.false_and, Bool.and_false, Bool.not_true, Bool.not_false]
      obtain ⟨M1, v, -, -, -, q⟩ := hj 60 _ (fun _ _ => 0) true e (by omega) h1
      exact ⟨v, q rfl⟩
    obtain ⟨v, hv0⟩ := hv (fun _ => 0)
    exact ⟨okc_of hv0, hv⟩
  by_cases ht : tk T L p1 f1 63
  · have hf1 := ht.1
    subst hf1
    have hp1l := ht.2.1
    have hlt := g4 rfl
    obtain ⟨p2, f2, c2, k1, k2, k3, k4, k5, kx, ke⟩ := J_top (pos := p1 + 1) hT hL hp1l
    refine ⟨p2, f2, (c1, some c2), by omega, k2, ?_, k5, fun z => ?_, fun d M N D hd h hD => ?_, fun d M N b e x3 x4 hd h => ?_⟩
    · unfold lc
      dsimp only
      rw [List.length_append, List.length_append, List.length_append, List.length_singleton, List.length_singleton]
      omega
    · subst z
      exact ⟨⟨gdd hp ge, fun c hc => by cases hc; exact gdd hp1l ke⟩, by omega⟩
    · obtain ⟨M1, q1, q2, q3⟩ := gx (d - 1) M N D (by omega) h hD
      have y := X_takes_t (d := d - 1) (N := N) (by omega) hL (show 63 < 256 by omega) ht q2
      obtain ⟨M2, r1, r2, r3⟩ := X_write (d := d - 1) (N := N) (x := -nI 18) (by omega) (by rw [List.length_append]; omega) q2.adv
      obtain ⟨M3, s1, s2, s3⟩ := kx (d - 1) M2 N _ (by omega) r2 (by rw [List.length_append, List.length_append, List.length_singleton]; omega)
      obtain ⟨M4, t1, t2, t3⟩ := X_write (d := d - 1) (N := N) (x := -nI 19) (by omega) (by rw [List.length_append, List.length_append, List.length_append, List.length_singleton]; omega) s2
      have e := bX4_readLine_0 (d - 1) M N
      simp (disch := omega) only [z33, z37, z38, z42, z43, z45, z47, z48, z57, z59, z61, z62, z63, z98, z107, z110, z112, z114, z120, z122, z124, z0, z1, z2, z3, z4, z5, z6, z7, z8, z9, z10, z11, z12, z13, z14, z15, z16, z17, z18, z19, z20, z24, z26, z30, z31, z40, z41, z50, z54, z60, z70, z80, z81, z99, z100, z200, z255, z599, z1000, z1299, z4096, z1000000, lw0, lw1, lw2, lw3, lw4, lw5, lw6, lw7, lw12, lw50, lw99, lw255, lw599, lw4096, bI_ok, ble_t, Int.cast_ofNat_Int,  decide_true, decide_false, bI_0, bI_1, b_tf, b_ft, eq_self, n_1, n_2, n_3, n_4, n_5, n_6, n_7, n_8, if_true, if_false, jin, ncl, cond_true, cond_false, Option.bind_some, j_ov, j_oi, j_ol, nle, nlt, neq, nI_add, nmul, nsub, ndiv, nrem2, if_pos, if_neg, Nat.zero_add, Nat.add_zero, j_w_ap, decide_eq_true, decide_eq_false, Bool.true_or, Bool.or_true, Bool.false_or, Bool.or_false, Bool.and_true, Bool.true_and, Bool.false_and, Bool.and_false, Bool.not_true, Bool.not_false, q1, y, r1, s1, t1] at e
      refine ⟨M4, eX4_readLine (by omega) e, ?_, q3.tr ((FX.w (by omega)).tr (r3.tr (s3.tr t3)))⟩
      unfold lc
      dsimp only
      rw [← List.append_assoc, ← List.append_assoc, ← List.append_assoc]
      exact t2
    · obtain ⟨M1, v, q1, q2, q3, q4⟩ := ge d M N b e (by omega) h
      have y := M_takes_t (d := d) (N := N) (by omega) hL (show 63 < 256 by omega) ht q2
      obtain ⟨M2, v2, r1, r2, r3, r4⟩ := ke d _ N b e (by omega) q2.adv
      have e1 := bX11_workOut_33 d x3 x4 (nI 1) M N
      by_cases hv : v = nI 0
      · simp (disch := omega) only [z33, z37, z38, z42, z43, z45, z47, z48, z57, z59, z61, z62, z63, z98, z107, z110, z112, z114, z120, z122, z124, z0, z1, z2, z3, z4, z5, z6, z7, z8, z9, z10, z11, z12, z13, z14, z15, z16, z17, z18, z19, z20, z24, z26, z30, z31, z40, z41, z50, z54, z60, z70, z80, z81, z99, z100, z200, z255, z599, z1000, z1299, z4096, z1000000, lw0, lw1, lw2, lw3, lw4, lw5, lw6, lw7, lw12, lw50, lw99, lw255, lw599, lw4096, bI_ok, ble_t, Int.cast_ofNat_Int,  decide_true, decide_false, bI_0, bI_1, b_tf, b_ft, eq_self, n_1, n_2, n_3, n_4, n_5, n_6, n_7, n_8, if_true, if_false, jin, ncl, cond_true, cond_false, Option.bind_some, j_ov, j_oi, j_ol, nle, nlt, neq, nI_add, nmul, nsub, ndiv, nrem2, if_pos, if_neg, Nat.zero_add, Nat.add_zero, j_w_ap, decide_eq_true, decide_eq_false, Bool.true_or, Bool.or_true, Bool.false_or, Bool.or_false, Bool.and_true, Bool.true_and, Bool.false_and, Bool.and_false, Bool.not_true, Bool.not_false, q1, y, r1, hv] at e1
        refine ⟨M2, v2, false, e1, r2, q3.tr ((FE.w (by omega)).tr r3), fun z => ?_⟩
        unfold lval
        dsimp only
        rw [q4 rfl, List.headD_cons, if_pos (by rw [hv]; rfl)]
        rfl
      · simp (disch := omega) only [z33, z37, z38, z42, z43, z45, z47, z48, z57, z59, z61, z62, z63, z98, z107, z110, z112, z114, z120, z122, z124, z0, z1, z2, z3, z4, z5, z6, z7, z8, z9, z10, z11, z12, z13, z14, z15, z16, z17, z18, z19, z20, z24, z26, z30, z31, z40, z41, z50, z54, z60, z70, z80, z81, z99, z100, z200, z255, z599, z1000, z1299, z4096, z1000000, lw0, lw1, lw2, lw3, lw4, lw5, lw6, lw7, lw12, lw50, lw99, lw255, lw599, lw4096, bI_ok, ble_t, Int.cast_ofNat_Int,  decide_true, decide_false, bI_0, bI_1, b_tf, b_ft, eq_self, n_1, n_2, n_3, n_4, n_5, n_6, n_7, n_8, if_true, if_false, jin, ncl, cond_true, cond_false, Option.bind_some, j_ov, j_oi, j_ol, nle, nlt, neq, nI_add, nmul, nsub, ndiv, nrem2, if_pos, if_neg, Nat.zero_add, Nat.add_zero, j_w_ap, decide_eq_true, decide_eq_false, Bool.true_or, Bool.or_true, Bool.false_or, Bool.or_false, Bool.and_true, Bool.true_and, Bool.false_and, Bool.and_false, Bool.not_true, Bool.not_false, q1, y, r1, hv] at e1
        refine ⟨M2, v2, true, e1, r2, q3.tr ((FE.w (by omega)).tr r3), fun z => ?_⟩
        unfold lval
        dsimp only
        rw [q4 rfl, List.headD_cons, if_neg (fun z => hv (by rw [z]; rfl)), r4 z]
        rfl
  · refine ⟨p1, f1, (c1, none), g1, g2, ?_, g5, fun z => ?_, fun d M N D hd h hD => ?_, fun d M N b e x3 x4 hd h => ?_⟩
    · unfold lc
      dsimp only
      rw [List.length_append, List.length_singleton]
      omega
    · subst z
      exact ⟨⟨gdd hp ge, fun c hc => by cases hc⟩, g4 rfl⟩
    · obtain ⟨M1, q1, q2, q3⟩ := gx (d - 1) M N D (by omega) h hD
      have y := X_takes_f (d := d - 1) (N := N) (by omega) hL g2 hT (show 63 < 256 by omega) g5 ht q2
      obtain ⟨M2, r1, r2, r3⟩ := X_write (d := d - 1) (N := N) (x := -nI 19) (by omega) (by rw [List.length_append]; omega) q2
      have e := bX4_readLine_0 (d - 1) M N
      simp (disch := omega) only [z33, z37, z38, z42, z43, z45, z47, z48, z57, z59, z61, z62, z63, z98, z107, z110, z112, z114, z120, z122, z124, z0, z1, z2, z3, z4, z5, z6, z7, z8, z9, z10, z11, z12, z13, z14, z15, z16, z17, z18, z19, z20, z24, z26, z30, z31, z40, z41, z50, z54, z60, z70, z80, z81, z99, z100, z200, z255, z599, z1000, z1299, z4096, z1000000, lw0, lw1, lw2, lw3, lw4, lw5, lw6, lw7, lw12, lw50, lw99, lw255, lw599, lw4096, bI_ok, ble_t, Int.cast_ofNat_Int,  decide_true, decide_false, bI_0, bI_1, b_tf, b_ft, eq_self, n_1, n_2, n_3, n_4, n_5, n_6, n_7, n_8, if_true, if_false, jin, ncl, cond_true, cond_false, Option.bind_some, j_ov, j_oi, j_ol, nle, nlt, neq, nI_add, nmul, nsub, ndiv, nrem2, if_pos, if_neg, Nat.zero_add, Nat.add_zero, j_w_ap, decide_eq_true, decide_eq_false, Bool.true_or, Bool.or_true, Bool.false_or, Bool.or_false, Bool.and_true, Bool.true_and, Bool.false_and, Bool.and_false, Bool.not_true, Bool.not_false, q1, y, r1] at e
      refine ⟨M2, eX4_readLine (by omega) e, ?_, q3.tr r3⟩
      unfold lc
      dsimp only
      rw [← List.append_assoc]
      exact r2
    · obtain ⟨M1, v, q1, q2, q3, q4⟩ := ge d M N b e (by omega) h
      have y := M_takes_f (d := d) (N := N) (by omega) hL g2 hT (show 63 < 256 by omega) (by omega) g5 ht q2
      have e1 := bX11_workOut_33 d x3 x4 (nI 1) M N
      simp (disch := omega) only [z33, z37, z38, z42, z43, z45, z47, z48, z57, z59, z61, z62, z63, z98, z107, z110, z112, z114, z120, z122, z124, z0, z1, z2, z3, z4, z5, z6, z7, z8, z9, z10, z11, z12, z13, z14, z15, z16, z17, z18, z19, z20, z24, z26, z30, z31, z40, z41, z50, z54, z60, z70, z80, z81, z99, z100, z200, z255, z599, z1000, z1299, z4096, z1000000, lw0, lw1, lw2, lw3, lw4, lw5, lw6, lw7, lw12, lw50, lw99, lw255, lw599, lw4096, bI_ok, ble_t, Int.cast_ofNat_Int,  decide_true, decide_false, bI_0, bI_1, b_tf, b_ft, eq_self, n_1, n_2, n_3, n_4, n_5, n_6, n_7, n_8, if_true, if_false, jin, ncl, cond_true, cond_false, Option.bind_some, j_ov, j_oi, j_ol, nle, nlt, neq, nI_add, nmul, nsub, ndiv, nrem2, if_pos, if_neg, Nat.zero_add, Nat.add_zero, j_w_ap, decide_eq_true, decide_eq_false, Bool.true_or, Bool.or_true, Bool.false_or, Bool.or_false, Bool.and_true, Bool.true_and, Bool.false_and, Bool.and_false, Bool.not_true, Bool.not_false, q1, y] at e1
      refine ⟨M1, v, true, e1, q2, q3, fun z => ?_⟩
      unfold lval
      dsimp only
      rw [q4 z]
      rfl
def gv (o : Option Int32) : Int32 := match o with
  | none => nI 0
  | some _ => nI 1
def gw (o : Option Int32) : Int32 := match o with
  | none => nI 0
  | some v => v
theorem J_lines (hT : ∀ i, i < L → T i ≤ 255) (hL : L ≤ 120)
    (E0 : ∀ p : Nat, p ≤ L → ∀ (d : Nat), 60 ≤ d → ∃ M0 : j_M, ∃ e0 : Nat → Int32, ES T L true e0 p none 0 M0) : ∀ (r pos : Nat), L - pos ≤ r → pos ≤ L →
    ∃ pos' fl ls, (lcs ls).length + pos ≤ pos' + 1 ∧ pos' ≤ L ∧ (∀ f, fl = some f → f ≤ L) ∧ (fl = none → (∀ l, l ∈ ls → okl l)) ∧
    (∀ (d i : Nat) (M : j_M) (N : j_N) (D : List Int32), 60 ≤ d → XS T L pos none D M → D.length ≤ pos → i ≤ pos → ∃ M1 M', C d 36 [.ref 16] S0 M N = some (none, M1, N) ∧ R d kX4_readLines 21 [.ref 16, .int (nI i)] [] (S0, M1, N) = some (none, (S0, M', N)) ∧ XS T L pos' fl (D ++ lcs ls) M' ∧ FX M M') ∧
    (∀ (d : Nat) (M : j_M) (N : j_N) (b : Bool) (e : Nat → Int32) (o : Option Int32), 60 ≤ d → ES T L b e pos none 0 M → ∃ M' v, R d kX11_workOut 33 [.ref 46, .null, .null, .int (gv o), .int (gw o), .int (nI 1), .null, .null] [] (S0, M, N) = some (some (.int v), (S0, M', N)) ∧ ES T L b e pos' fl 0 M' ∧ FE M M' ∧ (fl = none → v = gw (orO o (lvs e ls)))) := by
  intro r
  induction r with
  | zero =>
    intro pos hr hp
    obtain ⟨p1, f1, l, g1, g2, g3, g4, g5, gx, ge⟩ := J_line (pos := pos) hT hL hp E0
    have hf1 : ∃ f, f1 = some f := by
      cases f1 with
      | some f => exact ⟨f, rfl⟩
      | none => have := (g5 rfl).2; omega
    obtain ⟨f, rfl⟩ := hf1
    have hfL := g4 f rfl
    refine ⟨p1, some f, [l], by unfold lcs lcs; rw [List.append_nil]; omega, g2, g4, (fun z => by cases z), fun d i M N D hd h hD hi => ?_, fun d M N b e o hd h => ?_⟩
    · obtain ⟨M1, q1, q2, q3⟩ := gx d M N D hd h hD
      have y := X_takes_f (d := d) (N := N) (by omega) hL g2 hT (show 59 < 256 by omega) g4 tk_s q2
      have y2 := X_fail_s (d := d) (N := N) (by omega) hL hfL q2
      have e := bX4_readLines_21 d (nI i) M1 N
      simp (disch := omega) only [z33, z37, z38, z42, z43, z45, z47, z48, z57, z59, z61, z62, z63, z98, z107, z110, z112, z114, z120, z122, z124, z0, z1, z2, z3, z4, z5, z6, z7, z8, z9, z10, z11, z12, z13, z14, z15, z16, z17, z18, z19, z20, z24, z26, z30, z31, z40, z41, z50, z54, z60, z70, z80, z81, z99, z100, z200, z255, z599, z1000, z1299, z4096, z1000000, lw0, lw1, lw2, lw3, lw4, lw5, lw6, lw7, lw12, lw50, lw99, lw255, lw599, lw4096, bI_ok, ble_t, Int.cast_ofNat_Int,  decide_true, decide_false, bI_0, bI_1, b_tf, b_ft, eq_self, n_1, n_2, n_3, n_4, n_5, n_6, n_7, n_8, if_true, if_false, jin, ncl, cond_true, cond_false, Option.bind_some, j_ov, j_oi, j_ol, nle, nlt, neq, nI_add, nmul, nsub, ndiv, nrem2, if_pos, if_neg, Nat.zero_add, Nat.add_zero, j_w_ap, decide_eq_true, decide_eq_false, Bool.true_or, Bool.or_true, Bool.false_or, Bool.or_false, Bool.and_true, Bool.true_and, Bool.false_and, Bool.and_false, Bool.not_true, Bool.not_false, y, y2, ite_self] at e
      exact ⟨M1, M1, q1, e, by unfold lcs lcs; rw [List.append_nil]; exact q2, q3⟩
    · obtain ⟨M1, v, hol, q1, q2, q3, -⟩ := ge d M N b e (gv o) (gw o) hd h
      have y := M_takes_f (d := d) (N := N) (by omega) hL g2 hT (show 59 < 256 by omega) (by omega) g4 tk_s q2
      have h3 := q2.2.2.1
      rw [show oI (some f) = nI f from rfl] at h3
      have e2 := bX11_workOut_74 d (gv o) (gw o) v (bI hol) M1 N
      have e3 := bX11_workOut_33 d (gv o) (gw o) (nI 0) M1 N
      simp (disch := omega) only [z33, z37, z38, z42, z43, z45, z47, z48, z57, z59, z61, z62, z63, z98, z107, z110, z112, z114, z120, z122, z124, z0, z1, z2, z3, z4, z5, z6, z7, z8, z9, z10, z11, z12, z13, z14, z15, z16, z17, z18, z19, z20, z24, z26, z30, z31, z40, z41, z50, z54, z60, z70, z80, z81, z99, z100, z200, z255, z599, z1000, z1299, z4096, z1000000, lw0, lw1, lw2, lw3, lw4, lw5, lw6, lw7, lw12, lw50, lw99, lw255, lw599, lw4096, bI_ok, ble_t, Int.cast_ofNat_Int,  decide_true, decide_false, bI_0, bI_1, b_tf, b_ft, eq_self, n_1, n_2, n_3, n_4, n_5, n_6, n_7, n_8, if_true, if_false, jin, ncl, cond_true, cond_false, Option.bind_some, j_ov, j_oi, j_ol, nle, nlt, neq, nI_add, nmul, nsub, ndiv, nrem2, if_pos, if_neg, Nat.zero_add, Nat.add_zero, j_w_ap, decide_eq_true, decide_eq_false, Bool.true_or, Bool.or_true, Bool.false_or, Bool.or_false, Bool.and_true, Bool.true_and, Bool.false_and, Bool.and_false, Bool.not_true, Bool.not_false, h3, y] at e2
      simp (disch := omega) only [z33, z37, z38, z42, z43, z45, z47, z48, z57, z59, z61, z62, z63, z98, z107, z110, z112, z114, z120, z122, z124, z0, z1, z2, z3, z4, z5, z6, z7, z8, z9, z10, z11, z12, z13, z14, z15, z16, z17, z18, z19, z20, z24, z26, z30, z31, z40, z41, z50, z54, z60, z70, z80, z81, z99, z100, z200, z255, z599, z1000, z1299, z4096, z1000000, lw0, lw1, lw2, lw3, lw4, lw5, lw6, lw7, lw12, lw50, lw99, lw255, lw599, lw4096, bI_ok, ble_t, Int.cast_ofNat_Int,  decide_true, decide_false, bI_0, bI_1, b_tf, b_ft, eq_self, n_1, n_2, n_3, n_4, n_5, n_6, n_7, n_8, if_true, if_false, jin, ncl, cond_true, cond_false, Option.bind_some, j_ov, j_oi, j_ol, nle, nlt, neq, nI_add, nmul, nsub, ndiv, nrem2, if_pos, if_neg, Nat.zero_add, Nat.add_zero, j_w_ap, decide_eq_true, decide_eq_false, Bool.true_or, Bool.or_true, Bool.false_or, Bool.or_false, Bool.and_true, Bool.true_and, Bool.false_and, Bool.and_false, Bool.not_true, Bool.not_false, h3] at e3
      exact ⟨M1, gw o, q1.trans (e2.trans e3), q2, q3, fun z => by cases z⟩
  | succ r ih =>
    intro pos hr hp
    obtain ⟨p1, f1, l, g1, g2, g3, g4, g5, gx, ge⟩ := J_line (pos := pos) hT hL hp E0
    cases f1 with
    | some f =>
      have hfL := g4 f rfl
      refine ⟨p1, some f, [l], by unfold lcs lcs; rw [List.append_nil]; omega, g2, g4, (fun z => by cases z), fun d i M N D hd h hD hi => ?_, fun d M N b e o hd h => ?_⟩
      · obtain ⟨M1, q1, q2, q3⟩ := gx d M N D hd h hD
        have y := X_takes_f (d := d) (N := N) (by omega) hL g2 hT (show 59 < 256 by omega) g4 tk_s q2
        have y2 := X_fail_s (d := d) (N := N) (by omega) hL hfL q2
        have e := bX4_readLines_21 d (nI i) M1 N
        simp (disch := omega) only [z33, z37, z38, z42, z43, z45, z47, z48, z57, z59, z61, z62, z63, z98, z107, z110, z112, z114, z120, z122, z124, z0, z1, z2, z3, z4, z5, z6, z7, z8, z9, z10, z11, z12, z13, z14, z15, z16, z17, z18, z19, z20, z24, z26, z30, z31, z40, z41, z50, z54, z60, z70, z80, z81, z99, z100, z200, z255, z599, z1000, z1299, z4096, z1000000, lw0, lw1, lw2, lw3, lw4, lw5, lw6, lw7, lw12, lw50, lw99, lw255, lw599, lw4096, bI_ok, ble_t, Int.cast_ofNat_Int,  decide_true, decide_false, bI_0, bI_1, b_tf, b_ft, eq_self, n_1, n_2, n_3, n_4, n_5, n_6, n_7, n_8, if_true, if_false, jin, ncl, cond_true, cond_false, Option.bind_some, j_ov, j_oi, j_ol, nle, nlt, neq, nI_add, nmul, nsub, ndiv, nrem2, if_pos, if_neg, Nat.zero_add, Nat.add_zero, j_w_ap, decide_eq_true, decide_eq_false, Bool.true_or, Bool.or_true, Bool.false_or, Bool.or_false, Bool.and_true, Bool.true_and, Bool.false_and, Bool.and_false, Bool.not_true, Bool.not_false, y, y2, ite_self] at e
        exact ⟨M1, M1, q1, e, by unfold lcs lcs; rw [List.append_nil]; exact q2, q3⟩
      · obtain ⟨M1, v, hol, q1, q2, q3, -⟩ := ge d M N b e (gv o) (gw o) hd h
        have y := M_takes_f (d := d) (N := N) (by omega) hL g2 hT (show 59 < 256 by omega) (by omega) g4 tk_s q2
        have h3 := q2.2.2.1
        rw [show oI (some f) = nI f from rfl] at h3
        have e2 := bX11_workOut_74 d (gv o) (gw o) v (bI hol) M1 N
        have e3 := bX11_workOut_33 d (gv o) (gw o) (nI 0) M1 N
        simp (disch := omega) only [z33, z37, z38, z42, z43, z45, z47, z48, z57, z59, z61, z62, z63, z98, z107, z110, z112, z114, z120, z122, z124, z0, z1, z2, z3, z4, z5, z6, z7, z8, z9, z10, z11, z12, z13, z14, z15, z16, z17, z18, z19, z20, z24, z26, z30, z31, z40, z41, z50, z54, z60, z70, z80, z81, z99, z100, z200, z255, z599, z1000, z1299, z4096, z1000000, lw0, lw1, lw2, lw3, lw4, lw5, lw6, lw7, lw12, lw50, lw99, lw255, lw599, lw4096, bI_ok, ble_t, Int.cast_ofNat_Int,  decide_true, decide_false, bI_0, bI_1, b_tf, b_ft, eq_self, n_1, n_2, n_3, n_4, n_5, n_6, n_7, n_8, if_true, if_false, jin, ncl, cond_true, cond_false, Option.bind_some, j_ov, j_oi, j_ol, nle, nlt, neq, nI_add, nmul, nsub, ndiv, nrem2, if_pos, if_neg, Nat.zero_add, Nat.add_zero, j_w_ap, decide_eq_true, decide_eq_false, Bool.true_or, Bool.or_true, Bool.false_or, Bool.or_false, Bool.and_true, Bool.true_and, Bool.false_and, Bool.and_false, Bool.not_true, Bool.not_false, h3, y] at e2
        simp (disch := omega) only [z33, z37, z38, z42, z43, z45, z47, z48, z57, z59, z61, z62, z63, z98, z107, z110, z112, z114, z120, z122, z124, z0, z1, z2, z3, z4, z5, z6, z7, z8, z9, z10, z11, z12, z13, z14, z15, z16, z17, z18, z19, z20, z24, z26, z30, z31, z40, z41, z50, z54, z60, z70, z80, z81, z99, z100, z200, z255, z599, z1000, z1299, z4096, z1000000, lw0, lw1, lw2, lw3, lw4, lw5, lw6, lw7, lw12, lw50, lw99, lw255, lw599, lw4096, bI_ok, ble_t, Int.cast_ofNat_Int,  decide_true, decide_false, bI_0, bI_1, b_tf, b_ft, eq_self, n_1, n_2, n_3, n_4, n_5, n_6, n_7, n_8, if_true, if_false, jin, ncl, cond_true, cond_false, Option.bind_some, j_ov, j_oi, j_ol, nle, nlt, neq, nI_add, nmul, nsub, ndiv, nrem2, if_pos, if_neg, Nat.zero_add, Nat.add_zero, j_w_ap, decide_eq_true, decide_eq_false, Bool.true_or, Bool.or_true, Bool.false_or, Bool.or_false, Bool.and_true, Bool.true_and, Bool.false_and, Bool.and_false, Bool.not_true, Bool.not_false, h3] at e3
        exact ⟨M1, gw o, q1.trans (e2.trans e3), q2, q3, fun z => by cases z⟩
    | none =>
      obtain ⟨hokl, hlt⟩ := g5 rfl
      -- what is given behind a line
      have stepE : ∀ (d : Nat) (M : j_M) (N : j_N) (b : Bool) (e : Nat → Int32) (o : Option Int32), 60 ≤ d → ES T L b e pos none 0 M → ∃ M1, ES T L b e p1 none 0 M1 ∧ FE M M1 ∧ ∀ (rr : Int32) (M2 : j_M), C d 200 [.ref 46, .int (nI 59)] S0 M1 N = some (some (.int rr), M2, N) → R d kX11_workOut 33 [.ref 46, .null, .null, .int (gv o), .int (gw o), .int (nI 1), .null, .null] [] (S0, M, N) = R d kX11_workOut 33 [.ref 46, .null, .null, .int (gv (orO o (lval e l))), .int (gw (orO o (lval e l))), .int rr, .null, .null] [] (S0, M2, N) := by
        intro d M N b e o hd h
        obtain ⟨M1, v, hol, q1, q2, q3, q4⟩ := ge d M N b e (gv o) (gw o) hd h
        have h3 := q2.2.2.1
        rw [show oI none = -nI 1 from rfl] at h3
        refine ⟨M1, q2, q3, fun rr M2 hrr => q1.trans ?_⟩
        have e2 := bX11_workOut_74 d (gv o) (gw o) v (bI hol) M1 N
        have q4 := q4 rfl
        cases hol with
        | false =>
          rw [cond_false] at q4
          simp (disch := omega) only [z33, z37, z38, z42, z43, z45, z47, z48, z57, z59, z61, z62, z63, z98, z107, z110, z112, z114, z120, z122, z124, z0, z1, z2, z3, z4, z5, z6, z7, z8, z9, z10, z11, z12, z13, z14, z15, z16, z17, z18, z19, z20, z24, z26, z30, z31, z40, z41, z50, z54, z60, z70, z80, z81, z99, z100, z200, z255, z599, z1000, z1299, z4096, z1000000, lw0, lw1, lw2, lw3, lw4, lw5, lw6, lw7, lw12, lw50, lw99, lw255, lw599, lw4096, bI_ok, ble_t, Int.cast_ofNat_Int,  decide_true, decide_false, bI_0, bI_1, b_tf, b_ft, eq_self, n_1, n_2, n_3, n_4, n_5, n_6, n_7, n_8, if_true, if_false, jin, ncl, cond_true, cond_false, Option.bind_some, j_ov, j_oi, j_ol, nle, nlt, neq, nI_add, nmul, nsub, ndiv, nrem2, if_pos, if_neg, Nat.zero_add, Nat.add_zero, j_w_ap, decide_eq_true, decide_eq_false, Bool.true_or, Bool.or_true, Bool.false_or, Bool.or_false, Bool.and_true, Bool.true_and, Bool.false_and, Bool.and_false, Bool.not_true, Bool.not_false, h3, hrr] at e2
          rw [e2, q4]
          cases o <;> rfl
        | true =>
          rw [cond_true] at q4
          cases o with
          | none =>
            rw [show gv none = nI 0 from rfl] at e2 ⊢
            simp (disch := omega) only [z33, z37, z38, z42, z43, z45, z47, z48, z57, z59, z61, z62, z63, z98, z107, z110, z112, z114, z120, z122, z124, z0, z1, z2, z3, z4, z5, z6, z7, z8, z9, z10, z11, z12, z13, z14, z15, z16, z17, z18, z19, z20, z24, z26, z30, z31, z40, z41, z50, z54, z60, z70, z80, z81, z99, z100, z200, z255, z599, z1000, z1299, z4096, z1000000, lw0, lw1, lw2, lw3, lw4, lw5, lw6, lw7, lw12, lw50, lw99, lw255, lw599, lw4096, bI_ok, ble_t, Int.cast_ofNat_Int,  decide_true, decide_false, bI_0, bI_1, b_tf, b_ft, eq_self, n_1, n_2, n_3, n_4, n_5, n_6, n_7, n_8, if_true, if_false, jin, ncl, cond_true, cond_false, Option.bind_some, j_ov, j_oi, j_ol, nle, nlt, neq, nI_add, nmul, nsub, ndiv, nrem2, if_pos, if_neg, Nat.zero_add, Nat.add_zero, j_w_ap, decide_eq_true, decide_eq_false, Bool.true_or, Bool.or_true, Bool.false_or, Bool.or_false, Bool.and_true, Bool.true_and, Bool.false_and, Bool.and_false, Bool.not_true, Bool.not_false, h3, hrr] at e2
            rw [e2, q4]
            rfl
          | some g =>
            rw [show gv (some g) = nI 1 from rfl] at e2 ⊢
            simp (disch := omega) only [z33, z37, z38, z42, z43, z45, z47, z48, z57, z59, z61, z62, z63, z98, z107, z110, z112, z114, z120, z122, z124, z0, z1, z2, z3, z4, z5, z6, z7, z8, z9, z10, z11, z12, z13, z14, z15, z16, z17, z18, z19, z20, z24, z26, z30, z31, z40, z41, z50, z54, z60, z70, z80, z81, z99, z100, z200, z255, z599, z1000, z1299, z4096, z1000000, lw0, lw1, lw2, lw3, lw4, lw5, lw6, lw7, lw12, lw50, lw99, lw255, lw599, lw4096, bI_ok, ble_t, Int.cast_ofNat_Int,  decide_true, decide_false, bI_0, bI_1, b_tf, b_ft, eq_self, n_1, n_2, n_3, n_4, n_5, n_6, n_7, n_8, if_true, if_false, jin, ncl, cond_true, cond_false, Option.bind_some, j_ov, j_oi, j_ol, nle, nlt, neq, nI_add, nmul, nsub, ndiv, nrem2, if_pos, if_neg, Nat.zero_add, Nat.add_zero, j_w_ap, decide_eq_true, decide_eq_false, Bool.true_or, Bool.or_true, Bool.false_or, Bool.or_false, Bool.and_true, Bool.true_and, Bool.false_and, Bool.and_false, Bool.not_true, Bool.not_false, h3, hrr] at e2
            exact e2
      by_cases ht : tk T L p1 none 59
      · have hp1l := ht.2.1
        obtain ⟨p2, f2, ls, k1, k2, k3, k4, kx, ke⟩ := ih (p1 + 1) (by omega) hp1l
        refine ⟨p2, f2, l :: ls, by unfold lcs; rw [List.length_append]; omega, k2, k3, fun z l' hl' => ?_, fun d i M N D hd h hD hi => ?_, fun d M N b e o hd h => ?_⟩
        · rcases List.mem_cons.mp hl' with h1 | h1
          · rw [h1]; exact hokl
          · exact k4 z l' h1
        · obtain ⟨M1, q1, q2, q3⟩ := gx d M N D hd h hD
          have y := X_takes_t (d := d) (N := N) (by omega) hL (show 59 < 256 by omega) ht q2
          obtain ⟨M2, M3, r1, r2, r3, r4⟩ := kx d (i + 1) _ N (D ++ lc l) hd q2.adv (by rw [List.length_append]; omega) (by omega)
          have e := bX4_readLines_21 d (nI i) M1 N
          simp (disch := omega) only [z33, z37, z38, z42, z43, z45, z47, z48, z57, z59, z61, z62, z63, z98, z107, z110, z112, z114, z120, z122, z124, z0, z1, z2, z3, z4, z5, z6, z7, z8, z9, z10, z11, z12, z13, z14, z15, z16, z17, z18, z19, z20, z24, z26, z30, z31, z40, z41, z50, z54, z60, z70, z80, z81, z99, z100, z200, z255, z599, z1000, z1299, z4096, z1000000, lw0, lw1, lw2, lw3, lw4, lw5, lw6, lw7, lw12, lw50, lw99, lw255, lw599, lw4096, bI_ok, ble_t, Int.cast_ofNat_Int,  decide_true, decide_false, bI_0, bI_1, b_tf, b_ft, eq_self, n_1, n_2, n_3, n_4, n_5, n_6, n_7, n_8, if_true, if_false, jin, ncl, cond_true, cond_false, Option.bind_some, j_ov, j_oi, j_ol, nle, nlt, neq, nI_add, nmul, nsub, ndiv, nrem2, if_pos, if_neg, Nat.zero_add, Nat.add_zero, j_w_ap, decide_eq_true, decide_eq_false, Bool.true_or, Bool.or_true, Bool.false_or, Bool.or_false, Bool.and_true, Bool.true_and, Bool.false_and, Bool.and_false, Bool.not_true, Bool.not_false, y, r1] at e
          refine ⟨M1, M3, q1, e.trans r2, ?_, q3.tr ((FX.w (by omega)).tr r4)⟩
          unfold lcs
          rw [← List.append_assoc]
          exact r3
        · obtain ⟨M1, q1, q2, q3⟩ := stepE d M N b e o hd h
          have y := M_takes_t (d := d) (N := N) (by omega) hL (show 59 < 256 by omega) ht q1
          obtain ⟨M2, v, r1, r2, r3, r4⟩ := ke d _ N b e (orO o (lval e l)) hd q1.adv
          refine ⟨M2, v, (q3 _ _ y).trans r1, r2, q2.tr ((FE.w (by omega)).tr r3), fun z => ?_⟩
          rw [r4 z]
          cases o with
          | some g => rfl
          | none =>
            unfold orO
            dsimp only
            rw [lvs]
            rfl
      · have yX : ∀ (d : Nat) (M1 : j_M) (N : j_N) (D : List Int32), 60 ≤ d → XS T L p1 none D M1 → C d 49 [.ref 16, .int (nI 59)] S0 M1 N = some (some (.int (nI 0)), M1, N) := fun d M1 N D hd h => X_takes_f (by omega) hL g2 hT (by omega) g4 ht h
        by_cases hend : p1 < L
        · refine ⟨p1, some p1, [l], by unfold lcs lcs; rw [List.append_nil]; omega, g2, (fun f hf => by cases hf; exact g2), (fun z => by cases z), fun d i M N D hd h hD hi => ?_, fun d M N b e o hd h => ?_⟩
          · obtain ⟨M1, q1, q2, q3⟩ := gx d M N D hd h hD
            have y := yX d M1 N _ hd q2
            obtain ⟨M2, r1, r2, r3⟩ := X_fail (d := d) (N := N) (by omega) hL q2
            have h4 := q2.1
            have h5 := q2.2.1
            have e := bX4_readLines_21 d (nI i) M1 N
            simp (disch := omega) only [z33, z37, z38, z42, z43, z45, z47, z48, z57, z59, z61, z62, z63, z98, z107, z110, z112, z114, z120, z122, z124, z0, z1, z2, z3, z4, z5, z6, z7, z8, z9, z10, z11, z12, z13, z14, z15, z16, z17, z18, z19, z20, z24, z26, z30, z31, z40, z41, z50, z54, z60, z70, z80, z81, z99, z100, z200, z255, z599, z1000, z1299, z4096, z1000000, lw0, lw1, lw2, lw3, lw4, lw5, lw6, lw7, lw12, lw50, lw99, lw255, lw599, lw4096, bI_ok, ble_t, Int.cast_ofNat_Int,  decide_true, decide_false, bI_0, bI_1, b_tf, b_ft, eq_self, n_1, n_2, n_3, n_4, n_5, n_6, n_7, n_8, if_true, if_false, jin, ncl, cond_true, cond_false, Option.bind_some, j_ov, j_oi, j_ol, nle, nlt, neq, nI_add, nmul, nsub, ndiv, nrem2, if_pos, if_neg, Nat.zero_add, Nat.add_zero, j_w_ap, decide_eq_true, decide_eq_false, Bool.true_or, Bool.or_true, Bool.false_or, Bool.or_false, Bool.and_true, Bool.true_and, Bool.false_and, Bool.and_false, Bool.not_true, Bool.not_false, y, h4, h5, r1, ite_self] at e
            exact ⟨M1, M2, q1, e, by unfold lcs lcs; rw [List.append_nil]; exact r2, q3.tr r3⟩
          · obtain ⟨M1, q1, q2, q3⟩ := stepE d M N b e o hd h
            have y := M_takes_f (d := d) (N := N) (by omega) hL g2 hT (show 59 < 256 by omega) (by omega) g4 ht q1
            obtain ⟨M2, r1, r2, r3⟩ := M_wrong (d := d) (N := N) (by omega) hL q1
            have h3 := q1.2.2.1
            have h26 := q1.2.1
            have h27 := q1.1
            rw [show oI none = -nI 1 from rfl] at h3
            have e3 := bX11_workOut_33 d (gv (orO o (lval e l))) (gw (orO o (lval e l))) (nI 0) M1 N
            simp (disch := omega) only [z33, z37, z38, z42, z43, z45, z47, z48, z57, z59, z61, z62, z63, z98, z107, z110, z112, z114, z120, z122, z124, z0, z1, z2, z3, z4, z5, z6, z7, z8, z9, z10, z11, z12, z13, z14, z15, z16, z17, z18, z19, z20, z24, z26, z30, z31, z40, z41, z50, z54, z60, z70, z80, z81, z99, z100, z200, z255, z599, z1000, z1299, z4096, z1000000, lw0, lw1, lw2, lw3, lw4, lw5, lw6, lw7, lw12, lw50, lw99, lw255, lw599, lw4096, bI_ok, ble_t, Int.cast_ofNat_Int,  decide_true, decide_false, bI_0, bI_1, b_tf, b_ft, eq_self, n_1, n_2, n_3, n_4, n_5, n_6, n_7, n_8, if_true, if_false, jin, ncl, cond_true, cond_false, Option.bind_some, j_ov, j_oi, j_ol, nle, nlt, neq, nI_add, nmul, nsub, ndiv, nrem2, if_pos, if_neg, Nat.zero_add, Nat.add_zero, j_w_ap, decide_eq_true, decide_eq_false, Bool.true_or, Bool.or_true, Bool.false_or, Bool.or_false, Bool.and_true, Bool.true_and, Bool.false_and, Bool.and_false, Bool.not_true, Bool.not_false, h3, h26, h27, r1] at e3
            exact ⟨M2, nI 0, (q3 _ _ y).trans e3, r2, q2.tr r3, fun z => by cases z⟩
        · refine ⟨p1, none, [l], by unfold lcs lcs; rw [List.append_nil]; omega, g2, g4, fun _ l' hl' => ?_, fun d i M N D hd h hD hi => ?_, fun d M N b e o hd h => ?_⟩
          · rw [List.mem_singleton] at hl'
            rw [hl']; exact hokl
          · obtain ⟨M1, q1, q2, q3⟩ := gx d M N D hd h hD
            have y := yX d M1 N _ hd q2
            have h4 := q2.1
            have h5 := q2.2.1
            have e := bX4_readLines_21 d (nI i) M1 N
            simp (disch := omega) only [z33, z37, z38, z42, z43, z45, z47, z48, z57, z59, z61, z62, z63, z98, z107, z110, z112, z114, z120, z122, z124, z0, z1, z2, z3, z4, z5, z6, z7, z8, z9, z10, z11, z12, z13, z14, z15, z16, z17, z18, z19, z20, z24, z26, z30, z31, z40, z41, z50, z54, z60, z70, z80, z81, z99, z100, z200, z255, z599, z1000, z1299, z4096, z1000000, lw0, lw1, lw2, lw3, lw4, lw5, lw6, lw7, lw12, lw50, lw99, lw255, lw599, lw4096, bI_ok, ble_t, Int.cast_ofNat_Int,  decide_true, decide_false, bI_0, bI_1, b_tf, b_ft, eq_self, n_1, n_2, n_3, n_4, n_5, n_6, n_7, n_8, if_true, if_false, jin, ncl, cond_true, cond_false, Option.bind_some, j_ov, j_oi, j_ol, nle, nlt, neq, nI_add, nmul, nsub, ndiv, nrem2, if_pos, if_neg, Nat.zero_add, Nat.add_zero, j_w_ap, decide_eq_true, decide_eq_false, Bool.true_or, Bool.or_true, Bool.false_or, Bool.or_false, Bool.and_true, Bool.true_and, Bool.false_and, Bool.and_false, Bool.not_true, Bool.not_false, y, h4, h5, ite_self] at e
            exact ⟨M1, M1, q1, e, by unfold lcs lcs; rw [List.append_nil]; exact q2, q3⟩
          · obtain ⟨M1, q1, q2, q3⟩ := stepE d M N b e o hd h
            have y := M_takes_f (d := d) (N := N) (by omega) hL g2 hT (show 59 < 256 by omega) (by omega) g4 ht q1
            have h3 := q1.2.2.1
            have h26 := q1.2.1
            have h27 := q1.1
            rw [show oI none = -nI 1 from rfl] at h3
            have e3 := bX11_workOut_33 d (gv (orO o (lval e l))) (gw (orO o (lval e l))) (nI 0) M1 N
            simp (disch := omega) only [z33, z37, z38, z42, z43, z45, z47, z48, z57, z59, z61, z62, z63, z98, z107, z110, z112, z114, z120, z122, z124, z0, z1, z2, z3, z4, z5, z6, z7, z8, z9, z10, z11, z12, z13, z14, z15, z16, z17, z18, z19, z20, z24, z26, z30, z31, z40, z41, z50, z54, z60, z70, z80, z81, z99, z100, z200, z255, z599, z1000, z1299, z4096, z1000000, lw0, lw1, lw2, lw3, lw4, lw5, lw6, lw7, lw12, lw50, lw99, lw255, lw599, lw4096, bI_ok, ble_t, Int.cast_ofNat_Int,  decide_true, decide_false, bI_0, bI_1, b_tf, b_ft, eq_self, n_1, n_2, n_3, n_4, n_5, n_6, n_7, n_8, if_true, if_false, jin, ncl, cond_true, cond_false, Option.bind_some, j_ov, j_oi, j_ol, nle, nlt, neq, nI_add, nmul, nsub, ndiv, nrem2, if_pos, if_neg, Nat.zero_add, Nat.add_zero, j_w_ap, decide_eq_true, decide_eq_false, Bool.true_or, Bool.or_true, Bool.false_or, Bool.or_false, Bool.and_true, Bool.true_and, Bool.false_and, Bool.and_false, Bool.not_true, Bool.not_false, h3, h26, h27] at e3
            refine ⟨M1, _, (q3 _ _ y).trans e3, q1, q2, fun _ => ?_⟩
            cases o with
            | some g => rfl
            | none =>
              unfold orO
              dsimp only
              rw [lvs, lvs]
              cases lval e l <;> rfl
end LR
