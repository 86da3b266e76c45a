/-! ===== guests: the call (own text) ===== -/
section OAA
variable {x y z : Int32}
theorem cI_o {c k : Nat} (h1 : c ≠ 1) (h2 : c ≠ 2) (h3 : c ≠ 3) (h6 : c ≠ 6) : ∀ (L : List (Nat × Nat)) (n : Nat) (M : j_M), cI L n M c k = M c k
  | [], _, _ => rfl
  | p :: L, n, M => by
    refine (cI_o h1 h2 h3 h6 L (n + 1) (cU n p.1 p.2 M)).trans ?_
    unfold cU
    rw [j_w_ap, if_neg h1, j_w_ap, if_neg h6, j_w_ap, if_neg h3, j_w_ap, if_neg h2]
theorem P_guests : OpI 109 162 [.int x, .int y, .int z] := by
  intro d M N hd hI
  have hI0 := hI
  obtain ⟨n, a, m, pr, jo, nb, h1, h2, h3, h4, h5, h6, h7, h8⟩ := hI
  have b50 := h7.1
  have e1 := bX10_guests_0 (d - 1) x y z M N
  have e2 := fun M1 => bX11_guests_0 (d - 1) x y z M1 N
  rw [X_isShelf (by omega), Option.bind_some, j_oi] at e1
  dsimp only at e1
  have s2 : ∀ M1 : j_M, C (d - 1) 235 [.int x] S0 M1 N = some (some (.int (bI (ib x 0 5))), M1, N) := fun M1 => M_isShelf (by omega)
  cases hx : ib x 0 5 with
  | false =>
    rw [hx, if_pos (by decide)] at e1
    have e2 := e2 M
    rw [s2, hx, Option.bind_some, j_oi] at e2
    dsimp only at e2
    rw [if_pos (by decide)] at e2
    exact ⟨_, _, _, _, _, eX10_guests (by omega) e1, eX11_guests (by omega) e2, hI0⟩
  | true =>
    obtain ⟨s, -, hs, rfl⟩ := ib_ex (lo := 0) (hi := 5) hx (by omega)
    have hs6 : s < 6 := by omega
    rw [hx, if_neg (by decide), show (1 : Int32) = nI 1 from rfl, show (6 : Int32) = nI 6 from rfl, X_within (by omega) (by omega) (by omega), Option.bind_some, j_oi] at e1
    dsimp only at e1
    have s3 : ∀ M1 : j_M, C (d - 1) 155 [.long z.toInt64, .long 1, .long 6] S0 M1 N = some (some (.int (bI (ib z ((1 : Nat) : Int) ((6 : Nat) : Int)))), M1, N) := fun M1 => M_within (lo := 1) (hi := 6) (by omega) (by omega) (by omega)
    have e2' : ∀ M1 : j_M, _ := fun M1 => by
      have e := e2 M1
      rw [s2, hx, Option.bind_some, j_oi] at e
      dsimp only at e
      rw [if_neg (by decide), s3, Option.bind_some, j_oi] at e
      dsimp only at e
      exact e
    cases hz : ib z ((1 : Nat) : Int) ((6 : Nat) : Int) with
    | false =>
      rw [hz, if_pos (by decide)] at e1
      have e2 := e2' M
      rw [hz, if_pos (by decide)] at e2
      exact ⟨_, _, _, _, _, eX10_guests (by omega) e1, eX11_guests (by omega) e2, hI0⟩
    | true =>
      obtain ⟨c, hc1, hc, rfl⟩ := ib_ex (lo := 1) (hi := 6) hz (by omega)
      obtain ⟨t, t3, g1, k1⟩ := sh_tag (h8 s hs6)
      obtain ⟨⟨l, l1, l2, l3⟩, hN, -, hv⟩ := h8 s hs6
      have n1 := X_nothing (d := d - 1) (N := N) (by omega) hs6 t3 g1
      have a1 : (nI s).toNatClampNeg = s := by simp (disch := omega) only [z0, z1, z2, z3, z4, z5, z6, z7, z8, z9, z10, z11, z12, z13, z14, z15, z16, z17, z18, z19, z20, z24, z26, z30, z31, z40, z41, z50, z54, z60, z70, z80, z81, z99, z100, z200, z255, z599, z1000, z1299, z4096, z1000000, lw0, lw1, lw2, lw3, lw4, lw5, lw6, lw7, lw12, lw50, lw99, lw255, lw599, lw4096, bI_ok, ble_t, Int.cast_ofNat_Int,  decide_true, decide_false, bI_0, bI_1, b_tf, b_ft, eq_self, n_1, n_2, n_3, n_4, n_5, n_6, n_7, n_8, if_true, if_false, jin, ncl, cond_true, cond_false, Option.bind_some, j_ov, j_oi, j_ol, nle, nlt, neq, nI_add, nmul, nsub, ndiv, nrem2, if_pos, if_neg, Nat.zero_add, Nat.add_zero, j_w_ap, decide_eq_true, decide_eq_false, Bool.true_or, Bool.or_true, Bool.false_or, Bool.or_false, Bool.and_true, Bool.true_and, Bool.false_and, Bool.and_false, Bool.not_true, Bool.not_false]
      have a3 : j_in (nI s) 6 = true := by simp (disch := omega) only [z0, z1, z2, z3, z4, z5, z6, z7, z8, z9, z10, z11, z12, z13, z14, z15, z16, z17, z18, z19, z20, z24, z26, z30, z31, z40, z41, z50, z54, z60, z70, z80, z81, z99, z100, z200, z255, z599, z1000, z1299, z4096, z1000000, lw0, lw1, lw2, lw3, lw4, lw5, lw6, lw7, lw12, lw50, lw99, lw255, lw599, lw4096, bI_ok, ble_t, Int.cast_ofNat_Int,  decide_true, decide_false, bI_0, bI_1, b_tf, b_ft, eq_self, n_1, n_2, n_3, n_4, n_5, n_6, n_7, n_8, if_true, if_false, jin, ncl, cond_true, cond_false, Option.bind_some, j_ov, j_oi, j_ol, nle, nlt, neq, nI_add, nmul, nsub, ndiv, nrem2, if_pos, if_neg, Nat.zero_add, Nat.add_zero, j_w_ap, decide_eq_true, decide_eq_false, Bool.true_or, Bool.or_true, Bool.false_or, Bool.or_false, Bool.and_true, Bool.true_and, Bool.false_and, Bool.and_false, Bool.not_true, Bool.not_false]
      rw [hz, if_neg (by decide)] at e1
      simp only [a1, a3, show Nat.ble 0 8 = true from rfl, shc hs6, iss, gtd, b12 hs6, Bool.and_true, cond_true, Bool.true_and] at e1
      rw [n1, Option.bind_some, j_oi] at e1
      dsimp only at e1
      have e2 : ∀ M1 : j_M, _ := fun M1 => by
        have e := e2' M1
        rw [hz, if_neg (by decide)] at e
        simp only [a1, a3, cond_true] at e
        exact e
      rcases k1 with ⟨rfl, q1⟩ | ⟨rfl, b, hb, q1⟩ | ⟨rfl, w, hw, o1, q1⟩
      · rw [if_neg (by decide)] at e1
        have e2 := e2 M
        rw [q1, if_pos (by decide), if_neg (by decide)] at e2
        exact ⟨_, _, _, _, _, eX10_guests (by omega) e1, eX11_guests (by omega) (e2.trans M_stop), hI0⟩
      · obtain ⟨v, p1, p2⟩ := X_isRowOf (d := d - 1) (M := M) (N := N) (s := s) (t := 1) (t2 := 0) (by omega) hs6 (by omega) g1 (fun z => by omega) (by omega)
        have hbf : v = false := by
          cases v with
          | false => rfl
          | true => exact absurd (p2.1 rfl).1 (by omega)
        have p1' : C (d - 1) 99 [.ref (34 + 2 * s), .int 0] S0 M N = _ := p1
        rw [if_pos (by decide), p1', hbf, Option.bind_some, j_oi] at e1
        dsimp only at e1
        rw [if_pos (by decide)] at e1
        have e2 := e2 M
        rw [q1, if_neg (show ¬ nI b < 0 by rw [show (0 : Int32) = nI 0 from rfl, nlt (by omega) (by omega)]; omega), if_neg (show ¬ nI b = 50 by rw [show (50 : Int32) = nI 50 from rfl, neq (by omega) (by omega)]; omega)] at e2
        exact ⟨_, _, _, _, _, eX10_guests (by omega) e1, eX11_guests (by omega) e2, hI0⟩
      · obtain ⟨v, p1, p2⟩ := X_isRowOf (d := d - 1) (M := M) (N := N) (s := s) (t := 2) (t2 := 0) (by omega) hs6 (by omega) g1 (fun z => ⟨w, hw, o1⟩) (by omega)
        have p1' : C (d - 1) 99 [.ref (34 + 2 * s), .int 0] S0 M N = _ := p1
        rw [if_pos (by decide), p1', Option.bind_some, j_oi] at e1
        dsimp only at e1
        by_cases hw0 : w = 0
        · have hbt : v = true := p2.2 ⟨rfl, by rw [o1, hw0]⟩
          rw [hbt, if_neg (by decide)] at e1
          by_cases hy : y < 0
          · have cf : C (d - 1) 149 [.ref 0, .ref (34 + 2 * s), .long (y.toInt64 + 2 * (0 : Int32).toInt64)] S0 M N = some (some (.int (nI 0)), M, N) := by
              refine eX10_comesFrom (by omega) ?_
              have e := bX10_comesFrom_0 (d - 1 - 1) (34 + 2 * s) (y.toInt64 + 2 * (0 : Int32).toInt64) M N
              simp only [lg_cmp_lt] at e
              by_cases c6 : 6 ≤ M 1 6
              · rw [if_pos c6] at e
                exact e
              · rw [if_neg c6, show (2 : Int64) * (0 : Int32).toInt64 = 0 by decide, Int64.add_zero, if_pos (by
                  rw [Int64.lt_iff_toInt_lt, Int32.toInt_toInt64]
                  rw [Int32.lt_iff_toInt_lt] at hy
                  exact hy)] at e
                rw [show (2 : Int64) * (0 : Int32).toInt64 = 0 by decide, Int64.add_zero]
                exact e
            have f := bX10_guests_52 (d - 1) y (nI c) (34 + 2 * s) 0 M N
            rw [if_neg (show ¬ nI c ≤ 0 by rw [show (0 : Int32) = nI 0 from rfl, nle (by omega) (by omega)]; omega), cf, Option.bind_some, j_oi] at f
            dsimp only at f
            rw [if_pos (by decide)] at f
            have e2 := e2 M
            rw [q1, hw0, if_neg (by decide), if_pos (by decide), if_pos (by decide), if_pos hy] at e2
            exact ⟨_, _, _, _, _, eX10_guests (by omega) (e1.trans f), eX11_guests (by omega) (e2.trans M_stop), hI0⟩
          · have hyx : ∃ i : Nat, i < 2147483648 ∧ y = nI i := by
              have hlt := y.toInt_lt
              rw [Int32.lt_iff_toInt_lt, show (0 : Int32).toInt = 0 from rfl] at hy
              refine ⟨y.toInt.toNat, by omega, ?_⟩
              rw [← Int32.toInt_inj, nI_toInt (by omega)]
              omega
            obtain ⟨i, hi, rfl⟩ := hyx
            rw [hw0] at q1
            obtain ⟨L, r1, r2, r3, r4⟩ := GL (d := d - 1) (N := N) (s := s) (l := l) (c := c) (x := i) (by omega) hs6 l1 hc hi hN (hv q1) c 0 n (by omega) h1.1
            have o : ∀ e k, 40 ≤ e → cI L n M e k = M e k := fun e k he => cI_o (by omega) (by omega) (by omega) (by omega) L n M
            have e2 := e2 (cI L n M)
            rw [o 66 s (by omega), q1, if_neg (by decide), if_pos (by decide), if_pos (by decide), if_neg hy] at e2
            exact ⟨_, _, _, _, _, eX10_guests (by omega) (e1.trans (r3 M h1.x6 l2)), eX11_guests (by omega) (e2.trans (r4 _ ((o 46 6 (by omega)).trans h1.m6) ((o 67 s (by omega)).trans l3))), (Inn.all L n M ⟨a, m, pr, jo, nb, h1, h2, h3, h4, h5, h6, h7, h8⟩ r1 r2).inv⟩
        · have hbf : v = false := by
            cases v with
            | false => rfl
            | true =>
              have := (p2.1 rfl).2
              rw [o1] at this
              simp (disch := omega) only [z0, z1, z2, z3, z4, z5, z6, z7, z8, z9, z10, z11, z12, z13, z14, z15, z16, z17, z18, z19, z20, z24, z26, z30, z31, z40, z41, z50, z54, z60, z70, z80, z81, z99, z100, z200, z255, z599, z1000, z1299, z4096, z1000000, lw0, lw1, lw2, lw3, lw4, lw5, lw6, lw7, lw12, lw50, lw99, lw255, lw599, lw4096, bI_ok, ble_t, Int.cast_ofNat_Int,  decide_true, decide_false, bI_0, bI_1, b_tf, b_ft, eq_self, n_1, n_2, n_3, n_4, n_5, n_6, n_7, n_8, if_true, if_false, jin, ncl, cond_true, cond_false, Option.bind_some, j_ov, j_oi, j_ol, nle, nlt, neq, nI_add, nmul, nsub, ndiv, nrem2, if_pos, if_neg, Nat.zero_add, Nat.add_zero, j_w_ap, decide_eq_true, decide_eq_false, Bool.true_or, Bool.or_true, Bool.false_or, Bool.or_false, Bool.and_true, Bool.true_and, Bool.false_and, Bool.and_false, Bool.not_true, Bool.not_false] at this
              exact absurd this hw0
          rw [hbf, if_pos (by decide)] at e1
          have e2 := e2 M
          rw [q1, if_neg (show ¬ nI (50 + w) < 0 by rw [show (0 : Int32) = nI 0 from rfl, nlt (by omega) (by omega)]; omega), if_neg (show ¬ nI (50 + w) = 50 by rw [show (50 : Int32) = nI 50 from rfl, neq (by omega) (by omega)]; omega)] at e2
          exact ⟨_, _, _, _, _, eX10_guests (by omega) e1, eX11_guests (by omega) e2, hI0⟩
end OAA
