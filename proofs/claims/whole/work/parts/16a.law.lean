/-! ===== the law's entry (the first rows: the kit's skeleton) ===== -/
def R_law : String := "LeastPaysLaw"
def lw_P (b : Addr) (xs : List Int32) (args : Array Value) (s : State) : Prop := args = #[.ref b] ∧ s.IntsAt b xs ∧ xs.length ≤ 3072 ∧ (Jvm.Cond.and given_1 narrow_1).before args s = true
def lw_Q (_ : Array Value) (s : State) (o : Outcome) (t : State) : Prop := o = .returned (some (.int 1)) ∧ Framed s o t [] 600000 7302250
def lw_Z (below : List Frame) (a : Array Value) (s : State) : State → Prop := fun t => ∃ o, t.status = .running ∧ Ended t below o ∧ lw_Q a s o t
/-- the law's own end, with 1 on the stack, nothing written that was there before, its room as the claim has it -/
theorem lw_ret {p : Program} {l : Launch} {e : Env} {s : State} {m : MethodId} {below : List Frame} {meth : Method} {c : Code} {b : Nat} (hx : p.tables.exec = Jvm.exec) (hb : c.code = code) (hr : meth.sig.returnType = ret) (hlocks : meth.locks = false) {pc : Nat} {H : Heap} {ls : Array Slot} (hdg : decode code pc = .ok (.ireturn, 1)) : W p l e room_1 s m #[Value.ref b] below meth c H [] 600000 7302250 (lw_Z below #[Value.ref b] s) (F0 m pc ls [.int 1]) := by
  intro T hT X
  obtain ⟨fs, hret, hrun, hended, hW, hframe⟩ := X.leave (v := some (.int 1)) (hlocks := hlocks) (fun h => by rw [hr] at h; cases h)
  have hmeth' : T.vm.method? m = some meth := X.method'
  refine ⟨T.setFrames fs, ?_, .returned (some (.int 1)), hrun, hended, rfl, ⟨_, rfl⟩, hW, hframe⟩
  jvm_step X.here [X.here.top, hx, hb, hdg, hmeth', hr, ret, narrow_b1]
  (try refine ⟨rfl, ?_⟩); (try refine ⟨rfl, ?_⟩)
  first | (intro acts; rw [hret _ acts rfl rfl rfl]) | rw [hret _ _ rfl rfl rfl]
  exact Steps.refl _
/-- what holds at the law's entry: the machine, the code, the tables' words (any of lw_tbl by 'hts w (by decide +kernel)'), the script of L ints xs at the cell b, what the Statement gives of the start (any of its parts by flat_of_before) -/
def lw_At (p : Program) (s : State) (m : MethodId) (meth : Method) (c : Code) (b L : Nat) (xs : Nat → Int32) : Prop :=
  p.tables.exec = Jvm.exec ∧ c.code = code ∧ meth.sig.returnType = ret ∧ c.maxLocals = 4 ∧ s.vm.findClass R_law = some m.cls ∧ (∀ w ∈ lw_tbl, w.before #[Value.ref b] s = true) ∧ va_X b L xs s s.heap ∧ b < s.heap.size ∧ meth.locks = false ∧ (Jvm.Cond.and given_1 narrow_1).before #[Value.ref b] s = true
/-! ===== what holds there, in the words of my worlds (own text) ===== -/
theorem i_len : S0.length = 70 := by decide +kernel
theorem i_szS : j_sz S0 = 2300 := by decide +kernel
theorem i_m0 : Cond.laysStatic RX0 "ABOVE" "[I" ∈ lw_tbl := j_hn_mem (p := 1047) (by decide +kernel)
theorem i_m1 : Cond.laysStatic RX0 "OWN" "[I" ∈ lw_tbl := j_hn_mem (p := 1045) (by decide +kernel)
theorem i_m2 : Cond.initialized RX0 ∈ lw_tbl := j_hn_mem (p := 94) (by decide +kernel)
theorem i_m3 : Cond.arrayOver (.object RX9) ∈ lw_tbl := j_hn_mem (p := 439) (by decide +kernel)
theorem i_m4 : Cond.arrayClass .int ∈ lw_tbl := j_hn_mem (p := 187) (by decide +kernel)
theorem i_m5 : Cond.arrayClass .long ∈ lw_tbl := j_hn_mem (p := 466) (by decide +kernel)
theorem i_a0 : Cond.arrayOf (.static RX0 "ABOVE" "[I") .int ∈ flatC (Jvm.Cond.and given_1 narrow_1) := by decide +kernel
theorem i_a1 : Cond.eq (.length (.static RX0 "ABOVE" "[I")) (.int (Int32.ofNat 8)) ∈ flatC (Jvm.Cond.and given_1 narrow_1) := by decide +kernel
theorem i_a2 : ∀ j, j < 8 → Cond.eq (.elem (.static RX0 "ABOVE" "[I") (.int (Int32.ofNat j))) (.int (j_tg j_T0 j)) ∈ flatC (Jvm.Cond.and given_1 narrow_1) := by decide +kernel
theorem i_o0 : Cond.arrayOf (.static RX0 "OWN" "[I") .int ∈ flatC (Jvm.Cond.and given_1 narrow_1) := by decide +kernel
theorem i_o1 : Cond.eq (.length (.static RX0 "OWN" "[I")) (.int (Int32.ofNat 32)) ∈ flatC (Jvm.Cond.and given_1 narrow_1) := by decide +kernel
theorem i_o2 : ∀ j, j < 32 → Cond.eq (.elem (.static RX0 "OWN" "[I") (.int (Int32.ofNat j))) (.int (j_tg j_T1 j)) ∈ flatC (Jvm.Cond.and given_1 narrow_1) := by decide +kernel
set_option maxHeartbeats 4000000 in
theorem i_X {s : State} {b : Nat} (hts : ∀ w ∈ lw_tbl, w.before #[Value.ref b] s = true) (hgv : (Jvm.Cond.and given_1 narrow_1).before #[Value.ref b] s = true) : ∃ (tA tO : Nat) (dC : Nat → ClassId) (dI : Nat → Nat → Nat) (cI cJ cR : ClassId), j_X s.heap.size tA tO dC dI cI cJ cR s := by
  have hs := flat_of_before _ hgv
  have hA : ∀ a : Nat, a < s.heap.size → ¬ j_A s.heap.size a := fun a h => Nat.not_le.mpr h
  have hw2 : ∀ w ∈ j_big, w.before #[Value.ref b] s = true := fun w h => hts w (List.mem_filter.mp h).1
  obtain ⟨tA, eA, hTA⟩ := va_Tof (args := #[Value.ref b]) (s := s) (tm := .static RX0 "ABOVE" "[I") (ty := .int) (N := 8) (f := fun k => .int (j_tg j_T0 k)) (A := j_A s.heap.size) (by decide) (hs _ i_a0) (va_eqt (hs _ i_a1)) (fun j hj => va_eqt (hs _ (i_a2 j hj))) hA
  obtain ⟨tO, eO, hTO⟩ := va_Tof (args := #[Value.ref b]) (s := s) (tm := .static RX0 "OWN" "[I") (ty := .int) (N := 32) (f := fun k => .int (j_tg j_T1 k)) (A := j_A s.heap.size) (by decide) (hs _ i_o0) (va_eqt (hs _ i_o1)) (fun j hj => va_eqt (hs _ (i_o2 j hj))) hA
  have hZA := va_Zref (A := j_A s.heap.size) (hts _ i_m0) (hts _ i_m2) eA hA
  have hZO := va_Zref (A := j_A s.heap.size) (hts _ i_m1) (hts _ i_m2) eO hA
  have kn : ∀ a, a < 12 → ∃ (cC : ClassId) (iS : Nat → Nat), u_Kn s (j_cn a) (j_T a) (j_Nf a) cC iS := by
    intro a ha
    have hin := j_inst a ha
    rw [Bool.and_eq_true] at hin
    exact u_known (n := j_Nf a) hw2 (j_lay_mem ha) (hw2 _ (j_hw_mem hin.1))
  obtain ⟨c0, i0, -⟩ := kn 0 (by decide)
  have kn2 : ∀ a, ∃ (cC : ClassId) (iS : Nat → Nat), a < 12 → u_Kn s (j_cn a) (j_T a) (j_Nf a) cC iS := by
    intro a
    by_cases h : a < 12
    · obtain ⟨cC, iS, h1⟩ := kn a h
      exact ⟨cC, iS, fun _ => h1⟩
    · exact ⟨c0, i0, fun z => absurd z h⟩
  obtain ⟨dC, h2⟩ := Classical.skolem.mp kn2
  obtain ⟨dI, h3⟩ := Classical.skolem.mp h2
  obtain ⟨cI, kI, compI, fI1, fI2, fI3⟩ := Cond.arrayClass_spec (hts _ i_m4)
  obtain ⟨cJ, kJ, compJ, fJ1, fJ2, fJ3⟩ := Cond.arrayClass_spec (hts _ i_m5)
  obtain ⟨compR, cR, kR, fR1, -, fR3, fR4, fR5⟩ := Cond.arrayOver_spec (hts _ i_m3)
  refine ⟨tA, tO, dC, dI, cI, cJ, cR, ⟨fun k q hq => ?_, fun k q hq => ?_⟩, fun w hw => ?_, va_AO.of (hts _ i_m3), hZA, hZO, hTA, hTO⟩
  · have hk : k < 12 := (List.getElem?_eq_some_iff.mp hq).1
    rw [j_cl k hk] at hq
    cases hq
    exact h3 k hk
  · match k, hq with
    | 0, hq => cases hq; exact ⟨fun N z => ⟨fun k h => (by cases h), kI, fI2, compI, fI3⟩, fI1⟩
    | 1, hq => cases hq; exact ⟨fun N z => ⟨fun k h => (by cases h), kJ, fJ2, compJ, fJ3⟩, fJ1⟩
    | 2, hq => cases hq; exact ⟨fun N z => ⟨fun k h => (by cases h), kR, fR3, compR, fR4⟩, kR, compR, fR3, fR4, fR1, fR5⟩
    | k + 3, hq => simp at hq
  · have hm := (List.mem_filter.mp hw).2
    have hb := hts w (List.mem_filter.mp hw).1
    cases w <;> first | (cases hm; done) | exact va_Nw.of rfl hb
/-- a call that makes nothing, as a run -/
theorem i_C {a : Nat} {as : List Value} {M M1 : j_M} {N N1 : j_N} {v : Option Value} (h : C 101 a as S0 M N = some (v, M1, N1)) : ∃ n, a < j_cnt ∧ (j_ent as).length ≤ (j_info a).2.2.1 ∧ j_run n 100 (j_meth a) 0 (j_pad (j_info a).2.2.1 (j_ent as)) [] (S0, M, N) = some (v, S0, M1, N1) := by
  unfold C at h
  rw [j_bind_map] at h
  obtain ⟨q, h1, h2⟩ := h
  obtain ⟨n, hn⟩ := j_call_ex h1
  obtain ⟨d', e, ha, hlen, hrun⟩ := j_call_p hn
  have hd : d' = 100 := by omega
  subst hd
  have hma : (j_meth a).2.2 = (j_info a).2.2.1 := by
    have z := j_ok a ha
    unfold j_okm at z
    rw [Bool.and_eq_true, decide_eq_true_eq] at z
    exact z.1
  rw [hma] at hlen hrun
  cases hb : decide (q.2.1 = S0) with
  | false => rw [hb] at h2; cases h2
  | true =>
    rw [hb] at h2
    have e2 : q.2.1 = S0 := of_decide_eq_true hb
    have e3 : (q.1, q.2.2) = (v, M1, N1) := Option.some.inj h2
    refine ⟨n, ha, hlen, ?_⟩
    rw [hrun]
    obtain ⟨qv, qS, qN⟩ := q
    cases e3
    cases e2
    rfl
theorem i_cs {p : Program} {l : Launch} {e : Env} {R : Room} {s : State} {m : MethodId} {args : Array Value} {below : List Frame} {meth : Method} {c : Code} {H : Heap} {locs : List Loc} {cells slots cells' slots' : Nat} {Q : State → Prop} {g : JFrame} (h1 : cells' = cells) (h2 : slots' = slots) (z : W p l e R s m args below meth c H locs cells slots Q g) : W p l e R s m args below meth c H locs cells' slots' Q g := by
  subst h1
  subst h2
  exact z
section IC
variable {p : Program} {l : Launch} {e : Env} {s : State} {m : MethodId} {below : List Frame} {meth : Method} {c : Code} {b L : Nat} {xs : Nat → Int32} {tA tO : Nat} {dC : Nat → ClassId} {dI : Nat → Nat → Nat} {cI cJ cR : ClassId} {Q : State → Prop} {k a x pc : Nat} {rest : List Value} {H : Heap} {locs : List Loc} {ls : Array Slot}
set_option maxHeartbeats 4000000 in
/-- a call of the law's, of the class or of the reference -/
theorem i_callV {as : List Value} {v : Option Value} {M M1 : j_M} {N N1 : j_N}
    (C0 : lw_At p s m meth c b L xs) (X : j_X s.heap.size tA tO dC dI cI cJ cR s) (hd : decode code pc = .ok (.invokevirtual k, 3)) (hw : Cond.methodLink R_law k (j_info a).1 ∈ lw_tbl) (hkd : Nat.beq (j_info a).2.2.2.2.2.2 1 = true) (hnp : (j_info a).2.2.2.2.2.1 = as.length) (hcl : (j_info a).2.2.2.2.1 < 12) (hc : (j_at S0 x).1 = (j_info a).2.2.2.2.1 + 3) (hx : x < 1000) (hcat : (rest.map fun v => v.category).sum ≤ 8) (has : as.map (j_tr s.heap.size tA tO) = as)
    (hC : C 101 a (.ref x :: as) S0 M N = some (v, M1, N1)) (hP : va_P (dC, dI) vwCl (j_ws s.heap.size tA tO cI cJ cR (S0, M, N)) H) (hS : va_S (j_A s.heap.size) s.heap H locs) (hl : ls.size = 4)
    (kk : ∀ (H1 : Heap) (locs1 : List Loc), va_P (dC, dI) vwCl (j_ws s.heap.size tA tO cI cJ cR (S0, M1, N1)) H1 → va_S (j_A s.heap.size) s.heap H1 locs1 → W p l e room_1 s m #[Value.ref b] below meth c H1 locs1 S0.length (j_sz S0) Q (F0 m (pc + 3) ls (v.toList ++ rest))) :
    W p l e room_1 s m #[Value.ref b] below meth c H locs S0.length (j_sz S0) Q (F0 m pc ls (as.reverse ++ .ref (s.heap.size + x) :: rest)) := by
  obtain ⟨hx0, hb, hr, hml, hown, hts, hXX, hbl, hlocks, hgv⟩ := C0
  obtain ⟨n, ha, hlen, hrun⟩ := i_C hC
  have hw2 : ∀ w ∈ j_big, w.before #[Value.ref b] s = true := fun w h => hts w (List.mem_filter.mp h).1
  obtain ⟨f1, f2, f3, f4, f5, f6, f7⟩ := j_mok_facts ha
  obtain ⟨hg, hlt, -⟩ := j_has (B := s.heap.size) (tA := tA) (tO := tO) (cI := cI) (cJ := cJ) (cR := cR) (me := (S0, M, N)) hc (by omega)
  rw [j_cell_obj (x := j_at S0 x) hc] at hg
  have hvm := j_vir_mem ha hkd
  refine j_bound fun hbd => ?_
  have hsz := j_size (me := (S0, M, N)) (n0 := 0) hP hS (by omega) (by show S0.length = 0 + S0.length; omega) hbd
  have G := j_sound_run (l := l) (B := s.heap.size) (tA := tA) (tO := tO) (dC := dC) (dI := dI) (cI := cI) (cJ := cJ) (cR := cR) n 100 a ha 0 _ [] (S0, M, N) (v, S0, M1, N1) (by show S0.length ≤ 1000; rw [i_len]; omega) hrun
  have hM := j_Met_of (l := l) ha hlen G
  have hac : j_ad s.heap.size tA tO x = s.heap.size + x := j_ad_lt hx
  rw [← hac]
  refine j_after (q := (v, S0, M1, N1)) (rest := rest) (va_runV (C := j_cn (j_info a).2.2.2.2.1) (As := as.map (j_tr s.heap.size tA tO)) (b := j_ad s.heap.size tA tO x) (n := (j_info a).2.2.2.2.2.1) (own := R_law) (Ts := j_big) (nL := 4) (cc := code) ⟨hx0, hb, hml, hown, hw2⟩ hM
    ⟨callB_of (j_info a).2.2.2.2.2.1 hw2 (j_goodIn ha) rfl rfl rfl (hw2 _ (j_ini_mem ha)) (hts _ hw) ⟨f3, f4, f5⟩ ⟨by show 100 + 1 + 1 ≤ 2048; omega, by show 8 + ((j_info a).2.2.1 + 11) + 60 * (100 + 1) ≤ 84000; omega⟩, hw2 _ hvm.1, by rw [← f6]; exact hw2 _ hvm.2⟩
    ⟨j_blind, by rw [hac]; exact va_recv X.1 hP (j_cl _ hcl) hg, fun U hU hW => ⟨rfl, by rw [hU]; exact hsz, by rw [hU]; exact hP, X.warm hW (by rw [hU]; exact hS.2.1)⟩⟩ rfl (by rw [List.length_map]; exact hnp.symm) hl (by rw [has]) (lv_room hcat) hd ⟨by show S0.length + (S0.length - S0.length) ≤ 600000; rw [i_len]; omega, by show j_sz S0 + (j_sz S0 - j_sz S0) ≤ 7302250; rw [i_szS]; omega⟩) hS (fun H1 locs1 q1 q2 => ?_)
  exact i_cs (by show S0.length + (S0.length - S0.length) = S0.length; omega) (by show j_sz S0 + (j_sz S0 - j_sz S0) = j_sz S0; omega) (kk H1 locs1 q1 q2)
set_option maxHeartbeats 4000000 in
/-- a constructor, called by the law -/
theorem i_callI {me : j_Me} {r : j_R} {n : Nat}
    (C0 : lw_At p s m meth c b L xs) (X : j_X s.heap.size tA tO dC dI cI cJ cR s) (hd : decode code pc = .ok (.invokespecial k, 3)) (hw : Cond.methodLink R_law k (j_info a).1 ∈ lw_tbl) (ha : a < j_cnt) (hkd : Nat.beq (j_info a).2.2.2.2.2.2 2 = true) (hnp : (j_info a).2.2.2.2.2.1 = 0) (hx : x < 1000) (hcat : (rest.map fun v => v.category).sum ≤ 8)
    (hlen : (j_ent [.ref x]).length ≤ (j_info a).2.2.1) (hrun : j_run n 10 (j_meth a) 0 (j_pad (j_info a).2.2.1 (j_ent [.ref x])) [] me = some r) (hr1 : r.1 = none) (h1000 : r.2.1.length ≤ 1000) (hz : j_sz r.2.1 ≤ 7000000)
    (hP : va_P (dC, dI) vwCl (j_ws s.heap.size tA tO cI cJ cR me) H) (hS : va_S (j_A s.heap.size) s.heap H locs) (hl : ls.size = 4)
    (kk : ∀ (H1 : Heap) (locs1 : List Loc), va_P (dC, dI) vwCl (j_ws s.heap.size tA tO cI cJ cR r.2) H1 → va_S (j_A s.heap.size) s.heap H1 locs1 → W p l e room_1 s m #[Value.ref b] below meth c H1 locs1 r.2.1.length (j_sz r.2.1) Q (F0 m (pc + 3) ls rest)) :
    W p l e room_1 s m #[Value.ref b] below meth c H locs me.1.length (j_sz me.1) Q (F0 m pc ls (.ref (s.heap.size + x) :: rest)) := by
  obtain ⟨hx0, hb, hr, hml, hown, hts, hXX, hbl, hlocks, hgv⟩ := C0
  have hw2 : ∀ w ∈ j_big, w.before #[Value.ref b] s = true := fun w h => hts w (List.mem_filter.mp h).1
  obtain ⟨f1, f2, f3, f4, f5, f6, f7⟩ := j_mok_facts ha
  have hst := j_con_mem ha hkd
  refine j_bound fun hbd => ?_
  have hsz := j_size (me := me) (n0 := 0) hP hS (by omega) (by omega) hbd
  have G := j_sound_run (l := l) (B := s.heap.size) (tA := tA) (tO := tO) (dC := dC) (dI := dI) (cI := cI) (cJ := cJ) (cR := cR) n 10 a ha 0 _ [] me r h1000 hrun
  have g1 := G.1
  have hle1 : me.1.length ≤ r.2.1.length := g1.1
  have hle2 : j_sz me.1 ≤ j_sz r.2.1 := g1.2
  have hM := j_Met_of (l := l) ha hlen G
  have hac : j_ad s.heap.size tA tO x = s.heap.size + x := j_ad_lt hx
  have hcode : j_wds a = Cond.code (j_info a).1 (j_info a).2.1 (j_info a).2.2.1 none :: j_big := by unfold j_wds; rw [(f7 hkd).2]
  have hpre : PreS s H (j_Pc s.heap.size tA tO dC dI cI cJ cR [.ref x] me) [.ref (j_ad s.heap.size tA tO x)] := ⟨j_blind, fun U hU hW => ⟨rfl, by rw [hU]; exact hsz, by rw [hU]; exact hP, X.warm hW (by rw [hU]; exact hS.2.1)⟩⟩
  rw [← hac]
  refine j_after (q := r) (rest := rest) (va_runI (As := []) (n := (j_info a).2.2.2.2.2.1) (maxL := (j_info a).2.2.1) (bytes := (j_info a).2.1) (own := R_law) (Ts := j_big) (nL := 4) (cc := code) ⟨hx0, hb, hml, hown, hw2⟩ hM ⟨callB_of (j_info a).2.2.2.2.2.1 hw2 (j_goodIn ha) hcode rfl rfl (hw2 _ (j_ini_mem ha)) (hts _ hw) ⟨f3, f4, f5⟩ ⟨by show 10 + 1 + 1 ≤ 2048; omega, by show 8 + ((j_info a).2.2.1 + 11) + 60 * (10 + 1) ≤ 84000; omega⟩, (f7 hkd).1, hw2 _ hst⟩ hpre rfl hnp.symm hl rfl (lv_room hcat) hd ⟨by show me.1.length + (r.2.1.length - me.1.length) ≤ 600000; omega, by show j_sz me.1 + (j_sz r.2.1 - j_sz me.1) ≤ 7302250; omega⟩) hS (fun H1 locs1 q1 q2 => ?_)
  have z := kk H1 locs1 q1 q2
  rw [hr1]
  exact i_cs (by omega) (by omega) z
set_option maxHeartbeats 4000000 in
/-- a new object, made by the law -/
theorem i_new {me me' : j_Me} (hme : (me.1 ++ [(a + 3, j_Nf a, List.replicate (j_Nf a) none)], j_row me.2.1 me.1.length (fun _ => 0), me.2.2) = me') (hx : me.1.length = x)
    (C0 : lw_At p s m meth c b L xs) (X : j_X s.heap.size tA tO dC dI cI cJ cR s) (hd : decode code pc = .ok (.new k, 3)) (hw : Cond.classLink R_law k (j_cn a) ∈ lw_tbl) (ha : a < 12) (h1000 : x + 1 ≤ 1000) (hz : j_sz me.1 + j_Nf a ≤ 7000000)
    (hP : va_P (dC, dI) vwCl (j_ws s.heap.size tA tO cI cJ cR me) H) (hS : va_S (j_A s.heap.size) s.heap H locs)
    (kk : ∀ (H1 : Heap), va_P (dC, dI) vwCl (j_ws s.heap.size tA tO cI cJ cR me') H1 → va_S (j_A s.heap.size) s.heap H1 locs → W p l e room_1 s m #[Value.ref b] below meth c H1 locs me'.1.length (j_sz me'.1) Q (F0 m (pc + 3) ls (.ref (s.heap.size + x) :: rest))) :
    W p l e room_1 s m #[Value.ref b] below meth c H locs me.1.length (j_sz me.1) Q (F0 m pc ls rest) := by
  subst hx
  subst hme
  obtain ⟨hx0, hb, hr, hml, hown, hts, hXX, hbl, hlocks, hgv⟩ := C0
  have hw2 : ∀ w ∈ j_big, w.before #[Value.ref b] s = true := fun w h => hts w (List.mem_filter.mp h).1
  have hin := j_inst a ha
  rw [Bool.and_eq_true] at hin
  refine va_new (fs := (List.range (j_Nf a)).map (fun k => j_fv (j_ad s.heap.size tA tO) (fun _ => 0) (List.replicate (j_Nf a) none) (j_ty a k) k)) hx0 hb hw2 (j_lay_mem ha) (j_ty a) (j_tyok a ha) hown (hts _ hw) (hw2 _ (j_hw_mem hin.1)) (hw2 _ (j_hw_mem hin.2)) X.1 hP j_D hS (fun q hq => hq) (j_cl a ha) (fun j hj => ?_) (by show me.1.length + 1 ≤ 600000; omega) (by show j_sz me.1 + j_Nf a ≤ 7302250; omega) hd (fun q H1 q1 q2 q3 => ?_)
  · unfold vp_V
    rw [List.getD_eq_getElem?_getD, j_fld hj]
    simp only [Option.getD_some, j_fv, j_nth_rep, Option.map_none, va_rf]
    rcases j_tys3 a ha j hj with h | h | h
    · rw [h]; rfl
    · rw [h]; rfl
    · rw [h]
      cases ht : j_ty a j <;> rw [ht] at h <;> first | rfl | (cases h; done)
  · refine j_bound fun hbd => ?_
    have e := j_fresh q1 q2 (by omega)
    subst e
    have e1 := j_ws_push (B := s.heap.size) (tA := tA) (tO := tO) (cI := cI) (cJ := cJ) (cR := cR) (S := me.1) (M := me.2.1) (M' := j_row me.2.1 me.1.length (fun _ => 0)) (N := me.2.2) (N' := me.2.2) (a + 3, j_Nf a, List.replicate (j_Nf a) none) (fun q hq => j_row_off q (by omega)) (fun _ _ => rfl)
    rw [j_cell_obj (ci := a) (x := (a + 3, j_Nf a, List.replicate (j_Nf a) none)) rfl, j_row_at] at e1
    rw [show j_ws s.heap.size tA tO cI cJ cR me = j_ws s.heap.size tA tO cI cJ cR (me.1, me.2.1, me.2.2) from rfl, ← e1] at q1
    exact i_cs (by show me.1.length + 1 = (me.1 ++ [_]).length; rw [List.length_append]; rfl) (by show j_sz me.1 + j_Nf a = j_sz (me.1 ++ [_]); rw [j_sz_append]; rfl) (kk H1 q1 q3)
end IC
