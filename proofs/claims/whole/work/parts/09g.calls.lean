/-! ===== soundness: calls, and every run (own text) ===== -/
section JC
variable {l : Launch} {B tA tO : Nat} {dC : Nat → ClassId} {dI : Nat → Nat → Nat} {cI cJ cR : ClassId}
theorem j_ent_len (vs : List Value) : (lg_sl (vs.map (j_tr B tA tO))).length = (j_ent vs).length := by
  induction vs with
  | nil => rfl
  | cons v q ih =>
    have e : lg_sl ((v :: q).map (j_tr B tA tO)) = (if (j_tr B tA tO v).category = 2 then [.val (j_tr B tA tO v), .second] else [.val (j_tr B tA tO v)]) ++ lg_sl (q.map (j_tr B tA tO)) := rfl
    rw [e, List.length_append, ih]
    cases v <;> simp [j_ent, j_tr, Value.category] <;> omega
theorem j_ent_args : ∀ (vs : List Value) (o k : Nat) (v : Value), (j_ent vs)[k]? = some v → v ≠ .null → (o + k, j_tr B tA tO v) ∈ lv_args o (vs.map (j_tr B tA tO))
  | [], _, _, _, h, _ => by simp [j_ent] at h
  | w :: q, o, k, v, h, hv => by
    by_cases hw : w.category = 2
    · have e : j_ent (w :: q) = w :: .null :: j_ent q := by cases w <;> first | rfl | (simp [Value.category] at hw; done)
      have e2 : lv_args o ((w :: q).map (j_tr B tA tO)) = (o, j_tr B tA tO w) :: lv_args (o + 2) (q.map (j_tr B tA tO)) := by
        show (o, j_tr B tA tO w) :: lv_args (if (j_tr B tA tO w).category = 2 then o + 2 else o + 1) (q.map (j_tr B tA tO)) = _
        rw [j_tr_cat, if_pos hw]
      rw [e] at h
      rw [e2]
      match k, h with
      | 0, h =>
        have : w = v := Option.some.inj h
        subst this
        exact List.mem_cons_self
      | 1, h => exact absurd (Option.some.inj h).symm hv
      | k + 2, h =>
        refine List.mem_cons_of_mem _ ?_
        have := j_ent_args q (o + 2) k v h hv
        rw [show o + (k + 2) = o + 2 + k by omega]
        exact this
    · have e : j_ent (w :: q) = w :: j_ent q := by cases w <;> first | rfl | (exact absurd rfl hw)
      have e2 : lv_args o ((w :: q).map (j_tr B tA tO)) = (o, j_tr B tA tO w) :: lv_args (o + 1) (q.map (j_tr B tA tO)) := by
        show (o, j_tr B tA tO w) :: lv_args (if (j_tr B tA tO w).category = 2 then o + 2 else o + 1) (q.map (j_tr B tA tO)) = _
        rw [j_tr_cat, if_neg hw]
      rw [e] at h
      rw [e2]
      match k, h with
      | 0, h =>
        have : w = v := Option.some.inj h
        subst this
        exact List.mem_cons_self
      | k + 1, h =>
        refine List.mem_cons_of_mem _ ?_
        have := j_ent_args q (o + 1) k v h hv
        rw [show o + (k + 1) = o + 1 + k by omega]
        exact this
theorem j_pad_get {n : Nat} {X : List Value} {k : Nat} {v : Value} (h : (j_pad n X)[k]? = some v) (hv : v ≠ .null) : X[k]? = some v := by
  unfold j_pad at h
  rcases Nat.lt_or_ge k X.length with q | q
  · rwa [List.getElem?_append_left q] at h
  · rw [List.getElem?_append_right q, List.getElem?_replicate] at h
    split at h
    · exact absurd (Option.some.inj h).symm hv
    · cases h
def j_room (d : Nat) (me : j_Me) (r : j_R) : Room := { frames := d + 1, cells := r.2.1.length - me.1.length, slots := j_sz r.2.1 - j_sz me.1, locals := 60 * (d + 1) }
def j_Pc (B tA tO : Nat) (dC : Nat → ClassId) (dI : Nat → Nat → Nat) (cI cJ cR : ClassId) (as : List Value) (me : j_Me) : Array Value → State → Prop := va_Pc (as.map (j_tr B tA tO)) (fun U => U.heap.size = B + me.1.length ∧ va_P (dC, dI) vwCl (j_ws B tA tO cI cJ cR me) U.heap ∧ j_X B tA tO dC dI cI cJ cR U)
theorem j_blind {as : List Value} {me : j_Me} : FrameBlind (j_Pc B tA tO dC dI cI cJ cR as me) := fun _ _ g mk q => ⟨q.1, q.2.1, q.2.2.1, q.2.2.2.calling g mk _⟩
theorem j_Met_of {i d : Nat} {as : List Value} {me : j_Me} {r : j_R} (hi : i < j_cnt) (hlen : (j_ent as).length ≤ (j_info i).2.2.1) (G : j_G l B tA tO dC dI cI cJ cR i d r 0 (j_pad (j_info i).2.2.1 (j_ent as)) [] me) :
    Met l (j_info i).1 (j_wds i) (j_room d me r) (j_Pc B tA tO dC dI cI cJ cR as me) (j_Q B tA tO dC dI cI cJ cR r) (r.2.1.length - me.1.length) (j_sz r.2.1 - j_sz me.1) (j_A B) := by
  obtain ⟨f1, f2, f3, f4, f5, f6, f7⟩ := j_mok_facts hi
  refine Met.ofW (cc := (j_info i).2.1) (maxL := (j_info i).2.2.1) (ret := (j_info i).2.2.2.1) f1 rfl ?_
  intro p e s m args below meth c s₁ Bd hml hv
  obtain ⟨rfl, hsz, hP, hX⟩ := hv
  have hts := atoms_spec (ws := j_wds i) Bd.pre
  have C : j_Cx p (headSpec (j_wds i) (j_room d me r)).room s m (as.map (j_tr B tA tO)).toArray meth c i d := ⟨Bd.exec, Bd.bytes, hml, Bd.returns, Bd.notSynchronized, findClass_of_methodNamed Bd.named, fun w h => hts w (List.mem_cons_of_mem _ h), fun z => (name_of_methodNamed Bd.named Bd.method).1.trans (f7 z).1, rfl, rfl⟩
  have hl := lv_entry (as.map (j_tr B tA tO)) (n := (j_info i).2.2.1) (by rw [j_ent_len]; exact hlen)
  rw [lg_entry_eq]
  generalize (lg_sl (as.map (j_tr B tA tO)) ++ List.replicate ((j_info i).2.2.1 - (lg_sl (as.map (j_tr B tA tO))).length) Slot.unset).toArray = ls at hl ⊢
  have hl2 : lv_has ls (j_info i).2.2.1 (j_as ((j_pad (j_info i).2.2.1 (j_ent as)).map (j_tr B tA tO))) := by
    refine ⟨hl.1, hl.2.1, fun q hq => ?_⟩
    obtain ⟨h1, h2⟩ := j_as_mem.mp hq
    rw [List.getElem?_map] at h1
    cases hx : (j_pad (j_info i).2.2.1 (j_ent as))[q.1]? with
    | none => rw [hx] at h1; cases h1
    | some w =>
      rw [hx] at h1
      have e : j_tr B tA tO w = q.2 := Option.some.inj h1
      have hw : w ≠ .null := fun z => h2 (by rw [← e]; exact j_tr_null.mpr z)
      have := j_ent_args (B := B) (tA := tA) (tO := tO) as 0 q.1 w (j_pad_get hx hw) hw
      rw [Nat.zero_add, e] at this
      exact hl.2.2 q this
  exact G.2 p e _ s m _ below meth c me.1.length (j_sz me.1) C hX rfl rfl hsz s.heap [] 0 0 ls hP va_S.rf rfl rfl hl2
/-- behind a call -/
theorem j_after {p : Program} {e : Env} {R : Room} {s : State} {m : MethodId} {args : Array Value} {below : List Frame} {meth : Method} {c : Code} {H : Heap} {locs : List Loc} {cells slots mc ms : Nat} {Q : State → Prop} {pc : Nat} {ls : Array Slot} {st0 rest : List Value} {q : j_R} {av : Array Value}
    (hr : va_Run p l e R s m args below meth c H locs cells slots mc ms (F0 m pc ls st0) rest (j_Q B tA tO dC dI cI cJ cR q av) (j_A B)) (hS : va_S (j_A B) s.heap H locs)
    (kk : ∀ (H1 : Heap) (locs1 : List Loc), va_P (dC, dI) vwCl (j_ws B tA tO cI cJ cR q.2) H1 → va_S (j_A B) s.heap H1 locs1 → W p l e R s m args below meth c H1 locs1 (cells + mc) (slots + ms) Q (F0 m (pc + 3) ls (q.1.toList ++ rest))) : W p l e R s m args below meth c H locs cells slots Q (F0 m pc ls st0) := by
  intro T hT X
  obtain ⟨v, st₀, t, T', Lc, h0, X', hL, e1, e2, ⟨hv, hP1, hz, hk⟩, stp⟩ := hr T hT X
  cases hv
  rw [h0] at hz hk
  obtain ⟨t2, a1, b1⟩ := kk T'.heap (locs ++ Lc) (by rw [e1]; exact hP1)
    ⟨Nat.le_trans hS.1 (by rw [e1]; exact hz), fun x h1 h2 => by rw [e1, hk x (Nat.lt_of_lt_of_le h1 hS.1) h2]; exact hS.2.1 x h1 h2, fun x hx => by
      rcases List.mem_append.mp hx with h | h
      · exact hS.2.2 x h
      · exact hL x h⟩ T' rfl X'
  exact ⟨t2, stp t2 a1, b1⟩
section
variable {i d a b : Nat} {r q : j_R} {pc : Nat} {L st as vs : List Value} {me : j_Me}
theorem g_callV {k c : Nat} (hi : i < j_cnt) (hd : decode (j_info i).2.1 pc = .ok (.invokevirtual k, 3)) (h1000 : r.2.1.length ≤ 1000) (ha : a < j_cnt) (hw : Cond.methodLink (j_info i).1.cls k (j_info a).1 ∈ j_big) (hkd : Nat.beq (j_info a).2.2.2.2.2.2 1 = true) (hnp : (j_info a).2.2.2.2.2.1 = as.length) (hcl : (j_info a).2.2.2.2.1 < 12) (hc : (j_at me.1 c).1 = (j_info a).2.2.2.2.1 + 3) (hcat : j_cat st ≤ 8)
    (hlen : (j_ent (.ref c :: as)).length ≤ (j_info a).2.2.1) (G : j_G l B tA tO dC dI cI cJ cR a d q 0 (j_pad (j_info a).2.2.1 (j_ent (.ref c :: as))) [] me) (hv : q.1.toList = vs) (hvs : vs.map (j_tr B tA tO) = vs)
    (kk : j_G l B tA tO dC dI cI cJ cR i (d + 1) r (pc + 3) L (vs ++ st) q.2) : j_G l B tA tO dC dI cI cJ cR i (d + 1) r pc L (as.reverse ++ .ref c :: st) me := by
  obtain ⟨f1, f2, f3, f4, f5, f6, f7⟩ := j_mok_facts ha
  obtain ⟨hg, hlt, -⟩ := j_has (B := B) (tA := tA) (tO := tO) (cI := cI) (cJ := cJ) (cR := cR) hc (by omega)
  rw [j_cell_obj hc] at hg
  have g1 := G.1
  have k1 := kk.1
  have hle : me.1.length ≤ q.2.1.length ∧ q.2.1.length ≤ r.2.1.length ∧ j_sz me.1 ≤ j_sz q.2.1 ∧ j_sz q.2.1 ≤ j_sz r.2.1 := ⟨g1.1, k1.1, g1.2, k1.2⟩
  refine ⟨⟨by omega, by omega⟩, fun p e R s m args below meth cd n0 z0 C X r1 r2 hs H locs cells slots ls hP hS hn hz hl => ?_⟩
  have hw2 := C.2.2.2.2.2.2.1
  have hf := C.2.2.2.2.2.2.2.2.1
  have hlo := C.2.2.2.2.2.2.2.2.2
  have hvm := j_vir_mem ha hkd
  refine j_bound fun hbd => ?_
  have hsz := j_size hP hS hs hn hbd
  rw [List.map_append, List.map_reverse]
  show W p l e R s m args below meth cd H locs cells slots _ (F0 m pc ls ((as.map (j_tr B tA tO)).reverse ++ .ref (j_ad B tA tO c) :: st.map (j_tr B tA tO)))
  have hM := j_Met_of (l := l) ha hlen G
  have hac : j_ad B tA tO c = B + c := j_ad_lt (by omega)
  refine j_after (q := q) (rest := st.map (j_tr B tA tO)) (va_runV (C := j_cn (j_info a).2.2.2.2.1) (As := as.map (j_tr B tA tO)) (b := j_ad B tA tO c) (n := (j_info a).2.2.2.2.2.1) ⟨C.1, C.2.1, C.2.2.1, C.2.2.2.2.2.1, hw2⟩ hM
    ⟨callB_of (j_info a).2.2.2.2.2.1 hw2 (j_goodIn ha) rfl rfl rfl (hw2 _ (j_ini_mem ha)) (hw2 _ hw) ⟨f3, f4, f5⟩ ⟨by show d + 1 + 1 ≤ R.frames; omega, by show 8 + ((j_info a).2.2.1 + 11) + 60 * (d + 1) ≤ R.locals; omega⟩, hw2 _ hvm.1, by rw [← f6]; exact hw2 _ hvm.2⟩
    ⟨j_blind, by rw [hac]; exact va_recv X.1 hP (j_cl _ hcl) hg, fun U hU hW => ⟨rfl, by rw [hU]; exact hsz, by rw [hU]; exact hP, X.warm hW (by rw [hU]; exact hS.2.1)⟩⟩ rfl (by rw [List.length_map]; exact hnp.symm) hl.1 rfl (lv_room (by rw [j_cat_sum]; exact hcat)) hd ⟨by omega, by omega⟩) hS (fun H1 locs1 q1 q2 => ?_)
  have z := kk.2 p e R s m args below meth cd n0 z0 C X r1 r2 hs H1 locs1 (cells + (q.2.1.length - me.1.length)) (slots + (j_sz q.2.1 - j_sz me.1)) ls q1 q2 (by omega) (by omega) hl
  rw [List.map_append, hvs] at z
  rw [hv]
  exact z
theorem g_callS {k kd : Nat} (hi : i < j_cnt) (hd : decode (j_info i).2.1 pc = .ok (.invokestatic k, 3)) (h1000 : r.2.1.length ≤ 1000) (ha : a < j_cnt) (hw : Cond.methodLink (j_info i).1.cls k (j_info a).1 ∈ j_big ∨ Cond.methodLinkNest (j_info i).1.cls k (j_info a).1 RX10 ∈ j_nw) (hkd : Nat.beq (j_info a).2.2.2.2.2.2 0 = true) (hnp : (j_info a).2.2.2.2.2.1 = as.length) (hcat : j_cat st ≤ 8)
    (hlen : (j_ent as).length ≤ (j_info a).2.2.1) (G : j_G l B tA tO dC dI cI cJ cR a d q 0 (j_pad (j_info a).2.2.1 (j_ent as)) [] me) (hv : q.1.toList = vs) (hvs : vs.map (j_tr B tA tO) = vs)
    (kk : j_G l B tA tO dC dI cI cJ cR i (d + 1) r (pc + 3) L (vs ++ st) q.2) : j_G l B tA tO dC dI cI cJ cR i (d + 1) r pc L (as.reverse ++ st) me := by
  obtain ⟨f1, f2, f3, f4, f5, f6, f7⟩ := j_mok_facts ha
  have g1 := G.1
  have k1 := kk.1
  have hle : me.1.length ≤ q.2.1.length ∧ q.2.1.length ≤ r.2.1.length ∧ j_sz me.1 ≤ j_sz q.2.1 ∧ j_sz q.2.1 ≤ j_sz r.2.1 := ⟨g1.1, k1.1, g1.2, k1.2⟩
  refine ⟨⟨by omega, by omega⟩, fun p e R s m args below meth cd n0 z0 C X r1 r2 hs H locs cells slots ls hP hS hn hz hl => ?_⟩
  have hw2 := C.2.2.2.2.2.2.1
  have hf := C.2.2.2.2.2.2.2.2.1
  have hlo := C.2.2.2.2.2.2.2.2.2
  have hst := j_sta_mem ha hkd
  refine j_bound fun hbd => ?_
  have hsz := j_size hP hS hs hn hbd
  rw [List.map_append, List.map_reverse]
  have hM := j_Met_of (l := l) ha hlen G
  have hpre : PreS s H (j_Pc B tA tO dC dI cI cJ cR as me) (as.map (j_tr B tA tO)) := ⟨j_blind, fun U hU hW => ⟨rfl, by rw [hU]; exact hsz, by rw [hU]; exact hP, X.warm hW (by rw [hU]; exact hS.2.1)⟩⟩
  have hR : (j_room d me q).frames + 1 ≤ R.frames ∧ 8 + ((j_info a).2.2.1 + 11) + (j_room d me q).locals ≤ R.locals := ⟨by show d + 1 + 1 ≤ R.frames; omega, by show 8 + ((j_info a).2.2.1 + 11) + 60 * (d + 1) ≤ R.locals; omega⟩
  have hrun : va_Run p l e R s m args below meth cd H locs cells slots (q.2.1.length - me.1.length) (j_sz q.2.1 - j_sz me.1) (F0 m pc ls ((as.map (j_tr B tA tO)).reverse ++ st.map (j_tr B tA tO))) (st.map (j_tr B tA tO)) (j_Q B tA tO dC dI cI cJ cR q (as.map (j_tr B tA tO)).toArray) (j_A B) := by
    rcases hw with hw | hw
    · exact va_runS (n := (j_info a).2.2.2.2.2.1) ⟨C.1, C.2.1, C.2.2.1, C.2.2.2.2.2.1, hw2⟩ hM ⟨callB_of (j_info a).2.2.2.2.2.1 hw2 (j_goodIn ha) rfl rfl rfl (hw2 _ (j_ini_mem ha)) (hw2 _ hw) ⟨f3, f4, f5⟩ hR, hw2 _ hst⟩ hpre rfl (by rw [List.length_map]; exact hnp.symm) hl.1 rfl (lv_room (by rw [j_cat_sum]; exact hcat)) hd ⟨by omega, by omega⟩
    · exact va_runSN (n := (j_info a).2.2.2.2.2.1) ⟨C.1, C.2.1, C.2.2.1, C.2.2.2.2.2.1, hw2⟩ hM ⟨va_cnB (j_info a).2.2.2.2.2.1 hw2 (j_goodIn ha) rfl rfl rfl (X.2.1 _ hw) (hw2 _ (j_ini_mem ha)) ⟨f3, f4, f5⟩ hR, hw2 _ hst, trivial⟩ hpre rfl (by rw [List.length_map]; exact hnp.symm) hl.1 rfl (lv_room (by rw [j_cat_sum]; exact hcat)) hd ⟨by omega, by omega⟩
  refine j_after (q := q) hrun hS (fun H1 locs1 q1 q2 => ?_)
  have z := kk.2 p e R s m args below meth cd n0 z0 C X r1 r2 hs H1 locs1 (cells + (q.2.1.length - me.1.length)) (slots + (j_sz q.2.1 - j_sz me.1)) ls q1 q2 (by omega) (by omega) hl
  rw [List.map_append, hvs] at z
  rw [hv]
  exact z
theorem g_callI {k c : Nat} (hi : i < j_cnt) (hd : decode (j_info i).2.1 pc = .ok (.invokespecial k, 3)) (h1000 : r.2.1.length ≤ 1000) (ha : a < j_cnt) (hw : Cond.methodLink (j_info i).1.cls k (j_info a).1 ∈ j_big ∨ Cond.methodLinkNest (j_info i).1.cls k (j_info a).1 RX10 ∈ j_nw) (hkd : Nat.beq (j_info a).2.2.2.2.2.2 2 = true) (hnp : (j_info a).2.2.2.2.2.1 = as.length) (hcat : j_cat st ≤ 8)
    (hlen : (j_ent (.ref c :: as)).length ≤ (j_info a).2.2.1) (G : j_G l B tA tO dC dI cI cJ cR a d q 0 (j_pad (j_info a).2.2.1 (j_ent (.ref c :: as))) [] me) (hv : q.1 = none)
    (kk : j_G l B tA tO dC dI cI cJ cR i (d + 1) r (pc + 3) L st q.2) : j_G l B tA tO dC dI cI cJ cR i (d + 1) r pc L (as.reverse ++ .ref c :: st) me := by
  obtain ⟨f1, f2, f3, f4, f5, f6, f7⟩ := j_mok_facts ha
  have g1 := G.1
  have k1 := kk.1
  have hle : me.1.length ≤ q.2.1.length ∧ q.2.1.length ≤ r.2.1.length ∧ j_sz me.1 ≤ j_sz q.2.1 ∧ j_sz q.2.1 ≤ j_sz r.2.1 := ⟨g1.1, k1.1, g1.2, k1.2⟩
  refine ⟨⟨by omega, by omega⟩, fun p e R s m args below meth cd n0 z0 C X r1 r2 hs H locs cells slots ls hP hS hn hz hl => ?_⟩
  have hw2 := C.2.2.2.2.2.2.1
  have hf := C.2.2.2.2.2.2.2.2.1
  have hlo := C.2.2.2.2.2.2.2.2.2
  have hst := j_con_mem ha hkd
  refine j_bound fun hbd => ?_
  have hsz := j_size hP hS hs hn hbd
  rw [List.map_append, List.map_reverse]
  show W p l e R s m args below meth cd H locs cells slots _ (F0 m pc ls ((as.map (j_tr B tA tO)).reverse ++ .ref (j_ad B tA tO c) :: st.map (j_tr B tA tO)))
  have hM := j_Met_of (l := l) ha hlen G
  have hcode : j_wds a = Cond.code (j_info a).1 (j_info a).2.1 (j_info a).2.2.1 none :: j_big := by unfold j_wds; rw [(f7 hkd).2]
  have hpre : PreS s H (j_Pc B tA tO dC dI cI cJ cR (.ref c :: as) me) (.ref (j_ad B tA tO c) :: as.map (j_tr B tA tO)) := ⟨j_blind, fun U hU hW => ⟨rfl, by rw [hU]; exact hsz, by rw [hU]; exact hP, X.warm hW (by rw [hU]; exact hS.2.1)⟩⟩
  have hR : (j_room d me q).frames + 1 ≤ R.frames ∧ 8 + ((j_info a).2.2.1 + 11) + (j_room d me q).locals ≤ R.locals := ⟨by show d + 1 + 1 ≤ R.frames; omega, by show 8 + ((j_info a).2.2.1 + 11) + 60 * (d + 1) ≤ R.locals; omega⟩
  have hrun : va_Run p l e R s m args below meth cd H locs cells slots (q.2.1.length - me.1.length) (j_sz q.2.1 - j_sz me.1) (F0 m pc ls ((as.map (j_tr B tA tO)).reverse ++ .ref (j_ad B tA tO c) :: st.map (j_tr B tA tO))) (st.map (j_tr B tA tO)) (j_Q B tA tO dC dI cI cJ cR q (Value.ref (j_ad B tA tO c) :: as.map (j_tr B tA tO)).toArray) (j_A B) := by
    rcases hw with hw | hw
    · exact va_runI (n := (j_info a).2.2.2.2.2.1) (maxL := (j_info a).2.2.1) (bytes := (j_info a).2.1) ⟨C.1, C.2.1, C.2.2.1, C.2.2.2.2.2.1, hw2⟩ hM ⟨callB_of (j_info a).2.2.2.2.2.1 hw2 (j_goodIn ha) hcode rfl rfl (hw2 _ (j_ini_mem ha)) (hw2 _ hw) ⟨f3, f4, f5⟩ hR, (f7 hkd).1, hw2 _ hst⟩ hpre rfl (by rw [List.length_map]; exact hnp.symm) hl.1 rfl (lv_room (by rw [j_cat_sum]; exact hcat)) hd ⟨by omega, by omega⟩
    · exact va_runIN (n := (j_info a).2.2.2.2.2.1) (maxL := (j_info a).2.2.1) (bytes := (j_info a).2.1) ⟨C.1, C.2.1, C.2.2.1, C.2.2.2.2.2.1, hw2⟩ hM ⟨va_cnB (j_info a).2.2.2.2.2.1 hw2 (j_goodIn ha) hcode rfl rfl (X.2.1 _ hw) (hw2 _ (j_ini_mem ha)) ⟨f3, f4, f5⟩ hR, (f7 hkd).1, hw2 _ hst⟩ hpre rfl (by rw [List.length_map]; exact hnp.symm) hl.1 rfl (lv_room (by rw [j_cat_sum]; exact hcat)) hd ⟨by omega, by omega⟩
  refine j_after (q := q) hrun hS (fun H1 locs1 q1 q2 => ?_)
  have z := kk.2 p e R s m args below meth cd n0 z0 C X r1 r2 hs H1 locs1 (cells + (q.2.1.length - me.1.length)) (slots + (j_sz q.2.1 - j_sz me.1)) ls q1 q2 (by omega) (by omega) hl
  rw [hv]
  exact z
end
end JC
