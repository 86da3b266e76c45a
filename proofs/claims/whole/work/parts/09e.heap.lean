/-! ===== soundness: branches, returns, the heap (own text) ===== -/
section JH
variable {l : Launch} {B tA tO : Nat} {dC : Nat → ClassId} {dI : Nat → Nat → Nat} {cI cJ cR : ClassId}
variable {i d : Nat} {r : j_R} {pc a b : Nat} {L st : List Value} {me : j_Me}
theorem j_br_imp {c : Jvm.ClassFile.Cond} {x : Int32} {t f t' f' : Prop} (ht : t → t') (hf : f → f') (h : j_br c x t f) : j_br c x t' f' := by
  unfold j_br at h ⊢
  cases c <;> dsimp only at h ⊢ <;> split at h <;> rename_i q <;> first | (rw [if_pos q]; first | exact ht h | exact hf h) | (rw [if_neg q]; first | exact ht h | exact hf h)
theorem j_bc_imp {c : Jvm.ClassFile.Cond} {x y : Int32} {t f t' f' : Prop} (ht : t → t') (hf : f → f') (h : j_bc c x y t f) : j_bc c x y t' f' := by
  unfold j_bc at h ⊢
  cases c <;> dsimp only at h ⊢ <;> split at h <;> rename_i q <;> first | (rw [if_pos q]; first | exact ht h | exact hf h) | (rw [if_neg q]; first | exact ht h | exact hf h)
theorem j_sw_imp {k k' : Nat → Prop} (hk : ∀ t, k t → k' t) {d : Nat} {x : Int32} : ∀ (ts : List (Int32 × Nat)), j_sw k d x ts → j_sw k' d x ts
  | [], h => hk _ h
  | (c, t) :: q, h => by
    unfold j_sw at h ⊢
    split at h <;> rename_i z
    · rw [if_pos z]
      exact hk _ h
    · rw [if_neg z]
      exact j_sw_imp hk q h
theorem g_if {c : Jvm.ClassFile.Cond} {off : Int} {x : Int32} (hd : decode (j_info i).2.1 pc = .ok (.ifCond c off, 3)) (ht : (pc : Int) + off = (a : Int)) (h : j_br c x (j_G l B tA tO dC dI cI cJ cR i d r a L st me) (j_G l B tA tO dC dI cI cJ cR i d r (pc + 3) L st me)) : j_G l B tA tO dC dI cI cJ cR i d r pc L (.int x :: st) me := by
  cases c
  · by_cases q : x = 0
    · have h : j_G l B tA tO dC dI cI cJ cR i d r a L st me := by unfold j_br at h; dsimp only at h; rwa [if_pos q] at h
      exact h.pure fun _ _ _ _ _ _ _ _ _ _ _ _ _ _ _ C _ z => lv_if_eq C.1 C.2.1 hd ht (fun _ => z) (fun n => absurd q n)
    · have h : j_G l B tA tO dC dI cI cJ cR i d r (pc + 3) L st me := by unfold j_br at h; dsimp only at h; rwa [if_neg q] at h
      exact h.pure fun _ _ _ _ _ _ _ _ _ _ _ _ _ _ _ C _ z => lv_if_eq C.1 C.2.1 hd ht (fun n => absurd n q) (fun _ => z)
  · by_cases q : x = 0
    · have h : j_G l B tA tO dC dI cI cJ cR i d r (pc + 3) L st me := by unfold j_br at h; dsimp only at h; rwa [if_pos q] at h
      exact h.pure fun _ _ _ _ _ _ _ _ _ _ _ _ _ _ _ C _ z => lv_if_ne C.1 C.2.1 hd ht (fun n => absurd q n) (fun _ => z)
    · have h : j_G l B tA tO dC dI cI cJ cR i d r a L st me := by unfold j_br at h; dsimp only at h; rwa [if_neg q] at h
      exact h.pure fun _ _ _ _ _ _ _ _ _ _ _ _ _ _ _ C _ z => lv_if_ne C.1 C.2.1 hd ht (fun _ => z) (fun n => absurd n q)
  · by_cases q : x < 0
    · have h : j_G l B tA tO dC dI cI cJ cR i d r a L st me := by unfold j_br at h; dsimp only at h; rwa [if_pos q] at h
      exact h.pure fun _ _ _ _ _ _ _ _ _ _ _ _ _ _ _ C _ z => lv_if_lt C.1 C.2.1 hd ht (fun _ => z) (fun n => absurd q n)
    · have h : j_G l B tA tO dC dI cI cJ cR i d r (pc + 3) L st me := by unfold j_br at h; dsimp only at h; rwa [if_neg q] at h
      exact h.pure fun _ _ _ _ _ _ _ _ _ _ _ _ _ _ _ C _ z => lv_if_lt C.1 C.2.1 hd ht (fun n => absurd n q) (fun _ => z)
  · by_cases q : 0 ≤ x
    · have h : j_G l B tA tO dC dI cI cJ cR i d r a L st me := by unfold j_br at h; dsimp only at h; rwa [if_pos q] at h
      exact h.pure fun _ _ _ _ _ _ _ _ _ _ _ _ _ _ _ C _ z => lv_if_ge C.1 C.2.1 hd ht (fun _ => z) (fun n => absurd q n)
    · have h : j_G l B tA tO dC dI cI cJ cR i d r (pc + 3) L st me := by unfold j_br at h; dsimp only at h; rwa [if_neg q] at h
      exact h.pure fun _ _ _ _ _ _ _ _ _ _ _ _ _ _ _ C _ z => lv_if_ge C.1 C.2.1 hd ht (fun n => absurd n q) (fun _ => z)
  · by_cases q : 0 < x
    · have h : j_G l B tA tO dC dI cI cJ cR i d r a L st me := by unfold j_br at h; dsimp only at h; rwa [if_pos q] at h
      exact h.pure fun _ _ _ _ _ _ _ _ _ _ _ _ _ _ _ C _ z => lv_if_gt C.1 C.2.1 hd ht (fun _ => z) (fun n => absurd q n)
    · have h : j_G l B tA tO dC dI cI cJ cR i d r (pc + 3) L st me := by unfold j_br at h; dsimp only at h; rwa [if_neg q] at h
      exact h.pure fun _ _ _ _ _ _ _ _ _ _ _ _ _ _ _ C _ z => lv_if_gt C.1 C.2.1 hd ht (fun n => absurd n q) (fun _ => z)
  · by_cases q : x ≤ 0
    · have h : j_G l B tA tO dC dI cI cJ cR i d r a L st me := by unfold j_br at h; dsimp only at h; rwa [if_pos q] at h
      exact h.pure fun _ _ _ _ _ _ _ _ _ _ _ _ _ _ _ C _ z => lv_if_le C.1 C.2.1 hd ht (fun _ => z) (fun n => absurd q n)
    · have h : j_G l B tA tO dC dI cI cJ cR i d r (pc + 3) L st me := by unfold j_br at h; dsimp only at h; rwa [if_neg q] at h
      exact h.pure fun _ _ _ _ _ _ _ _ _ _ _ _ _ _ _ C _ z => lv_if_le C.1 C.2.1 hd ht (fun n => absurd n q) (fun _ => z)
theorem g_icmp {c : Jvm.ClassFile.Cond} {off : Int} {x y : Int32} (hd : decode (j_info i).2.1 pc = .ok (.if_icmp c off, 3)) (ht : (pc : Int) + off = (a : Int)) (h : j_bc c x y (j_G l B tA tO dC dI cI cJ cR i d r a L st me) (j_G l B tA tO dC dI cI cJ cR i d r (pc + 3) L st me)) : j_G l B tA tO dC dI cI cJ cR i d r pc L (.int y :: .int x :: st) me := by
  cases c
  · by_cases q : x = y
    · have h : j_G l B tA tO dC dI cI cJ cR i d r a L st me := by unfold j_bc at h; dsimp only at h; rwa [if_pos q] at h
      exact h.pure fun _ _ _ _ _ _ _ _ _ _ _ _ _ _ _ C _ z => lv_icmp_eq C.1 C.2.1 hd ht (fun _ => z) (fun n => absurd q n)
    · have h : j_G l B tA tO dC dI cI cJ cR i d r (pc + 3) L st me := by unfold j_bc at h; dsimp only at h; rwa [if_neg q] at h
      exact h.pure fun _ _ _ _ _ _ _ _ _ _ _ _ _ _ _ C _ z => lv_icmp_eq C.1 C.2.1 hd ht (fun n => absurd n q) (fun _ => z)
  · by_cases q : x = y
    · have h : j_G l B tA tO dC dI cI cJ cR i d r (pc + 3) L st me := by unfold j_bc at h; dsimp only at h; rwa [if_pos q] at h
      exact h.pure fun _ _ _ _ _ _ _ _ _ _ _ _ _ _ _ C _ z => lv_icmp_ne C.1 C.2.1 hd ht (fun n => absurd q n) (fun _ => z)
    · have h : j_G l B tA tO dC dI cI cJ cR i d r a L st me := by unfold j_bc at h; dsimp only at h; rwa [if_neg q] at h
      exact h.pure fun _ _ _ _ _ _ _ _ _ _ _ _ _ _ _ C _ z => lv_icmp_ne C.1 C.2.1 hd ht (fun _ => z) (fun n => absurd n q)
  · by_cases q : x < y
    · have h : j_G l B tA tO dC dI cI cJ cR i d r a L st me := by unfold j_bc at h; dsimp only at h; rwa [if_pos q] at h
      exact h.pure fun _ _ _ _ _ _ _ _ _ _ _ _ _ _ _ C _ z => lv_icmp_lt C.1 C.2.1 hd ht (fun _ => z) (fun n => absurd q n)
    · have h : j_G l B tA tO dC dI cI cJ cR i d r (pc + 3) L st me := by unfold j_bc at h; dsimp only at h; rwa [if_neg q] at h
      exact h.pure fun _ _ _ _ _ _ _ _ _ _ _ _ _ _ _ C _ z => lv_icmp_lt C.1 C.2.1 hd ht (fun n => absurd n q) (fun _ => z)
  · by_cases q : y ≤ x
    · have h : j_G l B tA tO dC dI cI cJ cR i d r a L st me := by unfold j_bc at h; dsimp only at h; rwa [if_pos q] at h
      exact h.pure fun _ _ _ _ _ _ _ _ _ _ _ _ _ _ _ C _ z => lv_icmp_ge C.1 C.2.1 hd ht (fun _ => z) (fun n => absurd q n)
    · have h : j_G l B tA tO dC dI cI cJ cR i d r (pc + 3) L st me := by unfold j_bc at h; dsimp only at h; rwa [if_neg q] at h
      exact h.pure fun _ _ _ _ _ _ _ _ _ _ _ _ _ _ _ C _ z => lv_icmp_ge C.1 C.2.1 hd ht (fun n => absurd n q) (fun _ => z)
  · by_cases q : y < x
    · have h : j_G l B tA tO dC dI cI cJ cR i d r a L st me := by unfold j_bc at h; dsimp only at h; rwa [if_pos q] at h
      exact h.pure fun _ _ _ _ _ _ _ _ _ _ _ _ _ _ _ C _ z => lv_icmp_gt C.1 C.2.1 hd ht (fun _ => z) (fun n => absurd q n)
    · have h : j_G l B tA tO dC dI cI cJ cR i d r (pc + 3) L st me := by unfold j_bc at h; dsimp only at h; rwa [if_neg q] at h
      exact h.pure fun _ _ _ _ _ _ _ _ _ _ _ _ _ _ _ C _ z => lv_icmp_gt C.1 C.2.1 hd ht (fun n => absurd n q) (fun _ => z)
  · by_cases q : x ≤ y
    · have h : j_G l B tA tO dC dI cI cJ cR i d r a L st me := by unfold j_bc at h; dsimp only at h; rwa [if_pos q] at h
      exact h.pure fun _ _ _ _ _ _ _ _ _ _ _ _ _ _ _ C _ z => lv_icmp_le C.1 C.2.1 hd ht (fun _ => z) (fun n => absurd q n)
    · have h : j_G l B tA tO dC dI cI cJ cR i d r (pc + 3) L st me := by unfold j_bc at h; dsimp only at h; rwa [if_neg q] at h
      exact h.pure fun _ _ _ _ _ _ _ _ _ _ _ _ _ _ _ C _ z => lv_icmp_le C.1 C.2.1 hd ht (fun n => absurd n q) (fun _ => z)
theorem g_tsw {dflt lo hi : Int} {offs : Array Int} {z : Nat} {ts : List (Int32 × Nat)} {x : Int32} (hd : decode (j_info i).2.1 pc = .ok (.tableswitch dflt lo hi offs, z)) (ht : (pc : Int) + dflt = (a : Int)) (hs : hi - lo + 1 = (offs.size : Int)) (hlo : -2147483648 ≤ lo) (hhi : hi ≤ 2147483647) (hts : j_tsok pc lo offs.toList ts = true) (h : j_sw (fun t => j_G l B tA tO dC dI cI cJ cR i d r t L st me) a x ts) : j_G l B tA tO dC dI cI cJ cR i d r pc L (.int x :: st) me := by
  unfold j_tsok at hts
  rw [Bool.and_eq_true, decide_eq_true_eq, List.all_eq_true] at hts
  obtain ⟨e, hp⟩ := hts
  have hat : ∀ j : Nat, j < offs.size → ts[j]? = some (Int32.ofInt (lo + (j : Int)), ((pc : Int) + offs.toList.getD j 0).toNat) := by
    intro j hj
    rw [e, List.getElem?_map, List.getElem?_range (by simpa using hj)]
    rfl
  have hoff : ∀ j : Nat, j < offs.size → offs[j]? = some (offs.toList.getD j 0) := by
    intro j hj
    rw [← Array.getElem?_toList, List.getD_eq_getElem?_getD, List.getElem?_eq_getElem (by simpa using hj)]
    rfl
  have hpos : ∀ j : Nat, j < offs.size → 0 ≤ (pc : Int) + offs.toList.getD j 0 := by
    intro j hj
    have h1 := hoff j hj
    rw [← Array.getElem?_toList] at h1
    exact of_decide_eq_true (hp _ (List.mem_of_getElem? h1))
  have hrng : ∀ j : Nat, j < offs.size → (Int32.ofInt (lo + (j : Int))).toInt = lo + (j : Int) := by
    intro j hj
    exact Int32.toInt_ofInt_of_le (by omega) (by omega)
  rcases j_sw_p ts h with ⟨j, t, h1, h2⟩ | ⟨h1, h2⟩
  · have hj : j < offs.size := by
      have h3 := (List.getElem?_eq_some_iff.mp h1).1
      rw [e] at h3
      simpa using h3
    rw [hat j hj] at h1
    have e1 : Int32.ofInt (lo + (j : Int)) = x := (Prod.mk.inj (Option.some.inj h1)).1
    have e2 : ((pc : Int) + offs.toList.getD j 0).toNat = t := (Prod.mk.inj (Option.some.inj h1)).2
    have e3 : x.toInt = lo + (j : Int) := by rw [← e1]; exact hrng j hj
    refine h2.pure fun _ _ _ _ _ _ _ _ _ _ _ _ _ _ _ C _ z => lv_tableIn C.1 C.2.1 hd (by omega) (by omega) (off := offs.toList.getD j 0) ?_ ?_ z
    · rw [e3, show (lo + (j : Int) - lo).toNat = j by omega]
      exact hoff j hj
    · have := hpos j hj
      omega
  · refine h2.pure fun _ _ _ _ _ _ _ _ _ _ _ _ _ _ _ C _ z => lv_tableOut C.1 C.2.1 hd ?_ ht z
    rcases Int.lt_or_le x.toInt lo with q | q
    · exact Or.inl q
    · rcases Int.lt_or_le hi x.toInt with q2 | q2
      · exact Or.inr q2
      · exfalso
        have hj : (x.toInt - lo).toNat < offs.size := by omega
        refine h1 _ (List.mem_of_getElem? (hat _ hj)) ?_
        apply Int32.toInt_inj.mp
        rw [hrng _ hj]
        omega
theorem j_lsw_off {pc : Nat} {dflt : Int} {a : Nat} {x : Int32} {k : Nat → Prop} (hdf : (pc : Int) + dflt = (a : Int)) : ∀ (prs : List (Int × Int)) (ts : List (Int32 × Nat)), ts = prs.map (fun q => (Int32.ofInt q.1, ((pc : Int) + q.2).toNat)) → (∀ q ∈ prs, 0 ≤ (pc : Int) + q.2 ∧ (Int32.ofInt q.1).toInt = q.1) → j_sw k a x ts → ∃ t : Nat, (pc : Int) + Op.lookupswitch.offset prs dflt x.toInt = (t : Int) ∧ k t
  | [], _, e, _, h => by
    subst e
    exact ⟨a, hdf, h⟩
  | (c, o) :: q, _, e, hp, h => by
    subst e
    have h0 := hp (c, o) List.mem_cons_self
    rw [lookupswitch.offset_cons]
    unfold j_sw at h
    by_cases hc : x = Int32.ofInt c
    · have hx : c = x.toInt := by rw [hc]; exact h0.2.symm
      rw [if_pos hx]
      refine ⟨((pc : Int) + o).toNat, by have := h0.1; omega, ?_⟩
      simpa [hc] using h
    · have hx : ¬ c = x.toInt := fun z => hc (Int32.toInt_inj.mp (by rw [h0.2]; exact z.symm))
      rw [if_neg hx]
      exact j_lsw_off hdf q _ rfl (fun y hy => hp y (List.mem_cons_of_mem _ hy)) (by simpa [hc] using h)
theorem g_lsw {dflt : Int} {prs : Array (Int × Int)} {z : Nat} {ts : List (Int32 × Nat)} {x : Int32} (hd : decode (j_info i).2.1 pc = .ok (.lookupswitch dflt prs, z)) (ht : (pc : Int) + dflt = (a : Int)) (hts : j_lsok pc prs.toList ts = true) (h : j_sw (fun t => j_G l B tA tO dC dI cI cJ cR i d r t L st me) a x ts) : j_G l B tA tO dC dI cI cJ cR i d r pc L (.int x :: st) me := by
  unfold j_lsok at hts
  rw [Bool.and_eq_true, Bool.and_eq_true, decide_eq_true_eq] at hts
  obtain ⟨⟨e, hp⟩, hsrt⟩ := hts
  obtain ⟨t, h1, h2⟩ := j_lsw_off ht prs.toList ts e (fun q hq => by
    have := (List.all_eq_true.mp hp) q hq
    rw [Bool.and_eq_true, decide_eq_true_eq, decide_eq_true_eq] at this
    exact this) h
  exact h2.pure fun _ _ _ _ _ _ _ _ _ _ _ _ _ _ _ C _ z => lv_lookup C.1 C.2.1 hd hsrt rfl h1 z
/-- returns -/
theorem g_iret {x : Int32} (hd : decode (j_info i).2.1 pc = .ok (.ireturn, 1)) (hr : (j_info i).2.2.2.1 = some .int) : j_G l B tA tO dC dI cI cJ cR i d (some (.int x), me) pc L [.int x] me := by
  refine ⟨⟨Nat.le_refl _, Nat.le_refl _⟩, fun p e R s m args below meth c n0 z0 C X r1 r2 hs H locs cells slots ls hP hS hn hz hl => ?_⟩
  have e1 : me.1.length - n0 = cells := by omega
  have e2 : j_sz me.1 - z0 = slots := by omega
  show W p l e R s m args below meth c H locs cells slots (MQ below _ args s (me.1.length - n0) (j_sz me.1 - z0) _) _
  rw [e1, e2]
  exact W.iret C.1 C.2.1 (C.2.2.2.1.trans hr) (fun t ht hW => ⟨rfl, by rw [ht]; exact hP, hS.F ht⟩) hS.2.2 hd (hlocks := C.2.2.2.2.1)
theorem g_zret {x : Int32} (hd : decode (j_info i).2.1 pc = .ok (.ireturn, 1)) (hr : (j_info i).2.2.2.1 = some .boolean) (hx : x = 0 ∨ x = 1) : j_G l B tA tO dC dI cI cJ cR i d (some (.int x), me) pc L [.int x] me := by
  refine ⟨⟨Nat.le_refl _, Nat.le_refl _⟩, fun p e R s m args below meth c n0 z0 C X r1 r2 hs H locs cells slots ls hP hS hn hz hl => ?_⟩
  have e1 : me.1.length - n0 = cells := by omega
  have e2 : j_sz me.1 - z0 = slots := by omega
  show W p l e R s m args below meth c H locs cells slots (MQ below _ args s (me.1.length - n0) (j_sz me.1 - z0) _) _
  rw [e1, e2]
  exact W.zret C.1 C.2.1 (C.2.2.2.1.trans hr) (by rcases hx with rfl | rfl <;> decide +kernel) (fun t ht hW => ⟨rfl, by rw [ht]; exact hP, hS.F ht⟩) hS.2.2 hd (hlocks := C.2.2.2.2.1)
theorem g_lret {x : Int64} (hd : decode (j_info i).2.1 pc = .ok (.lreturn, 1)) (hr : (j_info i).2.2.2.1 = some .long) : j_G l B tA tO dC dI cI cJ cR i d (some (.long x), me) pc L [.long x] me := by
  refine ⟨⟨Nat.le_refl _, Nat.le_refl _⟩, fun p e R s m args below meth c n0 z0 C X r1 r2 hs H locs cells slots ls hP hS hn hz hl => ?_⟩
  have e1 : me.1.length - n0 = cells := by omega
  have e2 : j_sz me.1 - z0 = slots := by omega
  show W p l e R s m args below meth c H locs cells slots (MQ below _ args s (me.1.length - n0) (j_sz me.1 - z0) _) _
  rw [e1, e2]
  exact W.lret C.1 C.2.1 (C.2.2.2.1.trans hr) (fun t ht hW => ⟨rfl, by rw [ht]; exact hP, hS.F ht⟩) hS.2.2 hd (hlocks := C.2.2.2.2.1)
theorem g_vret (hd : decode (j_info i).2.1 pc = .ok (.return_, 1)) (hr : (j_info i).2.2.2.1 = none) : j_G l B tA tO dC dI cI cJ cR i d (none, me) pc L [] me := by
  refine ⟨⟨Nat.le_refl _, Nat.le_refl _⟩, fun p e R s m args below meth c n0 z0 C X r1 r2 hs H locs cells slots ls hP hS hn hz hl => ?_⟩
  have e1 : me.1.length - n0 = cells := by omega
  have e2 : j_sz me.1 - z0 = slots := by omega
  show W p l e R s m args below meth c H locs cells slots (MQ below _ args s (me.1.length - n0) (j_sz me.1 - z0) _) _
  rw [e1, e2]
  exact W.vret C.1 C.2.1 (C.2.2.2.1.trans hr) (fun t ht hW => ⟨rfl, by rw [ht]; exact hP, hS.F ht⟩) hS.2.2 hd (hlocks := C.2.2.2.2.1)
/-- cells -/
theorem j_cell_obj {ad : Nat → Nat} {M : j_M} {N : j_N} {q ci : Nat} {x : Nat × Nat × List (Option Nat)} (h : x.1 = ci + 3) : j_cell ad cI cJ cR M N q x = .inr (ci, (List.range (j_Nf ci)).map (fun k => j_fv ad (M q) x.2.2 (j_ty ci k) k)) := by
  unfold j_cell; rw [h]
theorem j_cell_i {ad : Nat → Nat} {M : j_M} {N : j_N} {q : Nat} {x : Nat × Nat × List (Option Nat)} (h : x.1 = 0) : j_cell ad cI cJ cR M N q x = .inl (cI, x.2.1, .inl (M q)) := by
  unfold j_cell; rw [h]
theorem j_cell_l {ad : Nat → Nat} {M : j_M} {N : j_N} {q : Nat} {x : Nat × Nat × List (Option Nat)} (h : x.1 = 1) : j_cell ad cI cJ cR M N q x = .inl (cJ, x.2.1, .inr (.inl (N q))) := by
  unfold j_cell; rw [h]
theorem j_cell_r {ad : Nat → Nat} {M : j_M} {N : j_N} {q : Nat} {x : Nat × Nat × List (Option Nat)} (h : x.1 = 2) : j_cell ad cI cJ cR M N q x = .inl (cR, x.2.1, .inr (.inr (.inr (.inr (fun k => (j_nth x.2.2 k).map ad))))) := by
  unfold j_cell; rw [h]
theorem j_has {c t : Nat} (h : (j_at me.1 c).1 = t) (ht : t < 99) : (j_ws B tA tO cI cJ cR me)[c]? = some (B + c, j_cell (j_ad B tA tO) cI cJ cR me.2.1 me.2.2 c (j_at me.1 c)) ∧ c < me.1.length ∧ me.1[c]? = some (j_at me.1 c) := by
  have h1 := j_at_get me.1 c (by omega)
  exact ⟨j_ws_get h1, (List.getElem?_eq_some_iff.mp h1).1, h1⟩
theorem j_fld {β : Type} {n b : Nat} {f : Nat → β} (h : b < n) : ((List.range n).map f)[b]? = some (f b) := by
  rw [List.getElem?_map, List.getElem?_range h]; rfl
/-- a row that reads the heap -/
theorem g_getI {c k : Nat} (hd : decode (j_info i).2.1 pc = .ok (.getfield k, 3)) (h1000 : r.2.1.length ≤ 1000) (ha : a < 12) (hb : b < j_Nf a) (hw : Cond.fieldLink (j_info i).1.cls k (j_T a b).1 (j_T a b).2.1 (j_T a b).2.2.1 ∈ j_big) (hty : j_isref (j_ty a b) = false) (hc : (j_at me.1 c).1 = a + 3)
    (kk : j_G l B tA tO dC dI cI cJ cR i d r (pc + 3) L (.int (me.2.1 c b) :: st) me) : j_G l B tA tO dC dI cI cJ cR i d r pc L (.ref c :: st) me := by
  obtain ⟨hg, hlt, -⟩ := j_has (B := B) (tA := tA) (tO := tO) (cI := cI) (cJ := cJ) (cR := cR) hc (by omega)
  rw [j_cell_obj hc] at hg
  have hle := kk.1.1
  refine ⟨kk.1, fun p e R s m args below meth cd n0 z0 C X r1 r2 hs H locs cells slots ls hP hS hn hz hl => ?_⟩
  show W p l e R s m args below meth cd H locs cells slots _ (F0 m pc ls (.ref (j_ad B tA tO c) :: st.map (j_tr B tA tO)))
  rw [j_ad_lt (by omega)]
  exact va_get C.1 C.2.1 C.2.2.2.2.2.2.1 (j_lay_mem ha) C.2.2.2.2.2.1 X.1 hP c hg (j_cl a ha) b hb (C.2.2.2.2.2.2.1 _ hw) (fun _ h => h) (v := .int (me.2.1 c b)) (by rw [j_fld hb]; simp [j_fv, hty]) hd (kk.2 p e R s m args below meth cd n0 z0 C X r1 r2 hs H locs cells slots ls hP hS hn hz hl)
theorem g_getR {c k q : Nat} (hd : decode (j_info i).2.1 pc = .ok (.getfield k, 3)) (h1000 : r.2.1.length ≤ 1000) (ha : a < 12) (hb : b < j_Nf a) (hw : Cond.fieldLink (j_info i).1.cls k (j_T a b).1 (j_T a b).2.1 (j_T a b).2.2.1 ∈ j_big) (hty : j_isref (j_ty a b) = true) (hc : (j_at me.1 c).1 = a + 3) (hq : j_nth (j_at me.1 c).2.2 b = some q)
    (kk : j_G l B tA tO dC dI cI cJ cR i d r (pc + 3) L (.ref q :: st) me) : j_G l B tA tO dC dI cI cJ cR i d r pc L (.ref c :: st) me := by
  obtain ⟨hg, hlt, -⟩ := j_has (B := B) (tA := tA) (tO := tO) (cI := cI) (cJ := cJ) (cR := cR) hc (by omega)
  rw [j_cell_obj hc] at hg
  have hle := kk.1.1
  refine ⟨kk.1, fun p e R s m args below meth cd n0 z0 C X r1 r2 hs H locs cells slots ls hP hS hn hz hl => ?_⟩
  show W p l e R s m args below meth cd H locs cells slots _ (F0 m pc ls (.ref (j_ad B tA tO c) :: st.map (j_tr B tA tO)))
  rw [j_ad_lt (by omega)]
  exact va_get C.1 C.2.1 C.2.2.2.2.2.2.1 (j_lay_mem ha) C.2.2.2.2.2.1 X.1 hP c hg (j_cl a ha) b hb (C.2.2.2.2.2.2.1 _ hw) (fun _ h => h) (v := .ref (j_ad B tA tO q)) (by rw [j_fld hb]; simp [j_fv, hty, hq, va_rf]) hd (kk.2 p e R s m args below meth cd n0 z0 C X r1 r2 hs H locs cells slots ls hP hS hn hz hl)
theorem g_iald {c : Nat} {x : Int32} (hd : decode (j_info i).2.1 pc = .ok (.iaload, 1)) (h1000 : r.2.1.length ≤ 1000) (hc : (j_at me.1 c).1 = 0) (hin : vp_in x (j_at me.1 c).2.1)
    (kk : j_G l B tA tO dC dI cI cJ cR i d r (pc + 1) L (.int (me.2.1 c x.toNatClampNeg) :: st) me) : j_G l B tA tO dC dI cI cJ cR i d r pc L (.int x :: .ref c :: st) me := by
  obtain ⟨hg, hlt, -⟩ := j_has (B := B) (tA := tA) (tO := tO) (cI := cI) (cJ := cJ) (cR := cR) hc (by omega)
  rw [j_cell_i hc] at hg
  have hle := kk.1.1
  refine ⟨kk.1, fun p e R s m args below meth cd n0 z0 C X r1 r2 hs H locs cells slots ls hP hS hn hz hl => ?_⟩
  show W p l e R s m args below meth cd H locs cells slots _ (F0 m pc ls (.int x :: .ref (j_ad B tA tO c) :: st.map (j_tr B tA tO)))
  rw [j_ad_lt (by omega)]
  exact va_iald C.1 C.2.1 X.1 hP c 0 hg rfl hin hd (kk.2 p e R s m args below meth cd n0 z0 C X r1 r2 hs H locs cells slots ls hP hS hn hz hl)
theorem g_lald {c : Nat} {x : Int32} (hd : decode (j_info i).2.1 pc = .ok (.laload, 1)) (h1000 : r.2.1.length ≤ 1000) (hc : (j_at me.1 c).1 = 1) (hin : vp_in x (j_at me.1 c).2.1)
    (kk : j_G l B tA tO dC dI cI cJ cR i d r (pc + 1) L (.long (me.2.2 c x.toNatClampNeg) :: st) me) : j_G l B tA tO dC dI cI cJ cR i d r pc L (.int x :: .ref c :: st) me := by
  obtain ⟨hg, hlt, -⟩ := j_has (B := B) (tA := tA) (tO := tO) (cI := cI) (cJ := cJ) (cR := cR) hc (by omega)
  rw [j_cell_l hc] at hg
  have hle := kk.1.1
  refine ⟨kk.1, fun p e R s m args below meth cd n0 z0 C X r1 r2 hs H locs cells slots ls hP hS hn hz hl => ?_⟩
  show W p l e R s m args below meth cd H locs cells slots _ (F0 m pc ls (.int x :: .ref (j_ad B tA tO c) :: st.map (j_tr B tA tO)))
  rw [j_ad_lt (by omega)]
  exact va_lald C.1 C.2.1 X.1 hP c 1 hg rfl hin hd (kk.2 p e R s m args below meth cd n0 z0 C X r1 r2 hs H locs cells slots ls hP hS hn hz hl)
theorem g_aald {c q : Nat} {x : Int32} (hd : decode (j_info i).2.1 pc = .ok (.aaload, 1)) (h1000 : r.2.1.length ≤ 1000) (hc : (j_at me.1 c).1 = 2) (hin : vp_in x (j_at me.1 c).2.1) (hq : j_nth (j_at me.1 c).2.2 x.toNatClampNeg = some q)
    (kk : j_G l B tA tO dC dI cI cJ cR i d r (pc + 1) L (.ref q :: st) me) : j_G l B tA tO dC dI cI cJ cR i d r pc L (.int x :: .ref c :: st) me := by
  obtain ⟨hg, hlt, -⟩ := j_has (B := B) (tA := tA) (tO := tO) (cI := cI) (cJ := cJ) (cR := cR) hc (by omega)
  rw [j_cell_r hc] at hg
  have hle := kk.1.1
  refine ⟨kk.1, fun p e R s m args below meth cd n0 z0 C X r1 r2 hs H locs cells slots ls hP hS hn hz hl => ?_⟩
  show W p l e R s m args below meth cd H locs cells slots _ (F0 m pc ls (.int x :: .ref (j_ad B tA tO c) :: st.map (j_tr B tA tO)))
  rw [j_ad_lt (by omega)]
  refine va_aldq C.1 C.2.1 X.1 hP c 2 hg rfl hin hd ?_
  rw [hq]
  exact kk.2 p e R s m args below meth cd n0 z0 C X r1 r2 hs H locs cells slots ls hP hS hn hz hl
theorem g_stA {x : Int32} (hd : decode (j_info i).2.1 pc = .ok (.iaload, 1)) (hin : vp_in x 8)
    (kk : j_G l B tA tO dC dI cI cJ cR i d r (pc + 1) L (.int (j_tg j_T0 x.toNatClampNeg) :: st) me) : j_G l B tA tO dC dI cI cJ cR i d r pc L (.int x :: .ref 1000 :: st) me :=
  ⟨kk.1, fun p e R s m args below meth cd n0 z0 C X r1 r2 hs H locs cells slots ls hP hS hn hz hl => va_ti C.1 C.2.1 X.2.2.2.2.2.1 hS hin rfl hd (kk.2 p e R s m args below meth cd n0 z0 C X r1 r2 hs H locs cells slots ls hP hS hn hz hl)⟩
theorem g_stO {x : Int32} (hd : decode (j_info i).2.1 pc = .ok (.iaload, 1)) (hin : vp_in x 32)
    (kk : j_G l B tA tO dC dI cI cJ cR i d r (pc + 1) L (.int (j_tg j_T1 x.toNatClampNeg) :: st) me) : j_G l B tA tO dC dI cI cJ cR i d r pc L (.int x :: .ref 1001 :: st) me :=
  ⟨kk.1, fun p e R s m args below meth cd n0 z0 C X r1 r2 hs H locs cells slots ls hP hS hn hz hl => va_ti C.1 C.2.1 X.2.2.2.2.2.2 hS hin rfl hd (kk.2 p e R s m args below meth cd n0 z0 C X r1 r2 hs H locs cells slots ls hP hS hn hz hl)⟩
theorem g_gsA {k : Nat} (hd : decode (j_info i).2.1 pc = .ok (.getstatic k, 3)) (hw : Cond.fieldLink (j_info i).1.cls k RX0 "ABOVE" "[I" ∈ j_big) (kk : j_G l B tA tO dC dI cI cJ cR i d r (pc + 3) L (.ref 1000 :: st) me) : j_G l B tA tO dC dI cI cJ cR i d r pc L st me :=
  ⟨kk.1, fun p e R s m args below meth cd n0 z0 C X r1 r2 hs H locs cells slots ls hP hS hn hz hl => va_gets C.1 C.2.1 X.2.2.2.1 hS C.2.2.2.2.2.1 (C.2.2.2.2.2.2.1 _ hw) (fun _ h => h) hd (kk.2 p e R s m args below meth cd n0 z0 C X r1 r2 hs H locs cells slots ls hP hS hn hz hl)⟩
theorem g_gsO {k : Nat} (hd : decode (j_info i).2.1 pc = .ok (.getstatic k, 3)) (hw : Cond.fieldLink (j_info i).1.cls k RX0 "OWN" "[I" ∈ j_big) (kk : j_G l B tA tO dC dI cI cJ cR i d r (pc + 3) L (.ref 1001 :: st) me) : j_G l B tA tO dC dI cI cJ cR i d r pc L st me :=
  ⟨kk.1, fun p e R s m args below meth cd n0 z0 C X r1 r2 hs H locs cells slots ls hP hS hn hz hl => va_gets C.1 C.2.1 X.2.2.2.2.1 hS C.2.2.2.2.2.1 (C.2.2.2.2.2.2.1 _ hw) (fun _ h => h) hd (kk.2 p e R s m args below meth cd n0 z0 C X r1 r2 hs H locs cells slots ls hP hS hn hz hl)⟩
theorem g_alen {c : Nat} (hd : decode (j_info i).2.1 pc = .ok (.arraylength, 1)) (h1000 : r.2.1.length ≤ 1000) (hc : (j_at me.1 c).1 ≤ 2)
    (kk : j_G l B tA tO dC dI cI cJ cR i d r (pc + 1) L (.int (Int32.ofNat (j_at me.1 c).2.1) :: st) me) : j_G l B tA tO dC dI cI cJ cR i d r pc L (.ref c :: st) me := by
  obtain ⟨hg, hlt, -⟩ := j_has (B := B) (tA := tA) (tO := tO) (cI := cI) (cJ := cJ) (cR := cR) (me := me) (c := c) rfl (by omega)
  have hle := kk.1.1
  refine ⟨kk.1, fun p e R s m args below meth cd n0 z0 C X r1 r2 hs H locs cells slots ls hP hS hn hz hl => ?_⟩
  show W p l e R s m args below meth cd H locs cells slots _ (F0 m pc ls (.ref (j_ad B tA tO c) :: st.map (j_tr B tA tO)))
  rw [j_ad_lt (by omega)]
  have z := kk.2 p e R s m args below meth cd n0 z0 C X r1 r2 hs H locs cells slots ls hP hS hn hz hl
  rcases (show (j_at me.1 c).1 = 0 ∨ (j_at me.1 c).1 = 1 ∨ (j_at me.1 c).1 = 2 by omega) with q | q | q
  · rw [j_cell_i q] at hg
    exact va_alen C.1 C.2.1 X.1 hP c 0 hg rfl rfl hd z
  · rw [j_cell_l q] at hg
    exact va_alen C.1 C.2.1 X.1 hP c 1 hg rfl rfl hd z
  · rw [j_cell_r q] at hg
    exact va_alen C.1 C.2.1 X.1 hP c 2 hg rfl rfl hd z
end JH
