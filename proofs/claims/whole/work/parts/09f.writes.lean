/-! ===== soundness: writes, new cells (own text) ===== -/
section JW
variable {l : Launch} {B tA tO : Nat} {dC : Nat → ClassId} {dI : Nat → Nat → Nat} {cI cJ cR : ClassId}
variable {i d : Nat} {r : j_R} {pc a b : Nat} {L st : List Value} {me : j_Me}
theorem j_w_off {M : j_M} {c k : Nat} {x : Int32} : ∀ q, q ≠ c → j_w M c k x q = M q := fun q h => by unfold j_w; rw [if_neg h]
theorem j_wl_off {N : j_N} {c k : Nat} {x : Int64} : ∀ q, q ≠ c → j_wl N c k x q = N q := fun q h => by unfold j_wl; rw [if_neg h]
theorem j_row_off {M : j_M} {c : Nat} {f : Nat → Int32} : ∀ q, q ≠ c → j_row M c f q = M q := fun q h => by unfold j_row; rw [if_neg h]
theorem j_rowl_off {N : j_N} {c : Nat} {f : Nat → Int64} : ∀ q, q ≠ c → j_rowl N c f q = N q := fun q h => by unfold j_rowl; rw [if_neg h]
theorem j_w_at {M : j_M} {c k : Nat} {x : Int32} : j_w M c k x c = upd (M c) k x := by unfold j_w; rw [if_pos rfl]
theorem j_wl_at {N : j_N} {c k : Nat} {x : Int64} : j_wl N c k x c = vp_updL (N c) k x := by unfold j_wl; rw [if_pos rfl]
theorem j_row_at {M : j_M} {c : Nat} {f : Nat → Int32} : j_row M c f c = f := by unfold j_row; rw [if_pos rfl]
theorem j_rowl_at {N : j_N} {c : Nat} {f : Nat → Int64} : j_rowl N c f c = f := by unfold j_rowl; rw [if_pos rfl]
theorem j_ws_putI {c : Nat} {x : Int32} (hc : (j_at me.1 c).1 = a + 3) (ha : a < 12) (hb : b < j_Nf a) (hty : j_isref (j_ty a b) = false) : j_ws B tA tO cI cJ cR (me.1, j_w me.2.1 c b x, me.2.2) = (j_ws B tA tO cI cJ cR me).set c (B + c, .inr (a, ((List.range (j_Nf a)).map (fun k => j_fv (j_ad B tA tO) (me.2.1 c) (j_at me.1 c).2.2 (j_ty a k) k)).set b (.int x))) := by
  have h1 := j_at_get me.1 c (by omega)
  rw [j_ws_up (S := me.1) (M := me.2.1) (N := me.2.2) h1 j_w_off (fun _ _ => rfl), j_cell_obj hc]
  congr 4
  refine j_range_set _ _ _ _ _ hb ?_ ?_
  · simp [j_fv, hty, j_w_at, upd]
  · intro j hj
    simp [j_fv, j_w_at, upd, hj]
theorem j_ws_putR {c q : Nat} (hc : (j_at me.1 c).1 = a + 3) (ha : a < 12) (hb : b < j_Nf a) (hty : j_isref (j_ty a b) = true) : j_ws B tA tO cI cJ cR (j_sr me.1 c b q, me.2.1, me.2.2) = (j_ws B tA tO cI cJ cR me).set c (B + c, .inr (a, ((List.range (j_Nf a)).map (fun k => j_fv (j_ad B tA tO) (me.2.1 c) (j_at me.1 c).2.2 (j_ty a k) k)).set b (.ref (j_ad B tA tO q)))) := by
  have h1 := j_at_get me.1 c (by omega)
  unfold j_sr
  rw [j_ws_set (S := me.1) (M := me.2.1) (N := me.2.2) _ (List.getElem?_eq_some_iff.mp h1).1 (fun _ _ => rfl) (fun _ _ => rfl), j_cell_obj (x := ((j_at me.1 c).1, (j_at me.1 c).2.1, j_setx (j_at me.1 c).2.2 b q)) hc]
  congr 4
  refine j_range_set _ _ _ _ _ hb ?_ ?_
  · simp [j_fv, hty, j_nth_set, va_rf]
  · intro j hj
    simp [j_fv, j_nth_set, hj]
theorem j_sr_len {c q : Nat} : (j_sr me.1 c b q).length = me.1.length := by unfold j_sr; simp
theorem j_sr_sz {c q : Nat} (hc : (j_at me.1 c).1 < 99) : j_sz (j_sr me.1 c b q) = j_sz me.1 := j_sz_set (j_at_get me.1 c hc) rfl
/-- a field of an int or a boolean, or of a reference: v is what is stored -/
theorem j_put_row {p : Program} {e : Env} {R : Room} {s : State} {m : MethodId} {args : Array Value} {below : List Frame} {meth : Method} {cd : Code} {H : Heap} {locs : List Loc} {cells slots : Nat} {Q : State → Prop} {ls : Array Slot} {rest : List Value} {c k : Nat} {v : Value} {fs : List Value}
    (C : j_Cx p R s m args meth cd i d) (X : j_X B tA tO dC dI cI cJ cR s) (hP : va_P (dC, dI) vwCl (j_ws B tA tO cI cJ cR me) H) (hS : va_S (j_A B) s.heap H locs) (hd : decode (j_info i).2.1 pc = .ok (.putfield k, 3)) (ha : a < 12) (hb : b < j_Nf a) (hw : Cond.fieldLink (j_info i).1.cls k (j_T a b).1 (j_T a b).2.1 (j_T a b).2.2.1 ∈ j_big) (hg : (j_ws B tA tO cI cJ cR me)[c]? = some (B + c, .inr (a, fs))) (hl : b < fs.length)
    (hfin : (j_T a b).2.2.2 = false ∨ (Nat.beq (j_info i).2.2.2.2.2.2 2 = true ∧ (j_T a b).1 = (j_info i).1.cls)) (hn : narrow (j_ty a b) v = v) (hfit : fits (j_ty a b) v = true)
    (kk : ∀ (H1 : Heap) (locs1 : List Loc), va_P (dC, dI) vwCl ((j_ws B tA tO cI cJ cR me).set c (B + c, .inr (a, fs.set b v))) H1 → va_S (j_A B) s.heap H1 locs1 → W p l e R s m args below meth cd H1 locs1 cells slots Q (F0 m (pc + 3) ls rest)) : W p l e R s m args below meth cd H locs cells slots Q (F0 m pc ls (v :: .ref (B + c) :: rest)) := by
  cases hf : (j_T a b).2.2.2 with
  | false => exact va_put C.1 C.2.1 C.2.2.2.2.2.2.1 (j_lay_mem ha) (j_ty a) (j_tyok a ha) (j_nmok a ha) C.2.2.2.2.2.1 X.1 hP j_D hS c hg (j_cl a ha) b hb (C.2.2.2.2.2.2.1 _ hw) (fun _ h => h) hf (j_tyok a ha b hb) hn hfit hl hd (fun H1 locs1 h1 _ h2 => kk H1 locs1 h1 h2)
  | true =>
    rcases hfin with z | ⟨z1, z2⟩
    · rw [hf] at z; cases z
    · exact va_putF C.1 C.2.1 C.2.2.2.2.2.2.1 (j_lay_mem ha) (j_ty a) (j_tyok a ha) (j_nmok a ha) C.2.2.2.2.2.1 X.1 hP j_D hS c hg (j_cl a ha) b hb (C.2.2.2.2.2.2.1 _ hw) (fun _ h => h) hf (C.2.2.2.2.2.2.2.1 z1) z2 (j_tyok a ha b hb) hn hfit hl hd (fun H1 locs1 h1 _ h2 => kk H1 locs1 h1 h2)
theorem g_putI {c k : Nat} {x : Int32} (hd : decode (j_info i).2.1 pc = .ok (.putfield k, 3)) (h1000 : r.2.1.length ≤ 1000) (ha : a < 12) (hb : b < j_Nf a) (hw : Cond.fieldLink (j_info i).1.cls k (j_T a b).1 (j_T a b).2.1 (j_T a b).2.2.1 ∈ j_big) (hty : j_ty a b = .int ∨ (j_ty a b = .boolean ∧ (x = 0 ∨ x = 1))) (hc : (j_at me.1 c).1 = a + 3)
    (hfin : (j_T a b).2.2.2 = false ∨ (Nat.beq (j_info i).2.2.2.2.2.2 2 = true ∧ (j_T a b).1 = (j_info i).1.cls))
    (kk : j_G l B tA tO dC dI cI cJ cR i d r (pc + 3) L st (me.1, j_w me.2.1 c b x, me.2.2)) : j_G l B tA tO dC dI cI cJ cR i d r pc L (.int x :: .ref c :: st) me := by
  obtain ⟨hg, hlt, -⟩ := j_has (B := B) (tA := tA) (tO := tO) (cI := cI) (cJ := cJ) (cR := cR) hc (by omega)
  rw [j_cell_obj hc] at hg
  have hle : me.1.length ≤ r.2.1.length := kk.1.1
  have hrf : j_isref (j_ty a b) = false := by rcases hty with h | ⟨h, -⟩ <;> rw [h] <;> rfl
  refine ⟨kk.1, fun p e R s m args below meth cd n0 z0 C X r1 r2 hs H locs cells slots ls hP hS hn hz hl => ?_⟩
  show W p l e R s m args below meth cd H locs cells slots _ (F0 m pc ls (.int x :: .ref (j_ad B tA tO c) :: st.map (j_tr B tA tO)))
  rw [j_ad_lt (by omega)]
  refine j_put_row (me := me) C X hP hS hd ha hb hw hg (by simpa using hb) hfin ?_ ?_ (fun H1 locs1 h1 h2 => ?_)
  · rcases hty with h | ⟨h, q | q⟩ <;> rw [h] <;> first | rfl | (rw [q]; decide +kernel)
  · rcases hty with h | ⟨h, q | q⟩ <;> rw [h] <;> first | rfl | (rw [q]; decide +kernel)
  · rw [← j_ws_putI hc ha hb hrf] at h1
    exact kk.2 p e R s m args below meth cd n0 z0 C X r1 r2 hs H1 locs1 cells slots ls h1 h2 hn hz hl
theorem g_putR {c k q : Nat} (hd : decode (j_info i).2.1 pc = .ok (.putfield k, 3)) (h1000 : r.2.1.length ≤ 1000) (ha : a < 12) (hb : b < j_Nf a) (hw : Cond.fieldLink (j_info i).1.cls k (j_T a b).1 (j_T a b).2.1 (j_T a b).2.2.1 ∈ j_big) (hty : j_isref (j_ty a b) = true) (hc : (j_at me.1 c).1 = a + 3)
    (hfin : (j_T a b).2.2.2 = false ∨ (Nat.beq (j_info i).2.2.2.2.2.2 2 = true ∧ (j_T a b).1 = (j_info i).1.cls))
    (kk : j_G l B tA tO dC dI cI cJ cR i d r (pc + 3) L st (j_sr me.1 c b q, me.2.1, me.2.2)) : j_G l B tA tO dC dI cI cJ cR i d r pc L (.ref q :: .ref c :: st) me := by
  obtain ⟨hg, hlt, -⟩ := j_has (B := B) (tA := tA) (tO := tO) (cI := cI) (cJ := cJ) (cR := cR) hc (by omega)
  rw [j_cell_obj hc] at hg
  have hl1 : (j_sr me.1 c b q).length = me.1.length := j_sr_len
  have hl2 : j_sz (j_sr me.1 c b q) = j_sz me.1 := j_sr_sz (by omega)
  have hk : j_le2 me r := ⟨by have h := kk.1.1; rw [show ((j_sr me.1 c b q, me.2.1, me.2.2) : j_Me).1 = j_sr me.1 c b q from rfl, hl1] at h; exact h, by have h := kk.1.2; rw [show ((j_sr me.1 c b q, me.2.1, me.2.2) : j_Me).1 = j_sr me.1 c b q from rfl, hl2] at h; exact h⟩
  have hle : me.1.length ≤ r.2.1.length := hk.1
  refine ⟨hk, fun p e R s m args below meth cd n0 z0 C X r1 r2 hs H locs cells slots ls hP hS hn hz hl => ?_⟩
  show W p l e R s m args below meth cd H locs cells slots _ (F0 m pc ls (.ref (j_ad B tA tO q) :: .ref (j_ad B tA tO c) :: st.map (j_tr B tA tO)))
  rw [j_ad_lt (a := c) (by omega)]
  refine j_put_row (me := me) C X hP hS hd ha hb hw hg (by simpa using hb) hfin ?_ ?_ (fun H1 locs1 h1 h2 => ?_)
  · cases ht : j_ty a b <;> rw [ht] at hty <;> first | rfl | (cases hty; done)
  · cases ht : j_ty a b <;> rw [ht] at hty <;> first | rfl | (cases hty; done)
  · rw [← j_ws_putR hc ha hb hty] at h1
    exact kk.2 p e R s m args below meth cd n0 z0 C X r1 r2 hs H1 locs1 cells slots ls h1 h2 (hl1.trans hn) (hl2.trans hz) hl
theorem g_iast {c : Nat} {x y : Int32} (hd : decode (j_info i).2.1 pc = .ok (.iastore, 1)) (h1000 : r.2.1.length ≤ 1000) (hc : (j_at me.1 c).1 = 0) (hin : vp_in x (j_at me.1 c).2.1)
    (kk : j_G l B tA tO dC dI cI cJ cR i d r (pc + 1) L st (me.1, j_w me.2.1 c x.toNatClampNeg y, me.2.2)) : j_G l B tA tO dC dI cI cJ cR i d r pc L (.int y :: .int x :: .ref c :: st) me := by
  obtain ⟨hg, hlt, h1⟩ := j_has (B := B) (tA := tA) (tO := tO) (cI := cI) (cJ := cJ) (cR := cR) hc (by omega)
  rw [j_cell_i hc] at hg
  have hle : me.1.length ≤ r.2.1.length := kk.1.1
  refine ⟨kk.1, fun p e R s m args below meth cd n0 z0 C X r1 r2 hs H locs cells slots ls hP hS hn hz hl => ?_⟩
  show W p l e R s m args below meth cd H locs cells slots _ (F0 m pc ls (.int y :: .int x :: .ref (j_ad B tA tO c) :: st.map (j_tr B tA tO)))
  rw [j_ad_lt (by omega)]
  refine va_iast C.1 C.2.1 X.1 hP j_D hS c 0 hg rfl hin hd (fun H1 locs1 q1 _ q2 => ?_)
  have e1 := j_ws_up (B := B) (tA := tA) (tO := tO) (cI := cI) (cJ := cJ) (cR := cR) (S := me.1) (M := me.2.1) (M' := j_w me.2.1 c x.toNatClampNeg y) (N := me.2.2) (N' := me.2.2) h1 j_w_off (fun _ _ => rfl)
  rw [j_cell_i hc, j_w_at] at e1
  rw [show j_ws B tA tO cI cJ cR me = j_ws B tA tO cI cJ cR (me.1, me.2.1, me.2.2) from rfl, ← e1] at q1
  exact kk.2 p e R s m args below meth cd n0 z0 C X r1 r2 hs H1 locs1 cells slots ls q1 q2 hn hz hl
theorem g_last {c : Nat} {x : Int32} {y : Int64} (hd : decode (j_info i).2.1 pc = .ok (.lastore, 1)) (h1000 : r.2.1.length ≤ 1000) (hc : (j_at me.1 c).1 = 1) (hin : vp_in x (j_at me.1 c).2.1)
    (kk : j_G l B tA tO dC dI cI cJ cR i d r (pc + 1) L st (me.1, me.2.1, j_wl me.2.2 c x.toNatClampNeg y)) : j_G l B tA tO dC dI cI cJ cR i d r pc L (.long y :: .int x :: .ref c :: st) me := by
  obtain ⟨hg, hlt, h1⟩ := j_has (B := B) (tA := tA) (tO := tO) (cI := cI) (cJ := cJ) (cR := cR) hc (by omega)
  rw [j_cell_l hc] at hg
  have hle : me.1.length ≤ r.2.1.length := kk.1.1
  refine ⟨kk.1, fun p e R s m args below meth cd n0 z0 C X r1 r2 hs H locs cells slots ls hP hS hn hz hl => ?_⟩
  show W p l e R s m args below meth cd H locs cells slots _ (F0 m pc ls (.long y :: .int x :: .ref (j_ad B tA tO c) :: st.map (j_tr B tA tO)))
  rw [j_ad_lt (by omega)]
  refine va_last C.1 C.2.1 X.1 hP j_D hS c 1 hg rfl hin hd (fun H1 locs1 q1 _ q2 => ?_)
  have e1 := j_ws_up (B := B) (tA := tA) (tO := tO) (cI := cI) (cJ := cJ) (cR := cR) (S := me.1) (M := me.2.1) (M' := me.2.1) (N := me.2.2) (N' := j_wl me.2.2 c x.toNatClampNeg y) h1 (fun _ _ => rfl) j_wl_off
  rw [j_cell_l hc, j_wl_at] at e1
  rw [show j_ws B tA tO cI cJ cR me = j_ws B tA tO cI cJ cR (me.1, me.2.1, me.2.2) from rfl, ← e1] at q1
  exact kk.2 p e R s m args below meth cd n0 z0 C X r1 r2 hs H1 locs1 cells slots ls q1 q2 hn hz hl
theorem g_aast {c q : Nat} {x : Int32} (hd : decode (j_info i).2.1 pc = .ok (.aastore, 1)) (h1000 : r.2.1.length ≤ 1000) (hc : (j_at me.1 c).1 = 2) (hin : vp_in x (j_at me.1 c).2.1) (hq : (j_at me.1 q).1 = 12)
    (kk : j_G l B tA tO dC dI cI cJ cR i d r (pc + 1) L st (j_sr me.1 c x.toNatClampNeg q, me.2.1, me.2.2)) : j_G l B tA tO dC dI cI cJ cR i d r pc L (.ref q :: .int x :: .ref c :: st) me := by
  obtain ⟨hg, hlt, h1⟩ := j_has (B := B) (tA := tA) (tO := tO) (cI := cI) (cJ := cJ) (cR := cR) hc (by omega)
  obtain ⟨hg2, hlt2, h2⟩ := j_has (B := B) (tA := tA) (tO := tO) (cI := cI) (cJ := cJ) (cR := cR) hq (by omega)
  rw [j_cell_r hc] at hg
  rw [j_cell_obj (ci := 9) hq] at hg2
  have hl1 : (j_sr me.1 c x.toNatClampNeg q).length = me.1.length := j_sr_len
  have hl2 : j_sz (j_sr me.1 c x.toNatClampNeg q) = j_sz me.1 := j_sr_sz (by omega)
  have hk : j_le2 me r := ⟨by have h := kk.1.1; rw [show ((j_sr me.1 c x.toNatClampNeg q, me.2.1, me.2.2) : j_Me).1 = j_sr me.1 c x.toNatClampNeg q from rfl, hl1] at h; exact h, by have h := kk.1.2; rw [show ((j_sr me.1 c x.toNatClampNeg q, me.2.1, me.2.2) : j_Me).1 = j_sr me.1 c x.toNatClampNeg q from rfl, hl2] at h; exact h⟩
  have hle : me.1.length ≤ r.2.1.length := hk.1
  refine ⟨hk, fun p e R s m args below meth cd n0 z0 C X r1 r2 hs H locs cells slots ls hP hS hn hz hl => ?_⟩
  show W p l e R s m args below meth cd H locs cells slots _ (F0 m pc ls (.ref (j_ad B tA tO q) :: .int x :: .ref (j_ad B tA tO c) :: st.map (j_tr B tA tO)))
  rw [j_ad_lt (a := c) (by omega), j_ad_lt (a := q) (by omega)]
  refine va_astq (r := (RX9, TX9, 5)) C.1 C.2.1 X.1 hP j_D hS c 2 q 9 hg rfl hg2 rfl hin hd (fun H1 locs1 q1 _ q2 => ?_)
  have e1 := j_ws_set (B := B) (tA := tA) (tO := tO) (cI := cI) (cJ := cJ) (cR := cR) (S := me.1) (M := me.2.1) (M' := me.2.1) (N := me.2.2) (N' := me.2.2) ((j_at me.1 c).1, (j_at me.1 c).2.1, j_setx (j_at me.1 c).2.2 x.toNatClampNeg q) hlt (fun _ _ => rfl) (fun _ _ => rfl)
  rw [j_cell_r (x := ((j_at me.1 c).1, (j_at me.1 c).2.1, j_setx (j_at me.1 c).2.2 x.toNatClampNeg q)) hc] at e1
  have e2 : (fun k => (j_nth (j_setx (j_at me.1 c).2.2 x.toNatClampNeg q) k).map (j_ad B tA tO)) = va_up (fun k => (j_nth (j_at me.1 c).2.2 k).map (j_ad B tA tO)) x.toNatClampNeg (some (B + q)) := by
    funext k
    rw [j_nth_set]
    unfold va_up
    by_cases hkx : k = x.toNatClampNeg
    · rw [if_pos hkx, if_pos hkx, Option.map_some, j_ad_lt (by omega)]
    · rw [if_neg hkx, if_neg hkx]
  dsimp only at e1
  rw [e2] at e1
  rw [show j_ws B tA tO cI cJ cR me = j_ws B tA tO cI cJ cR (me.1, me.2.1, me.2.2) from rfl, ← e1] at q1
  exact kk.2 p e R s m args below meth cd n0 z0 C X r1 r2 hs H1 locs1 cells slots ls q1 q2 (hl1.trans hn) (hl2.trans hz) hl
end JW
section JN
variable {l : Launch} {B tA tO : Nat} {dC : Nat → ClassId} {dI : Nat → Nat → Nat} {cI cJ cR : ClassId}
variable {i d : Nat} {r : j_R} {pc a b : Nat} {L st : List Value} {me : j_Me}
theorem j_cat_sum {st : List Value} : ((st.map (j_tr B tA tO)).map fun v => v.category).sum = j_cat st := by
  induction st with
  | nil => rfl
  | cons v q ih =>
    rw [List.map_cons, List.map_cons, List.sum_cons, ih, j_tr_cat]
    rfl
theorem j_bound {p : Program} {e : Env} {R : Room} {s : State} {m : MethodId} {args : Array Value} {below : List Frame} {meth : Method} {c : Code} {H : Heap} {locs : List Loc} {cells slots : Nat} {Q : State → Prop} {g : JFrame} (h : H.size ≤ s.heap.size + cells → W p l e R s m args below meth c H locs cells slots Q g) : W p l e R s m args below meth c H locs cells slots Q g := fun T hT X => h (by rw [← hT]; exact X.heapSize) T hT X
theorem j_low {H : Heap} {D : va_G} {k : Nat} (hP : va_P D vwCl (j_ws B tA tO cI cJ cR me) H) (hk : k < me.1.length) : B + k < H.size := by
  have h1 : me.1[k]? = some me.1[k] := List.getElem?_eq_getElem hk
  exact (hP k _ (j_ws_get h1)).lt
theorem j_size {H : Heap} {s : State} {locs : List Loc} {D : va_G} {n0 cells : Nat} (hP : va_P D vwCl (j_ws B tA tO cI cJ cR me) H) (hS : va_S (j_A B) s.heap H locs) (hs : s.heap.size = B + n0) (hn : me.1.length = n0 + cells) (hb : H.size ≤ s.heap.size + cells) : H.size = B + me.1.length := by
  have h1 : s.heap.size ≤ H.size := hS.1
  rcases Nat.eq_zero_or_pos cells with z | z
  · omega
  · have := j_low hP (k := me.1.length - 1) (by omega)
    omega
theorem g_max {k : Nat} {x y : Int32} (hd : decode (j_info i).2.1 pc = .ok (.invokestatic k, 3)) (hw : Cond.methodLink (j_info i).1.cls k Lib.Math.max.name ∈ j_big) (hcat : j_cat st ≤ 8) (kk : j_G l B tA tO dC dI cI cJ cR i d r (pc + 3) L (.int (if x < y then y else x) :: st) me) : j_G l B tA tO dC dI cI cJ cR i d r pc L (.int y :: .int x :: st) me := by
  have hle := kk.1
  refine ⟨kk.1, fun p e R s m args below meth cd n0 z0 C X r1 r2 hs H locs cells slots ls hP hS hn hz hl => ?_⟩
  have hw2 := C.2.2.2.2.2.2.1
  have hf := C.2.2.2.2.2.2.2.2.1
  have hlo := C.2.2.2.2.2.2.2.2.2
  have q1 := hle.1
  have q2 := hle.2
  exact va_mmax C.1 C.2.1 (C.2.2.1.trans hl.1.symm) C.2.2.2.2.2.1 (hw2 _ hw) (hw2 _ (j_fix_mem _ (by simp [j_fix]))) (hw2 _ (j_fix_mem _ (by simp [j_fix]))) (hw2 _ (j_fix_mem _ (by simp [j_fix]))) (by omega) (by rw [j_cat_sum]; omega) (by omega) (by omega) hd (kk.2 p e R s m args below meth cd n0 z0 C X r1 r2 hs H locs cells slots ls hP hS hn hz hl)
theorem g_min {k : Nat} {x y : Int32} (hd : decode (j_info i).2.1 pc = .ok (.invokestatic k, 3)) (hw : Cond.methodLink (j_info i).1.cls k Lib.Math.min.name ∈ j_big) (hcat : j_cat st ≤ 8) (kk : j_G l B tA tO dC dI cI cJ cR i d r (pc + 3) L (.int (if y < x then y else x) :: st) me) : j_G l B tA tO dC dI cI cJ cR i d r pc L (.int y :: .int x :: st) me := by
  have hle := kk.1
  refine ⟨kk.1, fun p e R s m args below meth cd n0 z0 C X r1 r2 hs H locs cells slots ls hP hS hn hz hl => ?_⟩
  have hw2 := C.2.2.2.2.2.2.1
  have hf := C.2.2.2.2.2.2.2.2.1
  have hlo := C.2.2.2.2.2.2.2.2.2
  have q1 := hle.1
  have q2 := hle.2
  exact va_mmin C.1 C.2.1 (C.2.2.1.trans hl.1.symm) C.2.2.2.2.2.1 (hw2 _ hw) (hw2 _ (j_fix_mem _ (by simp [j_fix]))) (hw2 _ (j_fix_mem _ (by simp [j_fix]))) (hw2 _ (j_fix_mem _ (by simp [j_fix]))) (by omega) (by rw [j_cat_sum]; omega) (by omega) (by omega) hd (kk.2 p e R s m args below meth cd n0 z0 C X r1 r2 hs H locs cells slots ls hP hS hn hz hl)
theorem g_minL {k : Nat} {x y : Int64} (hd : decode (j_info i).2.1 pc = .ok (.invokestatic k, 3)) (hw : Cond.methodLink (j_info i).1.cls k Lib.MathLoose.min_long.x ∈ j_big) (hcat : j_cat st ≤ 8) (kk : j_G l B tA tO dC dI cI cJ cR i d r (pc + 3) L (.long (if y < x then y else x) :: st) me) : j_G l B tA tO dC dI cI cJ cR i d r pc L (.long y :: .long x :: st) me := by
  have hle := kk.1
  refine ⟨kk.1, fun p e R s m args below meth cd n0 z0 C X r1 r2 hs H locs cells slots ls hP hS hn hz hl => ?_⟩
  have hw2 := C.2.2.2.2.2.2.1
  have hf := C.2.2.2.2.2.2.2.2.1
  have hlo := C.2.2.2.2.2.2.2.2.2
  have q1 := hle.1
  have q2 := hle.2
  exact va_mmin_long C.1 C.2.1 (C.2.2.1.trans hl.1.symm) C.2.2.2.2.2.1 (hw2 _ hw) (hw2 _ (j_fix_mem _ (by simp [j_fix]))) (hw2 _ (j_fix_mem _ (by simp [j_fix]))) (hw2 _ (j_fix_mem _ (by simp [j_fix]))) (by omega) (by rw [j_cat_sum]; omega) (by omega) (by omega) hd (kk.2 p e R s m args below meth cd n0 z0 C X r1 r2 hs H locs cells slots ls hP hS hn hz hl)
theorem j_nfw : nativeFrameWords "java/lang/System" "arraycopy" 5 + 11 ≤ 50 := by decide +kernel
theorem g_cpI {k a0 c : Nat} {sp dp n : Int32} (hd : decode (j_info i).2.1 pc = .ok (.invokestatic k, 3)) (h1000 : r.2.1.length ≤ 1000) (hw : Cond.methodLink (j_info i).1.cls k arraycopyName ∈ j_big) (hcat : j_cat st ≤ 8) (h0 : (j_at me.1 a0).1 = 0) (h1 : (j_at me.1 c).1 = 0) (b1 : ¬ sp < 0) (b2 : ¬ dp < 0) (b3 : ¬ n < 0) (b4 : sp.toNatClampNeg + n.toNatClampNeg ≤ (j_at me.1 a0).2.1) (b5 : dp.toNatClampNeg + n.toNatClampNeg ≤ (j_at me.1 c).2.1)
    (kk : j_G l B tA tO dC dI cI cJ cR i d r (pc + 3) L st (me.1, j_row me.2.1 c (va_cpy (me.2.1 a0) (me.2.1 c) sp.toNatClampNeg dp.toNatClampNeg n.toNatClampNeg), me.2.2)) : j_G l B tA tO dC dI cI cJ cR i d r pc L (.int n :: .int dp :: .ref c :: .int sp :: .ref a0 :: st) me := by
  obtain ⟨hg0, hlt0, -⟩ := j_has (B := B) (tA := tA) (tO := tO) (cI := cI) (cJ := cJ) (cR := cR) h0 (by omega)
  obtain ⟨hg, hlt, hx⟩ := j_has (B := B) (tA := tA) (tO := tO) (cI := cI) (cJ := cJ) (cR := cR) h1 (by omega)
  rw [j_cell_i h0] at hg0
  rw [j_cell_i h1] at hg
  have hle : me.1.length ≤ r.2.1.length := kk.1.1
  refine ⟨kk.1, fun p e R s m args below meth cd n0 z0 C X r1 r2 hs H locs cells slots ls hP hS hn hz hl => ?_⟩
  show W p l e R s m args below meth cd H locs cells slots _ (F0 m pc ls (.int n :: .int dp :: .ref (j_ad B tA tO c) :: .int sp :: .ref (j_ad B tA tO a0) :: st.map (j_tr B tA tO)))
  rw [j_ad_lt (a := c) (by omega), j_ad_lt (a := a0) (by omega)]
  have hw2 := C.2.2.2.2.2.2.1
  have hf := C.2.2.2.2.2.2.2.2.1
  have hlo := C.2.2.2.2.2.2.2.2.2
  refine va_copyi C.1 C.2.1 (C.2.2.1.trans hl.1.symm) C.2.2.2.2.2.1 (hw2 _ hw) (hw2 _ (j_fix_mem _ (by simp [j_fix]))) (hw2 _ (j_fix_mem _ (by simp [j_fix]))) (hw2 _ (j_fix_mem _ (by simp [j_fix]))) X.1 hP j_D hS a0 c 0 0 hg0 hg rfl rfl rfl b1 b2 b3 b4 b5 (fun _ _ => rfl) (by omega) (by rw [j_cat_sum]; have := j_nfw; omega) hd (fun H1 locs1 q1 _ q2 => ?_)
  have e1 := j_ws_up (B := B) (tA := tA) (tO := tO) (cI := cI) (cJ := cJ) (cR := cR) (S := me.1) (M := me.2.1) (M' := j_row me.2.1 c (va_cpy (me.2.1 a0) (me.2.1 c) sp.toNatClampNeg dp.toNatClampNeg n.toNatClampNeg)) (N := me.2.2) (N' := me.2.2) hx j_row_off (fun _ _ => rfl)
  rw [j_cell_i h1, j_row_at] at e1
  rw [show j_ws B tA tO cI cJ cR me = j_ws B tA tO cI cJ cR (me.1, me.2.1, me.2.2) from rfl, ← e1] at q1
  exact kk.2 p e R s m args below meth cd n0 z0 C X r1 r2 hs H1 locs1 cells slots ls q1 q2 hn hz hl
theorem g_cpL {k a0 c : Nat} {sp dp n : Int32} (hd : decode (j_info i).2.1 pc = .ok (.invokestatic k, 3)) (h1000 : r.2.1.length ≤ 1000) (hw : Cond.methodLink (j_info i).1.cls k arraycopyName ∈ j_big) (hcat : j_cat st ≤ 8) (h0 : (j_at me.1 a0).1 = 1) (h1 : (j_at me.1 c).1 = 1) (b1 : ¬ sp < 0) (b2 : ¬ dp < 0) (b3 : ¬ n < 0) (b4 : sp.toNatClampNeg + n.toNatClampNeg ≤ (j_at me.1 a0).2.1) (b5 : dp.toNatClampNeg + n.toNatClampNeg ≤ (j_at me.1 c).2.1)
    (kk : j_G l B tA tO dC dI cI cJ cR i d r (pc + 3) L st (me.1, me.2.1, j_rowl me.2.2 c (va_cpy (me.2.2 a0) (me.2.2 c) sp.toNatClampNeg dp.toNatClampNeg n.toNatClampNeg))) : j_G l B tA tO dC dI cI cJ cR i d r pc L (.int n :: .int dp :: .ref c :: .int sp :: .ref a0 :: st) me := by
  obtain ⟨hg0, hlt0, -⟩ := j_has (B := B) (tA := tA) (tO := tO) (cI := cI) (cJ := cJ) (cR := cR) h0 (by omega)
  obtain ⟨hg, hlt, hx⟩ := j_has (B := B) (tA := tA) (tO := tO) (cI := cI) (cJ := cJ) (cR := cR) h1 (by omega)
  rw [j_cell_l h0] at hg0
  rw [j_cell_l h1] at hg
  have hle : me.1.length ≤ r.2.1.length := kk.1.1
  refine ⟨kk.1, fun p e R s m args below meth cd n0 z0 C X r1 r2 hs H locs cells slots ls hP hS hn hz hl => ?_⟩
  show W p l e R s m args below meth cd H locs cells slots _ (F0 m pc ls (.int n :: .int dp :: .ref (j_ad B tA tO c) :: .int sp :: .ref (j_ad B tA tO a0) :: st.map (j_tr B tA tO)))
  rw [j_ad_lt (a := c) (by omega), j_ad_lt (a := a0) (by omega)]
  have hw2 := C.2.2.2.2.2.2.1
  have hf := C.2.2.2.2.2.2.2.2.1
  have hlo := C.2.2.2.2.2.2.2.2.2
  refine va_copyl C.1 C.2.1 (C.2.2.1.trans hl.1.symm) C.2.2.2.2.2.1 (hw2 _ hw) (hw2 _ (j_fix_mem _ (by simp [j_fix]))) (hw2 _ (j_fix_mem _ (by simp [j_fix]))) (hw2 _ (j_fix_mem _ (by simp [j_fix]))) X.1 hP j_D hS a0 c 1 1 hg0 hg rfl rfl rfl b1 b2 b3 b4 b5 (fun _ _ => rfl) (by omega) (by rw [j_cat_sum]; have := j_nfw; omega) hd (fun H1 locs1 q1 _ q2 => ?_)
  have e1 := j_ws_up (B := B) (tA := tA) (tO := tO) (cI := cI) (cJ := cJ) (cR := cR) (S := me.1) (M := me.2.1) (M' := me.2.1) (N := me.2.2) (N' := j_rowl me.2.2 c (va_cpy (me.2.2 a0) (me.2.2 c) sp.toNatClampNeg dp.toNatClampNeg n.toNatClampNeg)) hx (fun _ _ => rfl) j_rowl_off
  rw [j_cell_l h1, j_rowl_at] at e1
  rw [show j_ws B tA tO cI cJ cR me = j_ws B tA tO cI cJ cR (me.1, me.2.1, me.2.2) from rfl, ← e1] at q1
  exact kk.2 p e R s m args below meth cd n0 z0 C X r1 r2 hs H1 locs1 cells slots ls q1 q2 hn hz hl
theorem g_obj {k c : Nat} (hd : decode (j_info i).2.1 pc = .ok (.invokespecial k, 3)) (hw : Cond.methodLink (j_info i).1.cls k objectInit ∈ j_big) (hcat : j_cat st ≤ 8) (kk : j_G l B tA tO dC dI cI cJ cR i d r (pc + 3) L st me) : j_G l B tA tO dC dI cI cJ cR i d r pc L (.ref c :: st) me := by
  refine ⟨kk.1, fun p e R s m args below meth cd n0 z0 C X r1 r2 hs H locs cells slots ls hP hS hn hz hl => ?_⟩
  have hw2 := C.2.2.2.2.2.2.1
  have hf := C.2.2.2.2.2.2.2.2.1
  have hlo := C.2.2.2.2.2.2.2.2.2
  have hr8 : 2 * (F0 m pc ls ((Value.ref c :: st).map (j_tr B tA tO))).monitorRoom + ((st.map (j_tr B tA tO)).map fun v => v.category).sum ≤ 8 := lv_room (by rw [j_cat_sum]; exact hcat)
  exact W.objInit C.1 C.2.1 C.2.2.2.2.2.1 (hw2 _ hw) (hw2 _ (j_fix_mem _ (by simp [j_fix]))) (hw2 _ (j_fix_mem _ (by simp [j_fix]))) (g := F0 m pc ls ((Value.ref c :: st).map (j_tr B tA tO))) rfl (hl.1.trans C.2.2.1.symm) (a := j_ad B tA tO c) (rest := st.map (j_tr B tA tO)) rfl hd (by omega) (by omega) (kk.2 p e R s m args below meth cd n0 z0 C X r1 r2 hs H locs cells slots ls hP hS hn hz hl)
/-- where a new cell lies -/
theorem j_fresh {H1 : Heap} {D : va_G} {q : Nat} {x : va_E} (hP : va_P D vwCl (j_ws B tA tO cI cJ cR me ++ [(q, x)]) H1) (hD : va_D (j_A B) (j_ws B tA tO cI cJ cR me ++ [(q, x)])) (hz : H1.size ≤ B + me.1.length + 1) : q = B + me.1.length := by
  have hlen : (j_ws B tA tO cI cJ cR me).length = me.1.length := j_ws_len
  have hlast : (j_ws B tA tO cI cJ cR me ++ [(q, x)])[me.1.length]? = some (q, x) := by
    rw [List.getElem?_append_right (by omega), hlen, Nat.sub_self]
    rfl
  have h1 : q < H1.size := (hP _ _ hlast).lt
  have h2 : B ≤ q := hD.2 _ _ hlast
  rcases Nat.lt_or_ge q (B + me.1.length) with h3 | h3
  · exfalso
    have hk : q - B < me.1.length := by omega
    have hx : me.1[q - B]? = some me.1[q - B] := List.getElem?_eq_getElem hk
    have hg := j_ws_get (B := B) (tA := tA) (tO := tO) (cI := cI) (cJ := cJ) (cR := cR) hx
    have := hD.1 (q - B) me.1.length _ _ (by rw [List.getElem?_append_left (by omega)]; exact hg) hlast (by show B + (q - B) = q; omega)
    omega
  · omega
theorem g_new {k : Nat} (hd : decode (j_info i).2.1 pc = .ok (.new k, 3)) (h1000 : r.2.1.length ≤ 1000) (ha : a < 12) (hb : b = j_Nf a) (hw : Cond.classLink (j_info i).1.cls k (j_cn a) ∈ j_big)
    (kk : j_G l B tA tO dC dI cI cJ cR i d r (pc + 3) L (.ref me.1.length :: st) (me.1 ++ [(a + 3, b, List.replicate b none)], j_row me.2.1 me.1.length (fun _ => 0), me.2.2)) : j_G l B tA tO dC dI cI cJ cR i d r pc L st me := by
  subst hb
  have hle1 : me.1.length + 1 ≤ r.2.1.length := by have h := kk.1.1; rw [List.length_append] at h; exact h
  have hle2 : j_sz me.1 + j_Nf a ≤ j_sz r.2.1 := by have h := kk.1.2; rw [j_sz_append] at h; simp only [j_sz] at h; omega
  refine ⟨⟨by omega, by omega⟩, fun p e R s m args below meth cd n0 z0 C X r1 r2 hs H locs cells slots ls hP hS hn hz hl => ?_⟩
  have hw2 := C.2.2.2.2.2.2.1
  have hin := j_inst a ha
  rw [Bool.and_eq_true] at hin
  refine va_new (fs := (List.range (j_Nf a)).map (fun k => j_fv (j_ad B tA tO) (fun _ => 0) (List.replicate (j_Nf a) none) (j_ty a k) k)) C.1 C.2.1 hw2 (j_lay_mem ha) (j_ty a) (j_tyok a ha) C.2.2.2.2.2.1 (hw2 _ hw) (hw2 _ (j_hw_mem hin.1)) (hw2 _ (j_hw_mem hin.2)) X.1 hP j_D hS (fun q hq => by show B ≤ q; omega) (j_cl a ha) (fun j hj => ?_) (by omega) (by omega) hd (fun q H1 q1 q2 q3 => ?_)
  · unfold vp_V
    rw [List.getD_eq_getElem?_getD, j_fld hj]
    simp only [Option.getD_some, j_fv, j_nth_rep, Option.map_none, va_rf]
    rcases j_tys3 a ha j hj with h | h | h
    · rw [h]; rfl
    · rw [h]; rfl
    · rw [h]
      cases ht : j_ty a j <;> rw [ht] at h <;> first | rfl | (cases h; done)
  · refine j_bound fun hbd => ?_
    have e := j_fresh q1 q2 (by omega)
    subst e
    have e1 := j_ws_push (B := B) (tA := tA) (tO := tO) (cI := cI) (cJ := cJ) (cR := cR) (S := me.1) (M := me.2.1) (M' := j_row me.2.1 me.1.length (fun _ => 0)) (N := me.2.2) (N' := me.2.2) (a + 3, j_Nf a, List.replicate (j_Nf a) none) (fun q hq => j_row_off q (by omega)) (fun _ _ => rfl)
    rw [j_cell_obj (ci := a) (x := (a + 3, j_Nf a, List.replicate (j_Nf a) none)) rfl, j_row_at] at e1
    rw [show j_ws B tA tO cI cJ cR me = j_ws B tA tO cI cJ cR (me.1, me.2.1, me.2.2) from rfl, ← e1] at q1
    have z := kk.2 p e R s m args below meth cd n0 z0 C X r1 r2 hs H1 locs (cells + 1) (slots + j_Nf a) ls q1 q3 (by show (me.1 ++ [_]).length = _; rw [List.length_append]; show me.1.length + 1 = _; omega) (by show j_sz (me.1 ++ [_]) = _; rw [j_sz_append]; simp only [j_sz]; omega) hl
    rw [show ((Value.ref me.1.length :: st).map (j_tr B tA tO)) = .ref (j_ad B tA tO me.1.length) :: st.map (j_tr B tA tO) from rfl, j_ad_lt (by omega)] at z
    exact z
theorem g_newI {n : Int32} (hd : decode (j_info i).2.1 pc = .ok (.newarray .int, 2)) (h1000 : r.2.1.length ≤ 1000) (hn0 : ¬ n < 0) (hn1 : n.toNatClampNeg ≤ 65536)
    (kk : j_G l B tA tO dC dI cI cJ cR i d r (pc + 2) L (.ref me.1.length :: st) (me.1 ++ [(0, n.toNatClampNeg, [])], j_row me.2.1 me.1.length (fun _ => 0), me.2.2)) : j_G l B tA tO dC dI cI cJ cR i d r pc L (.int n :: st) me := by
  have hle1 : me.1.length + 1 ≤ r.2.1.length := by have h := kk.1.1; rw [List.length_append] at h; exact h
  have hle2 : j_sz me.1 + n.toNatClampNeg ≤ j_sz r.2.1 := by have h := kk.1.2; rw [j_sz_append] at h; simp only [j_sz] at h; omega
  refine ⟨⟨by omega, by omega⟩, fun p e R s m args below meth cd n0 z0 C X r1 r2 hs H locs cells slots ls hP hS hn hz hl => ?_⟩
  have hw2 := C.2.2.2.2.2.2.1
  refine va_newa (atype := .int) (ty := .int) (a0 := (n.toNatClampNeg, .inl (fun _ => 0))) C.1 C.2.1 (hw2 _ (j_fix_mem _ (by simp [j_fix, newarray.typeOf]))) rfl X.1 hP j_D hS (fun q hq => by show B ≤ q; omega) (fun _ => rfl) hn0 rfl (by show n.toNatClampNeg * 4 ≤ _; omega) (by omega) (by omega) hd (fun q cA H1 q0 q1 q2 q3 => ?_)
  have hcA : cA = cI := by
    have h1 : s.vm.findClass ("[" ++ FieldType.int.toString) = some cA := (q0.2 3 (cA, .int) rfl).2
    have h2 : s.vm.findClass ("[" ++ FieldType.int.toString) = some cI := (X.1.2 0 (cI, .int) rfl).2
    exact Option.some.inj (h1.symm.trans h2)
  subst hcA
  refine j_bound fun hbd => ?_
  have e := j_fresh q1 q2 (by omega)
  subst e
  have e1 := j_ws_push (B := B) (tA := tA) (tO := tO) (cI := cA) (cJ := cJ) (cR := cR) (S := me.1) (M := me.2.1) (M' := j_row me.2.1 me.1.length (fun _ => 0)) (N := me.2.2) (N' := me.2.2) (0, n.toNatClampNeg, []) (fun q hq => j_row_off q (by omega)) (fun _ _ => rfl)
  rw [j_cell_i (x := (0, n.toNatClampNeg, [])) rfl, j_row_at] at e1
  rw [show j_ws B tA tO cA cJ cR me = j_ws B tA tO cA cJ cR (me.1, me.2.1, me.2.2) from rfl, ← e1] at q1
  have z := kk.2 p e R s m args below meth cd n0 z0 C X r1 r2 hs H1 locs (cells + 1) (slots + n.toNatClampNeg) ls q1 q3 (by show (me.1 ++ [_]).length = _; rw [List.length_append]; show me.1.length + 1 = _; omega) (by show j_sz (me.1 ++ [_]) = _; rw [j_sz_append]; simp only [j_sz]; omega) hl
  rw [show ((Value.ref me.1.length :: st).map (j_tr B tA tO)) = .ref (j_ad B tA tO me.1.length) :: st.map (j_tr B tA tO) from rfl, j_ad_lt (by omega)] at z
  exact z
theorem g_newL {n : Int32} (hd : decode (j_info i).2.1 pc = .ok (.newarray .long, 2)) (h1000 : r.2.1.length ≤ 1000) (hn0 : ¬ n < 0) (hn1 : n.toNatClampNeg ≤ 65536)
    (kk : j_G l B tA tO dC dI cI cJ cR i d r (pc + 2) L (.ref me.1.length :: st) (me.1 ++ [(1, n.toNatClampNeg, [])], me.2.1, j_rowl me.2.2 me.1.length (fun _ => 0))) : j_G l B tA tO dC dI cI cJ cR i d r pc L (.int n :: st) me := by
  have hle1 : me.1.length + 1 ≤ r.2.1.length := by have h := kk.1.1; rw [List.length_append] at h; exact h
  have hle2 : j_sz me.1 + n.toNatClampNeg ≤ j_sz r.2.1 := by have h := kk.1.2; rw [j_sz_append] at h; simp only [j_sz] at h; omega
  refine ⟨⟨by omega, by omega⟩, fun p e R s m args below meth cd n0 z0 C X r1 r2 hs H locs cells slots ls hP hS hn hz hl => ?_⟩
  have hw2 := C.2.2.2.2.2.2.1
  refine va_newa (atype := .long) (ty := .long) (a0 := (n.toNatClampNeg, .inr (.inl (fun _ => 0)))) C.1 C.2.1 (hw2 _ (j_fix_mem _ (by simp [j_fix, newarray.typeOf]))) rfl X.1 hP j_D hS (fun q hq => by show B ≤ q; omega) (fun _ => rfl) hn0 rfl (by show n.toNatClampNeg * 8 ≤ _; omega) (by omega) (by omega) hd (fun q cA H1 q0 q1 q2 q3 => ?_)
  have hcA : cA = cJ := by
    have h1 : s.vm.findClass ("[" ++ FieldType.long.toString) = some cA := (q0.2 3 (cA, .long) rfl).2
    have h2 : s.vm.findClass ("[" ++ FieldType.long.toString) = some cJ := (X.1.2 1 (cJ, .long) rfl).2
    exact Option.some.inj (h1.symm.trans h2)
  subst hcA
  refine j_bound fun hbd => ?_
  have e := j_fresh q1 q2 (by omega)
  subst e
  have e1 := j_ws_push (B := B) (tA := tA) (tO := tO) (cI := cI) (cJ := cA) (cR := cR) (S := me.1) (M := me.2.1) (M' := me.2.1) (N := me.2.2) (N' := j_rowl me.2.2 me.1.length (fun _ => 0)) (1, n.toNatClampNeg, []) (fun _ _ => rfl) (fun q hq => j_rowl_off q (by omega))
  rw [j_cell_l (x := (1, n.toNatClampNeg, [])) rfl, j_rowl_at] at e1
  rw [show j_ws B tA tO cI cA cR me = j_ws B tA tO cI cA cR (me.1, me.2.1, me.2.2) from rfl, ← e1] at q1
  have z := kk.2 p e R s m args below meth cd n0 z0 C X r1 r2 hs H1 locs (cells + 1) (slots + n.toNatClampNeg) ls q1 q3 (by show (me.1 ++ [_]).length = _; rw [List.length_append]; show me.1.length + 1 = _; omega) (by show j_sz (me.1 ++ [_]) = _; rw [j_sz_append]; simp only [j_sz]; omega) hl
  rw [show ((Value.ref me.1.length :: st).map (j_tr B tA tO)) = .ref (j_ad B tA tO me.1.length) :: st.map (j_tr B tA tO) from rfl, j_ad_lt (by omega)] at z
  exact z
theorem g_newR {k : Nat} {n : Int32} (hd : decode (j_info i).2.1 pc = .ok (.anewarray k, 3)) (h1000 : r.2.1.length ≤ 1000) (hw : Cond.classLink (j_info i).1.cls k RX9 ∈ j_big) (hn0 : ¬ n < 0) (hn1 : n.toNatClampNeg ≤ 65536)
    (kk : j_G l B tA tO dC dI cI cJ cR i d r (pc + 3) L (.ref me.1.length :: st) (me.1 ++ [(2, n.toNatClampNeg, List.replicate n.toNatClampNeg none)], me.2.1, me.2.2)) : j_G l B tA tO dC dI cI cJ cR i d r pc L (.int n :: st) me := by
  have hle1 : me.1.length + 1 ≤ r.2.1.length := by have h := kk.1.1; rw [List.length_append] at h; exact h
  have hle2 : j_sz me.1 + n.toNatClampNeg ≤ j_sz r.2.1 := by have h := kk.1.2; rw [j_sz_append] at h; simp only [j_sz] at h; omega
  refine ⟨⟨by omega, by omega⟩, fun p e R s m args below meth cd n0 z0 C X r1 r2 hs H locs cells slots ls hP hS hn hz hl => ?_⟩
  have hw2 := C.2.2.2.2.2.2.1
  refine va_newq C.1 C.2.1 C.2.2.2.2.2.1 (hw2 _ hw) X.2.2.1 X.1 hP j_D hS (fun q hq => by show B ≤ q; omega) hn0 rfl (by omega) (by omega) (by omega) hd (fun q cA H1 q0 q1 q2 q3 => ?_)
  have hcA : cA = cR := by
    obtain ⟨_, _, _, _, _, h1⟩ := (q0.2 3 (cA, .object RX9) rfl).2
    obtain ⟨_, _, _, _, _, h2⟩ := (X.1.2 2 (cR, .object RX9) rfl).2
    exact Option.some.inj (h1.symm.trans h2)
  subst hcA
  refine j_bound fun hbd => ?_
  have e := j_fresh q1 q2 (by omega)
  subst e
  have e1 := j_ws_push (B := B) (tA := tA) (tO := tO) (cI := cI) (cJ := cJ) (cR := cA) (S := me.1) (M := me.2.1) (M' := me.2.1) (N := me.2.2) (N' := me.2.2) (2, n.toNatClampNeg, List.replicate n.toNatClampNeg none) (fun _ _ => rfl) (fun _ _ => rfl)
  rw [j_cell_r (x := (2, n.toNatClampNeg, List.replicate n.toNatClampNeg none)) rfl] at e1
  have e2 : (fun k => (j_nth (List.replicate n.toNatClampNeg none) k).map (j_ad B tA tO)) = (fun _ => none) := by
    funext k
    rw [j_nth_rep]
    rfl
  dsimp only at e1
  rw [e2] at e1
  rw [show j_ws B tA tO cI cJ cA me = j_ws B tA tO cI cJ cA (me.1, me.2.1, me.2.2) from rfl, ← e1] at q1
  have z := kk.2 p e R s m args below meth cd n0 z0 C X r1 r2 hs H1 locs (cells + 1) (slots + n.toNatClampNeg) ls q1 q3 (by show (me.1 ++ [_]).length = _; rw [List.length_append]; show me.1.length + 1 = _; omega) (by show j_sz (me.1 ++ [_]) = _; rw [j_sz_append]; simp only [j_sz]; omega) hl
  rw [show ((Value.ref me.1.length :: st).map (j_tr B tA tO)) = .ref (j_ad B tA tO me.1.length) :: st.map (j_tr B tA tO) from rfl, j_ad_lt (by omega)] at z
  exact z
end JN
