/-! ===== words of the tables, for every state (own text; rows printed by wip/whole/gentabs.py) ===== -/
def j_big : List Cond := lw_tbl.filter goodWord
theorem j_hw_mem {p : Nat} {w : Cond} (h : j_hw p w = true) : w ∈ j_big := by
  unfold j_hw j_hn at h
  rw [Bool.and_eq_true, decide_eq_true_eq] at h
  exact List.mem_filter.mpr ⟨List.mem_of_getElem? h.1, h.2⟩
theorem j_hn_mem {p : Nat} {w : Cond} (h : j_hn p w = true) : w ∈ lw_tbl := by
  unfold j_hn at h
  rw [decide_eq_true_eq] at h
  exact List.mem_of_getElem? h
theorem j_wok_mem : ∀ (ps : List Nat) (ws : List Cond), j_wok ps ws = true → ∀ w ∈ ws, w ∈ j_big
  | _, [], _, _, h => absurd h List.not_mem_nil
  | [], _ :: _, h, _, _ => by cases h
  | p :: ps, w :: ws, h, x, hx => by
    unfold j_wok at h
    rw [Bool.and_eq_true] at h
    rcases List.mem_cons.mp hx with rfl | hx
    · exact j_hw_mem h.1
    · exact j_wok_mem ps ws h.2 x hx
theorem j_zip_mem {β : Type} {f : Nat → β → Bool} : ∀ (ps : List Nat) (xs : List β), j_zip f ps xs = true → ∀ (k : Nat) (x : β), xs[k]? = some x → ∃ p, f p x = true
  | _, [], _, _, _, h => by simp at h
  | [], _ :: _, h, _, _, _ => by cases h
  | p :: ps, y :: ys, h, k, x, hx => by
    unfold j_zip at h
    rw [Bool.and_eq_true] at h
    cases k with
    | zero =>
      have : y = x := by simpa using hx
      subst this
      exact ⟨p, h.1⟩
    | succ k =>
      rw [List.getElem?_cons_succ] at hx
      exact j_zip_mem ps ys h.2 k x hx
theorem j_chunk {β : Type} {l : List β} {p a n : Nat} {q : β} (h : l[p]? = some q) (ha : a ≤ p) (hn : p < a + n) : ((l.drop a).take n)[p - a]? = some q := by
  rw [List.getElem?_take, if_pos (by omega), List.getElem?_drop, show a + (p - a) = p by omega]
  exact h
theorem j_FL_ok {k : Nat} {q : Nat × Nat × Nat × Nat} (h : j_FL[k]? = some q) : ∃ p, j_hw p (j_wFL q) = true := by
  have hk : k < 195 := (List.getElem?_eq_some_iff.mp h).1
  rcases Nat.lt_or_ge k 40 with h40 | h40
  · exact j_zip_mem _ _ j_FL_0 _ _ (j_chunk h (by omega) (by omega))
  rcases Nat.lt_or_ge k 80 with h80 | h80
  · exact j_zip_mem _ _ j_FL_40 _ _ (j_chunk h (by omega) (by omega))
  rcases Nat.lt_or_ge k 120 with h120 | h120
  · exact j_zip_mem _ _ j_FL_80 _ _ (j_chunk h (by omega) (by omega))
  rcases Nat.lt_or_ge k 160 with h160 | h160
  · exact j_zip_mem _ _ j_FL_120 _ _ (j_chunk h (by omega) (by omega))
  rcases Nat.lt_or_ge k 195 with h195 | h195
  · exact j_zip_mem _ _ j_FL_160 _ _ (j_chunk h (by omega) (by omega))
  omega
theorem j_ML_ok {k : Nat} {q : Nat × Nat × Nat × Nat} (h : j_ML[k]? = some q) : ∃ p, (bif Nat.beq q.2.2.2 0 then j_hw p (j_wML q) else j_hn p (j_wML q)) = true := by
  have hk : k < 190 := (List.getElem?_eq_some_iff.mp h).1
  rcases Nat.lt_or_ge k 40 with h40 | h40
  · exact j_zip_mem _ _ j_ML_0 _ _ (j_chunk h (by omega) (by omega))
  rcases Nat.lt_or_ge k 80 with h80 | h80
  · exact j_zip_mem _ _ j_ML_40 _ _ (j_chunk h (by omega) (by omega))
  rcases Nat.lt_or_ge k 120 with h120 | h120
  · exact j_zip_mem _ _ j_ML_80 _ _ (j_chunk h (by omega) (by omega))
  rcases Nat.lt_or_ge k 160 with h160 | h160
  · exact j_zip_mem _ _ j_ML_120 _ _ (j_chunk h (by omega) (by omega))
  rcases Nat.lt_or_ge k 190 with h190 | h190
  · exact j_zip_mem _ _ j_ML_160 _ _ (j_chunk h (by omega) (by omega))
  omega
theorem j_CL_ok {k : Nat} {q : Nat × Nat × Nat} (h : j_CL[k]? = some q) : ∃ p, j_hw p (j_wCL q) = true := by
  have hk : k < 10 := (List.getElem?_eq_some_iff.mp h).1
  rcases Nat.lt_or_ge k 10 with h10 | h10
  · exact j_zip_mem _ _ j_CL_0 _ _ (j_chunk h (by omega) (by omega))
  omega
theorem j_KI_ok {k : Nat} {q : Nat × Nat × Int32} (h : j_KI[k]? = some q) : ∃ p, j_hw p (j_wKI q) = true := by
  have hk : k < 5 := (List.getElem?_eq_some_iff.mp h).1
  rcases Nat.lt_or_ge k 5 with h5 | h5
  · exact j_zip_mem _ _ j_KI_0 _ _ (j_chunk h (by omega) (by omega))
  omega
theorem j_KL_ok {k : Nat} {q : Nat × Nat × Int64} (h : j_KL[k]? = some q) : ∃ p, j_hw p (j_wKL q) = true := by
  have hk : k < 18 := (List.getElem?_eq_some_iff.mp h).1
  rcases Nat.lt_or_ge k 18 with h18 | h18
  · exact j_zip_mem _ _ j_KL_0 _ _ (j_chunk h (by omega) (by omega))
  omega
theorem j_NL_ok {k : Nat} {q : Nat × Nat × Nat} (h : j_NL[k]? = some q) : ∃ p, j_hw p (j_wNL q) = true := by
  have hk : k < 12 := (List.getElem?_eq_some_iff.mp h).1
  rcases Nat.lt_or_ge k 12 with h12 | h12
  · exact j_zip_mem _ _ j_NL_0 _ _ (j_chunk h (by omega) (by omega))
  omega
theorem j_OL_ok {k : Nat} {q : Nat × Nat} (h : j_OL[k]? = some q) : ∃ p, j_hw p (j_wOL q) = true := by
  have hk : k < 12 := (List.getElem?_eq_some_iff.mp h).1
  rcases Nat.lt_or_ge k 12 with h12 | h12
  · exact j_zip_mem _ _ j_OL_0 _ _ (j_chunk h (by omega) (by omega))
  omega
theorem j_SL_ok {k : Nat} {q : Nat × Nat × Nat} (h : j_SL[k]? = some q) : ∃ p, j_hw p (j_wSL q) = true := by
  have hk : k < 2 := (List.getElem?_eq_some_iff.mp h).1
  rcases Nat.lt_or_ge k 2 with h2 | h2
  · exact j_zip_mem _ _ j_SL_0 _ _ (j_chunk h (by omega) (by omega))
  omega
theorem j_mok_words {i : Nat} (hi : i < j_cnt) : ∀ w ∈ j_ws1 (j_info i), w ∈ j_big := by
  have h := j_mok_all i hi
  unfold j_mok at h
  simp only [Bool.and_eq_true] at h
  exact j_wok_mem _ _ h.1.1.1.1.1.1.1
theorem j_code_mem {i : Nat} (hi : i < j_cnt) : Cond.code (j_info i).1 (j_info i).2.1 (j_info i).2.2.1 (j_info i).2.2.2.1 ∈ j_big := j_mok_words hi _ (by simp [j_ws1])
theorem j_ini_mem {i : Nat} (hi : i < j_cnt) : Cond.initialized (j_info i).1.cls ∈ j_big := j_mok_words hi _ (by simp [j_ws1])
theorem j_sta_mem {i : Nat} (hi : i < j_cnt) (h : Nat.beq (j_info i).2.2.2.2.2.2 0 = true) : Cond.static (j_info i).1 ∈ j_big := j_mok_words hi _ (by simp [j_ws1, h])
theorem j_vir_mem {i : Nat} (hi : i < j_cnt) (h : Nat.beq (j_info i).2.2.2.2.2.2 1 = true) : Cond.instanceMethod (j_info i).1 ∈ j_big ∧ Cond.selects (j_info i).1.cls (j_info i).1 (j_info i).1 ∈ j_big := by
  have e : (j_info i).2.2.2.2.2.2 = 1 := Nat.eq_of_beq_eq_true h
  have e0 : Nat.beq (j_info i).2.2.2.2.2.2 0 = false := by rw [e]; rfl
  exact ⟨j_mok_words hi _ (by simp [j_ws1, h, e0]), j_mok_words hi _ (by simp [j_ws1, h, e0])⟩
theorem j_con_mem {i : Nat} (hi : i < j_cnt) (h : Nat.beq (j_info i).2.2.2.2.2.2 2 = true) : Cond.instanceMethod (j_info i).1 ∈ j_big := by
  have e : (j_info i).2.2.2.2.2.2 = 2 := Nat.eq_of_beq_eq_true h
  have e0 : Nat.beq (j_info i).2.2.2.2.2.2 0 = false := by rw [e]; rfl
  have e1 : Nat.beq (j_info i).2.2.2.2.2.2 1 = false := by rw [e]; rfl
  exact j_mok_words hi _ (by simp [j_ws1, e0, e1])
theorem j_mok_facts {i : Nat} (hi : i < j_cnt) : plainName (j_info i).1.cls = true ∧ (j_info i).2.2.1 ≤ 30 ∧ (j_info i).1.cls ≠ "java/lang/invoke/MethodHandle" ∧ (j_info i).1.cls ≠ "java/lang/invoke/VarHandle" ∧ (parseMethodDescriptor (j_info i).1.desc).map (fun d => d.parameters.length) = some (j_info i).2.2.2.2.2.1 ∧ (j_info i).1.cls = j_cn (j_info i).2.2.2.2.1 ∧ (Nat.beq (j_info i).2.2.2.2.2.2 2 = true → (j_info i).1.name = "<init>" ∧ (j_info i).2.2.2.1 = none) := by
  have h := j_mok_all i hi
  unfold j_mok at h
  simp only [Bool.and_eq_true, Bool.or_eq_true, Bool.not_eq_true', decide_eq_true_eq] at h
  obtain ⟨⟨⟨⟨⟨⟨⟨-, h2⟩, h3⟩, h4⟩, h5⟩, h6⟩, h7⟩, h8⟩ := h
  refine ⟨h2, Nat.le_of_ble_eq_true h3, h4, h5, h6, h7, fun z => ?_⟩
  rcases h8 with h8 | h8
  · rw [z] at h8; cases h8
  · exact h8
def j_wds (i : Nat) : List Cond := Cond.code (j_info i).1 (j_info i).2.1 (j_info i).2.2.1 (j_info i).2.2.2.1 :: j_big
theorem j_good : ∀ w ∈ j_big, ((w.onTables && w.keeps) = true ∨ ∃ ty, w = .arrayClass ty) := fun w h => good_of_word (List.mem_filter.mp h).2
theorem j_goodIn {i : Nat} (hi : i < j_cnt) : GoodIn j_big (j_wds i) := by
  intro w hw
  rcases List.mem_cons.mp hw with rfl | h
  · exact ⟨j_code_mem hi, j_good _ (j_code_mem hi)⟩
  · exact ⟨h, j_good w h⟩
theorem j_fix_mem : ∀ w ∈ j_fix, w ∈ j_big := j_wok_mem _ _ j_fix_ok
theorem j_lay_mem {a : Nat} (h : a < 12) : ∀ w ∈ u_ws (j_cn a) (j_T a) (j_Nf a), w ∈ j_big := j_wok_mem _ _ (j_lay a h)
def j_nw : List Cond := lw_tbl.filter (fun w => match w with | .methodLinkNest .. => true | _ => false)
theorem j_ML_ok0 {k c x a : Nat} (h : j_ML[k]? = some (c, x, a, 0)) : Cond.methodLink (j_cn c) x (j_info a).1 ∈ j_big := by
  obtain ⟨p, hp⟩ := j_ML_ok h
  exact j_hw_mem hp
theorem j_ML_ok1 {k c x a : Nat} (h : j_ML[k]? = some (c, x, a, 1)) : Cond.methodLinkNest (j_cn c) x (j_info a).1 RX10 ∈ j_nw := by
  obtain ⟨p, hp⟩ := j_ML_ok h
  exact List.mem_filter.mpr ⟨j_hn_mem hp, rfl⟩
