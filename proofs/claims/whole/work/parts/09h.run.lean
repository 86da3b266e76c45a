/-! ===== soundness: every run (own text, printed by wip/whole/gensound.py) ===== -/
theorem j_lk_mem {β : Type} : ∀ (xs : List (Nat × β)) (p : Nat) (x : β), j_lk xs p = some x → (p, x) ∈ xs
  | [], _, _, h => by cases h
  | (k, y) :: q, p, x, h => by
    unfold j_lk at h
    cases hb : Nat.beq k p with
    | true =>
      rw [hb] at h
      have e1 : k = p := Nat.eq_of_beq_eq_true hb
      have e2 : y = x := Option.some.inj h
      rw [e1, e2]
      exact List.mem_cons_self
    | false =>
      rw [hb] at h
      exact List.mem_cons_of_mem _ (j_lk_mem q p x h)
section JR
variable {l : Launch} {B tA tO : Nat} {dC : Nat → ClassId} {dI : Nat → Nat → Nat} {cI cJ cR : ClassId}
/-- what a call's propositions say -/
theorem j_call_p {n d a : Nat} {as : List Value} {me : j_Me} {q : j_R} (h : j_call (j_run n) d a as me = some q) : ∃ d', d = d' + 1 ∧ a < j_cnt ∧ (j_ent as).length ≤ (j_meth a).2.2 ∧ j_run n d' (j_meth a) 0 (j_pad (j_meth a).2.2 (j_ent as)) [] me = some q := by
  cases d with
  | zero => cases h
  | succ d =>
    unfold j_call at h
    dsimp only at h
    cases hb : (Nat.ble (j_ent as).length (j_meth a).2.2 && Nat.blt a j_cnt) with
    | false => rw [hb] at h; cases h
    | true =>
      rw [hb] at h
      rw [Bool.and_eq_true] at hb
      exact ⟨d, rfl, Nat.le_of_ble_eq_true hb.2, Nat.le_of_ble_eq_true hb.1, h⟩
theorem j_bh_p {k : List Value → j_Me → Option j_R} {v : Value} {S : j_S} {q r : j_R} (h : j_bh k v S q = some r) : q.2.1 = S ∧ ∃ vs : List Value, q.1.toList = vs ∧ vs.map (j_tr B tA tO) = vs ∧ k vs q.2 = some r := by
  unfold j_bh at h
  cases hb : decide (q.2.1 = S) with
  | false => rw [hb] at h; cases h
  | true =>
    rw [hb] at h
    have e := of_decide_eq_true hb
    refine ⟨e, ?_⟩
    have e2 : (S, q.2.2) = q.2 := by rw [← e]
    simp only [cond_true, e2] at h
    unfold j_res j_by j_oi j_ol j_ov at h
    revert h
    cases v <;> dsimp only <;> split <;> rename_i z <;> intro h <;> first | (exact ⟨_, by rw [z]; rfl, rfl, h⟩) | (cases h; done)
theorem j_bhs_p {k : j_Me → Option j_R} {q r : j_R} (h : j_bhs k q = some r) : q.1 = none ∧ k q.2 = some r := by
  unfold j_bhs j_ov at h
  revert h
  split <;> rename_i z <;> intro h
  · exact ⟨z, h⟩
  · cases h
set_option maxHeartbeats 8000000 in
set_option maxRecDepth 20000 in
theorem j_sound_run : ∀ (n d i : Nat), i < j_cnt → ∀ (pc : Nat) (L st : List Value) (me : j_Me) (r : j_R), r.2.1.length ≤ 1000 → j_run n d (j_meth i) pc L st me = some r → j_G l B tA tO dC dI cI cJ cR i d r pc L st me := by
  intro n
  induction n with
  | zero => intro d i _ pc L st me r _ h; cases h
  | succ n ih =>
    intro d i hi pc L st me r h1000 h
    have hs : j_step (j_run n) d (j_meth i) pc L st me = some r := h
    rw [j_step_some] at hs
    have hok := j_ok i hi
    unfold j_okm at hok
    rw [Bool.and_eq_true, decide_eq_true_eq, List.all_eq_true] at hok
    obtain ⟨hmL, hall⟩ := hok
    have hcn : (j_info i).1.cls = j_cn (j_info i).2.2.2.2.1 := (j_mok_facts hi).2.2.2.2.2.1
    have nx : ∀ (pc' : Nat) (L' st' : List Value) (me' : j_Me), j_run n d (j_meth i) pc' (j_fg (j_meth i).2.1 pc' L') st' me' = some r → j_G l B tA tO dC dI cI cJ cR i d r pc' L' st' me' := fun pc' L' st' me' z => (ih d i hi pc' _ st' me' r h1000 z).fg (j_meth i).2.1
    unfold j_go at hs
    split at hs
    · exact hs.elim
    · rename_i ins z a b v ts ps hlk
      have hc := hall _ (j_lk_mem _ _ _ hlk)
      dsimp only at hc
      cases ins
      case iconst k =>
        simp only [j_chk, Bool.and_eq_true, Bool.or_eq_true, decide_eq_true_eq] at hc
        obtain ⟨c1, rfl⟩ := hc
        exact g_iconst c1 (nx _ _ _ _ hs)
      case bipush k =>
        simp only [j_chk, Bool.and_eq_true, Bool.or_eq_true, decide_eq_true_eq] at hc
        obtain ⟨c1, rfl⟩ := hc
        exact g_bipush c1 (nx _ _ _ _ hs)
      case sipush k =>
        simp only [j_chk, Bool.and_eq_true, Bool.or_eq_true, decide_eq_true_eq] at hc
        obtain ⟨c1, rfl⟩ := hc
        exact g_sipush c1 (nx _ _ _ _ hs)
      case lconst k =>
        simp only [j_chk, Bool.and_eq_true, Bool.or_eq_true, decide_eq_true_eq] at hc
        obtain ⟨c1, rfl⟩ := hc
        exact g_lconst c1 (nx _ _ _ _ hs)
      case ldc k =>
        simp only [j_chk, Bool.and_eq_true] at hc
        obtain ⟨c1, c2⟩ := hc
        cases v with
        | int x =>
          obtain ⟨p, hp⟩ := j_KI_ok (of_decide_eq_true c2)
          have hw := j_hw_mem hp
          unfold j_wKI at hw
          rw [← hcn] at hw
          exact g_ldc (of_decide_eq_true c1) hw (nx _ _ _ _ hs)
        | _ => cases c2
      case ldc_w k =>
        simp only [j_chk, Bool.and_eq_true] at hc
        obtain ⟨c1, c2⟩ := hc
        cases v with
        | int x =>
          obtain ⟨p, hp⟩ := j_KI_ok (of_decide_eq_true c2)
          have hw := j_hw_mem hp
          unfold j_wKI at hw
          rw [← hcn] at hw
          exact g_ldc_w (of_decide_eq_true c1) hw (nx _ _ _ _ hs)
        | _ => cases c2
      case ldc2_w k =>
        simp only [j_chk, Bool.and_eq_true] at hc
        obtain ⟨c1, c2⟩ := hc
        cases v with
        | long x =>
          obtain ⟨p, hp⟩ := j_KL_ok (of_decide_eq_true c2)
          have hw := j_hw_mem hp
          unfold j_wKL at hw
          rw [← hcn] at hw
          exact g_ldc2 (of_decide_eq_true c1) hw (nx _ _ _ _ hs)
        | _ => cases c2
      case iload_n k =>
        simp only [j_chk, Bool.and_eq_true, Bool.or_eq_true, decide_eq_true_eq] at hc
        obtain ⟨c1, c2⟩ := hc
        obtain ⟨x, hx, h2⟩ := j_vi_p (show j_vi False _ (j_lg L a) from hs)
        exact g_iload_n c1 c2 hx (nx _ _ _ _ h2)
      case iload k =>
        simp only [j_chk, Bool.and_eq_true, Bool.or_eq_true, decide_eq_true_eq] at hc
        obtain ⟨c1, rfl⟩ := hc
        obtain ⟨x, hx, h2⟩ := j_vi_p (show j_vi False _ (j_lg L k) from hs)
        exact g_iload c1 hx (nx _ _ _ _ h2)
      case lload_n k =>
        simp only [j_chk, Bool.and_eq_true, Bool.or_eq_true, decide_eq_true_eq] at hc
        obtain ⟨c1, c2⟩ := hc
        obtain ⟨x, hx, h2⟩ := j_vl_p (show j_vl False _ (j_lg L a) from hs)
        exact g_lload_n c1 c2 hx (nx _ _ _ _ h2)
      case lload k =>
        simp only [j_chk, Bool.and_eq_true, Bool.or_eq_true, decide_eq_true_eq] at hc
        obtain ⟨c1, rfl⟩ := hc
        obtain ⟨x, hx, h2⟩ := j_vl_p (show j_vl False _ (j_lg L k) from hs)
        exact g_lload c1 hx (nx _ _ _ _ h2)
      case aload_n k =>
        simp only [j_chk, Bool.and_eq_true, Bool.or_eq_true, decide_eq_true_eq] at hc
        obtain ⟨c1, c2⟩ := hc
        obtain ⟨x, hx, h2⟩ := j_vr_p (show j_vr False _ (j_lg L a) from hs)
        exact g_aload_n c1 c2 hx (nx _ _ _ _ h2)
      case aload k =>
        simp only [j_chk, Bool.and_eq_true, Bool.or_eq_true, decide_eq_true_eq] at hc
        obtain ⟨c1, rfl⟩ := hc
        obtain ⟨x, hx, h2⟩ := j_vr_p (show j_vr False _ (j_lg L k) from hs)
        exact g_aload c1 hx (nx _ _ _ _ h2)
      case istore_n k =>
        simp only [j_chk, Bool.and_eq_true, Bool.or_eq_true, decide_eq_true_eq] at hc
        obtain ⟨⟨c1, c2⟩, c3⟩ := hc
        obtain ⟨x, q, rfl, h2⟩ := j_i1_p (show j_i1 False _ st from hs)
        exact g_istore_n c1 c2 c3 (nx _ _ _ _ h2)
      case istore k =>
        simp only [j_chk, Bool.and_eq_true, Bool.or_eq_true, decide_eq_true_eq] at hc
        obtain ⟨⟨c1, rfl⟩, c3⟩ := hc
        obtain ⟨x, q, rfl, h2⟩ := j_i1_p (show j_i1 False _ st from hs)
        exact g_istore c1 c3 (nx _ _ _ _ h2)
      case lstore_n k =>
        simp only [j_chk, Bool.and_eq_true, Bool.or_eq_true, decide_eq_true_eq] at hc
        obtain ⟨⟨c1, c2⟩, c3⟩ := hc
        obtain ⟨x, q, rfl, h2⟩ := j_l1_p (show j_l1 False _ st from hs)
        exact g_lstore_n c1 c2 c3 (nx _ _ _ _ h2)
      case lstore k =>
        simp only [j_chk, Bool.and_eq_true, Bool.or_eq_true, decide_eq_true_eq] at hc
        obtain ⟨⟨c1, rfl⟩, c3⟩ := hc
        obtain ⟨x, q, rfl, h2⟩ := j_l1_p (show j_l1 False _ st from hs)
        exact g_lstore c1 c3 (nx _ _ _ _ h2)
      case astore_n k =>
        simp only [j_chk, Bool.and_eq_true, Bool.or_eq_true, decide_eq_true_eq] at hc
        obtain ⟨⟨c1, c2⟩, c3⟩ := hc
        obtain ⟨x, q, rfl, h2⟩ := j_r1_p (show j_r1 False _ st from hs)
        exact g_astore_n c1 c2 c3 (nx _ _ _ _ h2)
      case astore k =>
        simp only [j_chk, Bool.and_eq_true, Bool.or_eq_true, decide_eq_true_eq] at hc
        obtain ⟨⟨c1, rfl⟩, c3⟩ := hc
        obtain ⟨x, q, rfl, h2⟩ := j_r1_p (show j_r1 False _ st from hs)
        exact g_astore c1 c3 (nx _ _ _ _ h2)
      case iinc k m =>
        simp only [j_chk, Bool.and_eq_true, Bool.or_eq_true, decide_eq_true_eq] at hc
        obtain ⟨⟨⟨c1, rfl⟩, c3⟩, rfl⟩ := hc
        have hs : j_vi False (fun y => j_vi False (fun x => j_run n d (j_meth i) (pc + 3) (j_fg (j_meth i).2.1 (pc + 3) (j_put L k (.int (x + y)))) st me = some r) (j_lg L k)) (Value.int (Int32.ofInt m)) := hs
        obtain ⟨y, hy, h2⟩ := j_vi_p hs
        cases hy
        obtain ⟨x, hx, h3⟩ := j_vi_p h2
        exact g_iinc c1 c3 hx (nx _ _ _ _ h3)
      case iadd =>
        have c1 := of_decide_eq_true (show decide (decode (j_info i).2.1 pc = .ok (.iadd, 1)) = true from hc)
        obtain ⟨x, y, q, rfl, h2⟩ := j_i2_p (show j_i2 False _ st from hs)
        exact g_iadd c1 (nx _ _ _ _ h2)
      case isub =>
        have c1 := of_decide_eq_true (show decide (decode (j_info i).2.1 pc = .ok (.isub, 1)) = true from hc)
        obtain ⟨x, y, q, rfl, h2⟩ := j_i2_p (show j_i2 False _ st from hs)
        exact g_isub c1 (nx _ _ _ _ h2)
      case imul =>
        have c1 := of_decide_eq_true (show decide (decode (j_info i).2.1 pc = .ok (.imul, 1)) = true from hc)
        obtain ⟨x, y, q, rfl, h2⟩ := j_i2_p (show j_i2 False _ st from hs)
        exact g_imul c1 (nx _ _ _ _ h2)
      case iand =>
        have c1 := of_decide_eq_true (show decide (decode (j_info i).2.1 pc = .ok (.iand, 1)) = true from hc)
        obtain ⟨x, y, q, rfl, h2⟩ := j_i2_p (show j_i2 False _ st from hs)
        exact g_iand c1 (nx _ _ _ _ h2)
      case ior =>
        have c1 := of_decide_eq_true (show decide (decode (j_info i).2.1 pc = .ok (.ior, 1)) = true from hc)
        obtain ⟨x, y, q, rfl, h2⟩ := j_i2_p (show j_i2 False _ st from hs)
        exact g_ior c1 (nx _ _ _ _ h2)
      case ixor =>
        have c1 := of_decide_eq_true (show decide (decode (j_info i).2.1 pc = .ok (.ixor, 1)) = true from hc)
        obtain ⟨x, y, q, rfl, h2⟩ := j_i2_p (show j_i2 False _ st from hs)
        exact g_ixor c1 (nx _ _ _ _ h2)
      case ishl =>
        have c1 := of_decide_eq_true (show decide (decode (j_info i).2.1 pc = .ok (.ishl, 1)) = true from hc)
        obtain ⟨x, y, q, rfl, h2⟩ := j_i2_p (show j_i2 False _ st from hs)
        exact g_ishl c1 (nx _ _ _ _ h2)
      case ishr =>
        have c1 := of_decide_eq_true (show decide (decode (j_info i).2.1 pc = .ok (.ishr, 1)) = true from hc)
        obtain ⟨x, y, q, rfl, h2⟩ := j_i2_p (show j_i2 False _ st from hs)
        exact g_ishr c1 (nx _ _ _ _ h2)
      case iushr =>
        have c1 := of_decide_eq_true (show decide (decode (j_info i).2.1 pc = .ok (.iushr, 1)) = true from hc)
        obtain ⟨x, y, q, rfl, h2⟩ := j_i2_p (show j_i2 False _ st from hs)
        exact g_iushr c1 (nx _ _ _ _ h2)
      case idiv =>
        have c1 := of_decide_eq_true (show decide (decode (j_info i).2.1 pc = .ok (.idiv, 1)) = true from hc)
        obtain ⟨x, y, q, rfl, h2⟩ := j_i2_p (show j_i2 False _ st from hs)
        by_cases hy : y = 0
        · rw [if_pos hy] at h2; exact h2.elim
        · rw [if_neg hy] at h2
          exact g_idiv c1 hy (nx _ _ _ _ h2)
      case irem =>
        have c1 := of_decide_eq_true (show decide (decode (j_info i).2.1 pc = .ok (.irem, 1)) = true from hc)
        obtain ⟨x, y, q, rfl, h2⟩ := j_i2_p (show j_i2 False _ st from hs)
        by_cases hy : y = 0
        · rw [if_pos hy] at h2; exact h2.elim
        · rw [if_neg hy] at h2
          exact g_irem c1 hy (nx _ _ _ _ h2)
      case ineg =>
        have c1 := of_decide_eq_true (show decide (decode (j_info i).2.1 pc = .ok (.ineg, 1)) = true from hc)
        obtain ⟨x, q, rfl, h2⟩ := j_i1_p (show j_i1 False _ st from hs)
        exact g_ineg c1 (nx _ _ _ _ h2)
      case i2l =>
        have c1 := of_decide_eq_true (show decide (decode (j_info i).2.1 pc = .ok (.i2l, 1)) = true from hc)
        obtain ⟨x, q, rfl, h2⟩ := j_i1_p (show j_i1 False _ st from hs)
        exact g_i2l c1 (nx _ _ _ _ h2)
      case i2b =>
        have c1 := of_decide_eq_true (show decide (decode (j_info i).2.1 pc = .ok (.i2b, 1)) = true from hc)
        obtain ⟨x, q, rfl, h2⟩ := j_i1_p (show j_i1 False _ st from hs)
        exact g_i2b c1 (nx _ _ _ _ h2)
      case i2s =>
        have c1 := of_decide_eq_true (show decide (decode (j_info i).2.1 pc = .ok (.i2s, 1)) = true from hc)
        obtain ⟨x, q, rfl, h2⟩ := j_i1_p (show j_i1 False _ st from hs)
        exact g_i2s c1 (nx _ _ _ _ h2)
      case l2i =>
        have c1 := of_decide_eq_true (show decide (decode (j_info i).2.1 pc = .ok (.l2i, 1)) = true from hc)
        obtain ⟨x, q, rfl, h2⟩ := j_l1_p (show j_l1 False _ st from hs)
        exact g_l2i c1 (nx _ _ _ _ h2)
      case ladd =>
        have c1 := of_decide_eq_true (show decide (decode (j_info i).2.1 pc = .ok (.ladd, 1)) = true from hc)
        obtain ⟨x, y, q, rfl, h2⟩ := j_l2_p (show j_l2 False _ st from hs)
        exact g_ladd c1 (nx _ _ _ _ h2)
      case lmul =>
        have c1 := of_decide_eq_true (show decide (decode (j_info i).2.1 pc = .ok (.lmul, 1)) = true from hc)
        obtain ⟨x, y, q, rfl, h2⟩ := j_l2_p (show j_l2 False _ st from hs)
        exact g_lmul c1 (nx _ _ _ _ h2)
      case land =>
        have c1 := of_decide_eq_true (show decide (decode (j_info i).2.1 pc = .ok (.land, 1)) = true from hc)
        obtain ⟨x, y, q, rfl, h2⟩ := j_l2_p (show j_l2 False _ st from hs)
        exact g_land c1 (nx _ _ _ _ h2)
      case lor =>
        have c1 := of_decide_eq_true (show decide (decode (j_info i).2.1 pc = .ok (.lor, 1)) = true from hc)
        obtain ⟨x, y, q, rfl, h2⟩ := j_l2_p (show j_l2 False _ st from hs)
        exact g_lor c1 (nx _ _ _ _ h2)
      case lcmp =>
        have c1 := of_decide_eq_true (show decide (decode (j_info i).2.1 pc = .ok (.lcmp, 1)) = true from hc)
        obtain ⟨x, y, q, rfl, h2⟩ := j_l2_p (show j_l2 False _ st from hs)
        exact g_lcmp c1 (nx _ _ _ _ h2)
      case ldiv =>
        have c1 := of_decide_eq_true (show decide (decode (j_info i).2.1 pc = .ok (.ldiv, 1)) = true from hc)
        obtain ⟨x, y, q, rfl, h2⟩ := j_l2_p (show j_l2 False _ st from hs)
        by_cases hy : y = 0
        · rw [if_pos hy] at h2; exact h2.elim
        · rw [if_neg hy] at h2
          exact g_ldiv c1 hy (nx _ _ _ _ h2)
      case lrem =>
        have c1 := of_decide_eq_true (show decide (decode (j_info i).2.1 pc = .ok (.lrem, 1)) = true from hc)
        obtain ⟨x, y, q, rfl, h2⟩ := j_l2_p (show j_l2 False _ st from hs)
        by_cases hy : y = 0
        · rw [if_pos hy] at h2; exact h2.elim
        · rw [if_neg hy] at h2
          exact g_lrem c1 hy (nx _ _ _ _ h2)
      case lshl =>
        have c1 := of_decide_eq_true (show decide (decode (j_info i).2.1 pc = .ok (.lshl, 1)) = true from hc)
        obtain ⟨x, y, q, rfl, h2⟩ := j_il_p (show j_il False _ st from hs)
        exact g_lshl c1 (nx _ _ _ _ h2)
      case dup =>
        have c1 := of_decide_eq_true (show decide (decode (j_info i).2.1 pc = .ok (.dup, 1)) = true from hc)
        have hs : j_v1 False (fun w r1 => j_run n d (j_meth i) (pc + 1) (j_fg (j_meth i).2.1 (pc + 1) L) (w :: w :: r1) me = some r) st := hs
        obtain ⟨w, q, rfl, hw, h2⟩ := j_v1_p hs
        exact g_dup hw c1 (nx _ _ _ _ h2)
      case pop =>
        have c1 := of_decide_eq_true (show decide (decode (j_info i).2.1 pc = .ok (.pop, 1)) = true from hc)
        have hs : j_v1 False (fun _ r1 => j_run n d (j_meth i) (pc + 1) (j_fg (j_meth i).2.1 (pc + 1) L) r1 me = some r) st := hs
        obtain ⟨w, q, rfl, hw, h2⟩ := j_v1_p hs
        exact g_pop hw c1 (nx _ _ _ _ h2)
      case dup2 =>
        have c1 := of_decide_eq_true (show decide (decode (j_info i).2.1 pc = .ok (.dup2, 1)) = true from hc)
        have hs : j_v1 False (fun w r1 => j_v1 False (fun x r2 => j_run n d (j_meth i) (pc + 1) (j_fg (j_meth i).2.1 (pc + 1) L) (w :: x :: w :: x :: r2) me = some r) r1) st := hs
        obtain ⟨w, q, rfl, hw, h2⟩ := j_v1_p hs
        obtain ⟨x, q2, rfl, hx, h3⟩ := j_v1_p h2
        exact g_dup2 hw hx c1 (nx _ _ _ _ h3)
      case ifCond c off =>
        simp only [j_chk, Bool.and_eq_true, Bool.or_eq_true, decide_eq_true_eq] at hc
        obtain ⟨c1, c2⟩ := hc
        obtain ⟨x, q, rfl, h2⟩ := j_i1_p (show j_i1 False _ st from hs)
        exact g_if c1 c2 (j_br_imp (nx _ _ _ _) (nx _ _ _ _) h2)
      case if_icmp c off =>
        simp only [j_chk, Bool.and_eq_true, Bool.or_eq_true, decide_eq_true_eq] at hc
        obtain ⟨c1, c2⟩ := hc
        obtain ⟨x, y, q, rfl, h2⟩ := j_i2_p (show j_i2 False _ st from hs)
        exact g_icmp c1 c2 (j_bc_imp (nx _ _ _ _) (nx _ _ _ _) h2)
      case goto off =>
        simp only [j_chk, Bool.and_eq_true, Bool.or_eq_true, decide_eq_true_eq] at hc
        obtain ⟨c1, c2⟩ := hc
        exact g_goto c1 c2 (nx _ _ _ _ hs)
      case tableswitch df lo hi offs =>
        simp only [j_chk, Bool.and_eq_true, Bool.or_eq_true, decide_eq_true_eq] at hc
        obtain ⟨⟨⟨⟨⟨c1, c2⟩, c3⟩, c4⟩, c5⟩, c6⟩ := hc
        obtain ⟨x, q, rfl, h2⟩ := j_i1_p (show j_i1 False _ st from hs)
        exact g_tsw c1 c2 c3 c4 c5 c6 (j_sw_imp (fun t => nx t _ _ _) ts h2)
      case lookupswitch df prs =>
        simp only [j_chk, Bool.and_eq_true, Bool.or_eq_true, decide_eq_true_eq] at hc
        obtain ⟨⟨c1, c2⟩, c3⟩ := hc
        obtain ⟨x, q, rfl, h2⟩ := j_i1_p (show j_i1 False _ st from hs)
        exact g_lsw c1 c2 c3 (j_sw_imp (fun t => nx t _ _ _) ts h2)
      case getfield k =>
        simp only [j_chk, Bool.and_eq_true, decide_eq_true_eq] at hc
        obtain ⟨⟨⟨⟨c1, c2⟩, c3⟩, c4⟩, c5⟩ := hc
        obtain ⟨p, hp⟩ := j_FL_ok c4
        have hw := j_hw_mem hp
        unfold j_wFL at hw
        dsimp only at hw
        rw [← hcn] at hw
        obtain ⟨c, q, rfl, h2⟩ := j_r1_p (show j_r1 False _ st from hs)
        obtain ⟨h3, h4⟩ := j_cond_p h2
        have h3 := Nat.eq_of_beq_eq_true h3
        cases v with
        | int x => exact g_getI c1 h1000 c2 c3 hw (by rw [of_decide_eq_true c5]; rfl) h3 (nx _ _ _ _ h4)
        | long x => exact g_getI c1 h1000 c2 c3 hw (by rw [of_decide_eq_true c5]; rfl) h3 (nx _ _ _ _ h4)
        | float _ =>
          obtain ⟨h5, h6⟩ := j_cond_p h4
          exact g_getR c1 h1000 c2 c3 hw c5 h3 (j_nth_some h5) (nx _ _ _ _ h6)
        | double _ =>
          obtain ⟨h5, h6⟩ := j_cond_p h4
          exact g_getR c1 h1000 c2 c3 hw c5 h3 (j_nth_some h5) (nx _ _ _ _ h6)
        | null =>
          obtain ⟨h5, h6⟩ := j_cond_p h4
          exact g_getR c1 h1000 c2 c3 hw c5 h3 (j_nth_some h5) (nx _ _ _ _ h6)
        | ref _ =>
          obtain ⟨h5, h6⟩ := j_cond_p h4
          exact g_getR c1 h1000 c2 c3 hw c5 h3 (j_nth_some h5) (nx _ _ _ _ h6)
        | retAddr _ =>
          obtain ⟨h5, h6⟩ := j_cond_p h4
          exact g_getR c1 h1000 c2 c3 hw c5 h3 (j_nth_some h5) (nx _ _ _ _ h6)
      case putfield k =>
        simp only [j_chk, Bool.and_eq_true, decide_eq_true_eq] at hc
        obtain ⟨⟨⟨⟨⟨c1, c2⟩, c3⟩, c4⟩, c5⟩, c6⟩ := hc
        obtain ⟨p, hp⟩ := j_FL_ok c4
        have hw := j_hw_mem hp
        unfold j_wFL at hw
        dsimp only at hw
        rw [← hcn] at hw
        have hfin : (j_T a b).2.2.2 = false ∨ (Nat.beq (j_info i).2.2.2.2.2.2 2 = true ∧ (j_T a b).1 = (j_info i).1.cls) := by
          rw [Bool.or_eq_true, Bool.not_eq_true', Bool.and_eq_true] at c6
          rcases c6 with z | ⟨z1, z2⟩
          · exact Or.inl z
          · exact Or.inr ⟨z1, by rw [j_Tcls a c2 b c3, hcn, Nat.eq_of_beq_eq_true z2]⟩
        cases v with
        | int x =>
          obtain ⟨c, x, q, rfl, h2⟩ := j_rI_p (show j_rI False _ st from hs)
          obtain ⟨h3, h4⟩ := j_cond_p h2
          exact g_putI c1 h1000 c2 c3 hw (Or.inl (of_decide_eq_true c5)) (Nat.eq_of_beq_eq_true h3) hfin (nx _ _ _ _ h4)
        | long x =>
          obtain ⟨c, x, q, rfl, h2⟩ := j_rI_p (show j_rI False _ st from hs)
          obtain ⟨h3, h4⟩ := j_cond_p h2
          rw [Bool.and_eq_true, Bool.or_eq_true, decide_eq_true_eq, decide_eq_true_eq] at h3
          exact g_putI c1 h1000 c2 c3 hw (Or.inr ⟨of_decide_eq_true c5, h3.2⟩) (Nat.eq_of_beq_eq_true h3.1) hfin (nx _ _ _ _ h4)
        | float _ =>
          obtain ⟨c, x, q, rfl, h2⟩ := j_rr_p (show j_rr False _ st from hs)
          obtain ⟨h3, h4⟩ := j_cond_p h2
          exact g_putR c1 h1000 c2 c3 hw c5 (Nat.eq_of_beq_eq_true h3) hfin (nx _ _ _ _ h4)
        | double _ =>
          obtain ⟨c, x, q, rfl, h2⟩ := j_rr_p (show j_rr False _ st from hs)
          obtain ⟨h3, h4⟩ := j_cond_p h2
          exact g_putR c1 h1000 c2 c3 hw c5 (Nat.eq_of_beq_eq_true h3) hfin (nx _ _ _ _ h4)
        | null =>
          obtain ⟨c, x, q, rfl, h2⟩ := j_rr_p (show j_rr False _ st from hs)
          obtain ⟨h3, h4⟩ := j_cond_p h2
          exact g_putR c1 h1000 c2 c3 hw c5 (Nat.eq_of_beq_eq_true h3) hfin (nx _ _ _ _ h4)
        | ref _ =>
          obtain ⟨c, x, q, rfl, h2⟩ := j_rr_p (show j_rr False _ st from hs)
          obtain ⟨h3, h4⟩ := j_cond_p h2
          exact g_putR c1 h1000 c2 c3 hw c5 (Nat.eq_of_beq_eq_true h3) hfin (nx _ _ _ _ h4)
        | retAddr _ =>
          obtain ⟨c, x, q, rfl, h2⟩ := j_rr_p (show j_rr False _ st from hs)
          obtain ⟨h3, h4⟩ := j_cond_p h2
          exact g_putR c1 h1000 c2 c3 hw c5 (Nat.eq_of_beq_eq_true h3) hfin (nx _ _ _ _ h4)
      case getstatic k =>
        simp only [j_chk, Bool.and_eq_true, Bool.or_eq_true, decide_eq_true_eq] at hc
        obtain ⟨⟨c1, c2⟩, c3⟩ := hc
        obtain ⟨p, hp⟩ := j_SL_ok c2
        have hw := j_hw_mem hp
        unfold j_wSL at hw
        dsimp only at hw
        rw [← hcn] at hw
        rcases c3 with c3 | c3
        · have e := Nat.eq_of_beq_eq_true c3
          subst e
          exact g_gsA c1 hw (nx _ _ _ _ hs)
        · have e := Nat.eq_of_beq_eq_true c3
          subst e
          exact g_gsO c1 hw (nx _ _ _ _ hs)
      case new k =>
        simp only [j_chk, Bool.and_eq_true, Bool.or_eq_true, decide_eq_true_eq] at hc
        obtain ⟨⟨⟨c1, c2⟩, c3⟩, c4⟩ := hc
        obtain ⟨p, hp⟩ := j_CL_ok c4
        have hw := j_hw_mem hp
        unfold j_wCL at hw
        dsimp only at hw
        rw [← hcn] at hw
        exact g_new c1 h1000 c2 c3 hw (nx _ _ _ _ hs)
      case anewarray k =>
        simp only [j_chk, Bool.and_eq_true, Bool.or_eq_true, decide_eq_true_eq] at hc
        obtain ⟨c1, c4⟩ := hc
        obtain ⟨p, hp⟩ := j_CL_ok c4
        have hw := j_hw_mem hp
        unfold j_wCL at hw
        dsimp only at hw
        rw [← hcn] at hw
        obtain ⟨x, q, rfl, h2⟩ := j_i1_p (show j_i1 False _ st from hs)
        obtain ⟨h3, h4⟩ := j_cond_p h2
        rw [Bool.and_eq_true, Bool.not_eq_true', decide_eq_false_iff_not] at h3
        exact g_newR c1 h1000 hw h3.1 (Nat.le_of_ble_eq_true h3.2) (nx _ _ _ _ h4)
      case newarray t =>
        simp only [j_chk, Bool.and_eq_true] at hc
        obtain ⟨c1, c2⟩ := hc
        have c1 := of_decide_eq_true c1
        obtain ⟨x, q, rfl, h2⟩ := j_i1_p (show j_i1 False _ st from hs)
        obtain ⟨h3, h4⟩ := j_cond_p h2
        rw [Bool.and_eq_true, Bool.not_eq_true', decide_eq_false_iff_not] at h3
        cases t <;> first | (cases c2; done) | skip
        · cases v <;> first | (cases c2; done) | exact g_newI c1 h1000 h3.1 (Nat.le_of_ble_eq_true h3.2) (nx _ _ _ _ h4)
        · cases v <;> first | (cases c2; done) | exact g_newL c1 h1000 h3.1 (Nat.le_of_ble_eq_true h3.2) (nx _ _ _ _ h4)
      case arraylength =>
        have c1 := of_decide_eq_true (show decide (decode (j_info i).2.1 pc = .ok (.arraylength, 1)) = true from hc)
        obtain ⟨c, q, rfl, h2⟩ := j_r1_p (show j_r1 False _ st from hs)
        obtain ⟨h3, h4⟩ := j_cond_p h2
        exact g_alen c1 h1000 (Nat.le_of_ble_eq_true h3) (nx _ _ _ _ h4)
      case iaload =>
        have c1 := of_decide_eq_true (show decide (decode (j_info i).2.1 pc = .ok (.iaload, 1)) = true from hc)
        obtain ⟨c, x, q, rfl, h2⟩ := j_ri_p (show j_ri False _ st from hs)
        cases e1 : Nat.beq c 1000 with
        | true =>
          rw [e1] at h2
          have e := Nat.eq_of_beq_eq_true e1
          subst e
          obtain ⟨h3, h4⟩ := j_cond_p h2
          exact g_stA c1 (j_in_p h3) (nx _ _ _ _ h4)
        | false =>
          rw [e1] at h2
          cases e2 : Nat.beq c 1001 with
          | true =>
            rw [e2] at h2
            have e := Nat.eq_of_beq_eq_true e2
            subst e
            obtain ⟨h3, h4⟩ := j_cond_p h2
            exact g_stO c1 (j_in_p h3) (nx _ _ _ _ h4)
          | false =>
            rw [e2] at h2
            obtain ⟨h3, h4⟩ := j_cond_p h2
            rw [Bool.and_eq_true] at h3
            exact g_iald c1 h1000 (Nat.eq_of_beq_eq_true h3.1) (j_in_p h3.2) (nx _ _ _ _ h4)
      case iastore =>
        have c1 := of_decide_eq_true (show decide (decode (j_info i).2.1 pc = .ok (.iastore, 1)) = true from hc)
        obtain ⟨c, x, y, q, rfl, h2⟩ := j_rii_p (show j_rii False _ st from hs)
        obtain ⟨h3, h4⟩ := j_cond_p h2
        rw [Bool.and_eq_true] at h3
        exact g_iast c1 h1000 (Nat.eq_of_beq_eq_true h3.1) (j_in_p h3.2) (nx _ _ _ _ h4)
      case lastore =>
        have c1 := of_decide_eq_true (show decide (decode (j_info i).2.1 pc = .ok (.lastore, 1)) = true from hc)
        obtain ⟨c, x, y, q, rfl, h2⟩ := j_ril_p (show j_ril False _ st from hs)
        obtain ⟨h3, h4⟩ := j_cond_p h2
        rw [Bool.and_eq_true] at h3
        exact g_last c1 h1000 (Nat.eq_of_beq_eq_true h3.1) (j_in_p h3.2) (nx _ _ _ _ h4)
      case laload =>
        have c1 := of_decide_eq_true (show decide (decode (j_info i).2.1 pc = .ok (.laload, 1)) = true from hc)
        obtain ⟨c, x, q, rfl, h2⟩ := j_ri_p (show j_ri False _ st from hs)
        obtain ⟨h3, h4⟩ := j_cond_p h2
        rw [Bool.and_eq_true] at h3
        exact g_lald c1 h1000 (Nat.eq_of_beq_eq_true h3.1) (j_in_p h3.2) (nx _ _ _ _ h4)
      case aaload =>
        have c1 := of_decide_eq_true (show decide (decode (j_info i).2.1 pc = .ok (.aaload, 1)) = true from hc)
        obtain ⟨c, x, q, rfl, h2⟩ := j_ri_p (show j_ri False _ st from hs)
        obtain ⟨h3, h4⟩ := j_cond_p h2
        rw [Bool.and_eq_true, Bool.and_eq_true] at h3
        exact g_aald c1 h1000 (Nat.eq_of_beq_eq_true h3.1.1) (j_in_p h3.1.2) (j_nth_some h3.2) (nx _ _ _ _ h4)
      case aastore =>
        have c1 := of_decide_eq_true (show decide (decode (j_info i).2.1 pc = .ok (.aastore, 1)) = true from hc)
        obtain ⟨c, x, y, q, rfl, h2⟩ := j_rir_p (show j_rir False _ st from hs)
        obtain ⟨h3, h4⟩ := j_cond_p h2
        rw [Bool.and_eq_true, Bool.and_eq_true] at h3
        exact g_aast c1 h1000 (Nat.eq_of_beq_eq_true h3.1.1) (j_in_p h3.1.2) (Nat.eq_of_beq_eq_true h3.2) (nx _ _ _ _ h4)
      case invokevirtual k =>
        simp only [j_chk, Bool.and_eq_true, decide_eq_true_eq] at hc
        obtain ⟨⟨⟨⟨⟨⟨c1, c2⟩, c3⟩, c4⟩, c5⟩, c6⟩, c7⟩ := hc
        have hw := j_ML_ok0 c3
        rw [← hcn] at hw
        obtain ⟨as, q0, hl0, rfl, h2⟩ := j_popk_p b [] st (show j_popk False _ b [] st from hs)
        rw [List.append_nil] at h2
        obtain ⟨c, q1, rfl, h3⟩ := j_r1_p h2
        obtain ⟨h4, q, hq, hbh⟩ := j_cond_p h3
        rw [Bool.and_eq_true] at h4
        obtain ⟨d, rfl, ha, hlen, hrun⟩ := j_call_p hq
        have hma : (j_meth a).2.2 = (j_info a).2.2.1 := by
          have z := j_ok a ha
          unfold j_okm at z
          rw [Bool.and_eq_true, decide_eq_true_eq] at z
          exact z.1
        rw [hma] at hlen hrun
        obtain ⟨e1, vs, v1, v2, h6⟩ := j_bh_p (B := B) (tA := tA) (tO := tO) hbh
        have c5 := Nat.eq_of_beq_eq_true c5
        have c6 := Nat.eq_of_beq_eq_true c6
        have kk := nx _ _ _ _ h6
        have G := ih d a ha 0 _ [] me q (by have := kk.1.1; omega) hrun
        exact g_callV hi c1 h1000 ha hw c4 (by omega) (by omega) (by rw [Nat.eq_of_beq_eq_true h4.1]; omega) (Nat.le_of_ble_eq_true h4.2) hlen G v1 v2 kk
      case invokestatic k =>
        simp only [j_chk, Bool.and_eq_true, decide_eq_true_eq] at hc
        obtain ⟨c1, c2⟩ := hc
        have hs : (bif Nat.ble 1000 a then _ else _) := hs
        cases hb : Nat.ble 1000 a with
        | true =>
          rw [hb] at hs c2
          simp only [cond_true, Bool.and_eq_true, decide_eq_true_eq] at hs c2
          obtain ⟨p, hp⟩ := j_NL_ok c2.1
          have hw := j_hw_mem hp
          unfold j_wNL at hw
          dsimp only at hw
          rw [← hcn] at hw
          unfold j_nat at hs
          cases e0 : Nat.beq a 1000 with
          | true =>
            rw [e0] at hs
            have e := Nat.eq_of_beq_eq_true e0
            subst e
            obtain ⟨a0, sp, c, dp, nn, q, rfl, h2⟩ := j_c5_p (show j_c5 False _ st from hs)
            obtain ⟨h3, h4⟩ := j_cond_p h2
            simp only [Bool.and_eq_true, Bool.not_eq_true', decide_eq_false_iff_not] at h3
            obtain ⟨⟨⟨⟨⟨b1, b2⟩, b3⟩, b4⟩, b5⟩, b6⟩ := h3
            cases f0 : (Nat.beq (j_at me.1 a0).1 0 && Nat.beq (j_at me.1 c).1 0) with
            | true =>
              rw [f0] at h4
              rw [Bool.and_eq_true] at f0
              exact g_cpI c1 h1000 hw (Nat.le_of_ble_eq_true b6) (Nat.eq_of_beq_eq_true f0.1) (Nat.eq_of_beq_eq_true f0.2) b1 b2 b3 (Nat.le_of_ble_eq_true b4) (Nat.le_of_ble_eq_true b5) (nx _ _ _ _ h4)
            | false =>
              rw [f0] at h4
              obtain ⟨f1, h5⟩ := j_cond_p (show (bif _ then _ else False) from h4)
              rw [Bool.and_eq_true] at f1
              exact g_cpL c1 h1000 hw (Nat.le_of_ble_eq_true b6) (Nat.eq_of_beq_eq_true f1.1) (Nat.eq_of_beq_eq_true f1.2) b1 b2 b3 (Nat.le_of_ble_eq_true b4) (Nat.le_of_ble_eq_true b5) (nx _ _ _ _ h5)
          | false =>
            rw [e0] at hs
            cases e1 : Nat.beq a 1001 with
            | true =>
              rw [e1] at hs
              have e := Nat.eq_of_beq_eq_true e1
              subst e
              obtain ⟨x, y, q, rfl, h2⟩ := j_i2_p (show j_i2 False _ st from hs)
              obtain ⟨h3, h4⟩ := j_cond_p h2
              exact g_max c1 hw (Nat.le_of_ble_eq_true h3) (nx _ _ _ _ h4)
            | false =>
              rw [e1] at hs
              cases e2 : Nat.beq a 1002 with
              | true =>
                rw [e2] at hs
                have e := Nat.eq_of_beq_eq_true e2
                subst e
                obtain ⟨x, y, q, rfl, h2⟩ := j_i2_p (show j_i2 False _ st from hs)
                obtain ⟨h3, h4⟩ := j_cond_p h2
                exact g_min c1 hw (Nat.le_of_ble_eq_true h3) (nx _ _ _ _ h4)
              | false =>
                rw [e2] at hs
                obtain ⟨e3, h2⟩ := j_cond_p (show (bif _ then _ else False) from hs)
                have e := Nat.eq_of_beq_eq_true e3
                subst e
                obtain ⟨x, y, q, rfl, h2⟩ := j_l2_p (show j_l2 False _ st from h2)
                obtain ⟨h3, h4⟩ := j_cond_p h2
                exact g_minL c1 hw (Nat.le_of_ble_eq_true h3) (nx _ _ _ _ h4)
        | false =>
          rw [hb] at hs c2
          simp only [cond_false, Bool.and_eq_true, Bool.or_eq_true, decide_eq_true_eq] at c2
          obtain ⟨⟨⟨c3, c4⟩, c5⟩, c6⟩ := c2
          have hw : Cond.methodLink (j_info i).1.cls k (j_info a).1 ∈ j_big ∨ Cond.methodLinkNest (j_info i).1.cls k (j_info a).1 RX10 ∈ j_nw := by
            rw [hcn]
            rcases c4 with c4 | c4
            · exact Or.inl (j_ML_ok0 c4)
            · exact Or.inr (j_ML_ok1 c4)
          obtain ⟨as, q0, hl0, rfl, h2⟩ := j_popk_p b [] st (show j_popk False _ b [] st from hs)
          rw [List.append_nil] at h2
          obtain ⟨h4, q, hq, hbh⟩ := j_cond_p h2
          obtain ⟨d, rfl, ha, hlen, hrun⟩ := j_call_p hq
          have hma : (j_meth a).2.2 = (j_info a).2.2.1 := by
            have z := j_ok a ha
            unfold j_okm at z
            rw [Bool.and_eq_true, decide_eq_true_eq] at z
            exact z.1
          rw [hma] at hlen hrun
          obtain ⟨e1, vs, v1, v2, h6⟩ := j_bh_p (B := B) (tA := tA) (tO := tO) hbh
          have c6 := Nat.eq_of_beq_eq_true c6
          have kk := nx _ _ _ _ h6
          have G := ih d a ha 0 _ [] me q (by have := kk.1.1; omega) hrun
          exact g_callS (kd := 0) hi c1 h1000 ha hw c5 (by omega) (Nat.le_of_ble_eq_true h4) hlen G v1 v2 kk
      case invokespecial k =>
        simp only [j_chk, Bool.and_eq_true, decide_eq_true_eq] at hc
        obtain ⟨c1, c2⟩ := hc
        have hs : (bif Nat.beq a 999 then _ else _) := hs
        cases hb : Nat.beq a 999 with
        | true =>
          rw [hb] at hs c2
          simp only [cond_true, decide_eq_true_eq] at c2
          obtain ⟨p, hp⟩ := j_OL_ok c2
          have hw := j_hw_mem hp
          unfold j_wOL at hw
          dsimp only at hw
          rw [← hcn] at hw
          obtain ⟨c, q, rfl, h2⟩ := j_r1_p (show j_r1 False _ st from hs)
          obtain ⟨h3, h4⟩ := j_cond_p h2
          exact g_obj c1 hw (Nat.le_of_ble_eq_true h3) (nx _ _ _ _ h4)
        | false =>
          rw [hb] at hs c2
          simp only [cond_false, Bool.and_eq_true, Bool.or_eq_true, decide_eq_true_eq] at c2
          obtain ⟨⟨⟨c3, c4⟩, c5⟩, c6⟩ := c2
          have hw : Cond.methodLink (j_info i).1.cls k (j_info a).1 ∈ j_big ∨ Cond.methodLinkNest (j_info i).1.cls k (j_info a).1 RX10 ∈ j_nw := by
            rw [hcn]
            rcases c4 with c4 | c4
            · exact Or.inl (j_ML_ok0 c4)
            · exact Or.inr (j_ML_ok1 c4)
          obtain ⟨as, q0, hl0, rfl, h2⟩ := j_popk_p b [] st (show j_popk False _ b [] st from hs)
          rw [List.append_nil] at h2
          obtain ⟨c, q1, rfl, h3⟩ := j_r1_p h2
          obtain ⟨h4, q, hq, hbh⟩ := j_cond_p h3
          obtain ⟨d, rfl, ha, hlen, hrun⟩ := j_call_p hq
          have hma : (j_meth a).2.2 = (j_info a).2.2.1 := by
            have z := j_ok a ha
            unfold j_okm at z
            rw [Bool.and_eq_true, decide_eq_true_eq] at z
            exact z.1
          rw [hma] at hlen hrun
          obtain ⟨e1, h6⟩ := j_bhs_p hbh
          have c6 := Nat.eq_of_beq_eq_true c6
          have kk := nx _ _ _ _ h6
          have G := ih d a ha 0 _ [] me q (by have := kk.1.1; omega) hrun
          exact g_callI hi c1 h1000 ha hw c5 (by omega) (Nat.le_of_ble_eq_true h4) hlen G e1 kk
      case ireturn =>
        simp only [j_chk, Bool.and_eq_true, decide_eq_true_eq] at hc
        obtain ⟨c1, c2⟩ := hc
        obtain ⟨x, rfl, h2⟩ := j_i0_p (show j_i0 False _ st from hs)
        cases v with
        | int y =>
          cases (Option.some.inj (show (some (some (Value.int x), me) : Option j_R) = some r from h2))
          exact g_iret c1 (of_decide_eq_true c2)
        | long y =>
          obtain ⟨h3, h4⟩ := j_cond_p h2
          rw [Bool.or_eq_true, decide_eq_true_eq, decide_eq_true_eq] at h3
          cases (Option.some.inj (show (some (some (Value.int x), me) : Option j_R) = some r from h4))
          exact g_zret c1 (of_decide_eq_true c2) h3
        | _ => cases c2
      case lreturn =>
        simp only [j_chk, Bool.and_eq_true, Bool.or_eq_true, decide_eq_true_eq] at hc
        obtain ⟨c1, c2⟩ := hc
        obtain ⟨x, rfl, h2⟩ := j_l0_p (show j_l0 False _ st from hs)
        cases (Option.some.inj (show (some (some (Value.long x), me) : Option j_R) = some r from h2))
        exact g_lret c1 c2
      case return_ =>
        simp only [j_chk, Bool.and_eq_true, Bool.or_eq_true, decide_eq_true_eq] at hc
        obtain ⟨c1, c2⟩ := hc
        cases st with
        | nil =>
          cases (Option.some.inj (show (some (none, me) : Option j_R) = some r from hs))
          exact g_vret c1 c2
        | cons w q => exact False.elim hs
      all_goals exact False.elim hs
end JR
