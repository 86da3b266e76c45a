/-! ===== runs: with fuel, and without (own text) ===== -/
section JMAP
variable {α β : Type} (g : α → β)
theorem j_i0_map (ks : α) (f : Int32 → α) (st : List Value) : g (j_i0 ks f st) = j_i0 (g ks) (fun x => g (f x)) st := by unfold j_i0; split <;> rfl
theorem j_l0_map (ks : α) (f : Int64 → α) (st : List Value) : g (j_l0 ks f st) = j_l0 (g ks) (fun x => g (f x)) st := by unfold j_l0; split <;> rfl
theorem j_i1_map (ks : α) (f : Int32 → List Value → α) (st : List Value) : g (j_i1 ks f st) = j_i1 (g ks) (fun x r => g (f x r)) st := by unfold j_i1; split <;> rfl
theorem j_i2_map (ks : α) (f : Int32 → Int32 → List Value → α) (st : List Value) : g (j_i2 ks f st) = j_i2 (g ks) (fun x y r => g (f x y r)) st := by unfold j_i2; split <;> rfl
theorem j_l1_map (ks : α) (f : Int64 → List Value → α) (st : List Value) : g (j_l1 ks f st) = j_l1 (g ks) (fun x r => g (f x r)) st := by unfold j_l1; split <;> rfl
theorem j_l2_map (ks : α) (f : Int64 → Int64 → List Value → α) (st : List Value) : g (j_l2 ks f st) = j_l2 (g ks) (fun x y r => g (f x y r)) st := by unfold j_l2; split <;> rfl
theorem j_il_map (ks : α) (f : Int64 → Int32 → List Value → α) (st : List Value) : g (j_il ks f st) = j_il (g ks) (fun x y r => g (f x y r)) st := by unfold j_il; split <;> rfl
theorem j_r1_map (ks : α) (f : Nat → List Value → α) (st : List Value) : g (j_r1 ks f st) = j_r1 (g ks) (fun x r => g (f x r)) st := by unfold j_r1; split <;> rfl
theorem j_ri_map (ks : α) (f : Nat → Int32 → List Value → α) (st : List Value) : g (j_ri ks f st) = j_ri (g ks) (fun x y r => g (f x y r)) st := by unfold j_ri; split <;> rfl
theorem j_rI_map (ks : α) (f : Nat → Int32 → List Value → α) (st : List Value) : g (j_rI ks f st) = j_rI (g ks) (fun x y r => g (f x y r)) st := by unfold j_rI; split <;> rfl
theorem j_rii_map (ks : α) (f : Nat → Int32 → Int32 → List Value → α) (st : List Value) : g (j_rii ks f st) = j_rii (g ks) (fun x y z r => g (f x y z r)) st := by unfold j_rii; split <;> rfl
theorem j_ril_map (ks : α) (f : Nat → Int32 → Int64 → List Value → α) (st : List Value) : g (j_ril ks f st) = j_ril (g ks) (fun x y z r => g (f x y z r)) st := by unfold j_ril; split <;> rfl
theorem j_rir_map (ks : α) (f : Nat → Int32 → Nat → List Value → α) (st : List Value) : g (j_rir ks f st) = j_rir (g ks) (fun x y z r => g (f x y z r)) st := by unfold j_rir; split <;> rfl
theorem j_rr_map (ks : α) (f : Nat → Nat → List Value → α) (st : List Value) : g (j_rr ks f st) = j_rr (g ks) (fun x y r => g (f x y r)) st := by unfold j_rr; split <;> rfl
theorem j_c5_map (ks : α) (f : Nat → Int32 → Nat → Int32 → Int32 → List Value → α) (st : List Value) : g (j_c5 ks f st) = j_c5 (g ks) (fun a b c d e r => g (f a b c d e r)) st := by unfold j_c5; split <;> rfl
theorem j_v1_map (ks : α) (f : Value → List Value → α) (st : List Value) : g (j_v1 ks f st) = j_v1 (g ks) (fun x r => g (f x r)) st := by unfold j_v1; split <;> rfl
theorem j_v2_map (ks : α) (f : Value → Value → List Value → α) (st : List Value) : g (j_v2 ks f st) = j_v2 (g ks) (fun x y r => g (f x y r)) st := by unfold j_v2; simp only [j_v1_map g]
theorem j_vi_map (ks : α) (f : Int32 → α) (v : Value) : g (j_vi ks f v) = j_vi (g ks) (fun x => g (f x)) v := by unfold j_vi; split <;> rfl
theorem j_vl_map (ks : α) (f : Int64 → α) (v : Value) : g (j_vl ks f v) = j_vl (g ks) (fun x => g (f x)) v := by unfold j_vl; split <;> rfl
theorem j_vr_map (ks : α) (f : Nat → α) (v : Value) : g (j_vr ks f v) = j_vr (g ks) (fun x => g (f x)) v := by unfold j_vr; split <;> rfl
theorem j_sw_map (k : Nat → α) (d : Nat) (x : Int32) : ∀ ts : List (Int32 × Nat), g (j_sw k d x ts) = j_sw (fun t => g (k t)) d x ts
  | [] => rfl
  | (c, t) :: r => by
    unfold j_sw
    split
    · rfl
    · exact j_sw_map k d x r
theorem j_popk_map (ks : α) (f : List Value → List Value → α) : ∀ (n : Nat) (acc st : List Value), g (j_popk ks f n acc st) = j_popk (g ks) (fun x r => g (f x r)) n acc st
  | 0, _, _ => rfl
  | n + 1, acc, x :: r => j_popk_map ks f n (x :: acc) r
  | _ + 1, _, [] => rfl
theorem j_by_map (v : Value) (i l r : α) : g (j_by v i l r) = j_by v (g i) (g l) (g r) := by unfold j_by; split <;> rfl
theorem j_br_map (c : Jvm.ClassFile.Cond) (x : Int32) (t f : α) : g (j_br c x t f) = j_br c x (g t) (g f) := by unfold j_br; split <;> split <;> rfl
theorem j_bc_map (c : Jvm.ClassFile.Cond) (x y : Int32) (t f : α) : g (j_bc c x y t f) = j_bc c x y (g t) (g f) := by unfold j_bc; split <;> split <;> rfl
theorem j_cond_map (c : Bool) (t f : α) : g (bif c then t else f) = bif c then g t else g f := by cases c <;> rfl
theorem j_ite_map (c : Prop) (h : Decidable c) (t f : α) : g (@ite α c h t f) = @ite β c h (g t) (g f) := by split <;> rfl
theorem j_nat_map (kn : List Value → j_Me → α) (ks : α) (a : Nat) (st : List Value) (me : j_Me) : g (j_nat kn ks a st me) = j_nat (fun r me => g (kn r me)) (g ks) a st me := by
  unfold j_nat
  simp only [j_cond_map g, j_c5_map g, j_i2_map g, j_l2_map g]
theorem j_oi_map (ks : α) (f : Int32 → α) (o : Option Value) : g (j_oi ks f o) = j_oi (g ks) (fun x => g (f x)) o := by unfold j_oi; split <;> rfl
theorem j_ol_map (ks : α) (f : Int64 → α) (o : Option Value) : g (j_ol ks f o) = j_ol (g ks) (fun x => g (f x)) o := by unfold j_ol; split <;> rfl
theorem j_ov_map (ks : α) (f : α) (o : Option Value) : g (j_ov ks f o) = j_ov (g ks) (g f) o := by unfold j_ov; split <;> rfl
theorem j_res_map (ks : α) (v : Value) (f : List Value → α) (o : Option Value) : g (j_res ks v f o) = j_res (g ks) v (fun vs => g (f vs)) o := by
  unfold j_res
  simp only [j_by_map g, j_oi_map g, j_ol_map g, j_ov_map g]
theorem j_ret_map (kr : Option Value → j_Me → α) (ks : α) (st : List Value) (me : j_Me) : g (match st with | [] => kr none me | _ => ks) = (match st with | [] => g (kr none me) | _ => g ks) := by split <;> rfl
set_option maxHeartbeats 4000000 in
theorem j_st_map (kn : Nat → List Value → List Value → j_Me → α) (kc : Nat → Value → List Value → Nat → List Value → List Value → j_Me → α) (kcs : Nat → List Value → Nat → List Value → List Value → j_Me → α) (kr : Option Value → j_Me → α) (ks : α) (pc : Nat) (ins : Instr) (z a b : Nat) (v : Value) (ts : List (Int32 × Nat)) (L st : List Value) (me : j_Me) :
    g (j_st kn kc kcs kr ks pc ins z a b v ts L st me) = j_st (fun a b c d => g (kn a b c d)) (fun a b c d e f h => g (kc a b c d e f h)) (fun a b c d e f => g (kcs a b c d e f)) (fun a b => g (kr a b)) (g ks) pc ins z a b v ts L st me := by
  cases ins <;> first
    | rfl
    | (simp only [j_st, j_i0_map g, j_l0_map g, j_i1_map g, j_i2_map g, j_l1_map g, j_l2_map g, j_il_map g, j_r1_map g, j_ri_map g, j_rI_map g, j_rii_map g, j_ril_map g, j_rir_map g, j_rr_map g, j_c5_map g, j_v1_map g, j_v2_map g, j_vi_map g, j_vl_map g, j_vr_map g, j_sw_map g, j_popk_map g, j_by_map g, j_br_map g, j_bc_map g, j_cond_map g, j_ite_map g, j_nat_map g, j_ret_map g]; done)
    | (simp only [j_st]; split <;> rfl)
theorem j_go_map (kn : Nat → List Value → List Value → j_Me → α) (kc : Nat → Value → List Value → Nat → List Value → List Value → j_Me → α) (kcs : Nat → List Value → Nat → List Value → List Value → j_Me → α) (kr : Option Value → j_Me → α) (ks : α) (K : j_K) (pc : Nat) (L st : List Value) (me : j_Me) :
    g (j_go kn kc kcs kr ks K pc L st me) = j_go (fun a b c d => g (kn a b c d)) (fun a b c d e f h => g (kc a b c d e f h)) (fun a b c d e f => g (kcs a b c d e f)) (fun a b => g (kr a b)) (g ks) K pc L st me := by
  unfold j_go
  split
  · rfl
  · exact j_st_map g ..
end JMAP
/-- a call: its method begins with its arguments -/
def j_call (run : Nat → j_K → Nat → List Value → List Value → j_Me → Option j_R) (d i : Nat) (as : List Value) (me : j_Me) : Option j_R := match d with
  | 0 => none
  | d' + 1 => bif Nat.ble (j_ent as).length (j_meth i).2.2 && Nat.blt i j_cnt then run d' (j_meth i) 0 (j_pad (j_meth i).2.2 (j_ent as)) [] me else none
/-- behind a call that makes nothing -/
def j_bh (k : List Value → j_Me → Option j_R) (v : Value) (S : j_S) (q : j_R) : Option j_R := bif decide (q.2.1 = S) then j_res none v (fun vs => k vs (S, q.2.2)) q.1 else none
def j_bhs (k : j_Me → Option j_R) (q : j_R) : Option j_R := j_ov none (k q.2) q.1
def j_step (run : Nat → j_K → Nat → List Value → List Value → j_Me → Option j_R) (d : Nat) (K : j_K) (pc : Nat) (L st : List Value) (me : j_Me) : Option j_R :=
  j_go (fun pc' L' st' me' => run d K pc' (j_fg K.2.1 pc' L') st' me')
    (fun i v as pc' L' r me => (j_call run d i as me).bind (j_bh (fun vs me' => run d K pc' (j_fg K.2.1 pc' L') (vs ++ r) me') v me.1))
    (fun i as pc' L' r me => (j_call run d i as me).bind (j_bhs (fun me' => run d K pc' (j_fg K.2.1 pc' L') r me')))
    (fun v me => some (v, me)) none K pc L st me
def j_run : Nat → Nat → j_K → Nat → List Value → List Value → j_Me → Option j_R
  | 0, _, _, _, _, _, _ => none
  | n + 1, d, K, pc, L, st, me => j_step (j_run n) d K pc L st me
theorem j_bind_map {α β : Type} (o : Option α) (f : α → Option β) (r : β) : (o.bind f = some r) = (∃ q, o = some q ∧ f q = some r) := by
  cases o with
  | none => simp
  | some x => simp
/-- what a step that ends says, as propositions -/
theorem j_step_some (run : Nat → j_K → Nat → List Value → List Value → j_Me → Option j_R) (d : Nat) (K : j_K) (pc : Nat) (L st : List Value) (me : j_Me) (r : j_R) : (j_step run d K pc L st me = some r) =
    j_go (fun pc' L' st' me' => run d K pc' (j_fg K.2.1 pc' L') st' me' = some r)
      (fun i v as pc' L' rs me => ∃ q, j_call run d i as me = some q ∧ j_bh (fun vs me' => run d K pc' (j_fg K.2.1 pc' L') (vs ++ rs) me') v me.1 q = some r)
      (fun i as pc' L' rs me => ∃ q, j_call run d i as me = some q ∧ j_bhs (fun me' => run d K pc' (j_fg K.2.1 pc' L') rs me') q = some r)
      (fun v me => (some (v, me) : Option j_R) = some r) False K pc L st me := by
  have h := j_go_map (fun o : Option j_R => o = some r) (fun pc' L' st' me' => run d K pc' (j_fg K.2.1 pc' L') st' me')
    (fun i v as pc' L' rs me => (j_call run d i as me).bind (j_bh (fun vs me' => run d K pc' (j_fg K.2.1 pc' L') (vs ++ rs) me') v me.1))
    (fun i as pc' L' rs me => (j_call run d i as me).bind (j_bhs (fun me' => run d K pc' (j_fg K.2.1 pc' L') rs me')))
    (fun v me => some (v, me)) none K pc L st me
  simp only [j_bind_map] at h
  have e : ((none : Option j_R) = some r) = False := by simp
  rw [e] at h
  exact h
