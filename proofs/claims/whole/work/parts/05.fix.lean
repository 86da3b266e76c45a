/-! ===== runs without fuel, and how they go on (own text) ===== -/
theorem j_go_rel {α β : Type} (Rel : α → β → Prop) {kn : Nat → List Value → List Value → j_Me → α} {kn' : Nat → List Value → List Value → j_Me → β} {kc : Nat → Value → List Value → Nat → List Value → List Value → j_Me → α} {kc' : Nat → Value → List Value → Nat → List Value → List Value → j_Me → β} {kcs : Nat → List Value → Nat → List Value → List Value → j_Me → α} {kcs' : Nat → List Value → Nat → List Value → List Value → j_Me → β} {kr : Option Value → j_Me → α} {kr' : Option Value → j_Me → β} {ks : α} {ks' : β}
    (hn : ∀ a b c d, Rel (kn a b c d) (kn' a b c d)) (hc : ∀ a b c d e f h, Rel (kc a b c d e f h) (kc' a b c d e f h)) (hcs : ∀ a b c d e f, Rel (kcs a b c d e f) (kcs' a b c d e f)) (hr : ∀ a b, Rel (kr a b) (kr' a b)) (hs : Rel ks ks') (K : j_K) (pc : Nat) (L st : List Value) (me : j_Me) :
    Rel (j_go kn kc kcs kr ks K pc L st me) (j_go kn' kc' kcs' kr' ks' K pc L st me) := by
  have h := (j_go (α := { p : α × β // Rel p.1 p.2 }) (fun a b c d => ⟨(kn a b c d, kn' a b c d), hn a b c d⟩) (fun a b c d e f h => ⟨(kc a b c d e f h, kc' a b c d e f h), hc a b c d e f h⟩) (fun a b c d e f => ⟨(kcs a b c d e f, kcs' a b c d e f), hcs a b c d e f⟩) (fun a b => ⟨(kr a b, kr' a b), hr a b⟩) ⟨(ks, ks'), hs⟩ K pc L st me).2
  have h1 := j_go_map (fun x : { p : α × β // Rel p.1 p.2 } => x.1.1) (fun a b c d => ⟨(kn a b c d, kn' a b c d), hn a b c d⟩) (fun a b c d e f h => ⟨(kc a b c d e f h, kc' a b c d e f h), hc a b c d e f h⟩) (fun a b c d e f => ⟨(kcs a b c d e f, kcs' a b c d e f), hcs a b c d e f⟩) (fun a b => ⟨(kr a b, kr' a b), hr a b⟩) ⟨(ks, ks'), hs⟩ K pc L st me
  have h2 := j_go_map (fun x : { p : α × β // Rel p.1 p.2 } => x.1.2) (fun a b c d => ⟨(kn a b c d, kn' a b c d), hn a b c d⟩) (fun a b c d e f h => ⟨(kc a b c d e f h, kc' a b c d e f h), hc a b c d e f h⟩) (fun a b c d e f => ⟨(kcs a b c d e f, kcs' a b c d e f), hcs a b c d e f⟩) (fun a b => ⟨(kr a b, kr' a b), hr a b⟩) ⟨(ks, ks'), hs⟩ K pc L st me
  dsimp only at h1 h2
  rw [h1, h2] at h
  exact h
abbrev j_Ru : Type := Nat → j_K → Nat → List Value → List Value → j_Me → Option j_R
def j_le (f g : j_Ru) : Prop := ∀ d K pc L st me r, f d K pc L st me = some r → g d K pc L st me = some r
theorem j_call_le {f g : j_Ru} (h : j_le f g) (d i : Nat) (as : List Value) (me : j_Me) (r : j_R) (hf : j_call f d i as me = some r) : j_call g d i as me = some r := by
  cases d with
  | zero => exact hf
  | succ d =>
    unfold j_call at hf ⊢
    dsimp only at hf ⊢
    cases hb : (Nat.ble (j_ent as).length (j_meth i).2.2 && Nat.blt i j_cnt) with
    | false => rw [hb] at hf; cases hf
    | true => rw [hb] at hf; exact h _ _ _ _ _ _ _ hf
theorem j_res_le {v : Value} {f g : List Value → Option j_R} {o : Option Value} {r : j_R} (h : ∀ vs, f vs = some r → g vs = some r) (hf : j_res none v f o = some r) : j_res none v g o = some r := by
  unfold j_res j_by j_oi j_ol j_ov at hf ⊢
  revert hf
  cases v <;> dsimp only <;> split <;> first | exact h _ | exact fun q => q
theorem j_bh_le {k k' : List Value → j_Me → Option j_R} {v : Value} {S : j_S} {q r : j_R} (h : ∀ vs me, k vs me = some r → k' vs me = some r) (hf : j_bh k v S q = some r) : j_bh k' v S q = some r := by
  unfold j_bh at hf ⊢
  cases hb : decide (q.2.1 = S) with
  | false => rw [hb] at hf; cases hf
  | true => rw [hb] at hf; exact j_res_le (fun vs => h vs _) hf
theorem j_bhs_le {k k' : j_Me → Option j_R} {q r : j_R} (h : ∀ me, k me = some r → k' me = some r) (hf : j_bhs k q = some r) : j_bhs k' q = some r := by
  unfold j_bhs j_ov at hf ⊢
  revert hf
  split
  · exact h _
  · exact fun q => q
theorem j_step_le {f g : j_Ru} (h : j_le f g) : j_le (j_step f) (j_step g) := by
  intro d K pc L st me r hf
  refine j_go_rel (fun a b : Option j_R => a = some r → b = some r) (fun _ _ _ _ => h _ _ _ _ _ _ _) (fun i v as pc' L' rs me => ?_) (fun i as pc' L' rs me => ?_) (fun _ _ q => q) (fun q => q) K pc L st me hf
  · intro hq
    rw [j_bind_map] at hq ⊢
    obtain ⟨q, h1, h2⟩ := hq
    exact ⟨q, j_call_le h _ _ _ _ _ h1, j_bh_le (fun vs me => h _ _ _ _ _ _ _) h2⟩
  · intro hq
    rw [j_bind_map] at hq ⊢
    obtain ⟨q, h1, h2⟩ := hq
    exact ⟨q, j_call_le h _ _ _ _ _ h1, j_bhs_le (fun me => h _ _ _ _ _ _ _) h2⟩
theorem j_run_le1 : ∀ n, j_le (j_run n) (j_run (n + 1))
  | 0 => fun _ _ _ _ _ _ _ h => by cases h
  | n + 1 => j_step_le (j_run_le1 n)
theorem j_run_le {n m : Nat} (h : n ≤ m) : j_le (j_run n) (j_run m) := by
  induction h with
  | refl => exact fun _ _ _ _ _ _ _ h => h
  | step _ ih => exact fun d K pc L st me r q => j_run_le1 _ d K pc L st me r (ih d K pc L st me r q)
noncomputable def R : j_Ru := fun d K pc L st me => @dite (Option j_R) (∃ r n, j_run n d K pc L st me = some r) (Classical.propDecidable _) (fun h => some h.choose) (fun _ => none)
theorem R_some {d : Nat} {K : j_K} {pc : Nat} {L st : List Value} {me : j_Me} {r : j_R} : R d K pc L st me = some r ↔ ∃ n, j_run n d K pc L st me = some r := by
  unfold R
  by_cases h : ∃ r n, j_run n d K pc L st me = some r
  · rw [dif_pos h]
    obtain ⟨n, hn⟩ := h.choose_spec
    constructor
    · intro e
      cases e
      exact ⟨n, hn⟩
    · rintro ⟨m, hm⟩
      have a := j_run_le (Nat.le_max_left n m) _ _ _ _ _ _ _ hn
      have b := j_run_le (Nat.le_max_right n m) _ _ _ _ _ _ _ hm
      rw [a] at b
      exact b
  · rw [dif_neg h]
    constructor
    · intro e
      cases e
    · rintro ⟨m, hm⟩
      exact absurd ⟨r, m, hm⟩ h
theorem j_run_R (n : Nat) : j_le (j_run n) R := fun _ _ _ _ _ _ _ h => R_some.mpr ⟨n, h⟩
theorem j_call_ex {d i : Nat} {as : List Value} {me : j_Me} {r : j_R} (h : j_call R d i as me = some r) : ∃ n, j_call (j_run n) d i as me = some r := by
  cases d with
  | zero => cases h
  | succ d =>
    unfold j_call at h ⊢
    dsimp only at h ⊢
    cases hb : (Nat.ble (j_ent as).length (j_meth i).2.2 && Nat.blt i j_cnt) with
    | false => rw [hb] at h; cases h
    | true => rw [hb] at h; exact R_some.mp h
theorem j_res_ex {v : Value} {f : List Value → Option j_R} {g : Nat → List Value → Option j_R} {o : Option Value} {r : j_R} (h : ∀ vs, f vs = some r → ∃ n, g n vs = some r) (hf : j_res none v f o = some r) : ∃ n, j_res none v (g n) o = some r := by
  unfold j_res j_by j_oi j_ol j_ov at hf ⊢
  revert hf
  cases v <;> dsimp only <;> split <;> first | exact h _ | exact fun q => by cases q
theorem j_step_ex {d : Nat} {K : j_K} {pc : Nat} {L st : List Value} {me : j_Me} {r : j_R} (h : j_step R d K pc L st me = some r) : ∃ n, j_step (j_run n) d K pc L st me = some r := by
  have key := j_go_rel (fun (a : Option j_R) (b : Nat → Option j_R) => a = some r → ∃ n, b n = some r)
    (kn := fun pc' L' st' me' => R d K pc' (j_fg K.2.1 pc' L') st' me') (kn' := fun pc' L' st' me' n => j_run n d K pc' (j_fg K.2.1 pc' L') st' me')
    (kc := fun i v as pc' L' r me => (j_call R d i as me).bind (j_bh (fun vs me' => R d K pc' (j_fg K.2.1 pc' L') (vs ++ r) me') v me.1))
    (kc' := fun i v as pc' L' r me n => (j_call (j_run n) d i as me).bind (j_bh (fun vs me' => j_run n d K pc' (j_fg K.2.1 pc' L') (vs ++ r) me') v me.1))
    (kcs := fun i as pc' L' r me => (j_call R d i as me).bind (j_bhs (fun me' => R d K pc' (j_fg K.2.1 pc' L') r me')))
    (kcs' := fun i as pc' L' r me n => (j_call (j_run n) d i as me).bind (j_bhs (fun me' => j_run n d K pc' (j_fg K.2.1 pc' L') r me')))
    (kr := fun v me => some (v, me)) (kr' := fun v me _ => some (v, me)) (ks := none) (ks' := fun _ => none)
    (fun _ _ _ _ => R_some.mp) (fun i v as pc' L' rs me => ?_) (fun i as pc' L' rs me => ?_) (fun _ _ q => ⟨0, q⟩) (fun q => by cases q) K pc L st me h
  · obtain ⟨n, hn⟩ := key
    refine ⟨n, ?_⟩
    rw [← hn]
    exact (j_go_map (fun f : Nat → Option j_R => f n) (fun pc' L' st' me' n => j_run n d K pc' (j_fg K.2.1 pc' L') st' me')
      (fun i v as pc' L' r me n => (j_call (j_run n) d i as me).bind (j_bh (fun vs me' => j_run n d K pc' (j_fg K.2.1 pc' L') (vs ++ r) me') v me.1))
      (fun i as pc' L' r me n => (j_call (j_run n) d i as me).bind (j_bhs (fun me' => j_run n d K pc' (j_fg K.2.1 pc' L') r me')))
      (fun v me _ => some (v, me)) (fun _ => none) K pc L st me).symm
  · intro hq
    rw [j_bind_map] at hq
    obtain ⟨q, h1, h2⟩ := hq
    obtain ⟨n1, e1⟩ := j_call_ex h1
    unfold j_bh at h2
    cases hb : decide (q.2.1 = me.1) with
    | false => rw [hb] at h2; cases h2
    | true =>
      rw [hb] at h2
      obtain ⟨n2, e2⟩ := j_res_ex (g := fun n vs => j_run n d K pc' (j_fg K.2.1 pc' L') (vs ++ rs) (me.1, q.2.2)) (fun vs => R_some.mp) h2
      refine ⟨max n1 n2, ?_⟩
      rw [j_bind_map]
      refine ⟨q, j_call_le (j_run_le (Nat.le_max_left n1 n2)) _ _ _ _ _ e1, ?_⟩
      unfold j_bh
      rw [hb]
      exact j_res_le (fun vs => j_run_le (Nat.le_max_right n1 n2) _ _ _ _ _ _ _) e2
  · intro hq
    rw [j_bind_map] at hq
    obtain ⟨q, h1, h2⟩ := hq
    obtain ⟨n1, e1⟩ := j_call_ex h1
    have h3 : q.1 = none ∧ R d K pc' (j_fg K.2.1 pc' L') rs q.2 = some r := by
      unfold j_bhs j_ov at h2
      revert h2
      split
      · next e => exact fun z => ⟨e, z⟩
      · exact fun z => by cases z
    obtain ⟨n2, e2⟩ := R_some.mp h3.2
    refine ⟨max n1 n2, ?_⟩
    rw [j_bind_map]
    refine ⟨q, j_call_le (j_run_le (Nat.le_max_left n1 n2)) _ _ _ _ _ e1, ?_⟩
    unfold j_bhs
    rw [h3.1]
    exact j_run_le (Nat.le_max_right n1 n2) _ _ _ _ _ _ _ e2
theorem R_eq (d : Nat) (K : j_K) (pc : Nat) (L st : List Value) (me : j_Me) : R d K pc L st me = j_step R d K pc L st me := by
  have key : ∀ r, R d K pc L st me = some r ↔ j_step R d K pc L st me = some r := by
    intro r
    constructor
    · intro h
      obtain ⟨n, hn⟩ := R_some.mp h
      cases n with
      | zero => cases hn
      | succ n => exact j_step_le (j_run_R n) _ _ _ _ _ _ _ hn
    · intro h
      obtain ⟨n, hn⟩ := j_step_ex h
      exact R_some.mpr ⟨n + 1, hn⟩
  cases h1 : R d K pc L st me with
  | some r => exact ((key r).mp h1).symm
  | none =>
    cases h2 : j_step R d K pc L st me with
    | none => rfl
    | some r => rw [(key r).mpr h2] at h1; cases h1
/-- a call that makes nothing: its answer, ints, longs -/
noncomputable def C (d i : Nat) (as : List Value) (S : j_S) (M : j_M) (N : j_N) : Option (Option Value × j_M × j_N) := (j_call R d i as (S, M, N)).bind fun q => bif decide (q.2.1 = S) then some (q.1, q.2.2) else none
theorem j_bh_C (d i : Nat) (as : List Value) (me : j_Me) (k : List Value → j_Me → Option j_R) (v : Value) : (j_call R d i as me).bind (j_bh k v me.1) = (C d i as me.1 me.2.1 me.2.2).bind fun q => j_res none v (fun vs => k vs (me.1, q.2)) q.1 := by
  unfold C
  show _ = ((j_call R d i as me).bind _).bind _
  cases j_call R d i as me with
  | none => rfl
  | some q =>
    simp only [Option.bind_some, j_bh]
    cases decide (q.2.1 = me.1) <;> rfl
noncomputable def j_ev (d : Nat) (K : j_K) : Nat → Nat → List Value → List Value → j_Me → Option j_R
  | 0, pc, L, st, me => R d K pc L st me
  | k + 1, pc, L, st, me => j_go (fun pc' L' st' me' => match j_lk K.2.1 pc' with
        | some m => R d K pc' (j_mask m L') st' me'
        | none => j_ev d K k pc' L' st' me')
      (fun i v as pc' L' r me => (C d i as me.1 me.2.1 me.2.2).bind fun q => j_res none v (fun vs => match j_lk K.2.1 pc' with
        | some m => R d K pc' (j_mask m L') (vs ++ r) (me.1, q.2)
        | none => j_ev d K k pc' L' (vs ++ r) (me.1, q.2)) q.1)
      (fun i as pc' L' r me => (j_call R d i as me).bind (j_bhs (fun me' => match j_lk K.2.1 pc' with
        | some m => R d K pc' (j_mask m L') r me'
        | none => j_ev d K k pc' L' r me')))
      (fun v me => some (v, me)) none K pc L st me
theorem R_ev (d : Nat) (K : j_K) : ∀ (k pc : Nat) (L st : List Value) (me : j_Me), R d K pc L st me = j_ev d K k pc L st me
  | 0, _, _, _, _ => rfl
  | k + 1, pc, L, st, me => by
    have e : ∀ pc' L' st' me', R d K pc' (j_fg K.2.1 pc' L') st' me' = (match j_lk K.2.1 pc' with
        | some m => R d K pc' (j_mask m L') st' me'
        | none => j_ev d K k pc' L' st' me') := by
      intro pc' L' st' me'
      unfold j_fg
      cases j_lk K.2.1 pc' with
      | some m => rfl
      | none => exact R_ev d K k pc' L' st' me'
    rw [R_eq]
    unfold j_step
    simp only [j_bh_C, e]
    rfl
theorem C_eq {d i : Nat} {as : List Value} {S : j_S} {M M' : j_M} {N N' : j_N} {v : Option Value} {K : j_K} {L : List Value} (hd : 1 ≤ d) (hi : i < j_cnt) (hK : j_meth i = K) (ha : (j_ent as).length ≤ K.2.2) (hL : j_pad K.2.2 (j_ent as) = L) (h : R (d - 1) K 0 L [] (S, M, N) = some (v, (S, M', N'))) : C d i as S M N = some (v, M', N') := by
  obtain ⟨d, rfl⟩ : ∃ e, d = e + 1 := ⟨d - 1, by omega⟩
  subst hK
  subst hL
  have hb : (Nat.ble (j_ent as).length (j_meth i).2.2 && Nat.blt i j_cnt) = true := by
    rw [Nat.ble_eq_true_of_le ha, Bool.true_and]
    exact Nat.ble_eq_true_of_le hi
  have hc : j_call R (d + 1) i as (S, M, N) = some (v, (S, M', N')) := by
    unfold j_call
    dsimp only
    rw [hb]
    exact h
  unfold C
  rw [hc]
  simp
