/-! ===== the interpreter's state as a world of the kit (own text) ===== -/
def j_ad (B tA tO a : Nat) : Nat := if a = 1000 then tA else if a = 1001 then tO else B + a
theorem j_ad_lt {B tA tO a : Nat} (h : a < 1000) : j_ad B tA tO a = B + a := by unfold j_ad; rw [if_neg (by omega), if_neg (by omega)]
def j_tr (B tA tO : Nat) (v : Value) : Value := match v with
  | .ref a => .ref (j_ad B tA tO a)
  | w => w
def j_fv (ad : Nat → Nat) (M : Nat → Int32) (rs : List (Option Nat)) (ty : FieldType) (k : Nat) : Value := bif j_isref ty then va_rf ((j_nth rs k).map ad) else .int (M k)
def j_cell (ad : Nat → Nat) (cI cJ cR : ClassId) (M : j_M) (N : j_N) (i : Nat) (x : Nat × Nat × List (Option Nat)) : va_E := match x.1 with
  | 0 => .inl (cI, x.2.1, .inl (M i))
  | 1 => .inl (cJ, x.2.1, .inr (.inl (N i)))
  | 2 => .inl (cR, x.2.1, .inr (.inr (.inr (.inr (fun k => (j_nth x.2.2 k).map ad)))))
  | c + 3 => .inr (c, (List.range (j_Nf c)).map (fun k => j_fv ad (M i) x.2.2 (j_ty c k) k))
def j_ws (B tA tO : Nat) (cI cJ cR : ClassId) (me : j_Me) : va_W := me.1.mapIdx (fun i x => (B + i, j_cell (j_ad B tA tO) cI cJ cR me.2.1 me.2.2 i x))
def j_sz : j_S → Nat
  | [] => 0
  | x :: r => x.2.1 + j_sz r
def j_as (L : List Value) : List (Nat × Value) := (L.mapIdx (fun i v => (i, v))).filter (fun q => decide (q.2 ≠ .null))
theorem j_at_get : ∀ (S : j_S) (a : Nat), (j_at S a).1 < 99 → S[a]? = some (j_at S a)
  | [], _, h => absurd h (by simp [j_at])
  | x :: _, 0, _ => rfl
  | _ :: r, k + 1, h => by
    rw [List.getElem?_cons_succ]
    exact j_at_get r k h
theorem j_at_of {S : j_S} {a : Nat} {x : Nat × Nat × List (Option Nat)} (h : S[a]? = some x) : j_at S a = x := by
  induction S generalizing a with
  | nil => simp at h
  | cons y r ih =>
    cases a with
    | zero => simpa [j_at] using h
    | succ k => rw [List.getElem?_cons_succ] at h; exact ih h
theorem j_ws_get {B tA tO : Nat} {cI cJ cR : ClassId} {me : j_Me} {a : Nat} {x : Nat × Nat × List (Option Nat)} (h : me.1[a]? = some x) : (j_ws B tA tO cI cJ cR me)[a]? = some (B + a, j_cell (j_ad B tA tO) cI cJ cR me.2.1 me.2.2 a x) := by
  unfold j_ws
  rw [List.getElem?_mapIdx, h]
  rfl
theorem j_ws_len {B tA tO : Nat} {cI cJ cR : ClassId} {me : j_Me} : (j_ws B tA tO cI cJ cR me).length = me.1.length := by simp [j_ws]
theorem j_ws_addr {B tA tO : Nat} {cI cJ cR : ClassId} {me : j_Me} {k : Nat} {q : Nat × va_E} (h : (j_ws B tA tO cI cJ cR me)[k]? = some q) : q.1 = B + k ∧ k < me.1.length := by
  unfold j_ws at h
  rw [List.getElem?_mapIdx] at h
  cases hx : me.1[k]? with
  | none => rw [hx] at h; cases h
  | some x =>
    rw [hx] at h
    cases h
    exact ⟨rfl, (List.getElem?_eq_some_iff.mp hx).1⟩
theorem j_D {B tA tO : Nat} {cI cJ cR : ClassId} {me : j_Me} : va_D (fun q => B ≤ q) (j_ws B tA tO cI cJ cR me) := by
  refine ⟨fun i j p q hi hj hpq => ?_, fun k q hk => ?_⟩
  · have h1 := (j_ws_addr hi).1
    have h2 := (j_ws_addr hj).1
    omega
  · have h1 := (j_ws_addr hk).1
    show B ≤ q.1
    omega
theorem j_cell_congr {B tA tO : Nat} {cI cJ cR : ClassId} {M M' : j_M} {N N' : j_N} {i : Nat} (x : Nat × Nat × List (Option Nat)) (hM : M' i = M i) (hN : N' i = N i) : j_cell (j_ad B tA tO) cI cJ cR M' N' i x = j_cell (j_ad B tA tO) cI cJ cR M N i x := by
  unfold j_cell
  rw [hM, hN]
theorem j_ws_set {B tA tO : Nat} {cI cJ cR : ClassId} {S : j_S} {M M' : j_M} {N N' : j_N} {c : Nat} (x' : Nat × Nat × List (Option Nat)) (hc : c < S.length) (hM : ∀ i, i ≠ c → M' i = M i) (hN : ∀ i, i ≠ c → N' i = N i) :
    j_ws B tA tO cI cJ cR (S.set c x', M', N') = (j_ws B tA tO cI cJ cR (S, M, N)).set c (B + c, j_cell (j_ad B tA tO) cI cJ cR M' N' c x') := by
  apply List.ext_getElem?
  intro k
  by_cases hk : k = c
  · subst hk
    rw [List.getElem?_set_self (by rw [j_ws_len]; exact hc)]
    exact j_ws_get (me := (S.set k x', M', N')) (List.getElem?_set_self hc)
  · rw [List.getElem?_set_ne (Ne.symm hk)]
    unfold j_ws
    rw [List.getElem?_mapIdx, List.getElem?_mapIdx]
    dsimp only
    rw [List.getElem?_set_ne (Ne.symm hk)]
    cases S[k]? with
    | none => rfl
    | some x =>
      simp only [Option.map_some]
      rw [j_cell_congr x (hM k hk) (hN k hk)]
theorem j_set_self {S : j_S} {c : Nat} {x : Nat × Nat × List (Option Nat)} (h : S[c]? = some x) : S.set c x = S := by
  apply List.ext_getElem?
  intro k
  by_cases hk : k = c
  · subst hk
    rw [List.getElem?_set_self (List.getElem?_eq_some_iff.mp h).1, h]
  · rw [List.getElem?_set_ne (Ne.symm hk)]
theorem j_ws_up {B tA tO : Nat} {cI cJ cR : ClassId} {S : j_S} {M M' : j_M} {N N' : j_N} {c : Nat} {x : Nat × Nat × List (Option Nat)} (h : S[c]? = some x) (hM : ∀ i, i ≠ c → M' i = M i) (hN : ∀ i, i ≠ c → N' i = N i) :
    j_ws B tA tO cI cJ cR (S, M', N') = (j_ws B tA tO cI cJ cR (S, M, N)).set c (B + c, j_cell (j_ad B tA tO) cI cJ cR M' N' c x) := by
  have e := j_ws_set (B := B) (tA := tA) (tO := tO) (cI := cI) (cJ := cJ) (cR := cR) (S := S) (M := M) (N := N) x (List.getElem?_eq_some_iff.mp h).1 hM hN
  rw [j_set_self h] at e
  exact e
theorem j_ws_push {B tA tO : Nat} {cI cJ cR : ClassId} {S : j_S} {M M' : j_M} {N N' : j_N} (x : Nat × Nat × List (Option Nat)) (hM : ∀ i, i < S.length → M' i = M i) (hN : ∀ i, i < S.length → N' i = N i) :
    j_ws B tA tO cI cJ cR (S ++ [x], M', N') = j_ws B tA tO cI cJ cR (S, M, N) ++ [(B + S.length, j_cell (j_ad B tA tO) cI cJ cR M' N' S.length x)] := by
  have hl : (j_ws B tA tO cI cJ cR (S, M, N)).length = S.length := j_ws_len
  apply List.ext_getElem?
  intro k
  rcases Nat.lt_trichotomy k S.length with hk | hk | hk
  · rw [List.getElem?_append_left (by rw [hl]; exact hk)]
    have hx : S[k]? = some S[k] := List.getElem?_eq_getElem hk
    rw [j_ws_get (me := (S, M, N)) hx, j_ws_get (me := (S ++ [x], M', N')) (x := S[k]) (by show (S ++ [x])[k]? = _; rw [List.getElem?_append_left hk]; exact hx)]
    show some (B + k, j_cell (j_ad B tA tO) cI cJ cR M' N' k _) = some (B + k, j_cell (j_ad B tA tO) cI cJ cR M N k _)
    rw [j_cell_congr _ (hM k hk) (hN k hk)]
  · subst hk
    rw [List.getElem?_append_right (by rw [hl]; exact Nat.le_refl _), hl, Nat.sub_self]
    exact j_ws_get (me := (S ++ [x], M', N')) (x := x) (by show (S ++ [x])[S.length]? = _; simp)
  · rw [List.getElem?_eq_none (by rw [j_ws_len]; show (S ++ [x]).length ≤ k; rw [List.length_append]; exact hk), List.getElem?_eq_none (by rw [List.length_append, hl]; exact hk)]
theorem j_sz_append (S T : j_S) : j_sz (S ++ T) = j_sz S + j_sz T := by
  induction S with
  | nil => simp [j_sz]
  | cons x r ih => simp [j_sz, ih]; omega
theorem j_sz_set {S : j_S} {c : Nat} {x x' : Nat × Nat × List (Option Nat)} (h : S[c]? = some x) (e : x'.2.1 = x.2.1) : j_sz (S.set c x') = j_sz S := by
  induction S generalizing c with
  | nil => simp at h
  | cons y r ih =>
    cases c with
    | zero =>
      have : y = x := by simpa using h
      subst this
      simp [j_sz, e]
    | succ k =>
      rw [List.getElem?_cons_succ] at h
      simp [j_sz, ih h]
/-- lists of values by a range -/
theorem j_range_set {β : Type} (n k : Nat) (f g : Nat → β) (v : β) (hk : k < n) (hv : g k = v) (ho : ∀ j, j ≠ k → g j = f j) : (List.range n).map g = ((List.range n).map f).set k v := by
  apply List.ext_getElem?
  intro j
  by_cases hj : j = k
  · subst hj
    rw [List.getElem?_set_self (by simpa using hk)]
    simp [List.getElem?_range hk, hv]
  · rw [List.getElem?_set_ne (Ne.symm hj)]
    simp only [List.getElem?_map]
    by_cases hl : j < n
    · rw [List.getElem?_range hl]
      simp [ho j hj]
    · rw [List.getElem?_eq_none (by simpa using hl)]
      rfl
theorem j_nth_set : ∀ (rs : List (Option Nat)) (b q k : Nat), j_nth (j_setx rs b q) k = if k = b then some q else j_nth rs k
  | [], 0, q, 0 => rfl
  | [], 0, q, k + 1 => by rw [if_neg (by omega)]; rfl
  | [], b + 1, q, 0 => by rw [if_neg (by omega)]; rfl
  | [], b + 1, q, k + 1 => by
    have h := j_nth_set [] b q k
    show j_nth (j_setx [] b q) k = _
    rw [h]
    by_cases e : k = b
    · rw [if_pos e, if_pos (by omega)]
    · rw [if_neg e, if_neg (by omega)]; rfl
  | x :: r, 0, q, 0 => rfl
  | x :: r, 0, q, k + 1 => by rw [if_neg (by omega)]; rfl
  | x :: r, b + 1, q, 0 => by rw [if_neg (by omega)]; rfl
  | x :: r, b + 1, q, k + 1 => by
    have h := j_nth_set r b q k
    show j_nth (j_setx r b q) k = _
    rw [h]
    by_cases e : k = b
    · rw [if_pos e, if_pos (by omega)]
    · rw [if_neg e, if_neg (by omega)]; rfl
theorem j_nth_rep (n k : Nat) : j_nth (List.replicate n none) k = none := by
  induction n generalizing k with
  | zero => rfl
  | succ n ih =>
    rw [List.replicate_succ]
    cases k with
    | zero => rfl
    | succ k => exact ih k
theorem j_nth_some {rs : List (Option Nat)} {k : Nat} (h : (j_nth rs k).isSome = true) : j_nth rs k = some ((j_nth rs k).getD 0) := by
  cases hx : j_nth rs k with
  | none => rw [hx] at h; cases h
  | some x => rfl
/-- locals -/
theorem j_as_mem {L : List Value} {q : Nat × Value} : q ∈ j_as L ↔ L[q.1]? = some q.2 ∧ q.2 ≠ .null := by
  unfold j_as
  rw [List.mem_filter]
  constructor
  · rintro ⟨h1, h2⟩
    obtain ⟨k, hk⟩ := List.getElem?_of_mem h1
    rw [List.getElem?_mapIdx] at hk
    cases hx : L[k]? with
    | none => rw [hx] at hk; cases hk
    | some v =>
      rw [hx] at hk
      cases hk
      exact ⟨hx, of_decide_eq_true h2⟩
  · rintro ⟨h1, h2⟩
    refine ⟨?_, decide_eq_true h2⟩
    refine List.mem_of_getElem? (i := q.1) ?_
    rw [List.getElem?_mapIdx, h1]
    rfl
theorem j_lv_of {ls : Array Slot} {n : Nat} {L L' : List Value} (h : lv_has ls n (j_as L)) (hL : ∀ (k : Nat) (v : Value), L'[k]? = some v → v ≠ .null → L[k]? = some v) : lv_has ls n (j_as L') := by
  refine ⟨h.1, h.2.1, fun q hq => ?_⟩
  obtain ⟨h1, h2⟩ := j_as_mem.mp hq
  exact h.2.2 q (j_as_mem.mpr ⟨hL _ _ h1 h2, h2⟩)
theorem j_lg_get {L : List Value} {a : Nat} {v : Value} (h : j_lg L a = v) (hv : v ≠ .null) : L[a]? = some v := by
  induction L generalizing a with
  | nil => exact absurd h.symm hv
  | cons w r ih =>
    cases a with
    | zero => rw [List.getElem?_cons_zero]; exact congrArg some h
    | succ k => rw [List.getElem?_cons_succ]; exact ih h
theorem j_mask_get : ∀ (bs : List Bool) (L : List Value) (k : Nat) (v : Value), (j_mask bs L)[k]? = some v → v ≠ .null → L[k]? = some v
  | [], L, k, v, h, _ => by
    cases L <;> exact h
  | b :: bs, [], k, v, h, _ => h
  | b :: bs, w :: r, 0, v, h, hv => by
    cases b with
    | true => exact h
    | false => exact absurd (Option.some.inj h).symm hv
  | b :: bs, w :: r, k + 1, v, h, hv => j_mask_get bs r k v h hv
theorem j_fg_get (cuts : List (Nat × List Bool)) (pc : Nat) (L : List Value) (k : Nat) (v : Value) (h : (j_fg cuts pc L)[k]? = some v) (hv : v ≠ .null) : L[k]? = some v := by
  unfold j_fg at h
  cases hx : j_lk cuts pc with
  | none => rw [hx] at h; exact h
  | some m => rw [hx] at h; exact j_mask_get m L k v h hv
theorem j_put_get : ∀ (L : List Value) (a : Nat) (x : Value) (k : Nat) (v : Value), (j_put L a x)[k]? = some v → v ≠ .null → (k = a ∧ v = x) ∨ (k ≠ a ∧ L[k]? = some v ∧ ¬ (k + 1 = a ∧ v.category = 2))
  | [], _, _, _, _, h, _ => by simp [j_put] at h
  | w :: r, 0, x, 0, v, h, _ => Or.inl ⟨rfl, (Option.some.inj h).symm⟩
  | w :: r, 0, x, k + 1, v, h, _ => Or.inr ⟨by omega, h, by omega⟩
  | w :: r, 1, x, 0, v, h, hv => by
    have e : j_kill w = v := Option.some.inj h
    refine Or.inr ⟨by omega, ?_, ?_⟩
    · cases w <;> first | exact absurd e.symm hv | exact congrArg some e
    · cases w <;> first | exact absurd e.symm hv | (rw [← e]; simp [j_kill, Value.category])
  | w :: r, 1, x, k + 1, v, h, hv => by
    rcases j_put_get r 0 x k v h hv with ⟨h1, h2⟩ | ⟨h1, h2, h3⟩
    · exact Or.inl ⟨by omega, h2⟩
    · exact Or.inr ⟨by omega, h2, by omega⟩
  | w :: r, a + 2, x, 0, v, h, _ => Or.inr ⟨by omega, h, by omega⟩
  | w :: r, a + 2, x, k + 1, v, h, hv => by
    rcases j_put_get r (a + 1) x k v h hv with ⟨h1, h2⟩ | ⟨h1, h2, h3⟩
    · exact Or.inl ⟨by omega, h2⟩
    · exact Or.inr ⟨by omega, h2, fun q => h3 ⟨by omega, q.2⟩⟩
theorem j_nul_get : ∀ (L : List Value) (a k : Nat) (v : Value), (j_nul L a)[k]? = some v → v ≠ .null → k ≠ a ∧ L[k]? = some v
  | [], _, _, _, h, _ => by simp [j_nul] at h
  | w :: r, 0, 0, v, h, hv => absurd (Option.some.inj h).symm hv
  | w :: r, 0, k + 1, v, h, _ => ⟨by omega, h⟩
  | w :: r, a + 1, 0, v, h, _ => ⟨by omega, h⟩
  | w :: r, a + 1, k + 1, v, h, hv => by
    obtain ⟨h1, h2⟩ := j_nul_get r a k v h hv
    exact ⟨by omega, h2⟩
theorem j_tr_null {B tA tO : Nat} {v : Value} : j_tr B tA tO v = .null ↔ v = .null := by cases v <;> simp [j_tr]
theorem j_tr_cat {B tA tO : Nat} {v : Value} : (j_tr B tA tO v).category = v.category := by cases v <;> rfl
theorem j_map_get {B tA tO : Nat} {L L' : List Value} (h : ∀ (k : Nat) (v : Value), L'[k]? = some v → v ≠ .null → L[k]? = some v) (k : Nat) (v : Value) (hk : (L'.map (j_tr B tA tO))[k]? = some v) (hv : v ≠ .null) : (L.map (j_tr B tA tO))[k]? = some v := by
  rw [List.getElem?_map] at hk ⊢
  cases hx : L'[k]? with
  | none => rw [hx] at hk; cases hk
  | some w =>
    rw [hx] at hk
    cases hk
    rw [h k w hx (fun e => hv (j_tr_null.mpr e))]
    rfl
/-- storing in the locals -/
theorem j_lv_put {B tA tO : Nat} {ls' : Array Slot} {n a : Nat} {L : List Value} {x : Value} (h : lv_has ls' n ((a, j_tr B tA tO x) :: (j_as (L.map (j_tr B tA tO))).filter (fun q => !(q.1 == a) && !(q.1 + 1 == a && q.2.category == 2)))) : lv_has ls' n (j_as ((j_put L a x).map (j_tr B tA tO))) := by
  refine ⟨h.1, h.2.1, fun q hq => ?_⟩
  obtain ⟨h1, h2⟩ := j_as_mem.mp hq
  rw [List.getElem?_map] at h1
  cases hx : (j_put L a x)[q.1]? with
  | none => rw [hx] at h1; cases h1
  | some w =>
    rw [hx] at h1
    have e : j_tr B tA tO w = q.2 := Option.some.inj h1
    have hw : w ≠ .null := fun z => h2 (by rw [← e]; exact j_tr_null.mpr z)
    apply h.2.2
    rcases j_put_get L a x q.1 w hx hw with ⟨e1, e2⟩ | ⟨e1, e2, e3⟩
    · refine List.mem_cons.mpr (Or.inl ?_)
      rw [← e1, ← e2, e]
    · refine List.mem_cons.mpr (Or.inr (List.mem_filter.mpr ⟨j_as_mem.mpr ⟨?_, h2⟩, ?_⟩))
      · rw [List.getElem?_map, e2]
        exact congrArg some e
      · rw [← e, j_tr_cat]
        simp only [Bool.and_eq_true, Bool.not_eq_true', beq_eq_false_iff_ne, ne_eq, Bool.and_eq_false_iff]
        refine ⟨e1, ?_⟩
        by_cases z : q.1 + 1 = a
        · exact Or.inr (fun z2 => e3 ⟨z, z2⟩)
        · exact Or.inl z
theorem j_lv_put2 {B tA tO : Nat} {ls' : Array Slot} {n a : Nat} {L : List Value} {x : Value} (h : lv_has ls' n ((a, j_tr B tA tO x) :: (j_as (L.map (j_tr B tA tO))).filter (fun q => !(q.1 == a) && (!(q.1 == a + 1) && !(q.1 + 1 == a && q.2.category == 2))))) : lv_has ls' n (j_as ((j_nul (j_put L a x) (a + 1)).map (j_tr B tA tO))) := by
  refine ⟨h.1, h.2.1, fun q hq => ?_⟩
  obtain ⟨h1, h2⟩ := j_as_mem.mp hq
  rw [List.getElem?_map] at h1
  cases hx : (j_nul (j_put L a x) (a + 1))[q.1]? with
  | none => rw [hx] at h1; cases h1
  | some w =>
    rw [hx] at h1
    have e : j_tr B tA tO w = q.2 := Option.some.inj h1
    have hw : w ≠ .null := fun z => h2 (by rw [← e]; exact j_tr_null.mpr z)
    apply h.2.2
    obtain ⟨e0, hx⟩ := j_nul_get _ _ _ _ hx hw
    rcases j_put_get L a x q.1 w hx hw with ⟨e1, e2⟩ | ⟨e1, e2, e3⟩
    · refine List.mem_cons.mpr (Or.inl ?_)
      rw [← e1, ← e2, e]
    · refine List.mem_cons.mpr (Or.inr (List.mem_filter.mpr ⟨j_as_mem.mpr ⟨?_, h2⟩, ?_⟩))
      · rw [List.getElem?_map, e2]
        exact congrArg some e
      · rw [← e, j_tr_cat]
        simp only [Bool.and_eq_true, Bool.not_eq_true', beq_eq_false_iff_ne, ne_eq, Bool.and_eq_false_iff]
        refine ⟨e1, e0, ?_⟩
        by_cases z : q.1 + 1 = a
        · exact Or.inr (fun z2 => e3 ⟨z, z2⟩)
        · exact Or.inl z
/-- what a step's propositions say -/
theorem j_i0_p {f : Int32 → Prop} {st : List Value} (h : j_i0 False f st) : ∃ x, st = [.int x] ∧ f x := by
  unfold j_i0 at h; split at h
  · exact ⟨_, rfl, h⟩
  · exact h.elim
theorem j_l0_p {f : Int64 → Prop} {st : List Value} (h : j_l0 False f st) : ∃ x, st = [.long x] ∧ f x := by
  unfold j_l0 at h; split at h
  · exact ⟨_, rfl, h⟩
  · exact h.elim
theorem j_i1_p {f : Int32 → List Value → Prop} {st : List Value} (h : j_i1 False f st) : ∃ x r, st = .int x :: r ∧ f x r := by
  unfold j_i1 at h; split at h
  · exact ⟨_, _, rfl, h⟩
  · exact h.elim
theorem j_i2_p {f : Int32 → Int32 → List Value → Prop} {st : List Value} (h : j_i2 False f st) : ∃ x y r, st = .int y :: .int x :: r ∧ f x y r := by
  unfold j_i2 at h; split at h
  · exact ⟨_, _, _, rfl, h⟩
  · exact h.elim
theorem j_l1_p {f : Int64 → List Value → Prop} {st : List Value} (h : j_l1 False f st) : ∃ x r, st = .long x :: r ∧ f x r := by
  unfold j_l1 at h; split at h
  · exact ⟨_, _, rfl, h⟩
  · exact h.elim
theorem j_l2_p {f : Int64 → Int64 → List Value → Prop} {st : List Value} (h : j_l2 False f st) : ∃ x y r, st = .long y :: .long x :: r ∧ f x y r := by
  unfold j_l2 at h; split at h
  · exact ⟨_, _, _, rfl, h⟩
  · exact h.elim
theorem j_il_p {f : Int64 → Int32 → List Value → Prop} {st : List Value} (h : j_il False f st) : ∃ x y r, st = .int y :: .long x :: r ∧ f x y r := by
  unfold j_il at h; split at h
  · exact ⟨_, _, _, rfl, h⟩
  · exact h.elim
theorem j_r1_p {f : Nat → List Value → Prop} {st : List Value} (h : j_r1 False f st) : ∃ x r, st = .ref x :: r ∧ f x r := by
  unfold j_r1 at h; split at h
  · exact ⟨_, _, rfl, h⟩
  · exact h.elim
theorem j_ri_p {f : Nat → Int32 → List Value → Prop} {st : List Value} (h : j_ri False f st) : ∃ a i r, st = .int i :: .ref a :: r ∧ f a i r := by
  unfold j_ri at h; split at h
  · exact ⟨_, _, _, rfl, h⟩
  · exact h.elim
theorem j_rI_p {f : Nat → Int32 → List Value → Prop} {st : List Value} (h : j_rI False f st) : ∃ a i r, st = .int i :: .ref a :: r ∧ f a i r := by
  unfold j_rI at h; split at h
  · exact ⟨_, _, _, rfl, h⟩
  · exact h.elim
theorem j_rii_p {f : Nat → Int32 → Int32 → List Value → Prop} {st : List Value} (h : j_rii False f st) : ∃ a i x r, st = .int x :: .int i :: .ref a :: r ∧ f a i x r := by
  unfold j_rii at h; split at h
  · exact ⟨_, _, _, _, rfl, h⟩
  · exact h.elim
theorem j_ril_p {f : Nat → Int32 → Int64 → List Value → Prop} {st : List Value} (h : j_ril False f st) : ∃ a i x r, st = .long x :: .int i :: .ref a :: r ∧ f a i x r := by
  unfold j_ril at h; split at h
  · exact ⟨_, _, _, _, rfl, h⟩
  · exact h.elim
theorem j_rir_p {f : Nat → Int32 → Nat → List Value → Prop} {st : List Value} (h : j_rir False f st) : ∃ a i x r, st = .ref x :: .int i :: .ref a :: r ∧ f a i x r := by
  unfold j_rir at h; split at h
  · exact ⟨_, _, _, _, rfl, h⟩
  · exact h.elim
theorem j_rr_p {f : Nat → Nat → List Value → Prop} {st : List Value} (h : j_rr False f st) : ∃ a x r, st = .ref x :: .ref a :: r ∧ f a x r := by
  unfold j_rr at h; split at h
  · exact ⟨_, _, _, rfl, h⟩
  · exact h.elim
theorem j_c5_p {f : Nat → Int32 → Nat → Int32 → Int32 → List Value → Prop} {st : List Value} (h : j_c5 False f st) : ∃ a0 sp a dp n r, st = .int n :: .int dp :: .ref a :: .int sp :: .ref a0 :: r ∧ f a0 sp a dp n r := by
  unfold j_c5 at h; split at h
  · exact ⟨_, _, _, _, _, _, rfl, h⟩
  · exact h.elim
theorem j_v1_p {f : Value → List Value → Prop} {st : List Value} (h : j_v1 False f st) : ∃ v r, st = v :: r ∧ v.category = 1 ∧ f v r := by
  unfold j_v1 at h; split at h
  · exact ⟨_, _, rfl, rfl, h⟩
  · exact ⟨_, _, rfl, rfl, h⟩
  · exact h.elim
theorem j_vi_p {f : Int32 → Prop} {v : Value} (h : j_vi False f v) : ∃ x, v = .int x ∧ f x := by
  unfold j_vi at h; split at h
  · exact ⟨_, rfl, h⟩
  · exact h.elim
theorem j_vl_p {f : Int64 → Prop} {v : Value} (h : j_vl False f v) : ∃ x, v = .long x ∧ f x := by
  unfold j_vl at h; split at h
  · exact ⟨_, rfl, h⟩
  · exact h.elim
theorem j_vr_p {f : Nat → Prop} {v : Value} (h : j_vr False f v) : ∃ x, v = .ref x ∧ f x := by
  unfold j_vr at h; split at h
  · exact ⟨_, rfl, h⟩
  · exact h.elim
theorem j_cond_p {c : Bool} {a : Prop} (h : bif c then a else False) : c = true ∧ a := by
  cases c with
  | true => exact ⟨rfl, h⟩
  | false => exact h.elim
theorem j_popk_p {f : List Value → List Value → Prop} : ∀ (n : Nat) (acc st : List Value), j_popk False f n acc st → ∃ as r, as.length = n ∧ st = as.reverse ++ r ∧ f (as ++ acc) r
  | 0, acc, st, h => ⟨[], st, rfl, rfl, h⟩
  | n + 1, acc, x :: r, h => by
    obtain ⟨as, r', h1, h2, h3⟩ := j_popk_p n (x :: acc) r h
    refine ⟨as ++ [x], r', by simp [h1], by simp [h2], ?_⟩
    rw [List.append_assoc]
    exact h3
  | _ + 1, _, [], h => h.elim
theorem j_sw_p {k : Nat → Prop} {d : Nat} {x : Int32} : ∀ (ts : List (Int32 × Nat)), j_sw k d x ts → (∃ (j t : Nat), ts[j]? = some (x, t) ∧ k t) ∨ ((∀ q ∈ ts, ¬ x = q.1) ∧ k d)
  | [], h => Or.inr ⟨fun _ hq => absurd hq List.not_mem_nil, h⟩
  | (c, t) :: r, h => by
    unfold j_sw at h
    by_cases hc : x = c
    · rw [if_pos hc] at h
      exact Or.inl ⟨0, t, by rw [hc]; rfl, h⟩
    · rw [if_neg hc] at h
      rcases j_sw_p r h with ⟨j, t', h1, h2⟩ | ⟨h1, h2⟩
      · exact Or.inl ⟨j + 1, t', h1, h2⟩
      · refine Or.inr ⟨fun q hq => ?_, h2⟩
        rcases List.mem_cons.mp hq with rfl | hq
        · exact hc
        · exact h1 q hq
theorem j_in_p {i : Int32} {n : Nat} (h : j_in i n = true) : vp_in i n := by
  unfold j_in at h
  unfold vp_in
  simp only [Bool.not_eq_true', Bool.or_eq_false_iff, decide_eq_false_iff_not] at h
  rintro (q | q)
  · exact h.1 q
  · have := Nat.ble_eq_true_of_le q
    rw [this] at h
    exact absurd h.2 (by simp)
