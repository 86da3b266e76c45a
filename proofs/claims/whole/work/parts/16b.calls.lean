/-! ===== the law's calls (own text) ===== -/
def i_d (pc : Nat) (ins : Instr) (len : Nat) : Bool := decide (decode code pc = .ok (ins, len))
theorem i_dp {pc : Nat} {ins : Instr} {len : Nat} (h : i_d pc ins len = true) : decode code pc = .ok (ins, len) := of_decide_eq_true h
/-- n places of the script are put down, from place j on -/
def i_aok : Nat → Nat → Nat → Bool
  | 0, _, _ => true
  | n + 1, j, pc => i_d pc (.aload_n 0) 1 && i_d (pc + 1) (.iload_n 3) 1 && i_d (pc + 2) (.iconst (j : Int)) 1 && i_d (pc + 3) .iadd 1 && i_d (pc + 4) .iaload 1 && i_aok n (j + 1) (pc + 5)
/-- a call whose answers are ints -/
def i_ci (n k1 k2 pc : Nat) : Bool := i_d pc (.aload_n 1) 1 && i_aok n 1 (pc + 1) && i_d (pc + 1 + 5 * n) (.invokevirtual k1) 3 && i_d (pc + 1 + 5 * n + 3) (.aload_n 2) 1 && i_aok n 1 (pc + 1 + 5 * n + 3 + 1) && i_d (pc + 1 + 5 * n + 3 + 1 + 5 * n) (.invokevirtual k2) 3 && i_d (pc + 1 + 5 * n + 3 + 1 + 5 * n + 3) (.if_icmp .eq (1394 - ((pc + 1 + 5 * n + 3 + 1 + 5 * n + 3 : Nat) : Int))) 3
/-- a call whose answers are longs -/
def i_cl (n k1 k2 pc : Nat) : Bool := i_d pc (.aload_n 1) 1 && i_aok n 1 (pc + 1) && i_d (pc + 1 + 5 * n) (.invokevirtual k1) 3 && i_d (pc + 1 + 5 * n + 3) (.aload_n 2) 1 && i_aok n 1 (pc + 1 + 5 * n + 3 + 1) && i_d (pc + 1 + 5 * n + 3 + 1 + 5 * n) (.invokevirtual k2) 3 && i_d (pc + 1 + 5 * n + 3 + 1 + 5 * n + 3) .lcmp 1 && i_d (pc + 1 + 5 * n + 3 + 1 + 5 * n + 3 + 1) (.ifCond .eq (1394 - ((pc + 1 + 5 * n + 3 + 1 + 5 * n + 3 + 1 : Nat) : Int))) 3
/-- a long out of two places -/
def i_lo (pc : Nat) : Bool := i_aok 1 3 pc && i_d (pc + 5) .i2l 1 && i_d (pc + 5 + 1) (.bipush 32) 2 && i_d (pc + 5 + 1 + 2) .lshl 1 && i_aok 1 4 (pc + 5 + 1 + 2 + 1) && i_d (pc + 5 + 1 + 2 + 1 + 5) .i2l 1 && i_d (pc + 5 + 1 + 2 + 1 + 5 + 1) (.ldc2_w 155) 3 && i_d (pc + 5 + 1 + 2 + 1 + 5 + 1 + 3) .land 1 && i_d (pc + 5 + 1 + 2 + 1 + 5 + 1 + 3 + 1) .lor 1
def i_w (y z : Int32) : Int64 := (y.toInt64 <<< ((Int8.ofInt 32).toInt32.toInt64 &&& 63)) ||| (z.toInt64 &&& 4294967295)
/-- the call of put -/
def i_cp (k1 k2 pc : Nat) : Bool := i_d pc (.aload_n 1) 1 && i_aok 2 1 (pc + 1) && i_lo (pc + 11) && i_d (pc + 31) (.invokevirtual k1) 3 && i_d (pc + 34) (.aload_n 2) 1 && i_aok 2 1 (pc + 35) && i_lo (pc + 45) && i_d (pc + 65) (.invokevirtual k2) 3 && i_d (pc + 68) (.if_icmp .eq (1394 - ((pc + 68 : Nat) : Int))) 3
/-- whom it calls -/
def i_lk (n k a cl p : Nat) : Bool := j_hn p (.methodLink R_law k (j_info a).1) && Nat.beq (j_info a).2.2.2.2.2.2 1 && Nat.beq (j_info a).2.2.2.2.2.1 n && Nat.beq (j_info a).2.2.2.2.1 cl
theorem i_lk_p {n k a cl p : Nat} (h : i_lk n k a cl p = true) : Cond.methodLink R_law k (j_info a).1 ∈ lw_tbl ∧ Nat.beq (j_info a).2.2.2.2.2.2 1 = true ∧ (j_info a).2.2.2.2.2.1 = n ∧ (j_info a).2.2.2.2.1 = cl := by
  unfold i_lk at h
  simp only [Bool.and_eq_true] at h
  exact ⟨j_hn_mem h.1.1.1, h.1.1.2, Nat.eq_of_beq_eq_true h.1.2, Nat.eq_of_beq_eq_true h.2⟩
theorem i_at0 : (j_at S0 0).1 = 10 + 3 := by decide +kernel
theorem i_at46 : (j_at S0 46).1 = 11 + 3 := by decide +kernel
theorem i_kl : Cond.constantLong R_law 155 4294967295 ∈ lw_tbl := j_hn_mem (p := 1637) (by decide +kernel)
theorem i_trs {B tA tO : Nat} (f : Nat → Int32) : ∀ (ts : List Nat), (ts.map (fun t => Value.int (f t))).map (j_tr B tA tO) = ts.map (fun t => Value.int (f t))
  | [] => rfl
  | t :: ts => congrArg (Value.int (f t) :: ·) (i_trs f ts)
theorem i_cmp (r : Int64) : lg_cmp r r = 0 := by
  unfold lg_cmp
  rw [if_neg (show ¬ r < r from Int64.lt_irrefl), if_pos rfl]
abbrev i_ls (b B i : Nat) : List (Nat × Value) := [(0, .ref b), (1, .ref (B + 0)), (2, .ref (B + 46)), (3, .int (nI i))]
section IB
variable {p : Program} {l : Launch} {e : Env} {s : State} {m : MethodId} {below : List Frame} {meth : Method} {c : Code} {b L : Nat} {xs : Nat → Int32} {tA tO : Nat} {dC : Nat → ClassId} {dI : Nat → Nat → Nat} {cI cJ cR : ClassId} {Q : State → Prop} {H : Heap} {locs : List Loc} {ls : Array Slot} {i : Nat}
set_option maxHeartbeats 4000000 in
theorem i_args {cells slots : Nat} (C0 : lw_At p s m meth c b L xs) (hS : va_S (j_A s.heap.size) s.heap H locs) (hl : lv_has ls 4 (i_ls b s.heap.size i)) (hL : L ≤ 3072) : ∀ (n j pc : Nat) (st : List Value), i_aok n j pc = true → i + j + n ≤ L → W p l e room_1 s m #[Value.ref b] below meth c H locs cells slots Q (F0 m (pc + 5 * n) ls (((List.range' (i + j) n).map (fun t => Value.int (xs t))).reverse ++ st)) → W p l e room_1 s m #[Value.ref b] below meth c H locs cells slots Q (F0 m pc ls st) := by
  obtain ⟨hx0, hb, hr, hml, hown, hts, hX, hbl, hlocks, hgv⟩ := C0
  have hbA : ¬ j_A s.heap.size b := Nat.not_le.mpr hbl
  intro n
  induction n with
  | zero => intro j pc st _ _ k; exact k
  | succ n ih =>
    intro j pc st h hij k
    unfold i_aok at h
    simp only [Bool.and_eq_true] at h
    obtain ⟨⟨⟨⟨⟨d0, d1⟩, d2⟩, d3⟩, d4⟩, h'⟩ := h
    refine lv_aload_n hx0 hb (i_dp d0) rfl (lv_at hl 0 rfl) ?_
    refine lv_iload_n hx0 hb (i_dp d1) rfl (lv_at hl 3 rfl) ?_
    refine lv_iconst (v := nI j) hx0 hb (i_dp d2) Int32.ofInt_eq_ofNat ?_
    refine lv_iadd hx0 hb (i_dp d3) ?_
    refine lv_topi (fun y ey => ?_)
    have ey2 : y = nI (i + j) := by rw [ey, nI_add]
    have hin : vp_in y L := by rw [ey2]; exact vp_in_nI (by omega) (by omega)
    refine va_sld hx0 hb hX hbl hbA hS hin (i_dp d4) ?_
    rw [ey2, nI_clamp (by omega)]
    refine ih (j + 1) (pc + 5) (.int (xs (i + j)) :: st) h' (by omega) ?_
    have e1 : ((List.range' (i + j) (n + 1)).map (fun t => Value.int (xs t))).reverse ++ st = ((List.range' (i + (j + 1)) n).map (fun t => Value.int (xs t))).reverse ++ (.int (xs (i + j)) :: st) := by
      rw [List.range'_succ, List.map_cons, List.reverse_cons, List.append_assoc]
      rfl
    rw [e1, show pc + 5 * (n + 1) = pc + 5 + 5 * n by omega] at k
    exact k
set_option maxHeartbeats 4000000 in
theorem i_case (hL : L ≤ 3072) (C0 : lw_At p s m meth c b L xs) (X : j_X s.heap.size tA tO dC dI cI cJ cR s) (hi : i + 6 ≤ L) (hl : lv_has ls 4 (i_ls b s.heap.size i)) {M : j_M} {N : j_N} {n k1 k2 pc a1 a2 p1 p2 : Nat} (inv : Inv M N) (hP : va_P (dC, dI) vwCl (j_ws s.heap.size tA tO cI cJ cR (S0, M, N)) H) (hS : va_S (j_A s.heap.size) s.heap H locs) (hn : n ≤ 5) (hd : i_ci n k1 k2 pc = true) (h1 : i_lk n k1 a1 10 p1 = true) (h2 : i_lk n k2 a2 11 p2 = true) (op : OpI a1 a2 ((List.range' (i + 1) n).map (fun t => Value.int (xs t))))
    (kk : ∀ (M2 : j_M) (N2 : j_N) (H2 : Heap) (locs2 : List Loc), Inv M2 N2 → va_P (dC, dI) vwCl (j_ws s.heap.size tA tO cI cJ cR (S0, M2, N2)) H2 → va_S (j_A s.heap.size) s.heap H2 locs2 → W p l e room_1 s m #[Value.ref b] below meth c H2 locs2 S0.length (j_sz S0) Q (F0 m 1394 ls [])) :
    W p l e room_1 s m #[Value.ref b] below meth c H locs S0.length (j_sz S0) Q (F0 m pc ls []) := by
  obtain ⟨r, M1, N1, M2, N2, e1, e2, inv2⟩ := op 101 M N (by omega) inv
  obtain ⟨hx0, hb, hr, hml, hown, hts, hXX, hbl, hlocks, hgv⟩ := id C0
  unfold i_ci at hd
  simp only [Bool.and_eq_true] at hd
  obtain ⟨⟨⟨⟨⟨⟨d0, d1⟩, d2⟩, d3⟩, d4⟩, d5⟩, d6⟩ := hd
  obtain ⟨w1, v1, n1, c1⟩ := i_lk_p h1
  obtain ⟨w2, v2, n2, c2⟩ := i_lk_p h2
  have hlen : ((List.range' (i + 1) n).map (fun t => Value.int (xs t))).length = n := by rw [List.length_map, List.length_range']
  refine lv_aload_n hx0 hb (i_dp d0) rfl (lv_at hl 1 rfl) ?_
  refine i_args C0 hS hl hL n 1 _ [.ref (s.heap.size + 0)] d1 (by omega) ?_
  refine i_callV (x := 0) (rest := []) (v := some (.int r)) C0 X (i_dp d2) w1 v1 (n1.trans hlen.symm) (by omega) (by rw [c1]; exact i_at0) (by omega) (Nat.le_of_ble_eq_true rfl) (i_trs xs _) e1 hP hS hl.1 (fun H1 locs1 P1 S1 => ?_)
  refine lv_aload_n hx0 hb (i_dp d3) rfl (lv_at hl 2 rfl) ?_
  refine i_args C0 S1 hl hL n 1 _ [.ref (s.heap.size + 46), .int r] d4 (by omega) ?_
  refine i_callV (x := 46) (rest := [.int r]) (v := some (.int r)) C0 X (i_dp d5) w2 v2 (n2.trans hlen.symm) (by omega) (by rw [c2]; exact i_at46) (by omega) (Nat.le_of_ble_eq_true rfl) (i_trs xs _) e2 P1 S1 hl.1 (fun H2 locs2 P2 S2 => ?_)
  exact lv_icmp_eq (x := r) (y := r) (rest := []) (tgt := 1394) hx0 hb (i_dp d6) (by omega) (fun _ => kk M2 N2 H2 locs2 inv2 P2 S2) (fun h => absurd rfl h)
set_option maxHeartbeats 4000000 in
theorem i_casel (hL : L ≤ 3072) (C0 : lw_At p s m meth c b L xs) (X : j_X s.heap.size tA tO dC dI cI cJ cR s) (hi : i + 6 ≤ L) (hl : lv_has ls 4 (i_ls b s.heap.size i)) {M : j_M} {N : j_N} {n k1 k2 pc a1 a2 p1 p2 : Nat} (inv : Inv M N) (hP : va_P (dC, dI) vwCl (j_ws s.heap.size tA tO cI cJ cR (S0, M, N)) H) (hS : va_S (j_A s.heap.size) s.heap H locs) (hn : n ≤ 5) (hd : i_cl n k1 k2 pc = true) (h1 : i_lk n k1 a1 10 p1 = true) (h2 : i_lk n k2 a2 11 p2 = true) (op : OpL a1 a2 ((List.range' (i + 1) n).map (fun t => Value.int (xs t))))
    (kk : ∀ (M2 : j_M) (N2 : j_N) (H2 : Heap) (locs2 : List Loc), Inv M2 N2 → va_P (dC, dI) vwCl (j_ws s.heap.size tA tO cI cJ cR (S0, M2, N2)) H2 → va_S (j_A s.heap.size) s.heap H2 locs2 → W p l e room_1 s m #[Value.ref b] below meth c H2 locs2 S0.length (j_sz S0) Q (F0 m 1394 ls [])) :
    W p l e room_1 s m #[Value.ref b] below meth c H locs S0.length (j_sz S0) Q (F0 m pc ls []) := by
  obtain ⟨r, M1, N1, M2, N2, e1, e2, inv2⟩ := op 101 M N (by omega) inv
  obtain ⟨hx0, hb, hr, hml, hown, hts, hXX, hbl, hlocks, hgv⟩ := id C0
  unfold i_cl at hd
  simp only [Bool.and_eq_true] at hd
  obtain ⟨⟨⟨⟨⟨⟨⟨d0, d1⟩, d2⟩, d3⟩, d4⟩, d5⟩, d6⟩, d7⟩ := hd
  obtain ⟨w1, v1, n1, c1⟩ := i_lk_p h1
  obtain ⟨w2, v2, n2, c2⟩ := i_lk_p h2
  have hlen : ((List.range' (i + 1) n).map (fun t => Value.int (xs t))).length = n := by rw [List.length_map, List.length_range']
  refine lv_aload_n hx0 hb (i_dp d0) rfl (lv_at hl 1 rfl) ?_
  refine i_args C0 hS hl hL n 1 _ [.ref (s.heap.size + 0)] d1 (by omega) ?_
  refine i_callV (x := 0) (rest := []) (v := some (.long r)) C0 X (i_dp d2) w1 v1 (n1.trans hlen.symm) (by omega) (by rw [c1]; exact i_at0) (by omega) (Nat.le_of_ble_eq_true rfl) (i_trs xs _) e1 hP hS hl.1 (fun H1 locs1 P1 S1 => ?_)
  refine lv_aload_n hx0 hb (i_dp d3) rfl (lv_at hl 2 rfl) ?_
  refine i_args C0 S1 hl hL n 1 _ [.ref (s.heap.size + 46), .long r] d4 (by omega) ?_
  refine i_callV (x := 46) (rest := [.long r]) (v := some (.long r)) C0 X (i_dp d5) w2 v2 (n2.trans hlen.symm) (by omega) (by rw [c2]; exact i_at46) (by omega) (Nat.le_of_ble_eq_true rfl) (i_trs xs _) e2 P1 S1 hl.1 (fun H2 locs2 P2 S2 => ?_)
  refine W.lcmp (x := r) (y := r) (rest := []) hx0 hb (i_dp d6) ?_
  exact lv_if_eq (tgt := 1394) hx0 hb (i_dp d7) (by omega) (fun _ => kk M2 N2 H2 locs2 inv2 P2 S2) (fun h => absurd (i_cmp r) h)
set_option maxHeartbeats 4000000 in
theorem i_long {cells slots : Nat} (hL : L ≤ 3072) (C0 : lw_At p s m meth c b L xs) (hi : i + 6 ≤ L) (hl : lv_has ls 4 (i_ls b s.heap.size i)) (hS : va_S (j_A s.heap.size) s.heap H locs) {pc : Nat} {st : List Value} (hd : i_lo pc = true)
    (k : W p l e room_1 s m #[Value.ref b] below meth c H locs cells slots Q (F0 m (pc + 20) ls (.long (i_w (xs (i + 3)) (xs (i + 4))) :: st))) : W p l e room_1 s m #[Value.ref b] below meth c H locs cells slots Q (F0 m pc ls st) := by
  obtain ⟨hx0, hb, hr, hml, hown, hts, hXX, hbl, hlocks, hgv⟩ := id C0
  unfold i_lo at hd
  simp only [Bool.and_eq_true] at hd
  obtain ⟨⟨⟨⟨⟨⟨⟨⟨d0, d1⟩, d2⟩, d3⟩, d4⟩, d5⟩, d6⟩, d7⟩, d8⟩ := hd
  refine i_args C0 hS hl hL 1 3 pc st d0 (by omega) ?_
  show W p l e room_1 s m #[Value.ref b] below meth c H locs cells slots Q (F0 m (pc + 5) ls (.int (xs (i + 3)) :: st))
  refine lv_i2l hx0 hb (i_dp d1) rfl ?_
  refine lv_bipush (v := (Int8.ofInt 32).toInt32) hx0 hb (i_dp d2) rfl ?_
  refine lv_lshl hx0 hb (i_dp d3) rfl ?_
  refine i_args C0 hS hl hL 1 4 _ _ d4 (by omega) ?_
  show W p l e room_1 s m #[Value.ref b] below meth c H locs cells slots Q (F0 m (pc + 5 + 1 + 2 + 1 + 5) ls (.int (xs (i + 4)) :: .long ((xs (i + 3)).toInt64 <<< ((Int8.ofInt 32).toInt32.toInt64 &&& 63)) :: st))
  refine lv_i2l hx0 hb (i_dp d5) rfl ?_
  refine lv_ldc2 hx0 hb hown (hts _ i_kl) (i_dp d6) ?_
  refine lv_land hx0 hb (i_dp d7) ?_
  refine lv_lor hx0 hb (i_dp d8) ?_
  exact k
set_option maxHeartbeats 4000000 in
theorem i_casep (hL : L ≤ 3072) (C0 : lw_At p s m meth c b L xs) (X : j_X s.heap.size tA tO dC dI cI cJ cR s) (hi : i + 6 ≤ L) (hl : lv_has ls 4 (i_ls b s.heap.size i)) {M : j_M} {N : j_N} {k1 k2 pc a1 a2 p1 p2 : Nat} (inv : Inv M N) (hP : va_P (dC, dI) vwCl (j_ws s.heap.size tA tO cI cJ cR (S0, M, N)) H) (hS : va_S (j_A s.heap.size) s.heap H locs) (hd : i_cp k1 k2 pc = true) (h1 : i_lk 3 k1 a1 10 p1 = true) (h2 : i_lk 3 k2 a2 11 p2 = true) (op : OpI a1 a2 [.int (xs (i + 1)), .int (xs (i + 1 + 1)), .long (i_w (xs (i + 3)) (xs (i + 4)))])
    (kk : ∀ (M2 : j_M) (N2 : j_N) (H2 : Heap) (locs2 : List Loc), Inv M2 N2 → va_P (dC, dI) vwCl (j_ws s.heap.size tA tO cI cJ cR (S0, M2, N2)) H2 → va_S (j_A s.heap.size) s.heap H2 locs2 → W p l e room_1 s m #[Value.ref b] below meth c H2 locs2 S0.length (j_sz S0) Q (F0 m 1394 ls [])) :
    W p l e room_1 s m #[Value.ref b] below meth c H locs S0.length (j_sz S0) Q (F0 m pc ls []) := by
  obtain ⟨r, M1, N1, M2, N2, e1, e2, inv2⟩ := op 101 M N (by omega) inv
  obtain ⟨hx0, hb, hr, hml, hown, hts, hXX, hbl, hlocks, hgv⟩ := id C0
  unfold i_cp at hd
  simp only [Bool.and_eq_true] at hd
  obtain ⟨⟨⟨⟨⟨⟨⟨⟨d0, d1⟩, d2⟩, d3⟩, d4⟩, d5⟩, d6⟩, d7⟩, d8⟩ := hd
  obtain ⟨w1, v1, n1, c1⟩ := i_lk_p h1
  obtain ⟨w2, v2, n2, c2⟩ := i_lk_p h2
  refine lv_aload_n hx0 hb (i_dp d0) rfl (lv_at hl 1 rfl) ?_
  refine i_args C0 hS hl hL 2 1 _ [.ref (s.heap.size + 0)] d1 (by omega) ?_
  show W p l e room_1 s m #[Value.ref b] below meth c H locs S0.length (j_sz S0) Q (F0 m (pc + 11) ls [.int (xs (i + 1 + 1)), .int (xs (i + 1)), .ref (s.heap.size + 0)])
  refine i_long hL C0 hi hl hS d2 ?_
  refine i_callV (x := 0) (as := [.int (xs (i + 1)), .int (xs (i + 1 + 1)), .long (i_w (xs (i + 3)) (xs (i + 4)))]) (rest := []) (v := some (.int r)) C0 X (i_dp d3) w1 v1 n1 (by omega) (by rw [c1]; exact i_at0) (by omega) (Nat.le_of_ble_eq_true rfl) rfl e1 hP hS hl.1 (fun H1 locs1 P1 S1 => ?_)
  refine lv_aload_n hx0 hb (i_dp d4) rfl (lv_at hl 2 rfl) ?_
  refine i_args C0 S1 hl hL 2 1 _ [.ref (s.heap.size + 46), .int r] d5 (by omega) ?_
  show W p l e room_1 s m #[Value.ref b] below meth c H1 locs1 S0.length (j_sz S0) Q (F0 m (pc + 45) ls [.int (xs (i + 1 + 1)), .int (xs (i + 1)), .ref (s.heap.size + 46), .int r])
  refine i_long hL C0 hi hl S1 d6 ?_
  refine i_callV (x := 46) (as := [.int (xs (i + 1)), .int (xs (i + 1 + 1)), .long (i_w (xs (i + 3)) (xs (i + 4)))]) (rest := [.int r]) (v := some (.int r)) C0 X (i_dp d7) w2 v2 n2 (by omega) (by rw [c2]; exact i_at46) (by omega) (Nat.le_of_ble_eq_true rfl) rfl e2 P1 S1 hl.1 (fun H2 locs2 P2 S2 => ?_)
  exact lv_icmp_eq (x := r) (y := r) (rest := []) (tgt := 1394) hx0 hb (i_dp d8) (by omega) (fun _ => kk M2 N2 H2 locs2 inv2 P2 S2) (fun h => absurd rfl h)
end IB
