/-! ===== the law's loop and its start (own text; rows of the code printed by wip/whole/genlaw.py) ===== -/
set_option maxRecDepth 100000 in
theorem dW_0 : decode code 0 = .ok (.new 7, 3) := by decide +kernel
set_option maxRecDepth 100000 in
theorem dW_3 : decode code 3 = .ok (.dup, 1) := by decide +kernel
set_option maxRecDepth 100000 in
theorem dW_4 : decode code 4 = .ok (.invokespecial 9, 3) := by decide +kernel
set_option maxRecDepth 100000 in
theorem dW_7 : decode code 7 = .ok (.astore_n 1, 1) := by decide +kernel
set_option maxRecDepth 100000 in
theorem dW_8 : decode code 8 = .ok (.new 10, 3) := by decide +kernel
set_option maxRecDepth 100000 in
theorem dW_11 : decode code 11 = .ok (.dup, 1) := by decide +kernel
set_option maxRecDepth 100000 in
theorem dW_12 : decode code 12 = .ok (.invokespecial 12, 3) := by decide +kernel
set_option maxRecDepth 100000 in
theorem dW_15 : decode code 15 = .ok (.astore_n 2, 1) := by decide +kernel
set_option maxRecDepth 100000 in
theorem dW_16 : decode code 16 = .ok (.iconst 0, 1) := by decide +kernel
set_option maxRecDepth 100000 in
theorem dW_17 : decode code 17 = .ok (.istore_n 3, 1) := by decide +kernel
set_option maxRecDepth 100000 in
theorem dW_18 : decode code 18 = .ok (.iload_n 3, 1) := by decide +kernel
set_option maxRecDepth 100000 in
theorem dW_19 : decode code 19 = .ok (.aload_n 0, 1) := by decide +kernel
set_option maxRecDepth 100000 in
theorem dW_20 : decode code 20 = .ok (.arraylength, 1) := by decide +kernel
set_option maxRecDepth 100000 in
theorem dW_21 : decode code 21 = .ok (.bipush 6, 2) := by decide +kernel
set_option maxRecDepth 100000 in
theorem dW_23 : decode code 23 = .ok (.isub, 1) := by decide +kernel
set_option maxRecDepth 100000 in
theorem dW_24 : decode code 24 = .ok (.if_icmp .gt 1376, 3) := by decide +kernel
set_option maxRecDepth 100000 in
theorem dW_27 : decode code 27 = .ok (.aload_n 0, 1) := by decide +kernel
set_option maxRecDepth 100000 in
theorem dW_28 : decode code 28 = .ok (.iload_n 3, 1) := by decide +kernel
set_option maxRecDepth 100000 in
theorem dW_29 : decode code 29 = .ok (.iaload, 1) := by decide +kernel
set_option maxRecDepth 100000 in
theorem dW_30 : decode code 30 = .ok (.bipush 63, 2) := by decide +kernel
set_option maxRecDepth 100000 in
theorem dW_32 : decode code 32 = .ok (.iand, 1) := by decide +kernel
set_option maxRecDepth 100000 in
theorem dW_33 : decode code 33 = .ok (.tableswitch 1361 0 38 #[171, 194, 237, 280, 313, 346, 369, 382, 415, 459, 482, 505, 528, 551, 584, 607, 640, 673, 716, 739, 783, 796, 849, 872, 895, 918, 931, 944, 957, 970, 993, 1036, 1059, 1092, 1135, 1208, 1242, 1305, 1338], 171) := by decide +kernel
set_option maxRecDepth 100000 in
theorem dW_1394 : decode code 1394 = .ok (.iinc 3 6, 3) := by decide +kernel
set_option maxRecDepth 100000 in
theorem dW_1397 : decode code 1397 = .ok (.goto (-1379), 3) := by decide +kernel
set_option maxRecDepth 100000 in
theorem dW_1400 : decode code 1400 = .ok (.iconst 1, 1) := by decide +kernel
set_option maxRecDepth 100000 in
theorem dW_1401 : decode code 1401 = .ok (.ireturn, 1) := by decide +kernel
def i_tg : Nat → Nat
  | 0 => 204
  | 1 => 227
  | 2 => 270
  | 3 => 313
  | 4 => 346
  | 5 => 379
  | 6 => 402
  | 7 => 415
  | 8 => 448
  | 9 => 492
  | 10 => 515
  | 11 => 538
  | 12 => 561
  | 13 => 584
  | 14 => 617
  | 15 => 640
  | 16 => 673
  | 17 => 706
  | 18 => 749
  | 19 => 772
  | 20 => 816
  | 21 => 829
  | 22 => 882
  | 23 => 905
  | 24 => 928
  | 25 => 951
  | 26 => 964
  | 27 => 977
  | 28 => 990
  | 29 => 1003
  | 30 => 1026
  | 31 => 1069
  | 32 => 1092
  | 33 => 1125
  | 34 => 1168
  | 35 => 1241
  | 36 => 1275
  | 37 => 1338
  | 38 => 1371
  | _ => 1394
set_option maxRecDepth 100000 in
theorem i_of : ∀ t, t < 39 → (#[171, 194, 237, 280, 313, 346, 369, 382, 415, 459, 482, 505, 528, 551, 584, 607, 640, 673, 716, 739, 783, 796, 849, 872, 895, 918, 931, 944, 957, 970, 993, 1036, 1059, 1092, 1135, 1208, 1242, 1305, 1338] : Array Int)[t]? = some ((i_tg t : Int) - 33) := by decide +kernel
theorem i_small : ∀ L, L < 6 → ∀ i, i < 6 → Int32.ofNat L - 6 < nI i := by decide +kernel
theorem i_bnd {i L : Nat} (hL : L ≤ 3072) (hi : i ≤ L) (hc : ¬ Int32.ofNat L - 6 < nI i) : i + 6 ≤ L := by
  rcases Nat.lt_or_ge L 6 with h | h
  · exact absurd (i_small L h i (by omega)) hc
  · obtain ⟨k, rfl⟩ : ∃ k, L = k + 6 := ⟨L - 6, by omega⟩
    have e : Int32.ofNat (k + 6) - 6 = nI k := by
      show nI (k + 6) - nI 6 = nI k
      rw [← nI_add]
      exact Int32.add_sub_cancel _ _
    rw [e] at hc
    rcases Nat.lt_or_ge k i with q | q
    · exact absurd (nI_lt q (by omega)) hc
    · omega
section IL
variable {p : Program} {l : Launch} {e : Env} {s : State} {m : MethodId} {below : List Frame} {meth : Method} {c : Code} {b L : Nat} {xs : Nat → Int32} {tA tO : Nat} {dC : Nat → ClassId} {dI : Nat → Nat → Nat} {cI cJ cR : ClassId}
set_option maxHeartbeats 4000000 in
theorem i_sel {Q : State → Prop} {H : Heap} {locs : List Loc} {ls : Array Slot} {i : Nat} (hL : L ≤ 3072) (C0 : lw_At p s m meth c b L xs) (X : j_X s.heap.size tA tO dC dI cI cJ cR s) (hi : i + 6 ≤ L) (hl : lv_has ls 4 (i_ls b s.heap.size i)) {M : j_M} {N : j_N} (inv : Inv M N) (hP : va_P (dC, dI) vwCl (j_ws s.heap.size tA tO cI cJ cR (S0, M, N)) H) (hS : va_S (j_A s.heap.size) s.heap H locs)
    (kk : ∀ (M2 : j_M) (N2 : j_N) (H2 : Heap) (locs2 : List Loc), Inv M2 N2 → va_P (dC, dI) vwCl (j_ws s.heap.size tA tO cI cJ cR (S0, M2, N2)) H2 → va_S (j_A s.heap.size) s.heap H2 locs2 → W p l e room_1 s m #[Value.ref b] below meth c H2 locs2 S0.length (j_sz S0) Q (F0 m 1394 ls [])) (t : Nat) (ht : t < 39) :
    W p l e room_1 s m #[Value.ref b] below meth c H locs S0.length (j_sz S0) Q (F0 m (i_tg t) ls []) := by
  match t, ht with
  | 0, _ => exact i_case hL C0 X hi hl inv hP hS (by omega) i_x0 i_y0 i_z0 P_guest kk
  | 1, _ => exact i_case hL C0 X hi hl inv hP hS (by omega) i_x1 i_y1 i_z1 P_guests kk
  | 2, _ => exact i_case hL C0 X hi hl inv hP hS (by omega) i_x2 i_y2 i_z2 P_mend kk
  | 3, _ => exact i_case hL C0 X hi hl inv hP hS (by omega) i_x3 i_y3 i_z3 P_of kk
  | 4, _ => exact i_case hL C0 X hi hl inv hP hS (by omega) i_x4 i_y4 i_z4 P_think kk
  | 5, _ => exact i_case hL C0 X hi hl inv hP hS (by omega) i_x5 i_y5 i_z5 P_feed kk
  | 6, _ => exact i_case hL C0 X hi hl inv hP hS (by omega) i_x6 i_y6 i_z6 P_law kk
  | 7, _ => exact i_case hL C0 X hi hl inv hP hS (by omega) i_x7 i_y7 i_z7 P_putIn kk
  | 8, _ => exact i_casel hL C0 X hi hl inv hP hS (by omega) i_x8 i_y8 i_z8 P_mean kk
  | 9, _ => exact i_case hL C0 X hi hl inv hP hS (by omega) i_x9 i_y9 i_z9 P_bestMean kk
  | 10, _ => exact i_case hL C0 X hi hl inv hP hS (by omega) i_x10 i_y10 i_z10 P_rest kk
  | 11, _ => exact i_case hL C0 X hi hl inv hP hS (by omega) i_x11 i_y11 i_z11 P_rests kk
  | 12, _ => exact i_case hL C0 X hi hl inv hP hS (by omega) i_x12 i_y12 i_z12 P_turns kk
  | 13, _ => exact i_case hL C0 X hi hl inv hP hS (by omega) i_x13 i_y13 i_z13 P_agree kk
  | 14, _ => exact i_case hL C0 X hi hl inv hP hS (by omega) i_x14 i_y14 i_z14 P_dish kk
  | 15, _ => exact i_case hL C0 X hi hl inv hP hS (by omega) i_x15 i_y15 i_z15 P_joy kk
  | 16, _ => exact i_case hL C0 X hi hl inv hP hS (by omega) i_x16 i_y16 i_z16 P_ordered kk
  | 17, _ => exact i_case hL C0 X hi hl inv hP hS (by omega) i_x17 i_y17 i_z17 P_thought kk
  | 18, _ => exact i_case hL C0 X hi hl inv hP hS (by omega) i_x18 i_y18 i_z18 P_given kk
  | 19, _ => exact i_casel hL C0 X hi hl inv hP hS (by omega) i_x19 i_y19 i_z19 P_stranger kk
  | 20, _ => exact i_case hL C0 X hi hl inv hP hS (by omega) i_x20 i_y20 i_z20 P_night kk
  | 21, _ => exact i_case hL C0 X hi hl inv hP hS (by omega) i_x21 i_y21 i_z21 P_drawn kk
  | 22, _ => exact i_case hL C0 X hi hl inv hP hS (by omega) i_x22 i_y22 i_z22 P_judge kk
  | 23, _ => exact i_case hL C0 X hi hl inv hP hS (by omega) i_x23 i_y23 i_z23 P_fits kk
  | 24, _ => exact i_case hL C0 X hi hl inv hP hS (by omega) i_x24 i_y24 i_z24 P_fair kk
  | 25, _ => exact i_case hL C0 X hi hl inv hP hS (by omega) i_x25 i_y25 i_z25 P_image kk
  | 26, _ => exact i_case hL C0 X hi hl inv hP hS (by omega) i_x26 i_y26 i_z26 P_back kk
  | 27, _ => exact i_case hL C0 X hi hl inv hP hS (by omega) i_x27 i_y27 i_z27 P_undo kk
  | 28, _ => exact i_case hL C0 X hi hl inv hP hS (by omega) i_x28 i_y28 i_z28 P_redo kk
  | 29, _ => exact i_case hL C0 X hi hl inv hP hS (by omega) i_x29 i_y29 i_z29 P_body kk
  | 30, _ => exact i_case hL C0 X hi hl inv hP hS (by omega) i_x30 i_y30 i_z30 P_act kk
  | 31, _ => exact i_case hL C0 X hi hl inv hP hS (by omega) i_x31 i_y31 i_z31 P_trace kk
  | 32, _ => exact i_case hL C0 X hi hl inv hP hS (by omega) i_x32 i_y32 i_z32 P_keep kk
  | 33, _ => exact i_case hL C0 X hi hl inv hP hS (by omega) i_x33 i_y33 i_z33 P_row kk
  | 34, _ => exact i_casep hL C0 X hi hl inv hP hS i_x34 i_y34 i_z34 P_put kk
  | 35, _ => exact i_casel hL C0 X hi hl inv hP hS (by omega) i_x35 i_y35 i_z35 P_element kk
  | 36, _ => exact i_case hL C0 X hi hl inv hP hS (by omega) i_x36 i_y36 i_z36 P_shift kk
  | 37, _ => exact i_case hL C0 X hi hl inv hP hS (by omega) i_x37 i_y37 i_z37 P_taken kk
  | 38, _ => exact i_case hL C0 X hi hl inv hP hS (by omega) i_x38 i_y38 i_z38 P_count kk
  | t + 39, ht => exact absurd ht (by omega)
set_option maxHeartbeats 4000000 in
/-- the law's loop: at its head, with i ints read, both sides keep the invariant -/
theorem i_loop (hL : L ≤ 3072) (C0 : lw_At p s m meth c b L xs) (X : j_X s.heap.size tA tO dC dI cI cJ cR s) : ∀ (n i : Nat), i ≤ L → L + 1 ≤ i + n → ∀ (M : j_M) (N : j_N) (H : Heap) (locs : List Loc) (ls : Array Slot), Inv M N → va_P (dC, dI) vwCl (j_ws s.heap.size tA tO cI cJ cR (S0, M, N)) H → va_S (j_A s.heap.size) s.heap H locs → lv_has ls 4 (i_ls b s.heap.size i) →
    W p l e room_1 s m #[Value.ref b] below meth c H locs S0.length (j_sz S0) (lw_Z below #[Value.ref b] s) (F0 m 18 ls []) := by
  obtain ⟨hx, hb, hr, hml, hown, hts, hXX, hbl, hlocks, hgv⟩ := id C0
  have hbA : ¬ j_A s.heap.size b := Nat.not_le.mpr hbl
  intro n
  induction n with
  | zero =>
    intro i h1 h2
    exact absurd h2 (by omega)
  | succ n ih =>
    intro i hiL hin M N H locs ls inv hP hS hl
    refine lv_iload_n hx hb dW_18 rfl (lv_at hl 3 rfl) ?_
    refine lv_aload_n hx hb dW_19 rfl (lv_at hl 0 rfl) ?_
    refine va_slen hx hb hXX hbl hbA hS dW_20 ?_
    refine lv_bipush (v := 6) hx hb dW_21 (by decide) ?_
    refine lv_isub hx hb dW_23 ?_
    refine lv_icmp_gt (tgt := 1400) hx hb dW_24 (by decide) (fun _ => ?_) (fun hc => ?_)
    · refine lv_iconst (v := 1) hx hb dW_1400 (by decide) ?_
      refine va_forget (fun q hq => hS.2.2 q hq) ?_
      refine W.widen (k := 600000) (n := 7302250) (by rw [i_len]; omega) (by rw [i_szS]; omega) ?_
      exact lw_ret hx hb hr hlocks dW_1401
    · have hi6 : i + 6 ≤ L := i_bnd hL hiL hc
      have back : ∀ (M2 : j_M) (N2 : j_N) (H2 : Heap) (locs2 : List Loc), Inv M2 N2 → va_P (dC, dI) vwCl (j_ws s.heap.size tA tO cI cJ cR (S0, M2, N2)) H2 → va_S (j_A s.heap.size) s.heap H2 locs2 → W p l e room_1 s m #[Value.ref b] below meth c H2 locs2 S0.length (j_sz S0) (lw_Z below #[Value.ref b] s) (F0 m 1394 ls []) := by
        intro M2 N2 H2 locs2 inv2 P2 S2
        refine lv_iinc (v := nI (i + 6)) (lv' := [(3, .int (nI (i + 6))), (0, .ref b), (1, .ref (s.heap.size + 0)), (2, .ref (s.heap.size + 46))]) hx hb dW_1394 hl (k := 3) rfl (by rw [← nI_add]; rfl) (by decide) rfl (fun ls' hl' => ?_)
        refine lv_goto (tgt := 18) hx hb dW_1397 (by decide) ?_
        exact ih (i + 6) hi6 (by omega) M2 N2 H2 locs2 ls' inv2 P2 S2 (lv_sub hl' [1, 2, 3, 0] rfl)
      refine lv_aload_n hx hb dW_27 rfl (lv_at hl 0 rfl) ?_
      refine lv_iload_n hx hb dW_28 rfl (lv_at hl 3 rfl) ?_
      refine va_sld hx hb hXX hbl hbA hS (vp_in_nI (by omega) (by omega)) dW_29 ?_
      refine lv_bipush (v := 63) hx hb dW_30 (by decide) ?_
      refine lv_iand hx hb dW_32 ?_
      refine lv_topi (fun z _ => ?_)
      by_cases h1 : z.toInt < 0 ∨ 38 < z.toInt
      · exact lv_tableOut (tgt := 1394) hx hb dW_33 h1 (by decide) (back M N H locs inv hP hS)
      · obtain ⟨t, ht, ht2⟩ : ∃ t : Nat, t < 39 ∧ z.toInt = (t : Int) := ⟨z.toInt.toNat, by omega, by omega⟩
        refine lv_tableIn (off := (i_tg t : Int) - 33) (tgt := i_tg t) hx hb dW_33 (by omega) (by omega) ?_ (by omega) ?_
        · rw [show (z.toInt - 0).toNat = t by omega]
          exact i_of t ht
        · exact i_sel hL C0 X hi6 hl inv hP hS back t ht
end IL
theorem i_gd {α : Type} {o : Option α} {x : α} (h : o.isSome = true) : o = some (o.getD x) := by
  cases o with
  | none => cases h
  | some y => rfl
theorem i_boot : ∃ r1 r2 : j_R, j_run 3000 10 (j_meth 107) 0 (j_pad (j_info 107).2.2.1 (j_ent [.ref 0])) [] i_e1 = some r1 ∧ r1.1 = none ∧ r1.2.1 = S0.take 46 ∧ j_run 3000 10 (j_meth 156) 0 (j_pad (j_info 156).2.2.1 (j_ent [.ref 46])) [] (r1.2.1 ++ [(14, 47, List.replicate 47 none)], j_row r1.2.2.1 46 (fun _ => 0), r1.2.2.2) = some r2 ∧ r2.1 = none ∧ r2.2.1 = S0 ∧ Inv r2.2.2.1 r2.2.2.2 := by
  have h1 := i_ok1
  have h2 := i_ok2
  rw [Bool.and_eq_true, Bool.and_eq_true, decide_eq_true_eq, decide_eq_true_eq] at h1 h2
  have g1 : i_s1 = some i_r1 := i_gd h1.1.1
  have g2 : i_s2 = some i_r2 := i_gd h2.1.1
  have e1 : j_meth 107 = kX10_init := rfl
  have e2 : j_meth 156 = kX11_init := rfl
  have e3 : (j_info 107).2.2.1 = kX10_init.2.2 := rfl
  have e4 : (j_info 156).2.2.1 = kX11_init.2.2 := rfl
  refine ⟨i_r1, i_r2, ?_, h1.1.2, h1.2, ?_, h2.1.2, h2.2, i_inv⟩
  · rw [e1, e3]
    exact g1
  · rw [e2, e4]
    exact g2
theorem i_row0 (x : Nat) : j_row (fun _ _ => 0) x (fun _ => 0) = fun _ _ => 0 := by
  funext y k
  unfold j_row
  split <;> rfl
theorem i_t46 : (S0.take 46).length = 46 := by decide +kernel
theorem i_z46 : j_sz (S0.take 46) = 1283 := by decide +kernel
theorem i_g7 : Cond.classLink R_law 7 (j_cn 10) ∈ lw_tbl := j_hn_mem (p := 100) (by decide +kernel)
theorem i_g10 : Cond.classLink R_law 10 (j_cn 11) ∈ lw_tbl := j_hn_mem (p := 1125) (by decide +kernel)
theorem i_g9 : Cond.methodLink R_law 9 (j_info 107).1 ∈ lw_tbl := j_hn_mem (p := 102) (by decide +kernel)
theorem i_g12 : Cond.methodLink R_law 12 (j_info 156).1 ∈ lw_tbl := j_hn_mem (p := 1127) (by decide +kernel)
set_option maxHeartbeats 4000000 in
/-- THE LAW, from its entry -/
theorem whole_start {p : Program} {e : Env} {s : State} {m : MethodId} {below : List Frame} {meth : Method} {c : Code} (l : Launch) (hflags : l.flags = flags0) {b L : Nat} {xs : Nat → Int32} (hL : L ≤ 3072) (C0 : lw_At p s m meth c b L xs) : W p l e room_1 s m #[Value.ref b] below meth c s.heap [] 0 0 (lw_Z below #[Value.ref b] s) (entryFrame m ([Value.ref b] : List Value).toArray 4) := by
  obtain ⟨hx, hb, hr, hml, hown, hts, hXX, hbl, hlocks, hgv⟩ := id C0
  obtain ⟨tA, tO, dC, dI, cI, cJ, cR, X⟩ := i_X hts hgv
  obtain ⟨⟨v1, S1, M1, N1⟩, ⟨v2, S2, M2, N2⟩, q1, q2, q3, q4, q5, q6, q7⟩ := i_boot
  dsimp only at q2 q3 q4 q5 q6 q7
  subst q2
  subst q3
  subst q5
  subst q6
  have hS : va_S (j_A s.heap.size) s.heap s.heap [] := va_S.rf
  have hP : va_P (dC, dI) vwCl (j_ws s.heap.size tA tO cI cJ cR ([], (fun _ _ => 0), (fun _ _ => 0))) s.heap := fun k q h => by simp [j_ws] at h
  have hl := lv_entry ([.ref b]) (n := 4) (Nat.le_of_ble_eq_true rfl)
  rw [lg_entry_eq]
  generalize (lg_sl ([.ref b]) ++ List.replicate (4 - (lg_sl ([.ref b])).length) Slot.unset).toArray = ls at hl ⊢
  have hl : lv_has ls 4 [(0, .ref b)] := hl
  refine i_new (me := ([], (fun _ _ => 0), (fun _ _ => 0))) (me' := i_e1) (a := 10) (x := 0) (by show (_, j_row (fun _ _ => 0) 0 (fun _ => 0), _) = i_e1; rw [i_row0]; rfl) rfl C0 X dW_0 i_g7 (by decide) (by decide) (by decide) hP hS (fun H1 P1 T1 => ?_)
  refine lv_dup hx hb dW_3 rfl ?_
  refine i_callI (me := i_e1) (r := (none, S0.take 46, M1, N1)) (x := 0) (a := 107) (rest := [.ref (s.heap.size + 0)]) C0 X dW_4 i_g9 (by decide) rfl rfl (by omega) (Nat.le_of_ble_eq_true rfl) (by decide) q1 rfl (by show (S0.take 46).length ≤ 1000; rw [i_t46]; omega) (by show j_sz (S0.take 46) ≤ 7000000; rw [i_z46]; omega) P1 T1 hl.1 (fun H2 locs2 P2 T2 => ?_)
  refine lv_astore_n (lv' := [(1, .ref (s.heap.size + 0)), (0, .ref b)]) hx hb dW_7 rfl hl (by decide) rfl (fun ls hl => ?_)
  refine i_new (me := (S0.take 46, M1, N1)) (me' := (S0.take 46 ++ [(14, 47, List.replicate 47 none)], j_row M1 46 (fun _ => 0), N1)) (a := 11) (x := 46) (by show (S0.take 46 ++ [(11 + 3, j_Nf 11, List.replicate (j_Nf 11) none)], j_row M1 (S0.take 46).length (fun _ => 0), N1) = _; rw [i_t46]; rfl) i_t46 C0 X dW_8 i_g10 (by decide) (by decide) (by show j_sz (S0.take 46) + j_Nf 11 ≤ 7000000; rw [i_z46]; decide) P2 T2 (fun H3 P3 T3 => ?_)
  refine lv_dup hx hb dW_11 rfl ?_
  refine i_callI (r := (none, S0, M2, N2)) (x := 46) (a := 156) (rest := [.ref (s.heap.size + 46)]) C0 X dW_12 i_g12 (by decide) rfl rfl (by omega) (Nat.le_of_ble_eq_true rfl) (by decide) q4 rfl (by show S0.length ≤ 1000; rw [i_len]; omega) (by show j_sz S0 ≤ 7000000; rw [i_szS]; omega) P3 T3 hl.1 (fun H4 locs4 P4 T4 => ?_)
  refine lv_astore_n (lv' := [(2, .ref (s.heap.size + 46)), (1, .ref (s.heap.size + 0)), (0, .ref b)]) hx hb dW_15 rfl hl (by decide) rfl (fun ls hl => ?_)
  refine lv_iconst (v := nI 0) hx hb dW_16 (by decide) ?_
  refine lv_istore_n (lv' := [(3, .int (nI 0)), (2, .ref (s.heap.size + 46)), (1, .ref (s.heap.size + 0)), (0, .ref b)]) hx hb dW_17 rfl hl (by decide) rfl (fun ls hl => ?_)
  exact i_loop hL C0 X (L + 1) 0 (Nat.zero_le L) (by omega) M2 N2 H4 locs4 ls q7 P4 T4 (lv_sub hl [3, 2, 1, 0] rfl)
