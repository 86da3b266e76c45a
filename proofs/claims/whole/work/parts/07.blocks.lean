/-! ===== block equations (printed by wip/whole/genblk.py) ===== -/
theorem bX0_has_0 (d : Nat) (x1 : Int32) (M : j_M) (N : j_N) : R d kX0_has 0 [.ref 30, .int x1] [] (S0, M, N) =
  (if x1 < 0 then
    some (some (.int 0), (S0, M, N))
  else
    if (M 30 2) ≤ x1 then
      some (some (.int 0), (S0, M, N))
    else
      some (some (.int 1), (S0, M, N))) := (R_ev d kX0_has 400 0 _ _ _).trans rfl
theorem bX0_kindOf_0 (d : Nat) (x1 : Int32) (M : j_M) (N : j_N) : R d kX0_kindOf 0 [.ref 30, .int x1] [] (S0, M, N) =
  ((C d 1 [.ref 30, .int x1] S0 M N).bind fun q1 => j_oi none (fun r1 =>
  if r1 = 0 then
    some (some (.int 0), (S0, q1.2.1, q1.2.2))
  else
    bif j_in x1 50 then
    some (some (.int (q1.2.1 31 (x1).toNatClampNeg)), (S0, q1.2.1, q1.2.2)) else none) q1.1) := (R_ev d kX0_kindOf 400 0 _ _ _).trans rfl
theorem bX0_add_0 (d : Nat) (x1 : Int32) (M : j_M) (N : j_N) : R d kX0_add 0 [.ref 30, .int x1] [] (S0, M, N) =
  (if (M 30 2) < 50 then
    bif j_in (M 30 2) 50 then
    some (some (.int (((M 30 2) + 1) - 1)), (S0, (j_w (j_w M 31 ((M 30 2)).toNatClampNeg x1) 30 2 ((M 30 2) + 1)), N)) else none
  else
    some (some (.int (-3)), (S0, M, N))) := (R_ev d kX0_add 400 0 _ _ _).trans rfl
theorem bX0_isUnder_0 (d : Nat) (x0 : Int32) (x1 : Int32) (M : j_M) (N : j_N) : R d kX0_isUnder 0 [.int x0, .int x1, .null, .null] [] (S0, M, N) =
  (R d kX0_isUnder 4 [.null, .int x1, .int x0, .int 0] [] (S0, M, N)) := (R_ev d kX0_isUnder 400 0 _ _ _).trans rfl
theorem bX0_isUnder_4 (d : Nat) (x1 : Int32) (x2 : Int32) (x3 : Int32) (M : j_M) (N : j_N) : R d kX0_isUnder 4 [.null, .int x1, .int x2, .int x3] [] (S0, M, N) =
  (if 8 ≤ x3 then
    some (some (.int 0), (S0, M, N))
  else
    if x2 < 0 then
      some (some (.int 0), (S0, M, N))
    else
      if x2 = x1 then
        some (some (.int 1), (S0, M, N))
      else
        bif j_in x2 8 then
        R d kX0_isUnder 4 [.null, .int x1, .int (j_tg j_T0 (x2).toNatClampNeg), .int (x3 + 1)] [] (S0, M, N) else none) := (R_ev d kX0_isUnder 400 4 _ _ _).trans rfl
theorem bX0_ranAt_0 (d : Nat) (x1 : Int32) (M : j_M) (N : j_N) : R d kX0_ranAt 0 [.ref 30, .int x1] [] (S0, M, N) =
  (if x1 < 0 then
    some (some (.int (-1)), (S0, M, N))
  else
    if (M 30 3) ≤ x1 then
      some (some (.int (-1)), (S0, M, N))
    else
      if 24 ≤ x1 then
        some (some (.int (-1)), (S0, M, N))
      else
        bif j_in x1 24 then
        some (some (.int (M 32 (x1).toNatClampNeg)), (S0, M, N)) else none) := (R_ev d kX0_ranAt 400 0 _ _ _).trans rfl
theorem bX0_perform_0 (d : Nat) (x1 : Int32) (x2 : Int32) (x3 : Int32) (M : j_M) (N : j_N) : R d kX0_perform 0 [.ref 30, .int x1, .int x2, .int x3] [] (S0, M, N) =
  ((C d 1 [.ref 30, .int x1] S0 (j_w M 30 3 0) N).bind fun q1 => j_oi none (fun r1 =>
  if r1 = 0 then
    some (some (.int 0), (S0, q1.2.1, q1.2.2))
  else
    if x2 < 0 then
      some (some (.int 0), (S0, q1.2.1, q1.2.2))
    else
      if x2 < 4 then
        (C d 7 [.ref 30, .int x2, .int x3, .int 0] S0 (j_w q1.2.1 30 4 x1) q1.2.2).bind fun q2 => j_oi none (fun r2 =>
        some (some (.int r2), (S0, q2.2.1, q2.2.2))) q2.1
      else
        some (some (.int 0), (S0, q1.2.1, q1.2.2))) q1.1) := (R_ev d kX0_perform 400 0 _ _ _).trans rfl
theorem bX0_call_0 (d : Nat) (x1 : Int32) (x2 : Int32) (x3 : Int32) (M : j_M) (N : j_N) : R d kX0_call 0 [.ref 30, .int x1, .int x2, .int x3] [] (S0, M, N) =
  (bif j_in (M 30 4) 50 then
  (C d 8 [.ref 30, .int (M 31 ((M 30 4)).toNatClampNeg), .int x1, .int x2, .int x3] S0 M N).bind fun q1 => j_oi none (fun r1 =>
  some (some (.int r1), (S0, q1.2.1, q1.2.2))) q1.1 else none) := (R_ev d kX0_call 400 0 _ _ _).trans rfl
theorem bX0_from_0 (d : Nat) (x1 : Int32) (x2 : Int32) (x3 : Int32) (x4 : Int32) (M : j_M) (N : j_N) : R d kX0_from 0 [.ref 30, .int x1, .int x2, .int x3, .int x4, .null, .null] [] (S0, M, N) =
  (if x4 ≤ 40 then
    R d kX0_from 15 [.ref 30, .null, .int x2, .int x3, .int x4, .int x1, .int 0] [] (S0, M, N)
  else
    some (some (.int 0), (S0, M, N))) := (R_ev d kX0_from 400 0 _ _ _).trans rfl
theorem bX0_from_15 (d : Nat) (x2 : Int32) (x3 : Int32) (x4 : Int32) (x5 : Int32) (x6 : Int32) (M : j_M) (N : j_N) : R d kX0_from 15 [.ref 30, .null, .int x2, .int x3, .int x4, .int x5, .int x6] [] (S0, M, N) =
  (if 8 ≤ x6 then
    if 0 ≤ x5 then
      bif j_in ((x5 * 4) + x2) 32 then
      (C d 9 [.ref 30, .int (j_tg j_T1 (((x5 * 4) + x2)).toNatClampNeg), .int x3, .int (x4 + 1)] S0 M N).bind fun q1 => j_oi none (fun r1 =>
      some (some (.int r1), (S0, q1.2.1, q1.2.2))) q1.1 else none
    else
      some (some (.int 0), (S0, M, N))
  else
    if x5 ≤ 0 then
      if 0 ≤ x5 then
        bif j_in ((x5 * 4) + x2) 32 then
        (C d 9 [.ref 30, .int (j_tg j_T1 (((x5 * 4) + x2)).toNatClampNeg), .int x3, .int (x4 + 1)] S0 M N).bind fun q2 => j_oi none (fun r2 =>
        some (some (.int r2), (S0, q2.2.1, q2.2.2))) q2.1 else none
      else
        some (some (.int 0), (S0, M, N))
    else
      bif j_in ((x5 * 4) + x2) 32 then
      if (j_tg j_T1 (((x5 * 4) + x2)).toNatClampNeg) = 0 then
        bif j_in x5 8 then
        R d kX0_from 15 [.ref 30, .null, .int x2, .int x3, .int x4, .int (j_tg j_T0 (x5).toNatClampNeg), .int (x6 + 1)] [] (S0, M, N) else none
      else
        if 0 ≤ x5 then
          bif j_in ((x5 * 4) + x2) 32 then
          (C d 9 [.ref 30, .int (j_tg j_T1 (((x5 * 4) + x2)).toNatClampNeg), .int x3, .int (x4 + 1)] S0 M N).bind fun q3 => j_oi none (fun r3 =>
          some (some (.int r3), (S0, q3.2.1, q3.2.2))) q3.1 else none
        else
          some (some (.int 0), (S0, M, N)) else none) := (R_ev d kX0_from 400 15 _ _ _).trans rfl
theorem bX0_run_0 (d : Nat) (x1 : Int32) (x2 : Int32) (x3 : Int32) (M : j_M) (N : j_N) : R d kX0_run 0 [.ref 30, .int x1, .int x2, .int x3] [] (S0, M, N) =
  (if 24 ≤ (M 30 3) then
    R d kX0_run 19 [.ref 30, .int x1, .int x2, .int x3] [] (S0, M, N)
  else
    bif j_in (M 30 3) 24 then
    R d kX0_run 19 [.ref 30, .int x1, .int x2, .int x3] [] (S0, (j_w M 32 ((M 30 3)).toNatClampNeg x1), N) else none) := (R_ev d kX0_run 400 0 _ _ _).trans rfl
theorem bX0_run_19 (d : Nat) (x1 : Int32) (x2 : Int32) (x3 : Int32) (M : j_M) (N : j_N) : R d kX0_run 19 [.ref 30, .int x1, .int x2, .int x3] [] (S0, M, N) =
  (if x1 = 1 then
    some (some (.int (x2 + (M 30 4))), (S0, (j_w M 30 3 ((M 30 3) + 1)), N))
  else if x1 = 2 then
    (C d 7 [.ref 30, .int 1, .int x2, .int x3] S0 (j_w M 30 3 ((M 30 3) + 1)) N).bind fun q1 => j_oi none (fun r1 =>
    (C d 7 [.ref 30, .int 2, .int 1, .int x3] S0 q1.2.1 q1.2.2).bind fun q2 => j_oi none (fun r2 =>
    some (some (.int (r1 - r2)), (S0, q2.2.1, q2.2.2))) q2.1) q1.1
  else if x1 = 10 then
    (C d 7 [.ref 30, .int 0, .int x2, .int x3] S0 (j_w M 30 3 ((M 30 3) + 1)) N).bind fun q3 => j_oi none (fun r3 =>
    some (some (.int (r3 * 2)), (S0, q3.2.1, q3.2.2))) q3.1
  else if x1 = 11 then
    some (some (.int (x2 ^^^ (M 30 4))), (S0, (j_w M 30 3 ((M 30 3) + 1)), N))
  else if x1 = 20 then
    (C d 8 [.ref 30, .int 0, .int 0, .int x2, .int x3] S0 (j_w M 30 3 ((M 30 3) + 1)) N).bind fun q4 => j_oi none (fun r4 =>
    some (some (.int (r4 + 3)), (S0, q4.2.1, q4.2.2))) q4.1
  else if x1 = 30 then
    (C d 8 [.ref 30, .int 0, .int 1, .int x2, .int x3] S0 (j_w M 30 3 ((M 30 3) + 1)) N).bind fun q5 => j_oi none (fun r5 =>
    some (some (.int (-r5)), (S0, q5.2.1, q5.2.2))) q5.1
  else if x1 = 40 then
    (C d 8 [.ref 30, .int 2, .int 2, .int x2, .int x3] S0 (j_w M 30 3 ((M 30 3) + 1)) N).bind fun q6 => j_oi none (fun r6 =>
    some (some (.int (r6 * 3)), (S0, q6.2.1, q6.2.2))) q6.1
  else if x1 = 41 then
    (C d 8 [.ref 30, .int 2, .int 1, .int (x2 + 1), .int x3] S0 (j_w M 30 3 ((M 30 3) + 1)) N).bind fun q7 => j_oi none (fun r7 =>
    some (some (.int r7), (S0, q7.2.1, q7.2.2))) q7.1
  else if x1 = 50 then
    (C d 8 [.ref 30, .int 1, .int 2, .int x2, .int x3] S0 (j_w M 30 3 ((M 30 3) + 1)) N).bind fun q8 => j_oi none (fun r8 =>
    (C d 7 [.ref 30, .int 0, .int 2, .int x3] S0 q8.2.1 q8.2.2).bind fun q9 => j_oi none (fun r9 =>
    some (some (.int (r8 - r9)), (S0, q9.2.1, q9.2.2))) q9.1) q8.1
  else if x1 = 60 then
    (C d 8 [.ref 30, .int 3, .int 3, .int x2, .int x3] S0 (j_w M 30 3 ((M 30 3) + 1)) N).bind fun q10 => j_oi none (fun r10 =>
    some (some (.int (r10 ^^^ 5)), (S0, q10.2.1, q10.2.2))) q10.1
  else if x1 = 70 then
    (C d 8 [.ref 30, .int 0, .int 0, .int x2, .int x3] S0 (j_w M 30 3 ((M 30 3) + 1)) N).bind fun q11 => j_oi none (fun r11 =>
    some (some (.int (r11 * 2)), (S0, q11.2.1, q11.2.2))) q11.1
  else if x1 = 80 then
    (C d 8 [.ref 30, .int 4, .int 1, .int x2, .int x3] S0 (j_w M 30 3 ((M 30 3) + 1)) N).bind fun q12 => j_oi none (fun r12 =>
    (C d 7 [.ref 30, .int 2, .int 2, .int x3] S0 q12.2.1 q12.2.2).bind fun q13 => j_oi none (fun r13 =>
    some (some (.int (r12 + r13)), (S0, q13.2.1, q13.2.2))) q13.1) q12.1
  else if x1 = 81 then
    (C d 8 [.ref 30, .int 4, .int 3, .int x2, .int x3] S0 (j_w M 30 3 ((M 30 3) + 1)) N).bind fun q14 => j_oi none (fun r14 =>
    some (some (.int (r14 - 1)), (S0, q14.2.1, q14.2.2))) q14.1
  else 
    some (some (.int 0), (S0, (j_w M 30 3 ((M 30 3) + 1)), N))) := (R_ev d kX0_run 400 19 _ _ _).trans rfl
theorem bX1_note_0 (d : Nat) (x1 : Int32) (x2 : Int32) (x3 : Int32) (x4 : Int32) (M : j_M) (N : j_N) : R d kX1_note 0 [.ref 22, .int x1, .int x2, .int x3, .int x4] [] (S0, M, N) =
  (if (M 22 4) < 40 then
    R d kX1_note 13 [.ref 22, .int x1, .int x2, .int x3, .int x4] [] (S0, M, N)
  else
    (C d 12 [.ref 22] S0 M N).bind fun q1 => j_ov none (
    R d kX1_note 13 [.ref 22, .int x1, .int x2, .int x3, .int x4] [] (S0, q1.2.1, q1.2.2)) q1.1) := (R_ev d kX1_note 400 0 _ _ _).trans rfl
theorem bX1_note_13 (d : Nat) (x1 : Int32) (x2 : Int32) (x3 : Int32) (x4 : Int32) (M : j_M) (N : j_N) : R d kX1_note 13 [.ref 22, .int x1, .int x2, .int x3, .int x4] [] (S0, M, N) =
  (bif j_in (M 22 4) 40 then
  bif j_in (M 22 4) 40 then
  bif j_in (M 22 4) 40 then
  bif j_in (M 22 4) 40 then
  some (none, (S0, (j_w (j_w (j_w (j_w (j_w (j_w M 23 ((M 22 4)).toNatClampNeg x1) 24 ((M 22 4)).toNatClampNeg x2) 25 ((M 22 4)).toNatClampNeg x3) 26 ((M 22 4)).toNatClampNeg x4) 22 4 ((M 22 4) + 1)) 22 5 ((M 22 4) + 1)), N)) else none else none else none else none) := (R_ev d kX1_note 400 13 _ _ _).trans rfl
theorem bX1_dropOldest_0 (d : Nat)  (M : j_M) (N : j_N) : R d kX1_dropOldest 0 [.ref 22] [] (S0, M, N) =
  (some (none, (S0, (j_w (j_row (j_row (j_row (j_row M 23 (va_cpy (M 23) (M 23) 1 0 39)) 24 (va_cpy ((j_row M 23 (va_cpy (M 23) (M 23) 1 0 39)) 24) ((j_row M 23 (va_cpy (M 23) (M 23) 1 0 39)) 24) 1 0 39)) 25 (va_cpy ((j_row (j_row M 23 (va_cpy (M 23) (M 23) 1 0 39)) 24 (va_cpy ((j_row M 23 (va_cpy (M 23) (M 23) 1 0 39)) 24) ((j_row M 23 (va_cpy (M 23) (M 23) 1 0 39)) 24) 1 0 39)) 25) ((j_row (j_row M 23 (va_cpy (M 23) (M 23) 1 0 39)) 24 (va_cpy ((j_row M 23 (va_cpy (M 23) (M 23) 1 0 39)) 24) ((j_row M 23 (va_cpy (M 23) (M 23) 1 0 39)) 24) 1 0 39)) 25) 1 0 39)) 26 (va_cpy ((j_row (j_row (j_row M 23 (va_cpy (M 23) (M 23) 1 0 39)) 24 (va_cpy ((j_row M 23 (va_cpy (M 23) (M 23) 1 0 39)) 24) ((j_row M 23 (va_cpy (M 23) (M 23) 1 0 39)) 24) 1 0 39)) 25 (va_cpy ((j_row (j_row M 23 (va_cpy (M 23) (M 23) 1 0 39)) 24 (va_cpy ((j_row M 23 (va_cpy (M 23) (M 23) 1 0 39)) 24) ((j_row M 23 (va_cpy (M 23) (M 23) 1 0 39)) 24) 1 0 39)) 25) ((j_row (j_row M 23 (va_cpy (M 23) (M 23) 1 0 39)) 24 (va_cpy ((j_row M 23 (va_cpy (M 23) (M 23) 1 0 39)) 24) ((j_row M 23 (va_cpy (M 23) (M 23) 1 0 39)) 24) 1 0 39)) 25) 1 0 39)) 26) ((j_row (j_row (j_row M 23 (va_cpy (M 23) (M 23) 1 0 39)) 24 (va_cpy ((j_row M 23 (va_cpy (M 23) (M 23) 1 0 39)) 24) ((j_row M 23 (va_cpy (M 23) (M 23) 1 0 39)) 24) 1 0 39)) 25 (va_cpy ((j_row (j_row M 23 (va_cpy (M 23) (M 23) 1 0 39)) 24 (va_cpy ((j_row M 23 (va_cpy (M 23) (M 23) 1 0 39)) 24) ((j_row M 23 (va_cpy (M 23) (M 23) 1 0 39)) 24) 1 0 39)) 25) ((j_row (j_row M 23 (va_cpy (M 23) (M 23) 1 0 39)) 24 (va_cpy ((j_row M 23 (va_cpy (M 23) (M 23) 1 0 39)) 24) ((j_row M 23 (va_cpy (M 23) (M 23) 1 0 39)) 24) 1 0 39)) 25) 1 0 39)) 26) 1 0 39)) 22 4 39), N))) := (R_ev d kX1_dropOldest 400 0 _ _ _).trans rfl
theorem bX1_takeBack_0 (d : Nat)  (M : j_M) (N : j_N) : R d kX1_takeBack 0 [.ref 22, .ref 1] [] (S0, M, N) =
  (if 0 < (M 22 4) then
    bif j_in ((M 22 4) - 1) 40 then
    bif j_in ((M 22 4) - 1) 40 then
    bif j_in ((M 22 4) - 1) 40 then
    (C d 20 [.ref 1, .int (M 23 (((M 22 4) - 1)).toNatClampNeg), .int (M 24 (((M 22 4) - 1)).toNatClampNeg), .int (M 25 (((M 22 4) - 1)).toNatClampNeg)] S0 (j_w M 22 4 ((M 22 4) - 1)) N).bind fun q1 => j_ov none (
    some (some (.int (q1.2.1 22 4)), (S0, q1.2.1, q1.2.2))) q1.1 else none else none else none
  else
    some (some (.int (-5)), (S0, M, N))) := (R_ev d kX1_takeBack 400 0 _ _ _).trans rfl
theorem bX1_doAgain_0 (d : Nat)  (M : j_M) (N : j_N) : R d kX1_doAgain 0 [.ref 22, .ref 1] [] (S0, M, N) =
  (if (M 22 4) < (M 22 5) then
    bif j_in (M 22 4) 40 then
    bif j_in (M 22 4) 40 then
    bif j_in (M 22 4) 40 then
    (C d 20 [.ref 1, .int (M 23 ((M 22 4)).toNatClampNeg), .int (M 24 ((M 22 4)).toNatClampNeg), .int (M 26 ((M 22 4)).toNatClampNeg)] S0 M N).bind fun q1 => j_ov none (
    some (some (.int ((q1.2.1 22 5) - ((q1.2.1 22 4) + 1))), (S0, (j_w q1.2.1 22 4 ((q1.2.1 22 4) + 1)), q1.2.2))) q1.1 else none else none else none
  else
    some (some (.int (-5)), (S0, M, N))) := (R_ev d kX1_doAgain 400 0 _ _ _).trans rfl
theorem bX2_has_0 (d : Nat) (x1 : Int32) (M : j_M) (N : j_N) : R d kX2_has 0 [.ref 1, .int x1] [] (S0, M, N) =
  (if x1 < 0 then
    some (some (.int 0), (S0, M, N))
  else
    if (M 1 6) ≤ x1 then
      some (some (.int 0), (S0, M, N))
    else
      some (some (.int 1), (S0, M, N))) := (R_ev d kX2_has 400 0 _ _ _).trans rfl
theorem bX2_welcome_0 (d : Nat) (x1 : Int32) (x2 : Int32) (M : j_M) (N : j_N) : R d kX2_welcome 0 [.ref 1, .int x1, .int x2] [] (S0, M, N) =
  (if 6 ≤ (M 1 6) then
    some (none, (S0, M, N))
  else
    bif j_in (M 1 6) 6 then
    bif j_in (M 1 6) 6 then
    bif j_in (M 1 6) 6 then
    some (none, (S0, (j_w (j_w (j_w (j_w M 2 ((M 1 6)).toNatClampNeg x1) 3 ((M 1 6)).toNatClampNeg x2) 6 ((M 1 6)).toNatClampNeg (-1)) 1 6 ((M 1 6) + 1)), N)) else none else none else none) := (R_ev d kX2_welcome 400 0 _ _ _).trans rfl
theorem bX2_allows_0 (d : Nat) (x1 : Int32) (x2 : Int32) (x3 : Int32) (M : j_M) (N : j_N) : R d kX2_allows 0 [.ref 1, .int x1, .int x2, .int x3] [] (S0, M, N) =
  (if x2 < 4 then
    (C d 16 [.ref 1, .int x1] S0 M N).bind fun q1 => j_oi none (fun r1 =>
    if r1 = 0 then
      some (some (.int 0), (S0, q1.2.1, q1.2.2))
    else
      R d kX2_allows 22 [.ref 1, .int x1, .int x2, .int x3] [] (S0, q1.2.1, q1.2.2)) q1.1
  else
    if x1 = 0 then
      R d kX2_allows 22 [.ref 1, .int x1, .int x2, .int x3] [] (S0, M, N)
    else
      some (some (.int 0), (S0, M, N))) := (R_ev d kX2_allows 400 0 _ _ _).trans rfl
theorem bX2_allows_22 (d : Nat) (x1 : Int32) (x2 : Int32) (x3 : Int32) (M : j_M) (N : j_N) : R d kX2_allows 22 [.ref 1, .int x1, .int x2, .int x3] [] (S0, M, N) =
  (if x2 = 0 then
    (C d 147 [.int x3, .int 0, .int 99] S0 M N).bind fun q1 => j_oi none (fun r1 =>
    bif decide (r1 = 0) || decide (r1 = 1) then some (some (.int r1), (S0, q1.2.1, q1.2.2)) else none) q1.1
  else if x2 = 1 then
    bif j_in x1 6 then
    (C d 147 [.int x3, .int 0, .int (M 2 (x1).toNatClampNeg)] S0 M N).bind fun q2 => j_oi none (fun r2 =>
    bif decide (r2 = 0) || decide (r2 = 1) then some (some (.int r2), (S0, q2.2.1, q2.2.2)) else none) q2.1 else none
  else if x2 = 2 then
    (C d 147 [.int x3, .int 0, .int 12] S0 M N).bind fun q3 => j_oi none (fun r3 =>
    bif decide (r3 = 0) || decide (r3 = 1) then some (some (.int r3), (S0, q3.2.1, q3.2.2)) else none) q3.1
  else if x2 = 3 then
    bif j_in x1 6 then
    (C d 147 [.int x3, .int 0, .int (M 2 (x1).toNatClampNeg)] S0 M N).bind fun q4 => j_oi none (fun r4 =>
    bif decide (r4 = 0) || decide (r4 = 1) then some (some (.int r4), (S0, q4.2.1, q4.2.2)) else none) q4.1 else none
  else if x2 = 4 then
    (C d 147 [.int x3, .int 0, .int 599] S0 M N).bind fun q5 => j_oi none (fun r5 =>
    bif decide (r5 = 0) || decide (r5 = 1) then some (some (.int r5), (S0, q5.2.1, q5.2.2)) else none) q5.1
  else if x2 = 5 then
    (C d 147 [.int x3, .int 0, .int 4] S0 M N).bind fun q6 => j_oi none (fun r6 =>
    bif decide (r6 = 0) || decide (r6 = 1) then some (some (.int r6), (S0, q6.2.1, q6.2.2)) else none) q6.1
  else if x2 = 6 then
    (C d 147 [.int x3, .int 1, .int 99] S0 M N).bind fun q7 => j_oi none (fun r7 =>
    bif decide (r7 = 0) || decide (r7 = 1) then some (some (.int r7), (S0, q7.2.1, q7.2.2)) else none) q7.1
  else 
    some (some (.int 0), (S0, M, N))) := (R_ev d kX2_allows 400 22 _ _ _).trans rfl
theorem bX2_told_0 (d : Nat) (x1 : Int32) (x2 : Int32) (M : j_M) (N : j_N) : R d kX2_told 0 [.ref 1, .int x1, .int x2] [] (S0, M, N) =
  (if x2 = 0 then
    bif j_in x1 6 then
    some (some (.int (M 2 (x1).toNatClampNeg)), (S0, M, N)) else none
  else if x2 = 1 then
    bif j_in x1 6 then
    some (some (.int (M 3 (x1).toNatClampNeg)), (S0, M, N)) else none
  else if x2 = 2 then
    bif j_in x1 6 then
    some (some (.int (M 4 (x1).toNatClampNeg)), (S0, M, N)) else none
  else if x2 = 3 then
    bif j_in x1 6 then
    some (some (.int (M 5 (x1).toNatClampNeg)), (S0, M, N)) else none
  else if x2 = 4 then
    some (some (.int (M 1 7)), (S0, M, N))
  else if x2 = 5 then
    some (some (.int (M 1 8)), (S0, M, N))
  else 
    some (some (.int (M 1 9)), (S0, M, N))) := (R_ev d kX2_told 400 0 _ _ _).trans rfl
theorem bX2_tell_0 (d : Nat) (x1 : Int32) (x2 : Int32) (x3 : Int32) (M : j_M) (N : j_N) : R d kX2_tell 0 [.ref 1, .int x1, .int x2, .int x3] [] (S0, M, N) =
  (if x2 = 0 then
    bif j_in x1 6 then
    some (none, (S0, (j_w M 2 (x1).toNatClampNeg x3), N)) else none
  else if x2 = 1 then
    bif j_in x1 6 then
    some (none, (S0, (j_w M 3 (x1).toNatClampNeg x3), N)) else none
  else if x2 = 2 then
    bif j_in x1 6 then
    some (none, (S0, (j_w M 4 (x1).toNatClampNeg x3), N)) else none
  else if x2 = 3 then
    bif j_in x1 6 then
    some (none, (S0, (j_w M 5 (x1).toNatClampNeg x3), N)) else none
  else if x2 = 4 then
    some (none, (S0, (j_w M 1 7 x3), N))
  else if x2 = 5 then
    some (none, (S0, (j_w M 1 8 x3), N))
  else 
    some (none, (S0, (j_w M 1 9 x3), N))) := (R_ev d kX2_tell 400 0 _ _ _).trans rfl
theorem bX3_lay_0 (d : Nat)  (M : j_M) (N : j_N) : R d kX3_lay 0 [.ref 8, .ref 1] [] (S0, M, N) =
  (bif (!(decide (0 < (0:Int32))) && !(decide (0 < (0:Int32))) && !(decide ((M 1 6) < (0:Int32))) && Nat.ble (0 + ((M 1 6)).toNatClampNeg) 6 && Nat.ble (0 + ((M 1 6)).toNatClampNeg) 7) && Nat.ble 0 8 then
  (C d 24 [.ref 8] S0 (j_row (j_w (j_w (j_w M 8 1 (M 1 6)) 8 2 (M 1 8)) 8 3 (M 1 7)) 9 (va_cpy ((j_w (j_w (j_w M 8 1 (M 1 6)) 8 2 (M 1 8)) 8 3 (M 1 7)) 3) ((j_w (j_w (j_w M 8 1 (M 1 6)) 8 2 (M 1 8)) 8 3 (M 1 7)) 9) 0 0 ((M 1 6)).toNatClampNeg)) N).bind fun q1 => j_ov none (
  some (none, (S0, q1.2.1, q1.2.2))) q1.1 else none) := (R_ev d kX3_lay 400 0 _ _ _).trans rfl
theorem bX3_join_0 (d : Nat) (x1 : Int32) (M : j_M) (N : j_N) : R d kX3_join 0 [.ref 8, .int x1] [] (S0, M, N) =
  (if 7 ≤ (M 8 1) then
    some (none, (S0, M, N))
  else
    bif j_in (M 8 1) 7 then
    (C d 24 [.ref 8] S0 (j_w (j_w M 9 ((M 8 1)).toNatClampNeg x1) 8 1 ((M 8 1) + 1)) N).bind fun q1 => j_ov none (
    some (none, (S0, q1.2.1, q1.2.2))) q1.1 else none) := (R_ev d kX3_join 400 0 _ _ _).trans rfl
theorem bX3_weigh_0 (d : Nat)  (M : j_M) (N : j_N) : R d kX3_weigh 0 [.ref 8, .null, .null] [] (S0, M, N) =
  (R d kX3_weigh 27 [.ref 8, .int 0, .null] [] (S0, (j_w (j_w (j_w (j_w (j_w M 8 4 0) 8 7 (-1)) 8 8 (-1)) 8 9 (-1)) 8 10 0), N)) := (R_ev d kX3_weigh 400 0 _ _ _).trans rfl
theorem bX3_weigh_27 (d : Nat) (x1 : Int32) (M : j_M) (N : j_N) : R d kX3_weigh 27 [.ref 8, .int x1, .null] [] (S0, M, N) =
  (if (M 8 1) ≤ x1 then
    (C d 25 [.ref 8, .int (M 8 3)] S0 M N).bind fun q1 => j_ov none (
    some (none, (S0, q1.2.1, q1.2.2))) q1.1
  else
    bif j_in x1 7 then
    if (M 8 9) < 0 then
      R d kX3_weigh 77 [.ref 8, .int x1, .int (M 9 (x1).toNatClampNeg)] [] (S0, (j_w (j_w M 8 4 ((M 8 4) + (M 9 (x1).toNatClampNeg))) 8 9 x1), N)
    else
      bif j_in (M 8 9) 7 then
      if (M 9 (x1).toNatClampNeg) ≤ (M 9 ((M 8 9)).toNatClampNeg) then
        R d kX3_weigh 77 [.ref 8, .int x1, .int (M 9 (x1).toNatClampNeg)] [] (S0, (j_w M 8 4 ((M 8 4) + (M 9 (x1).toNatClampNeg))), N)
      else
        R d kX3_weigh 77 [.ref 8, .int x1, .int (M 9 (x1).toNatClampNeg)] [] (S0, (j_w (j_w M 8 4 ((M 8 4) + (M 9 (x1).toNatClampNeg))) 8 9 x1), N) else none else none) := (R_ev d kX3_weigh 400 27 _ _ _).trans rfl
theorem bX3_weigh_77 (d : Nat) (x1 : Int32) (x2 : Int32) (M : j_M) (N : j_N) : R d kX3_weigh 77 [.ref 8, .int x1, .int x2] [] (S0, M, N) =
  (if (M 8 7) < 0 then
    R d kX3_weigh 27 [.ref 8, .int (x1 + 1), .null] [] (S0, (j_w (j_w (j_w M 8 8 (M 8 7)) 8 7 x1) 8 10 1), N)
  else
    bif j_in (M 8 7) 7 then
    if (M 9 ((M 8 7)).toNatClampNeg) ≤ x2 then
      bif j_in (M 8 7) 7 then
      if x2 = (M 9 ((M 8 7)).toNatClampNeg) then
        R d kX3_weigh 141 [.ref 8, .int x1, .int x2] [.int 1, .int (M 8 10), .ref 8] (S0, M, N)
      else
        R d kX3_weigh 141 [.ref 8, .int x1, .int x2] [.int 0, .int (M 8 10), .ref 8] (S0, M, N) else none
    else
      R d kX3_weigh 27 [.ref 8, .int (x1 + 1), .null] [] (S0, (j_w (j_w (j_w M 8 8 (M 8 7)) 8 7 x1) 8 10 1), N) else none) := (R_ev d kX3_weigh 400 77 _ _ _).trans rfl
theorem bX3_weigh_141 (d : Nat) (x1 : Int32) (x2 : Int32) (s1 : Int32) (s2 : Int32) (M : j_M) (N : j_N) : R d kX3_weigh 141 [.ref 8, .int x1, .int x2] [.int s2, .int s1, .ref 8] (S0, M, N) =
  (if (M 8 8) < 0 then
    R d kX3_weigh 27 [.ref 8, .int (x1 + 1), .null] [] (S0, (j_w (j_w M 8 10 (s1 + s2)) 8 8 x1), N)
  else
    bif j_in (M 8 8) 7 then
    if (M 9 ((M 8 8)).toNatClampNeg) ≤ x2 then
      R d kX3_weigh 27 [.ref 8, .int (x1 + 1), .null] [] (S0, (j_w (j_w M 8 10 (s1 + s2)) 8 8 (M 8 8)), N)
    else
      R d kX3_weigh 27 [.ref 8, .int (x1 + 1), .null] [] (S0, (j_w (j_w M 8 10 (s1 + s2)) 8 8 x1), N) else none) := (R_ev d kX3_weigh 400 141 _ _ _).trans rfl
theorem bX3_charge_0 (d : Nat) (x1 : Int32) (M : j_M) (N : j_N) : R d kX3_charge 0 [.ref 8, .int x1] [] (S0, M, N) =
  (some (none, (S0, (j_w (j_w (j_w M 8 3 x1) 8 5 (if (x1 - (M 8 4)) < (0 : Int32) then (0 : Int32) else (x1 - (M 8 4)))) 8 6 (if ((M 8 4) - x1) < (0 : Int32) then (0 : Int32) else ((M 8 4) - x1))), N))) := (R_ev d kX3_charge 400 0 _ _ _).trans rfl
theorem bX3_cost_0 (d : Nat) (x1 : Int32) (M : j_M) (N : j_N) : R d kX3_cost 0 [.ref 8, .int x1] [] (S0, M, N) =
  (bif j_in x1 7 then
  (C d 27 [.ref 8, .int x1] S0 M N).bind fun q1 => j_oi none (fun r1 =>
  (C d 30 [.ref 8, .int x1] S0 q1.2.1 q1.2.2).bind fun q2 => j_oi none (fun r2 =>
  some (some (.int (((M 9 (x1).toNatClampNeg) + r1) - r2)), (S0, q2.2.1, q2.2.2))) q2.1) q1.1 else none) := (R_ev d kX3_cost 400 0 _ _ _).trans rfl
theorem bX3_besides_0 (d : Nat) (x1 : Int32) (M : j_M) (N : j_N) : R d kX3_besides 0 [.ref 8, .int x1] [] (S0, M, N) =
  (if (M 8 2) = 0 then
    (C d 28 [.ref 8, .int x1] S0 M N).bind fun q1 => j_oi none (fun r1 =>
    some (some (.int r1), (S0, q1.2.1, q1.2.2))) q1.1
  else if (M 8 2) = 1 then
    if x1 = (M 8 7) then
      some (some (.int (M 8 5)), (S0, M, N))
    else
      some (some (.int 0), (S0, M, N))
  else if (M 8 2) = 2 then
    (C d 29 [.ref 8, .int x1] S0 M N).bind fun q2 => j_oi none (fun r2 =>
    some (some (.int r2), (S0, q2.2.1, q2.2.2))) q2.1
  else if (M 8 2) = 3 then
    if x1 = (M 8 7) then
      bif j_in x1 7 then
      some (some (.int ((M 8 5) + (M 9 (x1).toNatClampNeg))), (S0, M, N)) else none
    else
      some (some (.int 0), (S0, M, N))
  else 
    if x1 = (M 8 7) then
      some (some (.int (M 8 5)), (S0, M, N))
    else
      some (some (.int 0), (S0, M, N))) := (R_ev d kX3_besides 400 0 _ _ _).trans rfl
theorem bX3_partAmongAlike_0 (d : Nat) (x1 : Int32) (M : j_M) (N : j_N) : R d kX3_partAmongAlike 0 [.ref 8, .int x1, .null, .null] [] (S0, M, N) =
  (if (M 8 10) = 0 then
    some (some (.int 0), (S0, M, N))
  else
    bif j_in x1 7 then
    bif j_in (M 8 7) 7 then
    if (M 9 (x1).toNatClampNeg) = (M 9 ((M 8 7)).toNatClampNeg) then
      R d kX3_partAmongAlike 34 [.ref 8, .int x1, .int 0, .int (M 8 7)] [] (S0, M, N)
    else
      some (some (.int 0), (S0, M, N)) else none else none) := (R_ev d kX3_partAmongAlike 400 0 _ _ _).trans rfl
theorem bX3_partAmongAlike_34 (d : Nat) (x1 : Int32) (x2 : Int32) (x3 : Int32) (M : j_M) (N : j_N) : R d kX3_partAmongAlike 34 [.ref 8, .int x1, .int x2, .int x3] [] (S0, M, N) =
  (if x1 ≤ x3 then
    if (M 8 10) = 0 then none else
    if (M 8 10) = 0 then none else
    if ((M 8 5) - (M 8 5) / (M 8 10) * (M 8 10)) ≤ x2 then
      some (some (.int (((M 8 5) / (M 8 10)) + 0)), (S0, M, N))
    else
      some (some (.int (((M 8 5) / (M 8 10)) + 1)), (S0, M, N))
  else
    bif j_in x3 7 then
    bif j_in (M 8 7) 7 then
    if (M 9 (x3).toNatClampNeg) = (M 9 ((M 8 7)).toNatClampNeg) then
      R d kX3_partAmongAlike 34 [.ref 8, .int x1, .int (x2 + 1), .int (x3 + 1)] [] (S0, M, N)
    else
      R d kX3_partAmongAlike 34 [.ref 8, .int x1, .int (x2 + 0), .int (x3 + 1)] [] (S0, M, N) else none else none) := (R_ev d kX3_partAmongAlike 400 34 _ _ _).trans rfl
theorem bX3_partOfTwo_0 (d : Nat) (x1 : Int32) (M : j_M) (N : j_N) : R d kX3_partOfTwo 0 [.ref 8, .int x1, .null] [] (S0, M, N) =
  (if 0 ≤ (M 8 8) then
    if x1 = (M 8 7) then
      some (some (.int ((M 8 5) - ((M 8 5) / 2))), (S0, M, N))
    else
      if x1 = (M 8 8) then
        some (some (.int ((M 8 5) / 2)), (S0, M, N))
      else
        some (some (.int 0), (S0, M, N))
  else
    if x1 = (M 8 7) then
      some (some (.int ((M 8 5) - 0)), (S0, M, N))
    else
      if x1 = (M 8 8) then
        some (some (.int 0), (S0, M, N))
      else
        some (some (.int 0), (S0, M, N))) := (R_ev d kX3_partOfTwo 400 0 _ _ _).trans rfl
theorem bX3_givenBack_0 (d : Nat) (x1 : Int32) (M : j_M) (N : j_N) : R d kX3_givenBack 0 [.ref 8, .int x1] [] (S0, M, N) =
  (if (M 8 2) = 4 then
    if x1 = (M 8 9) then
      bif j_in x1 7 then
      some (some (.int (if (M 9 (x1).toNatClampNeg) < (M 8 6) then (M 9 (x1).toNatClampNeg) else (M 8 6))), (S0, M, N)) else none
    else
      some (some (.int 0), (S0, M, N))
  else
    some (some (.int 0), (S0, M, N))) := (R_ev d kX3_givenBack 400 0 _ _ _).trans rfl
theorem bX3_intoChest_0 (d : Nat)  (M : j_M) (N : j_N) : R d kX3_intoChest 0 [.ref 8] [] (S0, M, N) =
  (if (M 8 2) = 4 then
    if 0 ≤ (M 8 9) then
      (C d 30 [.ref 8, .int (M 8 9)] S0 M N).bind fun q1 => j_oi none (fun r1 =>
      some (some (.int ((M 8 6) - r1)), (S0, q1.2.1, q1.2.2))) q1.1
    else
      some (some (.int (M 8 6)), (S0, M, N))
  else
    if (M 8 2) = 3 then
      if (M 8 7) < 0 then
        some (some (.int (M 8 6)), (S0, M, N))
      else
        bif j_in (M 8 7) 7 then
        some (some (.int ((M 8 6) + (M 9 ((M 8 7)).toNatClampNeg))), (S0, M, N)) else none
    else
      some (some (.int (M 8 6)), (S0, M, N))) := (R_ev d kX3_intoChest 400 0 _ _ _).trans rfl
theorem bX4_add_0 (d : Nat) (x1 : Int32) (M : j_M) (N : j_N) : R d kX4_add 0 [.ref 16, .int x1] [] (S0, M, N) =
  (if (M 16 4) < 120 then
    bif j_in (M 16 4) 120 then
    some (some (.int ((M 16 4) + 1)), (S0, (j_w (j_w M 17 ((M 16 4)).toNatClampNeg x1) 16 4 ((M 16 4) + 1)), N)) else none
  else
    some (some (.int (-3)), (S0, M, N))) := (R_ev d kX4_add 400 0 _ _ _).trans rfl
theorem bX4_enact_0 (d : Nat)  (M : j_M) (N : j_N) : R d kX4_enact 0 [.ref 16] [] (S0, M, N) =
  ((C d 35 [.ref 16] S0 M N).bind fun q1 => j_ov none (
  if (q1.2.1 16 6) = (-1) then
    bif (!(decide (0 < (0:Int32))) && !(decide (0 < (0:Int32))) && !(decide ((q1.2.1 16 7) < (0:Int32))) && Nat.ble (0 + ((q1.2.1 16 7)).toNatClampNeg) 122 && Nat.ble (0 + ((q1.2.1 16 7)).toNatClampNeg) 122) && Nat.ble 0 8 then
    some (some (.int 1), (S0, (j_w (j_w (j_row (j_w q1.2.1 16 4 0) 19 (va_cpy ((j_w q1.2.1 16 4 0) 18) ((j_w q1.2.1 16 4 0) 19) 0 0 ((q1.2.1 16 7)).toNatClampNeg)) 16 8 (q1.2.1 16 7)) 16 9 1), q1.2.2)) else none
  else
    some (some (.int ((-100) - (q1.2.1 16 6))), (S0, (j_w q1.2.1 16 4 0), q1.2.2))) q1.1) := (R_ev d kX4_enact 400 0 _ _ _).trans rfl
theorem bX4_readLines_0 (d : Nat)  (M : j_M) (N : j_N) : R d kX4_readLines 0 [.ref 16, .null] [] (S0, M, N) =
  ((C d 36 [.ref 16] S0 (j_w (j_w (j_w M 16 5 0) 16 6 (-1)) 16 7 0) N).bind fun q1 => j_ov none (
  R d kX4_readLines 21 [.ref 16, .int 0] [] (S0, q1.2.1, q1.2.2)) q1.1) := (R_ev d kX4_readLines 400 0 _ _ _).trans rfl
theorem bX4_readLines_21 (d : Nat) (x1 : Int32) (M : j_M) (N : j_N) : R d kX4_readLines 21 [.ref 16, .int x1] [] (S0, M, N) =
  (if 120 ≤ x1 then
    if (M 16 4) ≤ (M 16 5) then
      some (none, (S0, M, N))
    else
      (C d 50 [.ref 16] S0 M N).bind fun q1 => j_ov none (
      some (none, (S0, q1.2.1, q1.2.2))) q1.1
  else
    (C d 49 [.ref 16, .int 59] S0 M N).bind fun q2 => j_oi none (fun r2 =>
    if r2 = 0 then
      if (q2.2.1 16 4) ≤ (q2.2.1 16 5) then
        some (none, (S0, q2.2.1, q2.2.2))
      else
        (C d 50 [.ref 16] S0 q2.2.1 q2.2.2).bind fun q3 => j_ov none (
        some (none, (S0, q3.2.1, q3.2.2))) q3.1
    else
      (C d 36 [.ref 16] S0 q2.2.1 q2.2.2).bind fun q4 => j_ov none (
      R d kX4_readLines 21 [.ref 16, .int (x1 + 1)] [] (S0, q4.2.1, q4.2.2)) q4.1) q2.1) := (R_ev d kX4_readLines 400 21 _ _ _).trans rfl
theorem bX4_readLine_0 (d : Nat)  (M : j_M) (N : j_N) : R d kX4_readLine 0 [.ref 16] [] (S0, M, N) =
  ((C d 37 [.ref 16, .int 0] S0 M N).bind fun q1 => j_ov none (
  (C d 49 [.ref 16, .int 63] S0 q1.2.1 q1.2.2).bind fun q2 => j_oi none (fun r2 =>
  if r2 = 0 then
    (C d 51 [.ref 16, .int (-19)] S0 q2.2.1 q2.2.2).bind fun q3 => j_ov none (
    some (none, (S0, q3.2.1, q3.2.2))) q3.1
  else
    (C d 51 [.ref 16, .int (-18)] S0 q2.2.1 q2.2.2).bind fun q4 => j_ov none (
    (C d 37 [.ref 16, .int 0] S0 q4.2.1 q4.2.2).bind fun q5 => j_ov none (
    (C d 51 [.ref 16, .int (-19)] S0 q5.2.1 q5.2.2).bind fun q6 => j_ov none (
    some (none, (S0, q6.2.1, q6.2.2))) q6.1) q5.1) q4.1) q2.1) q1.1) := (R_ev d kX4_readLine 400 0 _ _ _).trans rfl
theorem bX4_readEither_0 (d : Nat) (x1 : Int32) (M : j_M) (N : j_N) : R d kX4_readEither 0 [.ref 16, .int x1, .null] [] (S0, M, N) =
  ((C d 38 [.ref 16, .int x1] S0 M N).bind fun q1 => j_ov none (
  R d kX4_readEither 7 [.ref 16, .int x1, .int 0] [] (S0, q1.2.1, q1.2.2)) q1.1) := (R_ev d kX4_readEither 400 0 _ _ _).trans rfl
theorem bX4_readEither_7 (d : Nat) (x1 : Int32) (x2 : Int32) (M : j_M) (N : j_N) : R d kX4_readEither 7 [.ref 16, .int x1, .int x2] [] (S0, M, N) =
  (if 120 ≤ x2 then
    some (none, (S0, M, N))
  else
    (C d 49 [.ref 16, .int 124] S0 M N).bind fun q1 => j_oi none (fun r1 =>
    if r1 = 0 then
      some (none, (S0, q1.2.1, q1.2.2))
    else
      (C d 38 [.ref 16, .int x1] S0 q1.2.1 q1.2.2).bind fun q2 => j_ov none (
      (C d 51 [.ref 16, .int (-6)] S0 q2.2.1 q2.2.2).bind fun q3 => j_ov none (
      R d kX4_readEither 7 [.ref 16, .int x1, .int (x2 + 1)] [] (S0, q3.2.1, q3.2.2)) q3.1) q2.1) q1.1) := (R_ev d kX4_readEither 400 7 _ _ _).trans rfl
theorem bX4_readBoth_0 (d : Nat) (x1 : Int32) (M : j_M) (N : j_N) : R d kX4_readBoth 0 [.ref 16, .int x1, .null] [] (S0, M, N) =
  ((C d 39 [.ref 16, .int x1] S0 M N).bind fun q1 => j_ov none (
  R d kX4_readBoth 7 [.ref 16, .int x1, .int 0] [] (S0, q1.2.1, q1.2.2)) q1.1) := (R_ev d kX4_readBoth 400 0 _ _ _).trans rfl
theorem bX4_readBoth_7 (d : Nat) (x1 : Int32) (x2 : Int32) (M : j_M) (N : j_N) : R d kX4_readBoth 7 [.ref 16, .int x1, .int x2] [] (S0, M, N) =
  (if 120 ≤ x2 then
    some (none, (S0, M, N))
  else
    (C d 49 [.ref 16, .int 38] S0 M N).bind fun q1 => j_oi none (fun r1 =>
    if r1 = 0 then
      some (none, (S0, q1.2.1, q1.2.2))
    else
      (C d 39 [.ref 16, .int x1] S0 q1.2.1 q1.2.2).bind fun q2 => j_ov none (
      (C d 51 [.ref 16, .int (-7)] S0 q2.2.1 q2.2.2).bind fun q3 => j_ov none (
      R d kX4_readBoth 7 [.ref 16, .int x1, .int (x2 + 1)] [] (S0, q3.2.1, q3.2.2)) q3.1) q2.1) q1.1) := (R_ev d kX4_readBoth 400 7 _ _ _).trans rfl
theorem bX4_readCompared_0 (d : Nat) (x1 : Int32) (M : j_M) (N : j_N) : R d kX4_readCompared 0 [.ref 16, .int x1, .null] [] (S0, M, N) =
  ((C d 40 [.ref 16, .int x1] S0 M N).bind fun q1 => j_ov none (
  (C d 49 [.ref 16, .int 60] S0 q1.2.1 q1.2.2).bind fun q2 => j_oi none (fun r2 =>
  if r2 = 0 then
    (C d 49 [.ref 16, .int 61] S0 q2.2.1 q2.2.2).bind fun q3 => j_oi none (fun r3 =>
    if r3 = 0 then
      (C d 49 [.ref 16, .int 62] S0 q3.2.1 q3.2.2).bind fun q4 => j_oi none (fun r4 =>
      if r4 = 0 then
        some (none, (S0, q4.2.1, q4.2.2))
      else
        (C d 40 [.ref 16, .int x1] S0 q4.2.1 q4.2.2).bind fun q5 => j_ov none (
        (C d 51 [.ref 16, .int (-10)] S0 q5.2.1 q5.2.2).bind fun q6 => j_ov none (
        some (none, (S0, q6.2.1, q6.2.2))) q6.1) q5.1) q4.1
    else
      (C d 40 [.ref 16, .int x1] S0 q3.2.1 q3.2.2).bind fun q7 => j_ov none (
      (C d 51 [.ref 16, .int (-9)] S0 q7.2.1 q7.2.2).bind fun q8 => j_ov none (
      some (none, (S0, q8.2.1, q8.2.2))) q8.1) q7.1) q3.1
  else
    (C d 40 [.ref 16, .int x1] S0 q2.2.1 q2.2.2).bind fun q9 => j_ov none (
    (C d 51 [.ref 16, .int (-8)] S0 q9.2.1 q9.2.2).bind fun q10 => j_ov none (
    some (none, (S0, q10.2.1, q10.2.2))) q10.1) q9.1) q2.1) q1.1) := (R_ev d kX4_readCompared 400 0 _ _ _).trans rfl
theorem bX4_readSum_0 (d : Nat) (x1 : Int32) (M : j_M) (N : j_N) : R d kX4_readSum 0 [.ref 16, .int x1, .null, .null] [] (S0, M, N) =
  ((C d 42 [.ref 16, .int x1] S0 M N).bind fun q1 => j_ov none (
  (C d 41 [.ref 16] S0 q1.2.1 q1.2.2).bind fun q2 => j_oi none (fun r2 =>
  R d kX4_readSum 12 [.ref 16, .int x1, .int r2, .int 0] [] (S0, q2.2.1, q2.2.2)) q2.1) q1.1) := (R_ev d kX4_readSum 400 0 _ _ _).trans rfl
theorem bX4_readSum_12 (d : Nat) (x1 : Int32) (x2 : Int32) (x3 : Int32) (M : j_M) (N : j_N) : R d kX4_readSum 12 [.ref 16, .int x1, .int x2, .int x3] [] (S0, M, N) =
  (if 120 ≤ x3 then
    some (none, (S0, M, N))
  else
    if x2 = 0 then
      some (none, (S0, M, N))
    else
      (C d 42 [.ref 16, .int x1] S0 M N).bind fun q1 => j_ov none (
      (C d 51 [.ref 16, .int x2] S0 q1.2.1 q1.2.2).bind fun q2 => j_ov none (
      (C d 41 [.ref 16] S0 q2.2.1 q2.2.2).bind fun q3 => j_oi none (fun r3 =>
      R d kX4_readSum 12 [.ref 16, .int x1, .int r3, .int (x3 + 1)] [] (S0, q3.2.1, q3.2.2)) q3.1) q2.1) q1.1) := (R_ev d kX4_readSum 400 12 _ _ _).trans rfl
theorem bX4_takesSumSign_0 (d : Nat)  (M : j_M) (N : j_N) : R d kX4_takesSumSign 0 [.ref 16] [] (S0, M, N) =
  ((C d 49 [.ref 16, .int 43] S0 M N).bind fun q1 => j_oi none (fun r1 =>
  if r1 = 0 then
    (C d 49 [.ref 16, .int 45] S0 q1.2.1 q1.2.2).bind fun q2 => j_oi none (fun r2 =>
    if r2 = 0 then
      some (some (.int 0), (S0, q2.2.1, q2.2.2))
    else
      some (some (.int (-12)), (S0, q2.2.1, q2.2.2))) q2.1
  else
    some (some (.int (-11)), (S0, q1.2.1, q1.2.2))) q1.1) := (R_ev d kX4_takesSumSign 400 0 _ _ _).trans rfl
theorem bX4_readProduct_0 (d : Nat) (x1 : Int32) (M : j_M) (N : j_N) : R d kX4_readProduct 0 [.ref 16, .int x1, .null, .null] [] (S0, M, N) =
  ((C d 44 [.ref 16, .int x1] S0 M N).bind fun q1 => j_ov none (
  (C d 43 [.ref 16] S0 q1.2.1 q1.2.2).bind fun q2 => j_oi none (fun r2 =>
  R d kX4_readProduct 12 [.ref 16, .int x1, .int r2, .int 0] [] (S0, q2.2.1, q2.2.2)) q2.1) q1.1) := (R_ev d kX4_readProduct 400 0 _ _ _).trans rfl
theorem bX4_readProduct_12 (d : Nat) (x1 : Int32) (x2 : Int32) (x3 : Int32) (M : j_M) (N : j_N) : R d kX4_readProduct 12 [.ref 16, .int x1, .int x2, .int x3] [] (S0, M, N) =
  (if 120 ≤ x3 then
    some (none, (S0, M, N))
  else
    if x2 = 0 then
      some (none, (S0, M, N))
    else
      (C d 44 [.ref 16, .int x1] S0 M N).bind fun q1 => j_ov none (
      (C d 51 [.ref 16, .int x2] S0 q1.2.1 q1.2.2).bind fun q2 => j_ov none (
      (C d 43 [.ref 16] S0 q2.2.1 q2.2.2).bind fun q3 => j_oi none (fun r3 =>
      R d kX4_readProduct 12 [.ref 16, .int x1, .int r3, .int (x3 + 1)] [] (S0, q3.2.1, q3.2.2)) q3.1) q2.1) q1.1) := (R_ev d kX4_readProduct 400 12 _ _ _).trans rfl
theorem bX4_takesProductSign_0 (d : Nat)  (M : j_M) (N : j_N) : R d kX4_takesProductSign 0 [.ref 16] [] (S0, M, N) =
  ((C d 49 [.ref 16, .int 42] S0 M N).bind fun q1 => j_oi none (fun r1 =>
  if r1 = 0 then
    (C d 49 [.ref 16, .int 47] S0 q1.2.1 q1.2.2).bind fun q2 => j_oi none (fun r2 =>
    if r2 = 0 then
      (C d 49 [.ref 16, .int 37] S0 q2.2.1 q2.2.2).bind fun q3 => j_oi none (fun r3 =>
      if r3 = 0 then
        some (some (.int 0), (S0, q3.2.1, q3.2.2))
      else
        some (some (.int (-15)), (S0, q3.2.1, q3.2.2))) q3.1
    else
      some (some (.int (-14)), (S0, q2.2.1, q2.2.2))) q2.1
  else
    some (some (.int (-13)), (S0, q1.2.1, q1.2.2))) q1.1) := (R_ev d kX4_takesProductSign 400 0 _ _ _).trans rfl
theorem bX4_readOperand_0 (d : Nat) (x1 : Int32) (M : j_M) (N : j_N) : R d kX4_readOperand 0 [.ref 16, .int x1, .null, .null] [] (S0, M, N) =
  ((C d 46 [.ref 16] S0 M N).bind fun q1 => j_oi none (fun r1 =>
  (C d 48 [.int r1] S0 q1.2.1 q1.2.2).bind fun q2 => j_oi none (fun r2 =>
  (C d 47 [.int r1] S0 q2.2.1 q2.2.2).bind fun q3 => j_oi none (fun r3 =>
  if r3 = 0 then
    if r2 = 0 then
      if x1 < 6 then
        (C d 49 [.ref 16, .int 40] S0 q3.2.1 q3.2.2).bind fun q4 => j_oi none (fun r4 =>
        if r4 = 0 then
          (C d 49 [.ref 16, .int 33] S0 q4.2.1 q4.2.2).bind fun q5 => j_oi none (fun r5 =>
          if r5 = 0 then
            (C d 49 [.ref 16, .int 45] S0 q5.2.1 q5.2.2).bind fun q6 => j_oi none (fun r6 =>
            if r6 = 0 then
              (C d 50 [.ref 16] S0 q6.2.1 q6.2.2).bind fun q7 => j_ov none (
              some (none, (S0, q7.2.1, q7.2.2))) q7.1
            else
              (C d 44 [.ref 16, .int (x1 + 1)] S0 q6.2.1 q6.2.2).bind fun q8 => j_ov none (
              (C d 51 [.ref 16, .int (-17)] S0 q8.2.1 q8.2.2).bind fun q9 => j_ov none (
              some (none, (S0, q9.2.1, q9.2.2))) q9.1) q8.1) q6.1
          else
            (C d 44 [.ref 16, .int (x1 + 1)] S0 q5.2.1 q5.2.2).bind fun q10 => j_ov none (
            (C d 51 [.ref 16, .int (-16)] S0 q10.2.1 q10.2.2).bind fun q11 => j_ov none (
            some (none, (S0, q11.2.1, q11.2.2))) q11.1) q10.1) q5.1
        else
          (C d 37 [.ref 16, .int (x1 + 1)] S0 q4.2.1 q4.2.2).bind fun q12 => j_ov none (
          (C d 49 [.ref 16, .int 41] S0 q12.2.1 q12.2.2).bind fun q13 => j_oi none (fun r13 =>
          if r13 = 0 then
            (C d 50 [.ref 16] S0 q13.2.1 q13.2.2).bind fun q14 => j_ov none (
            some (none, (S0, q14.2.1, q14.2.2))) q14.1
          else
            some (none, (S0, q13.2.1, q13.2.2))) q13.1) q12.1) q4.1
      else
        (C d 50 [.ref 16] S0 q3.2.1 q3.2.2).bind fun q15 => j_ov none (
        some (none, (S0, q15.2.1, q15.2.2))) q15.1
    else
      (C d 51 [.ref 16, .int r2] S0 (j_w q3.2.1 16 5 ((q3.2.1 16 5) + 1)) q3.2.2).bind fun q16 => j_ov none (
      some (none, (S0, q16.2.1, q16.2.2))) q16.1
  else
    (C d 45 [.ref 16] S0 q3.2.1 q3.2.2).bind fun q17 => j_ov none (
    some (none, (S0, q17.2.1, q17.2.2))) q17.1) q3.1) q2.1) q1.1) := (R_ev d kX4_readOperand 400 0 _ _ _).trans rfl
theorem bX4_readNumber_0 (d : Nat)  (M : j_M) (N : j_N) : R d kX4_readNumber 0 [.ref 16, .null, .null] [] (S0, M, N) =
  (R d kX4_readNumber 4 [.ref 16, .int 0, .int 0] [] (S0, M, N)) := (R_ev d kX4_readNumber 400 0 _ _ _).trans rfl
theorem bX4_readNumber_4 (d : Nat) (x1 : Int32) (x2 : Int32) (M : j_M) (N : j_N) : R d kX4_readNumber 4 [.ref 16, .int x1, .int x2] [] (S0, M, N) =
  (if 4 ≤ x2 then
    (C d 51 [.ref 16, .int x1] S0 M N).bind fun q1 => j_ov none (
    some (none, (S0, q1.2.1, q1.2.2))) q1.1
  else
    (C d 46 [.ref 16] S0 M N).bind fun q2 => j_oi none (fun r2 =>
    (C d 47 [.int r2] S0 q2.2.1 q2.2.2).bind fun q3 => j_oi none (fun r3 =>
    if r3 = 0 then
      (C d 51 [.ref 16, .int x1] S0 q3.2.1 q3.2.2).bind fun q4 => j_ov none (
      some (none, (S0, q4.2.1, q4.2.2))) q4.1
    else
      (C d 46 [.ref 16] S0 q3.2.1 q3.2.2).bind fun q5 => j_oi none (fun r5 =>
      R d kX4_readNumber 4 [.ref 16, .int (((x1 * 10) + r5) - 48), .int (x2 + 1)] [] (S0, (j_w q5.2.1 16 5 ((q5.2.1 16 5) + 1)), q5.2.2)) q5.1) q3.1) q2.1) := (R_ev d kX4_readNumber 400 4 _ _ _).trans rfl
theorem bX4_letterHere_0 (d : Nat)  (M : j_M) (N : j_N) : R d kX4_letterHere 0 [.ref 16] [] (S0, M, N) =
  (if (M 16 6) = (-1) then
    if (M 16 5) < 0 then
      some (some (.int (-1)), (S0, M, N))
    else
      if (M 16 4) ≤ (M 16 5) then
        some (some (.int (-1)), (S0, M, N))
      else
        bif j_in (M 16 5) 120 then
        some (some (.int (M 17 ((M 16 5)).toNatClampNeg)), (S0, M, N)) else none
  else
    some (some (.int (-1)), (S0, M, N))) := (R_ev d kX4_letterHere 400 0 _ _ _).trans rfl
theorem bX4_isDigit_0 (d : Nat) (x0 : Int32) (M : j_M) (N : j_N) : R d kX4_isDigit 0 [.int x0] [] (S0, M, N) =
  (if x0 < 48 then
    some (some (.int 0), (S0, M, N))
  else
    if 57 < x0 then
      some (some (.int 0), (S0, M, N))
    else
      some (some (.int 1), (S0, M, N))) := (R_ev d kX4_isDigit 400 0 _ _ _).trans rfl
theorem bX4_nameOf_0 (d : Nat) (x0 : Int32) (M : j_M) (N : j_N) : R d kX4_nameOf 0 [.int x0] [] (S0, M, N) =
  (if x0 = 98 then
    some (some (.int (-1)), (S0, M, N))
  else if x0 = 107 then
    some (some (.int (-4)), (S0, M, N))
  else if x0 = 110 then
    some (some (.int (-3)), (S0, M, N))
  else if x0 = 112 then
    some (some (.int (-2)), (S0, M, N))
  else if x0 = 114 then
    some (some (.int (-5)), (S0, M, N))
  else 
    some (some (.int 0), (S0, M, N))) := (R_ev d kX4_nameOf 400 0 _ _ _).trans rfl
theorem bX4_takes_0 (d : Nat) (x1 : Int32) (M : j_M) (N : j_N) : R d kX4_takes 0 [.ref 16, .int x1] [] (S0, M, N) =
  ((C d 46 [.ref 16] S0 M N).bind fun q1 => j_oi none (fun r1 =>
  if r1 = x1 then
    some (some (.int 1), (S0, (j_w q1.2.1 16 5 ((q1.2.1 16 5) + 1)), q1.2.2))
  else
    some (some (.int 0), (S0, q1.2.1, q1.2.2))) q1.1) := (R_ev d kX4_takes 400 0 _ _ _).trans rfl
theorem bX4_fail_0 (d : Nat)  (M : j_M) (N : j_N) : R d kX4_fail 0 [.ref 16] [] (S0, M, N) =
  (if (M 16 6) = (-1) then
    some (none, (S0, (j_w M 16 6 (M 16 5)), N))
  else
    some (none, (S0, M, N))) := (R_ev d kX4_fail 400 0 _ _ _).trans rfl
theorem bX4_write_0 (d : Nat) (x1 : Int32) (M : j_M) (N : j_N) : R d kX4_write 0 [.ref 16, .int x1] [] (S0, M, N) =
  (if 122 ≤ (M 16 7) then
    some (none, (S0, M, N))
  else
    bif j_in (M 16 7) 122 then
    some (none, (S0, (j_w (j_w M 18 ((M 16 7)).toNatClampNeg x1) 16 7 ((M 16 7) + 1)), N)) else none) := (R_ev d kX4_write 400 0 _ _ _).trans rfl
theorem bX4_gift_0 (d : Nat) (x2 : Int32) (x3 : Int32) (M : j_M) (N : j_N) : R d kX4_gift 0 [.ref 16, .ref 1, .int x2, .int x3, .null] [] (S0, M, N) =
  (if (M 16 9) = 0 then
    (C d 53 [.int x3, .int (M 1 6)] S0 M N).bind fun q1 => j_oi none (fun r1 =>
    bif j_in x2 6 then
    some (some (.int (if (0 : Int32) < (if (q1.2.1 2 (x2).toNatClampNeg) < r1 then (q1.2.1 2 (x2).toNatClampNeg) else r1) then (if (q1.2.1 2 (x2).toNatClampNeg) < r1 then (q1.2.1 2 (x2).toNatClampNeg) else r1) else (0 : Int32))), (S0, q1.2.1, q1.2.2)) else none) q1.1
  else
    (C d 54 [.ref 16, .ref 1, .int x2, .int x3] S0 M N).bind fun q2 => j_oi none (fun r2 =>
    bif j_in x2 6 then
    some (some (.int (if (0 : Int32) < (if (q2.2.1 2 (x2).toNatClampNeg) < r2 then (q2.2.1 2 (x2).toNatClampNeg) else r2) then (if (q2.2.1 2 (x2).toNatClampNeg) < r2 then (q2.2.1 2 (x2).toNatClampNeg) else r2) else (0 : Int32))), (S0, q2.2.1, q2.2.2)) else none) q2.1) := (R_ev d kX4_gift 400 0 _ _ _).trans rfl
theorem bX4_shareOf_0 (d : Nat) (x0 : Int32) (x1 : Int32) (M : j_M) (N : j_N) : R d kX4_shareOf 0 [.int x0, .int x1] [] (S0, M, N) =
  (if x1 = 0 then
    some (some (.int 0), (S0, M, N))
  else
    if x1 = 0 then none else
    some (some (.int (x0 / x1)), (S0, M, N))) := (R_ev d kX4_shareOf 400 0 _ _ _).trans rfl
theorem bX4_workOut_0 (d : Nat) (x2 : Int32) (x3 : Int32) (M : j_M) (N : j_N) : R d kX4_workOut 0 [.ref 16, .ref 1, .int x2, .int x3, .null, .null, .null] [] (S0, M, N) =
  (R d kX4_workOut 11 [.ref 16, .ref 1, .int x2, .int x3, .int 1, .int 0, .null] [] (S0, (j_w M 16 10 0), N)) := (R_ev d kX4_workOut 400 0 _ _ _).trans rfl
theorem bX4_workOut_11 (d : Nat) (x2 : Int32) (x3 : Int32) (x4 : Int32) (x5 : Int32) (M : j_M) (N : j_N) : R d kX4_workOut 11 [.ref 16, .ref 1, .int x2, .int x3, .int x4, .int x5, .null] [] (S0, M, N) =
  (if (M 16 8) ≤ x5 then
    some (some (.int 0), (S0, M, N))
  else
    bif j_in x5 122 then
    if (M 19 (x5).toNatClampNeg) = (-19) then
      if x4 = 0 then
        R d kX4_workOut 46 [.ref 16, .ref 1, .int x2, .int x3, .int x4, .int x5, .int (M 19 (x5).toNatClampNeg)] [] (S0, M, N)
      else
        (C d 57 [.ref 16] S0 M N).bind fun q1 => j_oi none (fun r1 =>
        some (some (.int r1), (S0, q1.2.1, q1.2.2))) q1.1
    else
      R d kX4_workOut 46 [.ref 16, .ref 1, .int x2, .int x3, .int x4, .int x5, .int (M 19 (x5).toNatClampNeg)] [] (S0, M, N) else none) := (R_ev d kX4_workOut 400 11 _ _ _).trans rfl
theorem bX4_workOut_46 (d : Nat) (x2 : Int32) (x3 : Int32) (x4 : Int32) (x5 : Int32) (x6 : Int32) (M : j_M) (N : j_N) : R d kX4_workOut 46 [.ref 16, .ref 1, .int x2, .int x3, .int x4, .int x5, .int x6] [] (S0, M, N) =
  (if x6 = (-19) then
    R d kX4_workOut 11 [.ref 16, .ref 1, .int x2, .int x3, .int 1, .int (x5 + 1), .null] [] (S0, M, N)
  else
    if x4 = 0 then
      R d kX4_workOut 88 [.ref 16, .ref 1, .int x2, .int x3, .int x4, .int x5, .int x6] [] (S0, M, N)
    else
      if x6 = (-18) then
        (C d 57 [.ref 16] S0 M N).bind fun q1 => j_oi none (fun r1 =>
        if r1 = 0 then
          R d kX4_workOut 11 [.ref 16, .ref 1, .int x2, .int x3, .int 0, .int (x5 + 1), .null] [] (S0, q1.2.1, q1.2.2)
        else
          R d kX4_workOut 11 [.ref 16, .ref 1, .int x2, .int x3, .int 1, .int (x5 + 1), .null] [] (S0, q1.2.1, q1.2.2)) q1.1
      else
        R d kX4_workOut 88 [.ref 16, .ref 1, .int x2, .int x3, .int x4, .int x5, .int x6] [] (S0, M, N)) := (R_ev d kX4_workOut 400 46 _ _ _).trans rfl
theorem bX4_workOut_88 (d : Nat) (x2 : Int32) (x3 : Int32) (x4 : Int32) (x5 : Int32) (x6 : Int32) (M : j_M) (N : j_N) : R d kX4_workOut 88 [.ref 16, .ref 1, .int x2, .int x3, .int x4, .int x5, .int x6] [] (S0, M, N) =
  (if x4 = 0 then
    if x4 = 0 then
      R d kX4_workOut 11 [.ref 16, .ref 1, .int x2, .int x3, .int x4, .int (x5 + 1), .null] [] (S0, M, N)
    else
      (C d 55 [.ref 16, .int x6] S0 M N).bind fun q1 => j_ov none (
      R d kX4_workOut 11 [.ref 16, .ref 1, .int x2, .int x3, .int x4, .int (x5 + 1), .null] [] (S0, q1.2.1, q1.2.2)) q1.1
  else
    if x6 < (-5) then
      if x4 = 0 then
        R d kX4_workOut 11 [.ref 16, .ref 1, .int x2, .int x3, .int x4, .int (x5 + 1), .null] [] (S0, M, N)
      else
        (C d 55 [.ref 16, .int x6] S0 M N).bind fun q2 => j_ov none (
        R d kX4_workOut 11 [.ref 16, .ref 1, .int x2, .int x3, .int x4, .int (x5 + 1), .null] [] (S0, q2.2.1, q2.2.2)) q2.1
    else
      if x6 < 0 then
        (C d 58 [.int x6, .ref 1, .int x2, .int x3] S0 M N).bind fun q3 => j_oi none (fun r3 =>
        (C d 56 [.ref 16, .int r3] S0 q3.2.1 q3.2.2).bind fun q4 => j_ov none (
        R d kX4_workOut 11 [.ref 16, .ref 1, .int x2, .int x3, .int x4, .int (x5 + 1), .null] [] (S0, q4.2.1, q4.2.2)) q4.1) q3.1
      else
        (C d 56 [.ref 16, .int x6] S0 M N).bind fun q5 => j_ov none (
        R d kX4_workOut 11 [.ref 16, .ref 1, .int x2, .int x3, .int x4, .int (x5 + 1), .null] [] (S0, q5.2.1, q5.2.2)) q5.1) := (R_ev d kX4_workOut 400 88 _ _ _).trans rfl
theorem bX4_apply_0 (d : Nat) (x1 : Int32) (M : j_M) (N : j_N) : R d kX4_apply 0 [.ref 16, .int x1, .null, .null] [] (S0, M, N) =
  ((C d 57 [.ref 16] S0 M N).bind fun q1 => j_oi none (fun r1 =>
  if x1 = (-17) then
    (C d 56 [.ref 16, .int (-r1)] S0 q1.2.1 q1.2.2).bind fun q9 => j_ov none (
    some (none, (S0, q9.2.1, q9.2.2))) q9.1
  else
    if x1 = (-16) then
      if r1 = 0 then
        (C d 60 [.int 1] S0 q1.2.1 q1.2.2).bind fun q7 => j_oi none (fun r7 =>
        (C d 56 [.ref 16, .int r7] S0 q7.2.1 q7.2.2).bind fun q8 => j_ov none (
        some (none, (S0, q8.2.1, q8.2.2))) q8.1) q7.1
      else
        (C d 60 [.int 0] S0 q1.2.1 q1.2.2).bind fun q5 => j_oi none (fun r5 =>
        (C d 56 [.ref 16, .int r5] S0 q5.2.1 q5.2.2).bind fun q6 => j_ov none (
        some (none, (S0, q6.2.1, q6.2.2))) q6.1) q5.1
    else
      (C d 57 [.ref 16] S0 q1.2.1 q1.2.2).bind fun q2 => j_oi none (fun r2 =>
      (C d 59 [.int x1, .int r2, .int r1] S0 q2.2.1 q2.2.2).bind fun q3 => j_oi none (fun r3 =>
      (C d 56 [.ref 16, .int r3] S0 q3.2.1 q3.2.2).bind fun q4 => j_ov none (
      some (none, (S0, q4.2.1, q4.2.2))) q4.1) q3.1) q2.1) q1.1) := (R_ev d kX4_apply 400 0 _ _ _).trans rfl
theorem bX4_push_0 (d : Nat) (x1 : Int32) (M : j_M) (N : j_N) : R d kX4_push 0 [.ref 16, .int x1] [] (S0, M, N) =
  (if 122 ≤ (M 16 10) then
    some (none, (S0, M, N))
  else
    bif j_in (M 16 10) 122 then
    some (none, (S0, (j_w (j_w M 20 ((M 16 10)).toNatClampNeg x1) 16 10 ((M 16 10) + 1)), N)) else none) := (R_ev d kX4_push 400 0 _ _ _).trans rfl
theorem bX4_pop_0 (d : Nat)  (M : j_M) (N : j_N) : R d kX4_pop 0 [.ref 16] [] (S0, M, N) =
  (if 0 < (M 16 10) then
    bif j_in ((M 16 10) - 1) 122 then
    some (some (.int (M 20 (((M 16 10) - 1)).toNatClampNeg)), (S0, (j_w M 16 10 ((M 16 10) - 1)), N)) else none
  else
    some (some (.int 0), (S0, M, N))) := (R_ev d kX4_pop 400 0 _ _ _).trans rfl
theorem bX4_valueOf_0 (d : Nat) (x0 : Int32) (x2 : Int32) (x3 : Int32) (M : j_M) (N : j_N) : R d kX4_valueOf 0 [.int x0, .ref 1, .int x2, .int x3] [] (S0, M, N) =
  (if x0 = (-4) then
    some (some (.int (M 1 6)), (S0, M, N))
  else if x0 = (-3) then
    some (some (.int x2), (S0, M, N))
  else if x0 = (-2) then
    bif j_in x2 6 then
    some (some (.int (M 2 (x2).toNatClampNeg)), (S0, M, N)) else none
  else if x0 = (-1) then
    some (some (.int x3), (S0, M, N))
  else 
    some (some (.int (M 1 8)), (S0, M, N))) := (R_ev d kX4_valueOf 400 0 _ _ _).trans rfl
theorem bX4_joined_0 (d : Nat) (x0 : Int32) (x1 : Int32) (x2 : Int32) (M : j_M) (N : j_N) : R d kX4_joined 0 [.int x0, .int x1, .int x2] [] (S0, M, N) =
  (if x0 = (-14) then
    if x2 = 0 then
      some (some (.int 0), (S0, M, N))
    else
      if x2 = 0 then none else
      some (some (.int (x1 / x2)), (S0, M, N))
  else if x0 = (-13) then
    some (some (.int (x1 * x2)), (S0, M, N))
  else if x0 = (-12) then
    some (some (.int (x1 - x2)), (S0, M, N))
  else if x0 = (-11) then
    some (some (.int (x1 + x2)), (S0, M, N))
  else if x0 = (-10) then
    if x1 ≤ x2 then
      (C d 60 [.int 0] S0 M N).bind fun q1 => j_oi none (fun r1 =>
      some (some (.int r1), (S0, q1.2.1, q1.2.2))) q1.1
    else
      (C d 60 [.int 1] S0 M N).bind fun q2 => j_oi none (fun r2 =>
      some (some (.int r2), (S0, q2.2.1, q2.2.2))) q2.1
  else if x0 = (-9) then
    if x1 = x2 then
      (C d 60 [.int 1] S0 M N).bind fun q4 => j_oi none (fun r4 =>
      some (some (.int r4), (S0, q4.2.1, q4.2.2))) q4.1
    else
      (C d 60 [.int 0] S0 M N).bind fun q3 => j_oi none (fun r3 =>
      some (some (.int r3), (S0, q3.2.1, q3.2.2))) q3.1
  else if x0 = (-8) then
    if x2 ≤ x1 then
      (C d 60 [.int 0] S0 M N).bind fun q5 => j_oi none (fun r5 =>
      some (some (.int r5), (S0, q5.2.1, q5.2.2))) q5.1
    else
      (C d 60 [.int 1] S0 M N).bind fun q6 => j_oi none (fun r6 =>
      some (some (.int r6), (S0, q6.2.1, q6.2.2))) q6.1
  else if x0 = (-7) then
    if x1 = 0 then
      (C d 60 [.int 0] S0 M N).bind fun q7 => j_oi none (fun r7 =>
      some (some (.int r7), (S0, q7.2.1, q7.2.2))) q7.1
    else
      if x2 = 0 then
        (C d 60 [.int 0] S0 M N).bind fun q8 => j_oi none (fun r8 =>
        some (some (.int r8), (S0, q8.2.1, q8.2.2))) q8.1
      else
        (C d 60 [.int 1] S0 M N).bind fun q9 => j_oi none (fun r9 =>
        some (some (.int r9), (S0, q9.2.1, q9.2.2))) q9.1
  else if x0 = (-6) then
    if x1 = 0 then
      if x2 = 0 then
        (C d 60 [.int 0] S0 M N).bind fun q11 => j_oi none (fun r11 =>
        some (some (.int r11), (S0, q11.2.1, q11.2.2))) q11.1
      else
        (C d 60 [.int 1] S0 M N).bind fun q12 => j_oi none (fun r12 =>
        some (some (.int r12), (S0, q12.2.1, q12.2.2))) q12.1
    else
      (C d 60 [.int 1] S0 M N).bind fun q10 => j_oi none (fun r10 =>
      some (some (.int r10), (S0, q10.2.1, q10.2.2))) q10.1
  else 
    if x2 = 0 then
      some (some (.int 0), (S0, M, N))
    else
      if x2 = 0 then none else
      some (some (.int (x1 - x1 / x2 * x2)), (S0, M, N))) := (R_ev d kX4_joined 400 0 _ _ _).trans rfl
theorem bX4_truth_0 (d : Nat) (x0 : Int32) (M : j_M) (N : j_N) : R d kX4_truth 0 [.int x0] [] (S0, M, N) =
  (if x0 = 0 then
    some (some (.int 0), (S0, M, N))
  else
    some (some (.int 1), (S0, M, N))) := (R_ev d kX4_truth 400 0 _ _ _).trans rfl
theorem bX5_has_0 (d : Nat) (x1 : Int32) (M : j_M) (N : j_N) : R d kX5_has 0 [.ref 12, .int x1] [] (S0, M, N) =
  (if x1 < 0 then
    some (some (.int 0), (S0, M, N))
  else
    if (M 12 5) ≤ x1 then
      some (some (.int 0), (S0, M, N))
    else
      some (some (.int 1), (S0, M, N))) := (R_ev d kX5_has 400 0 _ _ _).trans rfl
theorem bX5_add_0 (d : Nat) (x1 : Int32) (M : j_M) (N : j_N) : R d kX5_add 0 [.ref 12, .int x1] [] (S0, M, N) =
  (if (M 12 5) < 3 then
    bif j_in (M 12 5) 3 then
    some (some (.int (((M 12 5) + 1) - 1)), (S0, (j_w (j_w M 13 ((M 12 5)).toNatClampNeg x1) 12 5 ((M 12 5) + 1)), N)) else none
  else
    some (some (.int (-3)), (S0, M, N))) := (R_ev d kX5_add 400 0 _ _ _).trans rfl
theorem bX5_enjoy_0 (d : Nat) (x1 : Int32) (x2 : Int32) (x3 : Int32) (M : j_M) (N : j_N) : R d kX5_enjoy 0 [.ref 12, .int x1, .int x2, .int x3, .null, .null] [] (S0, M, N) =
  (bif j_in ((x1 * 3) + x2) 18 then
  bif j_in ((x1 * 3) + x2) 18 then
  some (some (.int (M 14 (((x1 * 3) + x2)).toNatClampNeg)), (S0, (j_w M 14 (((x1 * 3) + x2)).toNatClampNeg x3), N)) else none else none) := (R_ev d kX5_enjoy 400 0 _ _ _).trans rfl
theorem bX5_orderAll_0 (d : Nat)  (M : j_M) (N : j_N) : R d kX5_orderAll 0 [.ref 12, .null, .null] [] (S0, M, N) =
  ((C d 22 [.ref 8, .ref 1] S0 M N).bind fun q1 => j_ov none (
  R d kX5_orderAll 15 [.ref 12, .int 0, .int 0] [] (S0, q1.2.1, q1.2.2)) q1.1) := (R_ev d kX5_orderAll 400 0 _ _ _).trans rfl
theorem bX5_orderAll_15 (d : Nat) (x1 : Int32) (x2 : Int32) (M : j_M) (N : j_N) : R d kX5_orderAll 15 [.ref 12, .int x1, .int x2] [] (S0, M, N) =
  (if (M 1 6) ≤ x2 then
    some (some (.int x1), (S0, M, N))
  else
    (C d 66 [.ref 12, .int x2, .int x1] S0 M N).bind fun q1 => j_oi none (fun r1 =>
    bif j_in x2 6 then
    (C d 67 [.ref 12, .int (q1.2.1 15 (x2).toNatClampNeg)] S0 q1.2.1 q1.2.2).bind fun q2 => j_oi none (fun r2 =>
    R d kX5_orderAll 15 [.ref 12, .int (x1 + r2), .int (x2 + 1)] [] (S0, q2.2.1, q2.2.2)) q2.1 else none) q1.1) := (R_ev d kX5_orderAll 400 15 _ _ _).trans rfl
theorem bX5_playOut_0 (d : Nat) (x1 : Int32) (x2 : Int32) (M : j_M) (N : j_N) : R d kX5_playOut 0 [.ref 12, .int x1, .int x2, .null, .null, .null, .null, .null, .null] [] (S0, M, N) =
  (if (M 1 6) ≤ x1 then
    some (some (.int x2), (S0, M, N))
  else
    if x1 < 6 then
      (C d 66 [.ref 12, .int (x1 + 1), .int x2] S0 M N).bind fun q1 => j_oi none (fun r1 =>
      (C d 68 [.ref 12, .int x1, .int (-1), .int r1] S0 q1.2.1 q1.2.2).bind fun q2 => j_oi none (fun r2 =>
      R d kX5_playOut 44 [.ref 12, .int x1, .int x2, .int (-1), .int r1, .int r2, .int 0, .null, .null] [] (S0, q2.2.1, q2.2.2)) q2.1) q1.1
    else
      some (some (.int x2), (S0, M, N))) := (R_ev d kX5_playOut 400 0 _ _ _).trans rfl
theorem bX5_playOut_44 (d : Nat) (x1 : Int32) (x2 : Int32) (x3 : Int32) (x4 : Int32) (x5 : Int32) (x6 : Int32) (M : j_M) (N : j_N) : R d kX5_playOut 44 [.ref 12, .int x1, .int x2, .int x3, .int x4, .int x5, .int x6, .null, .null] [] (S0, M, N) =
  (if (M 12 5) ≤ x6 then
    bif j_in x1 6 then
    some (some (.int x4), (S0, (j_w M 15 (x1).toNatClampNeg x3), N)) else none
  else
    bif j_in x6 3 then
    (C d 66 [.ref 12, .int (x1 + 1), .int (x2 + (M 13 (x6).toNatClampNeg))] S0 M N).bind fun q1 => j_oi none (fun r1 =>
    (C d 68 [.ref 12, .int x1, .int x6, .int r1] S0 q1.2.1 q1.2.2).bind fun q2 => j_oi none (fun r2 =>
    if r2 ≤ x5 then
      R d kX5_playOut 44 [.ref 12, .int x1, .int x2, .int x3, .int x4, .int x5, .int (x6 + 1), .null, .null] [] (S0, q2.2.1, q2.2.2)
    else
      R d kX5_playOut 44 [.ref 12, .int x1, .int x2, .int x6, .int r1, .int r2, .int (x6 + 1), .null, .null] [] (S0, q2.2.1, q2.2.2)) q2.1) q1.1 else none) := (R_ev d kX5_playOut 400 44 _ _ _).trans rfl
theorem bX5_priceOf_0 (d : Nat) (x1 : Int32) (M : j_M) (N : j_N) : R d kX5_priceOf 0 [.ref 12, .int x1] [] (S0, M, N) =
  ((C d 62 [.ref 12, .int x1] S0 M N).bind fun q1 => j_oi none (fun r1 =>
  if r1 = 0 then
    some (some (.int 0), (S0, q1.2.1, q1.2.2))
  else
    bif j_in x1 3 then
    some (some (.int (q1.2.1 13 (x1).toNatClampNeg)), (S0, q1.2.1, q1.2.2)) else none) q1.1) := (R_ev d kX5_priceOf 400 0 _ _ _).trans rfl
theorem bX5_worth_0 (d : Nat) (x1 : Int32) (x2 : Int32) (x3 : Int32) (M : j_M) (N : j_N) : R d kX5_worth 0 [.ref 12, .int x1, .int x2, .int x3, .null] [] (S0, M, N) =
  ((C d 25 [.ref 8, .int x3] S0 M N).bind fun q1 => j_ov none (
  (C d 62 [.ref 12, .int x2] S0 q1.2.1 q1.2.2).bind fun q2 => j_oi none (fun r2 =>
  if r2 = 0 then
    (C d 26 [.ref 8, .int x1] S0 q2.2.1 q2.2.2).bind fun q3 => j_oi none (fun r3 =>
    some (some (.int (0 - r3)), (S0, q3.2.1, q3.2.2))) q3.1
  else
    bif j_in ((x1 * 3) + x2) 18 then
    (C d 26 [.ref 8, .int x1] S0 q2.2.1 q2.2.2).bind fun q4 => j_oi none (fun r4 =>
    some (some (.int ((q2.2.1 14 (((x1 * 3) + x2)).toNatClampNeg) - r4)), (S0, q4.2.1, q4.2.2))) q4.1 else none) q2.1) q1.1) := (R_ev d kX5_worth 400 0 _ _ _).trans rfl
theorem bX6_costBy_0 (d : Nat) (x1 : Int32) (x2 : Int32) (M : j_M) (N : j_N) : R d kX6_costBy 0 [.ref 10, .int x1, .int x2] [] (S0, M, N) =
  (bif j_in x1 7 then
  (C d 24 [.ref 8] S0 (j_w M 9 (x1).toNatClampNeg x2) N).bind fun q1 => j_ov none (
  (C d 26 [.ref 8, .int x1] S0 q1.2.1 q1.2.2).bind fun q2 => j_oi none (fun r2 =>
  some (some (.int r2), (S0, q2.2.1, q2.2.2))) q2.1) q1.1 else none) := (R_ev d kX6_costBy 400 0 _ _ _).trans rfl
theorem bX6_search_0 (d : Nat) (x1 : Int32) (M : j_M) (N : j_N) : R d kX6_search 0 [.ref 10, .int x1, .null, .null, .null, .null, .null] [] (S0, M, N) =
  (bif j_in x1 7 then
  (C d 74 [.ref 10, .int x1] S0 (j_w (j_w M 10 3 0) 10 4 1000000) N).bind fun q1 => j_oi none (fun r1 =>
  R d kX6_search 30 [.ref 10, .int x1, .int (M 9 (x1).toNatClampNeg), .int r1, .int 0, .null, .null] [] (S0, q1.2.1, q1.2.2)) q1.1 else none) := (R_ev d kX6_search 400 0 _ _ _).trans rfl
theorem bX6_search_30 (d : Nat) (x1 : Int32) (x2 : Int32) (x3 : Int32) (x4 : Int32) (M : j_M) (N : j_N) : R d kX6_search 30 [.ref 10, .int x1, .int x2, .int x3, .int x4, .null, .null] [] (S0, M, N) =
  (if x3 ≤ x4 then
    bif j_in x1 7 then
    some (none, (S0, (j_w M 9 (x1).toNatClampNeg x2), N)) else none
  else
    (C d 70 [.ref 10, .int x1, .int (x4 * (M 1 9))] S0 M N).bind fun q1 => j_oi none (fun r1 =>
    if (q1.2.1 10 4) ≤ r1 then
      R d kX6_search 30 [.ref 10, .int x1, .int x2, .int x3, .int (x4 + 1), .null, .null] [] (S0, q1.2.1, q1.2.2)
    else
      R d kX6_search 30 [.ref 10, .int x1, .int x2, .int x3, .int (x4 + 1), .null, .null] [] (S0, (j_w (j_w q1.2.1 10 3 (x4 * (M 1 9))) 10 4 r1), q1.2.2)) q1.1) := (R_ev d kX6_search 400 30 _ _ _).trans rfl
theorem bX6_wouldChange_0 (d : Nat) (x1 : Int32) (M : j_M) (N : j_N) : R d kX6_wouldChange 0 [.ref 10, .int x1, .null, .null, .null, .null, .null] [] (S0, M, N) =
  (bif j_in x1 7 then
  (C d 70 [.ref 10, .int x1, .int (M 9 (x1).toNatClampNeg)] S0 M N).bind fun q1 => j_oi none (fun r1 =>
  (C d 74 [.ref 10, .int x1] S0 q1.2.1 q1.2.2).bind fun q2 => j_oi none (fun r2 =>
  R d kX6_wouldChange 30 [.ref 10, .int x1, .int (M 9 (x1).toNatClampNeg), .int r1, .int 0, .int r2, .int 0] [] (S0, q2.2.1, q2.2.2)) q2.1) q1.1 else none) := (R_ev d kX6_wouldChange 400 0 _ _ _).trans rfl
theorem bX6_wouldChange_30 (d : Nat) (x1 : Int32) (x2 : Int32) (x3 : Int32) (x4 : Int32) (x5 : Int32) (x6 : Int32) (M : j_M) (N : j_N) : R d kX6_wouldChange 30 [.ref 10, .int x1, .int x2, .int x3, .int x4, .int x5, .int x6] [] (S0, M, N) =
  (if x5 ≤ x6 then
    bif j_in x1 7 then
    bif decide (x4 = 0) || decide (x4 = 1) then some (some (.int x4), (S0, (j_w M 9 (x1).toNatClampNeg x2), N)) else none else none
  else
    if x4 = 0 then
      (C d 70 [.ref 10, .int x1, .int (x6 * (M 1 9))] S0 M N).bind fun q1 => j_oi none (fun r1 =>
      if x3 ≤ r1 then
        R d kX6_wouldChange 30 [.ref 10, .int x1, .int x2, .int x3, .int 0, .int x5, .int (x6 + 1)] [] (S0, q1.2.1, q1.2.2)
      else
        R d kX6_wouldChange 30 [.ref 10, .int x1, .int x2, .int x3, .int 1, .int x5, .int (x6 + 1)] [] (S0, q1.2.1, q1.2.2)) q1.1
    else
      bif j_in x1 7 then
      bif decide (x4 = 0) || decide (x4 = 1) then some (some (.int x4), (S0, (j_w M 9 (x1).toNatClampNeg x2), N)) else none else none) := (R_ev d kX6_wouldChange 400 30 _ _ _).trans rfl
theorem bX6_firstRestless_0 (d : Nat)  (M : j_M) (N : j_N) : R d kX6_firstRestless 0 [.ref 10, .null] [] (S0, M, N) =
  (R d kX6_firstRestless 2 [.ref 10, .int 0] [] (S0, M, N)) := (R_ev d kX6_firstRestless 400 0 _ _ _).trans rfl
theorem bX6_firstRestless_2 (d : Nat) (x1 : Int32) (M : j_M) (N : j_N) : R d kX6_firstRestless 2 [.ref 10, .int x1] [] (S0, M, N) =
  (if (M 8 1) ≤ x1 then
    some (some (.int (-2)), (S0, M, N))
  else
    (C d 72 [.ref 10, .int x1] S0 M N).bind fun q1 => j_oi none (fun r1 =>
    if r1 = 0 then
      R d kX6_firstRestless 2 [.ref 10, .int (x1 + 1)] [] (S0, q1.2.1, q1.2.2)
    else
      some (some (.int x1), (S0, q1.2.1, q1.2.2))) q1.1) := (R_ev d kX6_firstRestless 400 2 _ _ _).trans rfl
theorem bX6_sumsOf_0 (d : Nat) (x1 : Int32) (M : j_M) (N : j_N) : R d kX6_sumsOf 0 [.ref 10, .int x1] [] (S0, M, N) =
  (if (M 1 9) ≤ 0 then
    some (some (.int 1), (S0, M, N))
  else
    bif j_in x1 6 then
    if (M 1 9) = 0 then none else
    some (some (.int (((M 2 (x1).toNatClampNeg) / (M 1 9)) + 1)), (S0, M, N)) else none) := (R_ev d kX6_sumsOf 400 0 _ _ _).trans rfl
theorem bX6_ways_0 (d : Nat)  (M : j_M) (N : j_N) : R d kX6_ways 0 [.ref 10, .null, .null, .null] [] (S0, M, N) =
  (R d kX6_ways 4 [.ref 10, .long 1, .null, .int 0] [] (S0, M, N)) := (R_ev d kX6_ways 400 0 _ _ _).trans rfl
theorem bX6_ways_4 (d : Nat) (y1 : Int64) (x3 : Int32) (M : j_M) (N : j_N) : R d kX6_ways 4 [.ref 10, .long y1, .null, .int x3] [] (S0, M, N) =
  (if (M 1 6) ≤ x3 then
    some (some (.long y1), (S0, M, N))
  else
    (C d 74 [.ref 10, .int x3] S0 M N).bind fun q1 => j_oi none (fun r1 =>
    R d kX6_ways 4 [.ref 10, .long (y1 * r1.toInt64), .null, .int (x3 + 1)] [] (S0, q1.2.1, q1.2.2)) q1.1) := (R_ev d kX6_ways 400 4 _ _ _).trans rfl
theorem bX6_fewWays_0 (d : Nat)  (M : j_M) (N : j_N) : R d kX6_fewWays 0 [.ref 10] [] (S0, M, N) =
  ((C d 75 [.ref 10] S0 M N).bind fun q1 => j_ol none (fun r1 =>
  if 0 < (lg_cmp r1 4096) then
    some (some (.int 0), (S0, q1.2.1, q1.2.2))
  else
    some (some (.int 1), (S0, q1.2.1, q1.2.2))) q1.1) := (R_ev d kX6_fewWays 400 0 _ _ _).trans rfl
theorem bX6_goThroughWays_0 (d : Nat)  (M : j_M) (N : j_N) : R d kX6_goThroughWays 0 [.ref 10, .null, .null, .null] [] (S0, M, N) =
  ((C d 22 [.ref 8, .ref 1] S0 M N).bind fun q1 => j_ov none (
  (C d 75 [.ref 10] S0 q1.2.1 q1.2.2).bind fun q2 => j_ol none (fun r2 =>
  R d kX6_goThroughWays 27 [.ref 10, .int 0, .int (if (4096 : Int64) < r2 then (4096 : Int64) else r2).toInt32, .int 0] [] (S0, q2.2.1, q2.2.2)) q2.1) q1.1) := (R_ev d kX6_goThroughWays 400 0 _ _ _).trans rfl
theorem bX6_goThroughWays_27 (d : Nat) (x1 : Int32) (x2 : Int32) (x3 : Int32) (M : j_M) (N : j_N) : R d kX6_goThroughWays 27 [.ref 10, .int x1, .int x2, .int x3] [] (S0, M, N) =
  (if x2 ≤ x3 then
    some (some (.int x1), (S0, M, N))
  else
    (C d 78 [.ref 10, .int x3] S0 M N).bind fun q1 => j_ov none (
    (C d 73 [.ref 10] S0 q1.2.1 q1.2.2).bind fun q2 => j_oi none (fun r2 =>
    if r2 = (-2) then
      if x1 = 0 then
        bif (!(decide (0 < (0:Int32))) && !(decide (0 < (0:Int32))) && !(decide ((q2.2.1 1 6) < (0:Int32))) && Nat.ble (0 + ((q2.2.1 1 6)).toNatClampNeg) 7 && Nat.ble (0 + ((q2.2.1 1 6)).toNatClampNeg) 6) && Nat.ble 0 8 then
        R d kX6_goThroughWays 27 [.ref 10, .int (x1 + 1), .int x2, .int (x3 + 1)] [] (S0, (j_row q2.2.1 11 (va_cpy (q2.2.1 9) (q2.2.1 11) 0 0 ((q2.2.1 1 6)).toNatClampNeg)), q2.2.2) else none
      else
        R d kX6_goThroughWays 27 [.ref 10, .int (x1 + 1), .int x2, .int (x3 + 1)] [] (S0, q2.2.1, q2.2.2)
    else
      R d kX6_goThroughWays 27 [.ref 10, .int x1, .int x2, .int (x3 + 1)] [] (S0, q2.2.1, q2.2.2)) q2.1) q1.1) := (R_ev d kX6_goThroughWays 400 27 _ _ _).trans rfl
theorem bX6_layWay_0 (d : Nat) (x1 : Int32) (M : j_M) (N : j_N) : R d kX6_layWay 0 [.ref 10, .int x1, .null, .null, .null] [] (S0, M, N) =
  (R d kX6_layWay 12 [.ref 10, .null, .int x1, .int ((M 1 6) - 1), .null] [] (S0, M, N)) := (R_ev d kX6_layWay 400 0 _ _ _).trans rfl
theorem bX6_layWay_12 (d : Nat) (x2 : Int32) (x3 : Int32) (M : j_M) (N : j_N) : R d kX6_layWay 12 [.ref 10, .null, .int x2, .int x3, .null] [] (S0, M, N) =
  (if x3 < 0 then
    some (none, (S0, M, N))
  else
    (C d 74 [.ref 10, .int x3] S0 M N).bind fun q1 => j_oi none (fun r1 =>
    if r1 ≤ 0 then
      R d kX6_layWay 12 [.ref 10, .null, .int x2, .int (x3 + (-1)), .null] [] (S0, q1.2.1, q1.2.2)
    else
      if r1 = 0 then none else
      bif j_in x3 7 then
      if r1 = 0 then none else
      R d kX6_layWay 12 [.ref 10, .null, .int (x2 / r1), .int (x3 + (-1)), .null] [] (S0, (j_w q1.2.1 9 (x3).toNatClampNeg ((x2 - x2 / r1 * r1) * (q1.2.1 1 9))), q1.2.2) else none) q1.1) := (R_ev d kX6_layWay 400 12 _ _ _).trans rfl
theorem bX6_takeTurns_0 (d : Nat)  (M : j_M) (N : j_N) : R d kX6_takeTurns 0 [.ref 10, .null, .null, .null, .null, .null] [] (S0, M, N) =
  ((C d 22 [.ref 8, .ref 1] S0 M N).bind fun q1 => j_ov none (
  R d kX6_takeTurns 20 [.ref 10, .int 0, .int 0, .int 0, .int 0, .null] [] (S0, q1.2.1, q1.2.2)) q1.1) := (R_ev d kX6_takeTurns 400 0 _ _ _).trans rfl
theorem bX6_takeTurns_20 (d : Nat) (x1 : Int32) (x2 : Int32) (x3 : Int32) (x4 : Int32) (M : j_M) (N : j_N) : R d kX6_takeTurns 20 [.ref 10, .int x1, .int x2, .int x3, .int x4, .null] [] (S0, M, N) =
  (if 1000 ≤ x4 then
    some (some (.int x1), (S0, M, N))
  else
    if (M 1 6) ≤ x2 then
      some (some (.int x1), (S0, M, N))
    else
      bif j_in x3 7 then
      (C d 70 [.ref 10, .int x3, .int (M 9 (x3).toNatClampNeg)] S0 M N).bind fun q1 => j_oi none (fun r1 =>
      (C d 71 [.ref 10, .int x3] S0 q1.2.1 q1.2.2).bind fun q2 => j_ov none (
      if (q2.2.1 10 4) < r1 then
        if x1 = 60 then
          some (some (.int (-2)), (S0, q2.2.1, q2.2.2))
        else
          bif j_in x3 7 then
          if (q2.2.1 1 6) ≤ (x3 + 1) then
            R d kX6_takeTurns 20 [.ref 10, .int (x1 + 1), .int 0, .int 0, .int (x4 + 1), .null] [] (S0, (j_w q2.2.1 9 (x3).toNatClampNeg (q2.2.1 10 3)), q2.2.2)
          else
            R d kX6_takeTurns 20 [.ref 10, .int (x1 + 1), .int 0, .int (x3 + 1), .int (x4 + 1), .null] [] (S0, (j_w q2.2.1 9 (x3).toNatClampNeg (q2.2.1 10 3)), q2.2.2) else none
      else
        if (q2.2.1 1 6) ≤ (x3 + 1) then
          R d kX6_takeTurns 20 [.ref 10, .int x1, .int (x2 + 1), .int 0, .int (x4 + 1), .null] [] (S0, q2.2.1, q2.2.2)
        else
          R d kX6_takeTurns 20 [.ref 10, .int x1, .int (x2 + 1), .int (x3 + 1), .int (x4 + 1), .null] [] (S0, q2.2.1, q2.2.2)) q2.1) q1.1 else none) := (R_ev d kX6_takeTurns 400 20 _ _ _).trans rfl
theorem bX6_settle_0 (d : Nat) (x1 : Int32) (x2 : Int32) (M : j_M) (N : j_N) : R d kX6_settle 0 [.ref 10, .int x1, .int x2, .null, .null, .null, .null, .null] [] (S0, M, N) =
  ((C d 22 [.ref 8, .ref 1] S0 M N).bind fun q1 => j_ov none (
  (C d 74 [.ref 10, .int x1] S0 (j_w q1.2.1 10 4 1000000) q1.2.2).bind fun q2 => j_oi none (fun r2 =>
  (C d 74 [.ref 10, .int x2] S0 q2.2.1 q2.2.2).bind fun q3 => j_oi none (fun r3 =>
  R d kX6_settle 33 [.ref 10, .int x1, .int x2, .int r2, .int r3, .int 0, .null, .null] [] (S0, q3.2.1, q3.2.2)) q3.1) q2.1) q1.1) := (R_ev d kX6_settle 400 0 _ _ _).trans rfl
theorem bX6_settle_33 (d : Nat) (x1 : Int32) (x2 : Int32) (x3 : Int32) (x4 : Int32) (x5 : Int32) (M : j_M) (N : j_N) : R d kX6_settle 33 [.ref 10, .int x1, .int x2, .int x3, .int x4, .int x5, .null, .null] [] (S0, M, N) =
  (if x3 ≤ x5 then
    bif j_in x1 7 then
    bif j_in x2 7 then
    (C d 24 [.ref 8] S0 (j_w (j_w M 9 (x1).toNatClampNeg (M 10 3)) 9 (x2).toNatClampNeg (M 10 5)) N).bind fun q1 => j_ov none (
    some (none, (S0, q1.2.1, q1.2.2))) q1.1 else none else none
  else
    bif j_in x1 7 then
    R d kX6_settle 61 [.ref 10, .int x1, .int x2, .int x3, .int x4, .int x5, .int 0, .null] [] (S0, (j_w M 9 (x1).toNatClampNeg (x5 * (M 1 9))), N) else none) := (R_ev d kX6_settle 400 33 _ _ _).trans rfl
theorem bX6_settle_61 (d : Nat) (x1 : Int32) (x2 : Int32) (x3 : Int32) (x4 : Int32) (x5 : Int32) (x6 : Int32) (M : j_M) (N : j_N) : R d kX6_settle 61 [.ref 10, .int x1, .int x2, .int x3, .int x4, .int x5, .int x6, .null] [] (S0, M, N) =
  (if x4 ≤ x6 then
    R d kX6_settle 33 [.ref 10, .int x1, .int x2, .int x3, .int x4, .int (x5 + 1), .null, .null] [] (S0, M, N)
  else
    (C d 70 [.ref 10, .int x2, .int (x6 * (M 1 9))] S0 M N).bind fun q1 => j_oi none (fun r1 =>
    (C d 26 [.ref 8, .int x1] S0 q1.2.1 q1.2.2).bind fun q2 => j_oi none (fun r2 =>
    if (q2.2.1 10 4) ≤ (r1 + r2) then
      R d kX6_settle 61 [.ref 10, .int x1, .int x2, .int x3, .int x4, .int x5, .int (x6 + 1), .null] [] (S0, q2.2.1, q2.2.2)
    else
      R d kX6_settle 61 [.ref 10, .int x1, .int x2, .int x3, .int x4, .int x5, .int (x6 + 1), .null] [] (S0, (j_w (j_w (j_w q2.2.1 10 4 (r1 + r2)) 10 3 (x5 * (q2.2.1 1 9))) 10 5 (x6 * (q2.2.1 1 9))), q2.2.2)) q2.1) q1.1) := (R_ev d kX6_settle 400 61 _ _ _).trans rfl
theorem bX6_victimOf_0 (d : Nat) (x1 : Int32) (x2 : Int32) (M : j_M) (N : j_N) : R d kX6_victimOf 0 [.ref 10, .int x1, .int x2, .null] [] (S0, M, N) =
  (R d kX6_victimOf 2 [.ref 10, .int x1, .int x2, .int 0] [] (S0, M, N)) := (R_ev d kX6_victimOf 400 0 _ _ _).trans rfl
theorem bX6_victimOf_2 (d : Nat) (x1 : Int32) (x2 : Int32) (x3 : Int32) (M : j_M) (N : j_N) : R d kX6_victimOf 2 [.ref 10, .int x1, .int x2, .int x3] [] (S0, M, N) =
  (if (M 8 1) ≤ x3 then
    some (some (.int (-2)), (S0, M, N))
  else
    if x3 = x1 then
      R d kX6_victimOf 2 [.ref 10, .int x1, .int x2, .int (x3 + 1)] [] (S0, M, N)
    else
      if x3 = x2 then
        R d kX6_victimOf 2 [.ref 10, .int x1, .int x2, .int (x3 + 1)] [] (S0, M, N)
      else
        (C d 27 [.ref 8, .int x3] S0 M N).bind fun q1 => j_oi none (fun r1 =>
        if r1 ≤ 0 then
          R d kX6_victimOf 2 [.ref 10, .int x1, .int x2, .int (x3 + 1)] [] (S0, q1.2.1, q1.2.2)
        else
          some (some (.int x3), (S0, q1.2.1, q1.2.2))) q1.1) := (R_ev d kX6_victimOf 400 2 _ _ _).trans rfl
theorem bX6_allWeights_0 (d : Nat)  (M : j_M) (N : j_N) : R d kX6_allWeights 0 [.ref 10, .null, .null, .null] [] (S0, M, N) =
  (R d kX6_allWeights 4 [.ref 10, .long 1, .null, .int 1] [] (S0, M, N)) := (R_ev d kX6_allWeights 400 0 _ _ _).trans rfl
theorem bX6_allWeights_4 (d : Nat) (y1 : Int64) (x3 : Int32) (M : j_M) (N : j_N) : R d kX6_allWeights 4 [.ref 10, .long y1, .null, .int x3] [] (S0, M, N) =
  (if (M 1 6) ≤ x3 then
    some (some (.long y1), (S0, M, N))
  else
    R d kX6_allWeights 4 [.ref 10, .long (y1 * 12), .null, .int (x3 + 1)] [] (S0, M, N)) := (R_ev d kX6_allWeights 400 4 _ _ _).trans rfl
theorem bX6_weighedCost_0 (d : Nat) (x1 : Int32) (x2 : Int32) (M : j_M) (N : j_N) : R d kX6_weighedCost 0 [.ref 10, .int x1, .int x2, .null, .null, .null, .null, .null] [] (S0, M, N) =
  ((C d 22 [.ref 8, .ref 1] S0 M N).bind fun q1 => j_ov none (
  R d kX6_weighedCost 16 [.ref 10, .int x1, .int x2, .long 0, .null, .int 0, .null, .null] [] (S0, q1.2.1, q1.2.2)) q1.1) := (R_ev d kX6_weighedCost 400 0 _ _ _).trans rfl
theorem bX6_weighedCost_16 (d : Nat) (x1 : Int32) (x2 : Int32) (y3 : Int64) (x5 : Int32) (M : j_M) (N : j_N) : R d kX6_weighedCost 16 [.ref 10, .int x1, .int x2, .long y3, .null, .int x5, .null, .null] [] (S0, M, N) =
  (if ((1 : Int32) <<< ((M 1 6) &&& 31)) ≤ x5 then
    some (some (.long y3), (S0, M, N))
  else
    if ((x5 >>> (x1 &&& 31)) &&& 1) = 0 then
      (C d 84 [.ref 10, .int x5, .int x1] S0 M N).bind fun q1 => j_ol none (fun r1 =>
      if (lg_cmp r1 0) = 0 then
        R d kX6_weighedCost 16 [.ref 10, .int x1, .int x2, .long (y3 + 0), .null, .int (x5 + 1), .null, .null] [] (S0, q1.2.1, q1.2.2)
      else
        (C d 70 [.ref 10, .int x1, .int x2] S0 q1.2.1 q1.2.2).bind fun q2 => j_oi none (fun r2 =>
        R d kX6_weighedCost 16 [.ref 10, .int x1, .int x2, .long (y3 + (r1 * r2.toInt64)), .null, .int (x5 + 1), .null, .null] [] (S0, q2.2.1, q2.2.2)) q2.1) q1.1
    else
      R d kX6_weighedCost 16 [.ref 10, .int x1, .int x2, .long y3, .null, .int (x5 + 1), .null, .null] [] (S0, M, N)) := (R_ev d kX6_weighedCost 400 16 _ _ _).trans rfl
theorem bX6_layByChance_0 (d : Nat) (x1 : Int32) (x2 : Int32) (M : j_M) (N : j_N) : R d kX6_layByChance 0 [.ref 10, .int x1, .int x2, .null, .null, .null, .null] [] (S0, M, N) =
  (R d kX6_layByChance 5 [.ref 10, .int x1, .int x2, .long 1, .null, .int 0, .null] [] (S0, M, N)) := (R_ev d kX6_layByChance 400 0 _ _ _).trans rfl
theorem bX6_layByChance_5 (d : Nat) (x1 : Int32) (x2 : Int32) (y3 : Int64) (x5 : Int32) (M : j_M) (N : j_N) : R d kX6_layByChance 5 [.ref 10, .int x1, .int x2, .long y3, .null, .int x5, .null] [] (S0, M, N) =
  (if (M 1 6) ≤ x5 then
    some (some (.long y3), (S0, M, N))
  else
    if (lg_cmp y3 0) = 0 then
      some (some (.long y3), (S0, M, N))
    else
      if x5 = x2 then
        R d kX6_layByChance 5 [.ref 10, .int x1, .int x2, .long y3, .null, .int (x5 + 1), .null] [] (S0, M, N)
      else
        if ((x1 >>> (x5 &&& 31)) &&& 1) = 1 then
          bif j_in x5 6 then
          R d kX6_layByChance 83 [.ref 10, .int x1, .int x2, .long y3, .null, .int x5, .int 1] [.int (M 5 (x5).toNatClampNeg), .int x5, .ref 9] (S0, M, N) else none
        else
          bif j_in x5 6 then
          R d kX6_layByChance 83 [.ref 10, .int x1, .int x2, .long y3, .null, .int x5, .int 0] [.int (M 3 (x5).toNatClampNeg), .int x5, .ref 9] (S0, M, N) else none) := (R_ev d kX6_layByChance 400 5 _ _ _).trans rfl
theorem bX6_layByChance_83 (d : Nat) (x1 : Int32) (x2 : Int32) (y3 : Int64) (x5 : Int32) (x6 : Int32) (s1 : Int32) (s2 : Int32) (M : j_M) (N : j_N) : R d kX6_layByChance 83 [.ref 10, .int x1, .int x2, .long y3, .null, .int x5, .int x6] [.int s2, .int s1, .ref 9] (S0, M, N) =
  (bif j_in s1 7 then
  if x6 = 0 then
    bif j_in x5 6 then
    R d kX6_layByChance 5 [.ref 10, .int x1, .int x2, .long (y3 * (12 - (M 4 (x5).toNatClampNeg)).toInt64), .null, .int (x5 + 1), .null] [] (S0, (j_w M 9 (s1).toNatClampNeg s2), N) else none
  else
    bif j_in x5 6 then
    R d kX6_layByChance 5 [.ref 10, .int x1, .int x2, .long (y3 * (M 4 (x5).toNatClampNeg).toInt64), .null, .int (x5 + 1), .null] [] (S0, (j_w M 9 (s1).toNatClampNeg s2), N) else none else none) := (R_ev d kX6_layByChance 400 83 _ _ _).trans rfl
theorem bX6_sumOfLeastMean_0 (d : Nat) (x1 : Int32) (M : j_M) (N : j_N) : R d kX6_sumOfLeastMean 0 [.ref 10, .int x1, .null, .null, .null, .null, .null, .null, .null] [] (S0, M, N) =
  ((C d 83 [.ref 10, .int x1, .int 0] S0 M N).bind fun q1 => j_ol none (fun r1 =>
  (C d 74 [.ref 10, .int x1] S0 q1.2.1 q1.2.2).bind fun q2 => j_oi none (fun r2 =>
  R d kX6_sumOfLeastMean 19 [.ref 10, .int x1, .int 0, .long r1, .null, .int r2, .int 1, .null, .null] [] (S0, q2.2.1, q2.2.2)) q2.1) q1.1) := (R_ev d kX6_sumOfLeastMean 400 0 _ _ _).trans rfl
theorem bX6_sumOfLeastMean_19 (d : Nat) (x1 : Int32) (x2 : Int32) (y3 : Int64) (x5 : Int32) (x6 : Int32) (M : j_M) (N : j_N) : R d kX6_sumOfLeastMean 19 [.ref 10, .int x1, .int x2, .long y3, .null, .int x5, .int x6, .null, .null] [] (S0, M, N) =
  (if x5 ≤ x6 then
    some (some (.int x2), (S0, M, N))
  else
    (C d 83 [.ref 10, .int x1, .int (x6 * (M 1 9))] S0 M N).bind fun q1 => j_ol none (fun r1 =>
    if 0 ≤ (lg_cmp r1 y3) then
      R d kX6_sumOfLeastMean 19 [.ref 10, .int x1, .int x2, .long y3, .null, .int x5, .int (x6 + 1), .null, .null] [] (S0, q1.2.1, q1.2.2)
    else
      R d kX6_sumOfLeastMean 19 [.ref 10, .int x1, .int (x6 * (q1.2.1 1 9)), .long r1, .null, .int x5, .int (x6 + 1), .null, .null] [] (S0, q1.2.1, q1.2.2)) q1.1) := (R_ev d kX6_sumOfLeastMean 400 19 _ _ _).trans rfl
theorem bX7_pass_0 (d : Nat)  (M : j_M) (N : j_N) : R d kX7_pass 0 [.ref 21, .null, .null, .null] [] (S0, M, N) =
  ((C d 22 [.ref 8, .ref 1] S0 M N).bind fun q1 => j_ov none (
  R d kX7_pass 15 [.ref 21, .int 0, .int 0, .null] [] (S0, q1.2.1, q1.2.2)) q1.1) := (R_ev d kX7_pass 400 0 _ _ _).trans rfl
theorem bX7_pass_15 (d : Nat) (x1 : Int32) (x2 : Int32) (M : j_M) (N : j_N) : R d kX7_pass 15 [.ref 21, .int x1, .int x2, .null] [] (S0, M, N) =
  (if (M 1 6) ≤ x2 then
    (C d 31 [.ref 8] S0 M N).bind fun q1 => j_oi none (fun r1 =>
    some (some (.int x1), (S0, (j_w (j_w q1.2.1 1 10 ((M 1 10) + r1)) 1 11 ((q1.2.1 1 11) + 1)), q1.2.2))) q1.1
  else
    (C d 26 [.ref 8, .int x2] S0 M N).bind fun q2 => j_oi none (fun r2 =>
    bif j_in x2 6 then
    bif j_in x2 6 then
    R d kX7_pass 15 [.ref 21, .int (x1 + r2), .int (x2 + 1), .null] [] (S0, (j_w q2.2.1 7 (x2).toNatClampNeg ((q2.2.1 7 (x2).toNatClampNeg) + r2)), q2.2.2) else none else none) q2.1) := (R_ev d kX7_pass 400 15 _ _ _).trans rfl
theorem bX7_draw_0 (d : Nat) (x1 : Int32) (x2 : Int32) (x3 : Int32) (M : j_M) (N : j_N) : R d kX7_draw 0 [.ref 21, .int x1, .int x2, .int x3, .null, .null, .null, .null] [] (S0, M, N) =
  ((C d 22 [.ref 8, .ref 1] S0 M N).bind fun q1 => j_ov none (
  R d kX7_draw 27 [.ref 21, .null, .int x2, .int x3, .int x1, .int 0, .null, .null] [] (S0, (j_w (j_w q1.2.1 21 2 0) 21 3 0), q1.2.2)) q1.1) := (R_ev d kX7_draw 400 0 _ _ _).trans rfl
theorem bX7_draw_27 (d : Nat) (x2 : Int32) (x3 : Int32) (x4 : Int32) (x5 : Int32) (M : j_M) (N : j_N) : R d kX7_draw 27 [.ref 21, .null, .int x2, .int x3, .int x4, .int x5, .null, .null] [] (S0, M, N) =
  (if x2 ≤ x5 then
    some (none, (S0, M, N))
  else
    R d kX7_draw 36 [.ref 21, .null, .int x2, .int x3, .int x4, .int x5, .int 0, .null] [] (S0, M, N)) := (R_ev d kX7_draw 400 27 _ _ _).trans rfl
theorem bX7_draw_36 (d : Nat) (x2 : Int32) (x3 : Int32) (x4 : Int32) (x5 : Int32) (x6 : Int32) (M : j_M) (N : j_N) : R d kX7_draw 36 [.ref 21, .null, .int x2, .int x3, .int x4, .int x5, .int x6, .null] [] (S0, M, N) =
  (if (M 1 6) ≤ x6 then
    (C d 24 [.ref 8] S0 M N).bind fun q1 => j_ov none (
    (C d 27 [.ref 8, .int x3] S0 q1.2.1 q1.2.2).bind fun q2 => j_oi none (fun r2 =>
    if r2 ≤ 0 then
      (C d 26 [.ref 8, .int x3] S0 (j_w q2.2.1 21 2 ((q1.2.1 21 2) + 0)) q2.2.2).bind fun q3 => j_oi none (fun r3 =>
      R d kX7_draw 27 [.ref 21, .null, .int x2, .int x3, .int x4, .int (x5 + 1), .null, .null] [] (S0, (j_w q3.2.1 21 3 ((q2.2.1 21 3) + r3)), q3.2.2)) q3.1
    else
      (C d 26 [.ref 8, .int x3] S0 (j_w q2.2.1 21 2 ((q1.2.1 21 2) + 1)) q2.2.2).bind fun q4 => j_oi none (fun r4 =>
      R d kX7_draw 27 [.ref 21, .null, .int x2, .int x3, .int x4, .int (x5 + 1), .null, .null] [] (S0, (j_w q4.2.1 21 3 ((q2.2.1 21 3) + r4)), q4.2.2)) q4.1) q2.1) q1.1
  else
    bif j_in x6 6 then
    if (M 4 (x6).toNatClampNeg) ≤ (((((x4 * 1103515245) + 12345)).toUInt32 >>> ((8 : Int32).toUInt32 &&& Int32.toUInt32 31)).toInt32 - ((((x4 * 1103515245) + 12345)).toUInt32 >>> ((8 : Int32).toUInt32 &&& Int32.toUInt32 31)).toInt32 / 12 * 12) then
      bif j_in x6 6 then
      bif j_in x6 7 then
      R d kX7_draw 36 [.ref 21, .null, .int x2, .int x3, .int ((x4 * 1103515245) + 12345), .int x5, .int (x6 + 1), .null] [] (S0, (j_w M 9 (x6).toNatClampNeg (M 3 (x6).toNatClampNeg)), N) else none else none
    else
      bif j_in x6 6 then
      bif j_in x6 7 then
      R d kX7_draw 36 [.ref 21, .null, .int x2, .int x3, .int ((x4 * 1103515245) + 12345), .int x5, .int (x6 + 1), .null] [] (S0, (j_w M 9 (x6).toNatClampNeg (M 5 (x6).toNatClampNeg)), N) else none else none else none) := (R_ev d kX7_draw 400 36 _ _ _).trans rfl
theorem bX7_firstWrong_0 (d : Nat) (a1 : Nat) (x2 : Int32) (M : j_M) (N : j_N) : R d kX7_firstWrong 0 [.ref 21, .ref a1, .int x2, .null] [] (S0, M, N) =
  ((C d 22 [.ref 8, .ref 1] S0 M N).bind fun q1 => j_ov none (
  R d kX7_firstWrong 21 [.ref 21, .ref a1, .null, .int 0] [] (S0, (j_w q1.2.1 8 2 x2), q1.2.2)) q1.1) := (R_ev d kX7_firstWrong 400 0 _ _ _).trans rfl
theorem bX7_firstWrong_21 (d : Nat) (a1 : Nat) (x3 : Int32) (M : j_M) (N : j_N) : R d kX7_firstWrong 21 [.ref 21, .ref a1, .null, .int x3] [] (S0, M, N) =
  (if (M 1 6) ≤ x3 then
    some (some (.int (-2)), (S0, M, N))
  else
    bif Nat.beq (j_at S0 a1).1 12 then
    if (M a1 2) ≤ x3 then
      some (some (.int (-2)), (S0, M, N))
    else
      bif Nat.beq (j_at S0 a1).1 12 && Nat.ble 0 8 then (C d 104 [.ref a1, .int x3] S0 M N).bind fun q1 => j_ol none (fun r1 =>
      (C d 26 [.ref 8, .int x3] S0 q1.2.1 q1.2.2).bind fun q2 => j_oi none (fun r2 =>
      if (lg_cmp r1 r2.toInt64) = 0 then
        R d kX7_firstWrong 21 [.ref 21, .ref a1, .null, .int (x3 + 1)] [] (S0, q2.2.1, q2.2.2)
      else
        some (some (.int x3), (S0, q2.2.1, q2.2.2))) q2.1) q1.1 else none else none) := (R_ev d kX7_firstWrong 400 21 _ _ _).trans rfl
theorem bX7_rulesThatFit_0 (d : Nat) (a1 : Nat) (M : j_M) (N : j_N) : R d kX7_rulesThatFit 0 [.ref 21, .ref a1, .null, .null] [] (S0, M, N) =
  (R d kX7_rulesThatFit 4 [.ref 21, .ref a1, .int 0, .int 0] [] (S0, M, N)) := (R_ev d kX7_rulesThatFit 400 0 _ _ _).trans rfl
theorem bX7_rulesThatFit_4 (d : Nat) (a1 : Nat) (x2 : Int32) (x3 : Int32) (M : j_M) (N : j_N) : R d kX7_rulesThatFit 4 [.ref 21, .ref a1, .int x2, .int x3] [] (S0, M, N) =
  (if 5 ≤ x3 then
    some (some (.int x2), (S0, M, N))
  else
    (C d 89 [.ref 21, .ref a1, .int x3] S0 M N).bind fun q1 => j_oi none (fun r1 =>
    if r1 = (-2) then
      R d kX7_rulesThatFit 4 [.ref 21, .ref a1, .int (x2 ||| ((1 : Int32) <<< (x3 &&& 31))), .int (x3 + 1)] [] (S0, q1.2.1, q1.2.2)
    else
      R d kX7_rulesThatFit 4 [.ref 21, .ref a1, .int (x2 ||| 0), .int (x3 + 1)] [] (S0, q1.2.1, q1.2.2)) q1.1) := (R_ev d kX7_rulesThatFit 400 4 _ _ _).trans rfl
theorem bX7_weighRules_0 (d : Nat)  (M : j_M) (N : j_N) : R d kX7_weighRules 0 [.ref 21, .null, .null] [] (S0, M, N) =
  ((C d 22 [.ref 8, .ref 1] S0 M N).bind fun q1 => j_ov none (
  R d kX7_weighRules 13 [.ref 21, .int 0, .null] [] (S0, q1.2.1, q1.2.2)) q1.1) := (R_ev d kX7_weighRules 400 0 _ _ _).trans rfl
theorem bX7_weighRules_13 (d : Nat) (x1 : Int32) (M : j_M) (N : j_N) : R d kX7_weighRules 13 [.ref 21, .int x1, .null] [] (S0, M, N) =
  (if 5 ≤ x1 then
    some (none, (S0, M, N))
  else
    (C d 92 [.ref 21] S0 (j_w M 8 2 x1) N).bind fun q1 => j_oi none (fun r1 =>
    if x1 = 0 then
      R d kX7_weighRules 13 [.ref 21, .int (x1 + 1), .null] [] (S0, (j_w (j_w q1.2.1 21 4 x1) 21 5 r1), q1.2.2)
    else
      if (q1.2.1 21 5) ≤ r1 then
        R d kX7_weighRules 13 [.ref 21, .int (x1 + 1), .null] [] (S0, q1.2.1, q1.2.2)
      else
        R d kX7_weighRules 13 [.ref 21, .int (x1 + 1), .null] [] (S0, (j_w (j_w q1.2.1 21 4 x1) 21 5 r1), q1.2.2)) q1.1) := (R_ev d kX7_weighRules 400 13 _ _ _).trans rfl
theorem bX7_greatestCost_0 (d : Nat)  (M : j_M) (N : j_N) : R d kX7_greatestCost 0 [.ref 21, .null, .null] [] (S0, M, N) =
  (R d kX7_greatestCost 4 [.ref 21, .int 0, .int 0] [] (S0, M, N)) := (R_ev d kX7_greatestCost 400 0 _ _ _).trans rfl
theorem bX7_greatestCost_4 (d : Nat) (x1 : Int32) (x2 : Int32) (M : j_M) (N : j_N) : R d kX7_greatestCost 4 [.ref 21, .int x1, .int x2] [] (S0, M, N) =
  (if (M 1 6) ≤ x2 then
    some (some (.int x1), (S0, M, N))
  else
    (C d 26 [.ref 8, .int x2] S0 M N).bind fun q1 => j_oi none (fun r1 =>
    R d kX7_greatestCost 4 [.ref 21, .int (if x1 < r1 then r1 else x1), .int (x2 + 1)] [] (S0, q1.2.1, q1.2.2)) q1.1) := (R_ev d kX7_greatestCost 400 4 _ _ _).trans rfl
theorem bX8_take_0 (d : Nat)  (M : j_M) (N : j_N) : R d kX8_take 0 [.ref 27, .ref 1] [] (S0, M, N) =
  (bif (!(decide (0 < (0:Int32))) && !(decide (0 < (0:Int32))) && !(decide ((M 1 6) < (0:Int32))) && Nat.ble (0 + ((M 1 6)).toNatClampNeg) 6 && Nat.ble (0 + ((M 1 6)).toNatClampNeg) 6) && Nat.ble 0 8 then
  bif (!(decide (0 < (0:Int32))) && !(decide (0 < (0:Int32))) && !(decide ((M 1 6) < (0:Int32))) && Nat.ble (0 + ((M 1 6)).toNatClampNeg) 6 && Nat.ble (0 + ((M 1 6)).toNatClampNeg) 6) && Nat.ble 0 8 then
  some (none, (S0, (j_row (j_row (j_w (j_w (j_w (j_w M 27 5 1) 27 2 (M 1 6)) 27 3 (M 1 11)) 27 4 (M 1 10)) 28 (va_cpy ((j_w (j_w (j_w (j_w M 27 5 1) 27 2 (M 1 6)) 27 3 (M 1 11)) 27 4 (M 1 10)) 3) ((j_w (j_w (j_w (j_w M 27 5 1) 27 2 (M 1 6)) 27 3 (M 1 11)) 27 4 (M 1 10)) 28) 0 0 ((M 1 6)).toNatClampNeg)) 29 (va_cpy ((j_row (j_w (j_w (j_w (j_w M 27 5 1) 27 2 (M 1 6)) 27 3 (M 1 11)) 27 4 (M 1 10)) 28 (va_cpy ((j_w (j_w (j_w (j_w M 27 5 1) 27 2 (M 1 6)) 27 3 (M 1 11)) 27 4 (M 1 10)) 3) ((j_w (j_w (j_w (j_w M 27 5 1) 27 2 (M 1 6)) 27 3 (M 1 11)) 27 4 (M 1 10)) 28) 0 0 ((M 1 6)).toNatClampNeg)) 7) ((j_row (j_w (j_w (j_w (j_w M 27 5 1) 27 2 (M 1 6)) 27 3 (M 1 11)) 27 4 (M 1 10)) 28 (va_cpy ((j_w (j_w (j_w (j_w M 27 5 1) 27 2 (M 1 6)) 27 3 (M 1 11)) 27 4 (M 1 10)) 3) ((j_w (j_w (j_w (j_w M 27 5 1) 27 2 (M 1 6)) 27 3 (M 1 11)) 27 4 (M 1 10)) 28) 0 0 ((M 1 6)).toNatClampNeg)) 29) 0 0 ((M 1 6)).toNatClampNeg)), N)) else none else none) := (R_ev d kX8_take 400 0 _ _ _).trans rfl
theorem bX8_layBack_0 (d : Nat)  (M : j_M) (N : j_N) : R d kX8_layBack 0 [.ref 27, .ref 1] [] (S0, M, N) =
  ((C d 246 [.ref 7, .int 0] S0 (j_w (j_w M 1 11 (M 27 3)) 1 10 (M 27 4)) N).bind fun q1 => j_ov none (
  bif (!(decide (0 < (0:Int32))) && !(decide (0 < (0:Int32))) && !(decide ((q1.2.1 27 2) < (0:Int32))) && Nat.ble (0 + ((q1.2.1 27 2)).toNatClampNeg) 6 && Nat.ble (0 + ((q1.2.1 27 2)).toNatClampNeg) 6) && Nat.ble 0 8 then
  bif (!(decide (0 < (0:Int32))) && !(decide (0 < (0:Int32))) && !(decide ((q1.2.1 27 2) < (0:Int32))) && Nat.ble (0 + ((q1.2.1 27 2)).toNatClampNeg) 6 && Nat.ble (0 + ((q1.2.1 27 2)).toNatClampNeg) 6) && Nat.ble 0 8 then
  some (none, (S0, (j_row (j_row q1.2.1 3 (va_cpy (q1.2.1 28) (q1.2.1 3) 0 0 ((q1.2.1 27 2)).toNatClampNeg)) 7 (va_cpy ((j_row q1.2.1 3 (va_cpy (q1.2.1 28) (q1.2.1 3) 0 0 ((q1.2.1 27 2)).toNatClampNeg)) 29) ((j_row q1.2.1 3 (va_cpy (q1.2.1 28) (q1.2.1 3) 0 0 ((q1.2.1 27 2)).toNatClampNeg)) 7) 0 0 ((q1.2.1 27 2)).toNatClampNeg)), q1.2.2)) else none else none) q1.1) := (R_ev d kX8_layBack 400 0 _ _ _).trans rfl
theorem bX9_holdsNothing_0 (d : Nat) (a0 : Nat) (M : j_M) (N : j_N) : R d kX9_holdsNothing 0 [.ref a0] [] (S0, M, N) =
  (bif Nat.beq (j_at S0 a0).1 12 then
  if (M a0 4) = 0 then
    some (some (.int 1), (S0, M, N))
  else
    some (some (.int 0), (S0, M, N)) else none) := (R_ev d kX9_holdsNothing 400 0 _ _ _).trans rfl
theorem bX9_isRow_0 (d : Nat) (a0 : Nat) (M : j_M) (N : j_N) : R d kX9_isRow 0 [.ref a0] [] (S0, M, N) =
  (bif Nat.beq (j_at S0 a0).1 12 then
  if (M a0 4) = 2 then
    some (some (.int 1), (S0, M, N))
  else
    some (some (.int 0), (S0, M, N)) else none) := (R_ev d kX9_isRow 400 0 _ _ _).trans rfl
theorem bX9_isRowOf_0 (d : Nat) (a0 : Nat) (x1 : Int32) (M : j_M) (N : j_N) : R d kX9_isRowOf 0 [.ref a0, .int x1] [] (S0, M, N) =
  (bif Nat.beq (j_at S0 a0).1 12 then
  if (M a0 4) = 2 then
    bif Nat.beq (j_at S0 a0).1 12 then
    if (M a0 1) = x1 then
      some (some (.int 1), (S0, M, N))
    else
      some (some (.int 0), (S0, M, N)) else none
  else
    some (some (.int 0), (S0, M, N)) else none) := (R_ev d kX9_isRowOf 400 0 _ _ _).trans rfl
theorem bX9_holdHat_0 (d : Nat) (a0 : Nat) (x1 : Int32) (M : j_M) (N : j_N) : R d kX9_holdHat 0 [.ref a0, .int x1] [] (S0, M, N) =
  (if 0 ≤ x1 then
    bif Nat.beq (j_at S0 a0).1 12 then
    bif Nat.beq (j_at S0 a0).1 12 then
    bif Nat.beq (j_at S0 a0).1 12 then
    some (none, (S0, (j_w (j_w (j_w M a0 4 1) a0 3 x1) a0 2 0), N)) else none else none else none
  else
    bif Nat.beq (j_at S0 a0).1 12 then
    bif Nat.beq (j_at S0 a0).1 12 then
    bif Nat.beq (j_at S0 a0).1 12 then
    some (none, (S0, (j_w (j_w (j_w M a0 4 0) a0 3 x1) a0 2 0), N)) else none else none else none) := (R_ev d kX9_holdHat 400 0 _ _ _).trans rfl
theorem bX9_holdRow_0 (d : Nat) (a0 : Nat) (x1 : Int32) (x2 : Int32) (M : j_M) (N : j_N) : R d kX9_holdRow 0 [.ref a0, .int x1, .int x2] [] (S0, M, N) =
  (bif Nat.beq (j_at S0 a0).1 12 then
  bif Nat.beq (j_at S0 a0).1 12 then
  bif Nat.beq (j_at S0 a0).1 12 then
  bif Nat.beq (j_at S0 a0).1 12 then (bif (j_nth (j_at S0 a0).2.2 0).isSome then
  (C d 245 [.ref ((j_nth (j_at S0 a0).2.2 0).getD 0), .long 0] S0 (j_w (j_w (j_w M a0 4 2) a0 1 x1) a0 2 x2) N).bind fun q1 => j_ov none (
  some (none, (S0, q1.2.1, q1.2.2))) q1.1 else none) else none else none else none else none) := (R_ev d kX9_holdRow 400 0 _ _ _).trans rfl
theorem bX9_hasPlaces_0 (d : Nat) (a0 : Nat) (x1 : Int32) (x2 : Int32) (M : j_M) (N : j_N) : R d kX9_hasPlaces 0 [.ref a0, .int x1, .int x2] [] (S0, M, N) =
  (if x1 < 0 then
    some (some (.int 0), (S0, M, N))
  else
    if x2 < 0 then
      some (some (.int 0), (S0, M, N))
    else
      bif Nat.beq (j_at S0 a0).1 12 then
      if 0 < (lg_cmp (x1.toInt64 + x2.toInt64) (M a0 2).toInt64) then
        some (some (.int 0), (S0, M, N))
      else
        some (some (.int 1), (S0, M, N)) else none) := (R_ev d kX9_hasPlaces 400 0 _ _ _).trans rfl
theorem bX9_refusalAt_0 (d : Nat) (a0 : Nat) (x1 : Int32) (M : j_M) (N : j_N) : R d kX9_refusalAt 0 [.ref a0, .int x1] [] (S0, M, N) =
  (bif Nat.beq (j_at S0 a0).1 12 then
  if (M a0 4) = 0 then
    some (some (.int (-11)), (S0, M, N))
  else
    bif Nat.beq (j_at S0 a0).1 12 then
    if (M a0 4) = 2 then
      bif Nat.beq (j_at S0 a0).1 12 && Nat.ble 0 8 then (C d 102 [.ref a0, .int x1, .int 1] S0 M N).bind fun q1 => j_oi none (fun r1 =>
      if r1 = 0 then
        some (some (.int (-13)), (S0, q1.2.1, q1.2.2))
      else
        some (some (.int 0), (S0, q1.2.1, q1.2.2))) q1.1 else none
    else
      some (some (.int (-12)), (S0, M, N)) else none else none) := (R_ev d kX9_refusalAt 400 0 _ _ _).trans rfl
theorem bX9_get_0 (d : Nat) (a0 : Nat) (x1 : Int32) (M : j_M) (N : j_N) : R d kX9_get 0 [.ref a0, .int x1] [] (S0, M, N) =
  (bif Nat.beq (j_at S0 a0).1 12 && Nat.ble 0 8 then (C d 102 [.ref a0, .int x1, .int 1] S0 M N).bind fun q1 => j_oi none (fun r1 =>
  if r1 = 0 then
    some (some (.long 0), (S0, q1.2.1, q1.2.2))
  else
    bif Nat.beq (j_at S0 a0).1 12 then (bif (j_nth (j_at S0 a0).2.2 0).isSome then
    bif Nat.beq (j_at S0 ((j_nth (j_at S0 a0).2.2 0).getD 0)).1 1 && j_in x1 (j_at S0 ((j_nth (j_at S0 a0).2.2 0).getD 0)).2.1 then
    some (some (.long (q1.2.2 ((j_nth (j_at S0 a0).2.2 0).getD 0) (x1).toNatClampNeg)), (S0, q1.2.1, q1.2.2)) else none else none) else none) q1.1 else none) := (R_ev d kX9_get 400 0 _ _ _).trans rfl
theorem bX9_set_0 (d : Nat) (a0 : Nat) (x1 : Int32) (y2 : Int64) (M : j_M) (N : j_N) : R d kX9_set 0 [.ref a0, .int x1, .long y2, .null] [] (S0, M, N) =
  (bif Nat.beq (j_at S0 a0).1 12 && Nat.ble 0 8 then (C d 102 [.ref a0, .int x1, .int 1] S0 M N).bind fun q1 => j_oi none (fun r1 =>
  if r1 = 0 then
    some (none, (S0, q1.2.1, q1.2.2))
  else
    bif Nat.beq (j_at S0 a0).1 12 then (bif (j_nth (j_at S0 a0).2.2 0).isSome then
    bif Nat.beq (j_at S0 a0).1 12 && Nat.ble 2 8 then (C d 106 [.ref a0, .long y2] S0 q1.2.1 q1.2.2).bind fun q2 => j_ol none (fun r2 =>
    bif Nat.beq (j_at S0 ((j_nth (j_at S0 a0).2.2 0).getD 0)).1 1 && j_in x1 (j_at S0 ((j_nth (j_at S0 a0).2.2 0).getD 0)).2.1 then
    some (none, (S0, q2.2.1, (j_wl q2.2.2 ((j_nth (j_at S0 a0).2.2 0).getD 0) (x1).toNatClampNeg r2))) else none) q2.1 else none else none) else none) q1.1 else none) := (R_ev d kX9_set 400 0 _ _ _).trans rfl
theorem bX9_lowestBits_0 (d : Nat) (a0 : Nat) (y1 : Int64) (M : j_M) (N : j_N) : R d kX9_lowestBits 0 [.ref a0, .long y1, .null] [] (S0, M, N) =
  (bif Nat.beq (j_at S0 a0).1 12 then
  if (M a0 1) = 0 then
    some (some (.long y1.toInt32.toInt8.toInt32.toInt64), (S0, M, N))
  else if (M a0 1) = 1 then
    some (some (.long y1.toInt32.toInt16.toInt32.toInt64), (S0, M, N))
  else if (M a0 1) = 2 then
    some (some (.long y1.toInt32.toInt64), (S0, M, N))
  else if (M a0 1) = 3 then
    some (some (.long y1), (S0, M, N))
  else 
    if (lg_cmp y1 0) = 0 then
      some (some (.long 0), (S0, M, N))
    else
      some (some (.long 1), (S0, M, N)) else none) := (R_ev d kX9_lowestBits 400 0 _ _ _).trans rfl
theorem bX10_guest_0 (d : Nat) (x1 : Int32) (M : j_M) (N : j_N) : R d kX10_guest 0 [.ref 0, .int x1] [] (S0, M, N) =
  ((C d 147 [.int x1, .int 0, .int 99] S0 M N).bind fun q1 => j_oi none (fun r1 =>
  if r1 = 0 then
    some (some (.int (-1)), (S0, q1.2.1, q1.2.2))
  else
    if (q1.2.1 1 6) < 6 then
      (C d 17 [.ref 1, .int x1, .int 0] S0 q1.2.1 q1.2.2).bind fun q2 => j_ov none (
      some (some (.int ((q2.2.1 1 6) - 1)), (S0, q2.2.1, q2.2.2))) q2.1
    else
      some (some (.int (-3)), (S0, q1.2.1, q1.2.2))) q1.1) := (R_ev d kX10_guest 400 0 _ _ _).trans rfl
theorem bX10_guests_0 (d : Nat) (x1 : Int32) (x2 : Int32) (x3 : Int32) (M : j_M) (N : j_N) : R d kX10_guests 0 [.ref 0, .int x1, .int x2, .int x3, .null, .null] [] (S0, M, N) =
  ((C d 148 [.int x1] S0 M N).bind fun q1 => j_oi none (fun r1 =>
  if r1 = 0 then
    some (some (.int (-1)), (S0, q1.2.1, q1.2.2))
  else
    (C d 147 [.int x3, .int 1, .int 6] S0 q1.2.1 q1.2.2).bind fun q2 => j_oi none (fun r2 =>
    if r2 = 0 then
      some (some (.int (-1)), (S0, q2.2.1, q2.2.2))
    else
      bif j_in x1 6 && (j_nth (j_at S0 33).2.2 (x1).toNatClampNeg).isSome then
      bif Nat.beq (j_at S0 ((j_nth (j_at S0 33).2.2 (x1).toNatClampNeg).getD 0)).1 12 && Nat.ble 0 8 then (C d 97 [.ref ((j_nth (j_at S0 33).2.2 (x1).toNatClampNeg).getD 0)] S0 q2.2.1 q2.2.2).bind fun q3 => j_oi none (fun r3 =>
      if r3 = 0 then
        bif Nat.beq (j_at S0 ((j_nth (j_at S0 33).2.2 (x1).toNatClampNeg).getD 0)).1 12 && Nat.ble 0 8 then (C d 99 [.ref ((j_nth (j_at S0 33).2.2 (x1).toNatClampNeg).getD 0), .int 0] S0 q3.2.1 q3.2.2).bind fun q4 => j_oi none (fun r4 =>
        if r4 = 0 then
          some (some (.int (-12)), (S0, q4.2.1, q4.2.2))
        else
          R d kX10_guests 52 [.ref 0, .null, .int x2, .int x3, .ref ((j_nth (j_at S0 33).2.2 (x1).toNatClampNeg).getD 0), .int 0] [] (S0, q4.2.1, q4.2.2)) q4.1 else none
      else
        some (some (.int 0), (S0, q3.2.1, q3.2.2))) q3.1 else none else none) q2.1) q1.1) := (R_ev d kX10_guests 400 0 _ _ _).trans rfl
theorem bX10_guests_52 (d : Nat) (x2 : Int32) (x3 : Int32) (a4 : Nat) (x5 : Int32) (M : j_M) (N : j_N) : R d kX10_guests 52 [.ref 0, .null, .int x2, .int x3, .ref a4, .int x5] [] (S0, M, N) =
  (if x3 ≤ x5 then
    some (some (.int x5), (S0, M, N))
  else
    (C d 149 [.ref 0, .ref a4, .long (x2.toInt64 + (2 * x5.toInt64))] S0 M N).bind fun q1 => j_oi none (fun r1 =>
    if r1 = 0 then
      some (some (.int x5), (S0, q1.2.1, q1.2.2))
    else
      R d kX10_guests 52 [.ref 0, .null, .int x2, .int x3, .ref a4, .int (x5 + 1)] [] (S0, q1.2.1, q1.2.2)) q1.1) := (R_ev d kX10_guests 400 52 _ _ _).trans rfl
theorem bX10_mend_0 (d : Nat) (x1 : Int32) (x2 : Int32) (x3 : Int32) (M : j_M) (N : j_N) : R d kX10_mend 0 [.ref 0, .int x1, .int x2, .int x3, .null] [] (S0, M, N) =
  ((C d 18 [.ref 1, .int x1, .int x2, .int x3] S0 M N).bind fun q1 => j_oi none (fun r1 =>
  if r1 = 0 then
    some (some (.int (-1)), (S0, q1.2.1, q1.2.2))
  else
    (C d 19 [.ref 1, .int x1, .int x2] S0 q1.2.1 q1.2.2).bind fun q2 => j_oi none (fun r2 =>
    if r2 = x3 then
      some (some (.int r2), (S0, q2.2.1, q2.2.2))
    else
      (C d 20 [.ref 1, .int x1, .int x2, .int x3] S0 q2.2.1 q2.2.2).bind fun q3 => j_ov none (
      (C d 11 [.ref 22, .int x1, .int x2, .int r2, .int x3] S0 q3.2.1 q3.2.2).bind fun q4 => j_ov none (
      some (some (.int r2), (S0, q4.2.1, q4.2.2))) q4.1) q3.1) q2.1) q1.1) := (R_ev d kX10_mend 400 0 _ _ _).trans rfl
theorem bX10_of_0 (d : Nat) (x1 : Int32) (x2 : Int32) (M : j_M) (N : j_N) : R d kX10_of 0 [.ref 0, .int x1, .int x2] [] (S0, M, N) =
  (if x2 < 10 then
    (C d 16 [.ref 1, .int x1] S0 M N).bind fun q1 => j_oi none (fun r1 =>
    if r1 = 0 then
      some (some (.int (-2000000000)), (S0, q1.2.1, q1.2.2))
    else
      (C d 150 [.ref 0, .int x1, .int x2] S0 q1.2.1 q1.2.2).bind fun q2 => j_oi none (fun r2 =>
      some (some (.int r2), (S0, q2.2.1, q2.2.2))) q2.1) q1.1
  else
    if x1 = 0 then
      (C d 151 [.ref 0, .int x2] S0 M N).bind fun q3 => j_oi none (fun r3 =>
      some (some (.int r3), (S0, q3.2.1, q3.2.2))) q3.1
    else
      some (some (.int (-2000000000)), (S0, M, N))) := (R_ev d kX10_of 400 0 _ _ _).trans rfl
theorem bX10_think_0 (d : Nat) (x1 : Int32) (x2 : Int32) (M : j_M) (N : j_N) : R d kX10_think 0 [.ref 0, .int x1, .int x2, .null] [] (S0, M, N) =
  ((C d 16 [.ref 1, .int x1] S0 M N).bind fun q1 => j_oi none (fun r1 =>
  if r1 = 0 then
    some (some (.int (-2000000000)), (S0, q1.2.1, q1.2.2))
  else
    (C d 147 [.int x2, .int (-1), .int 599] S0 q1.2.1 q1.2.2).bind fun q2 => j_oi none (fun r2 =>
    if r2 = 0 then
      some (some (.int (-2000000000)), (S0, q2.2.1, q2.2.2))
    else
      bif j_in x1 6 then
      bif j_in x1 6 then
      some (some (.int (q2.2.1 6 (x1).toNatClampNeg)), (S0, (j_w q2.2.1 6 (x1).toNatClampNeg x2), q2.2.2)) else none else none) q2.1) q1.1) := (R_ev d kX10_think 400 0 _ _ _).trans rfl
theorem bX10_feed_0 (d : Nat) (x1 : Int32) (M : j_M) (N : j_N) : R d kX10_feed 0 [.ref 0, .int x1] [] (S0, M, N) =
  ((C d 147 [.int x1, .int 0, .int 255] S0 M N).bind fun q1 => j_oi none (fun r1 =>
  if r1 = 0 then
    some (some (.int (-1)), (S0, q1.2.1, q1.2.2))
  else
    (C d 33 [.ref 16, .int x1] S0 q1.2.1 q1.2.2).bind fun q2 => j_oi none (fun r2 =>
    some (some (.int r2), (S0, q2.2.1, q2.2.2))) q2.1) q1.1) := (R_ev d kX10_feed 400 0 _ _ _).trans rfl
theorem bX10_law_0 (d : Nat)  (M : j_M) (N : j_N) : R d kX10_law 0 [.ref 0] [] (S0, M, N) =
  ((C d 34 [.ref 16] S0 M N).bind fun q1 => j_oi none (fun r1 =>
  some (some (.int r1), (S0, q1.2.1, q1.2.2))) q1.1) := (R_ev d kX10_law 400 0 _ _ _).trans rfl
theorem bX10_putIn_0 (d : Nat) (x1 : Int32) (x2 : Int32) (M : j_M) (N : j_N) : R d kX10_putIn 0 [.ref 0, .int x1, .int x2] [] (S0, M, N) =
  ((C d 16 [.ref 1, .int x1] S0 M N).bind fun q1 => j_oi none (fun r1 =>
  if r1 = 0 then
    some (some (.int (-2000000000)), (S0, q1.2.1, q1.2.2))
  else
    (C d 147 [.int x2, .int 0, .int 1] S0 q1.2.1 q1.2.2).bind fun q2 => j_oi none (fun r2 =>
    if r2 = 0 then
      some (some (.int (-2000000000)), (S0, q2.2.1, q2.2.2))
    else
      (C d 22 [.ref 8, .ref 1] S0 q2.2.1 q2.2.2).bind fun q3 => j_ov none (
      (C d 71 [.ref 10, .int x1] S0 q3.2.1 q3.2.2).bind fun q4 => j_ov none (
      if x2 = 0 then
        some (some (.int (q4.2.1 10 3)), (S0, q4.2.1, q4.2.2))
      else
        some (some (.int (q4.2.1 10 4)), (S0, q4.2.1, q4.2.2))) q4.1) q3.1) q2.1) q1.1) := (R_ev d kX10_putIn 400 0 _ _ _).trans rfl
theorem bX10_mean_0 (d : Nat) (x1 : Int32) (x2 : Int32) (x3 : Int32) (M : j_M) (N : j_N) : R d kX10_mean 0 [.ref 0, .int x1, .int x2, .int x3] [] (S0, M, N) =
  ((C d 16 [.ref 1, .int x1] S0 M N).bind fun q1 => j_oi none (fun r1 =>
  if r1 = 0 then
    some (some (.long (-9223372036854775808)), (S0, q1.2.1, q1.2.2))
  else
    bif j_in x1 6 then
    (C d 147 [.int x2, .int 0, .int (q1.2.1 2 (x1).toNatClampNeg)] S0 q1.2.1 q1.2.2).bind fun q2 => j_oi none (fun r2 =>
    if r2 = 0 then
      some (some (.long (-9223372036854775808)), (S0, q2.2.1, q2.2.2))
    else
      (C d 147 [.int x3, .int 0, .int 1] S0 q2.2.1 q2.2.2).bind fun q3 => j_oi none (fun r3 =>
      if r3 = 0 then
        some (some (.long (-9223372036854775808)), (S0, q3.2.1, q3.2.2))
      else
        (C d 83 [.ref 10, .int x1, .int x2] S0 q3.2.1 q3.2.2).bind fun q4 => j_ol none (fun r4 =>
        (C d 82 [.ref 10] S0 q4.2.1 q4.2.2).bind fun q5 => j_ol none (fun r5 =>
        (C d 154 [.long r4, .long r5, .int x3] S0 q5.2.1 q5.2.2).bind fun q6 => j_ol none (fun r6 =>
        some (some (.long r6), (S0, q6.2.1, q6.2.2))) q6.1) q5.1) q4.1) q3.1) q2.1 else none) q1.1) := (R_ev d kX10_mean 400 0 _ _ _).trans rfl
theorem bX10_bestMean_0 (d : Nat) (x1 : Int32) (M : j_M) (N : j_N) : R d kX10_bestMean 0 [.ref 0, .int x1] [] (S0, M, N) =
  ((C d 16 [.ref 1, .int x1] S0 M N).bind fun q1 => j_oi none (fun r1 =>
  if r1 = 0 then
    some (some (.int (-1)), (S0, q1.2.1, q1.2.2))
  else
    (C d 85 [.ref 10, .int x1] S0 q1.2.1 q1.2.2).bind fun q2 => j_oi none (fun r2 =>
    some (some (.int r2), (S0, q2.2.1, q2.2.2))) q2.1) q1.1) := (R_ev d kX10_bestMean 400 0 _ _ _).trans rfl
theorem bX10_rest_0 (d : Nat) (x1 : Int32) (M : j_M) (N : j_N) : R d kX10_rest 0 [.ref 0, .int x1, .null] [] (S0, M, N) =
  ((C d 147 [.int x1, .int 0, .int 1] S0 M N).bind fun q1 => j_oi none (fun r1 =>
  if r1 = 0 then
    some (some (.int (-1)), (S0, q1.2.1, q1.2.2))
  else
    (C d 22 [.ref 8, .ref 1] S0 q1.2.1 q1.2.2).bind fun q2 => j_ov none (
    (C d 73 [.ref 10] S0 q2.2.1 q2.2.2).bind fun q3 => j_oi none (fun r3 =>
    if x1 = 1 then
      some (some (.int r3), (S0, q3.2.1, q3.2.2))
    else
      if r3 = (-2) then
        some (some (.int 1), (S0, q3.2.1, q3.2.2))
      else
        some (some (.int 0), (S0, q3.2.1, q3.2.2))) q3.1) q2.1) q1.1) := (R_ev d kX10_rest 400 0 _ _ _).trans rfl
theorem bX10_rests_0 (d : Nat) (x1 : Int32) (M : j_M) (N : j_N) : R d kX10_rests 0 [.ref 0, .int x1, .null] [] (S0, M, N) =
  (if x1 = (-1) then
    (C d 76 [.ref 10] S0 M N).bind fun q1 => j_oi none (fun r1 =>
    if r1 = 0 then
      some (some (.int (-5)), (S0, q1.2.1, q1.2.2))
    else
      (C d 77 [.ref 10] S0 q1.2.1 q1.2.2).bind fun q2 => j_oi none (fun r2 =>
      if x1 = (-1) then
        some (some (.int r2), (S0, q2.2.1, q2.2.2))
      else
        if r2 = 0 then
          some (some (.int (-2)), (S0, q2.2.1, q2.2.2))
        else
          bif j_in x1 6 then
          some (some (.int (q2.2.1 11 (x1).toNatClampNeg)), (S0, q2.2.1, q2.2.2)) else none) q2.1) q1.1
  else
    (C d 16 [.ref 1, .int x1] S0 M N).bind fun q3 => j_oi none (fun r3 =>
    if r3 = 0 then
      some (some (.int (-1)), (S0, q3.2.1, q3.2.2))
    else
      (C d 76 [.ref 10] S0 q3.2.1 q3.2.2).bind fun q4 => j_oi none (fun r4 =>
      if r4 = 0 then
        some (some (.int (-5)), (S0, q4.2.1, q4.2.2))
      else
        (C d 77 [.ref 10] S0 q4.2.1 q4.2.2).bind fun q5 => j_oi none (fun r5 =>
        if x1 = (-1) then
          some (some (.int r5), (S0, q5.2.1, q5.2.2))
        else
          if r5 = 0 then
            some (some (.int (-2)), (S0, q5.2.1, q5.2.2))
          else
            bif j_in x1 6 then
            some (some (.int (q5.2.1 11 (x1).toNatClampNeg)), (S0, q5.2.1, q5.2.2)) else none) q5.1) q4.1) q3.1) := (R_ev d kX10_rests 400 0 _ _ _).trans rfl
theorem bX10_turns_0 (d : Nat) (x1 : Int32) (M : j_M) (N : j_N) : R d kX10_turns 0 [.ref 0, .int x1, .null] [] (S0, M, N) =
  (if x1 = (-1) then
    (C d 79 [.ref 10] S0 M N).bind fun q1 => j_oi none (fun r1 =>
    if x1 = (-1) then
      some (some (.int r1), (S0, q1.2.1, q1.2.2))
    else
      bif j_in x1 7 then
      some (some (.int (q1.2.1 9 (x1).toNatClampNeg)), (S0, q1.2.1, q1.2.2)) else none) q1.1
  else
    (C d 16 [.ref 1, .int x1] S0 M N).bind fun q2 => j_oi none (fun r2 =>
    if r2 = 0 then
      some (some (.int (-1)), (S0, q2.2.1, q2.2.2))
    else
      (C d 79 [.ref 10] S0 q2.2.1 q2.2.2).bind fun q3 => j_oi none (fun r3 =>
      if x1 = (-1) then
        some (some (.int r3), (S0, q3.2.1, q3.2.2))
      else
        bif j_in x1 7 then
        some (some (.int (q3.2.1 9 (x1).toNatClampNeg)), (S0, q3.2.1, q3.2.2)) else none) q3.1) q2.1) := (R_ev d kX10_turns 400 0 _ _ _).trans rfl
theorem bX10_agree_0 (d : Nat) (x1 : Int32) (x2 : Int32) (M : j_M) (N : j_N) : R d kX10_agree 0 [.ref 0, .int x1, .int x2, .null, .null] [] (S0, M, N) =
  ((C d 16 [.ref 1, .int (x1 / 10)] S0 M N).bind fun q1 => j_oi none (fun r1 =>
  if r1 = 0 then
    some (some (.int (-2000000000)), (S0, q1.2.1, q1.2.2))
  else
    (C d 16 [.ref 1, .int (x1 - x1 / 10 * 10)] S0 q1.2.1 q1.2.2).bind fun q2 => j_oi none (fun r2 =>
    if r2 = 0 then
      some (some (.int (-2000000000)), (S0, q2.2.1, q2.2.2))
    else
      if (x1 / 10) < (x1 - x1 / 10 * 10) then
        (C d 147 [.int x2, .int 0, .int 3] S0 q2.2.1 q2.2.2).bind fun q3 => j_oi none (fun r3 =>
        if r3 = 0 then
          some (some (.int (-2000000000)), (S0, q3.2.1, q3.2.2))
        else
          (C d 80 [.ref 10, .int (x1 / 10), .int (x1 - x1 / 10 * 10)] S0 q3.2.1 q3.2.2).bind fun q4 => j_ov none (
          if x2 = 0 then
            some (some (.int (q4.2.1 10 4)), (S0, q4.2.1, q4.2.2))
          else if x2 = 1 then
            some (some (.int (q4.2.1 10 3)), (S0, q4.2.1, q4.2.2))
          else if x2 = 2 then
            some (some (.int (q4.2.1 10 5)), (S0, q4.2.1, q4.2.2))
          else 
            (C d 81 [.ref 10, .int (x1 / 10), .int (x1 - x1 / 10 * 10)] S0 q4.2.1 q4.2.2).bind fun q5 => j_oi none (fun r5 =>
            some (some (.int r5), (S0, q5.2.1, q5.2.2))) q5.1) q4.1) q3.1
      else
        some (some (.int (-2000000000)), (S0, q2.2.1, q2.2.2))) q2.1) q1.1) := (R_ev d kX10_agree 400 0 _ _ _).trans rfl
theorem bX10_dish_0 (d : Nat) (x1 : Int32) (M : j_M) (N : j_N) : R d kX10_dish 0 [.ref 0, .int x1] [] (S0, M, N) =
  ((C d 147 [.int x1, .int 0, .int 99] S0 M N).bind fun q1 => j_oi none (fun r1 =>
  if r1 = 0 then
    some (some (.int (-1)), (S0, q1.2.1, q1.2.2))
  else
    (C d 63 [.ref 12, .int x1] S0 q1.2.1 q1.2.2).bind fun q2 => j_oi none (fun r2 =>
    some (some (.int r2), (S0, q2.2.1, q2.2.2))) q2.1) q1.1) := (R_ev d kX10_dish 400 0 _ _ _).trans rfl
theorem bX10_joy_0 (d : Nat) (x1 : Int32) (x2 : Int32) (M : j_M) (N : j_N) : R d kX10_joy 0 [.ref 0, .int x1, .int x2, .null, .null] [] (S0, M, N) =
  ((C d 16 [.ref 1, .int (x1 / 10)] S0 M N).bind fun q1 => j_oi none (fun r1 =>
  if r1 = 0 then
    some (some (.int (-1)), (S0, q1.2.1, q1.2.2))
  else
    (C d 62 [.ref 12, .int (x1 - x1 / 10 * 10)] S0 q1.2.1 q1.2.2).bind fun q2 => j_oi none (fun r2 =>
    if r2 = 0 then
      some (some (.int (-1)), (S0, q2.2.1, q2.2.2))
    else
      (C d 147 [.int x2, .int 0, .int 99] S0 q2.2.1 q2.2.2).bind fun q3 => j_oi none (fun r3 =>
      if r3 = 0 then
        some (some (.int (-1)), (S0, q3.2.1, q3.2.2))
      else
        (C d 64 [.ref 12, .int (x1 / 10), .int (x1 - x1 / 10 * 10), .int x2] S0 q3.2.1 q3.2.2).bind fun q4 => j_oi none (fun r4 =>
        some (some (.int r4), (S0, q4.2.1, q4.2.2))) q4.1) q3.1) q2.1) q1.1) := (R_ev d kX10_joy 400 0 _ _ _).trans rfl
theorem bX10_ordered_0 (d : Nat) (x1 : Int32) (x2 : Int32) (M : j_M) (N : j_N) : R d kX10_ordered 0 [.ref 0, .int x1, .int x2, .null] [] (S0, M, N) =
  ((C d 16 [.ref 1, .int x1] S0 M N).bind fun q1 => j_oi none (fun r1 =>
  if r1 = 0 then
    some (some (.int (-2000000000)), (S0, q1.2.1, q1.2.2))
  else
    (C d 147 [.int x2, .int 0, .int 2] S0 q1.2.1 q1.2.2).bind fun q2 => j_oi none (fun r2 =>
    if r2 = 0 then
      some (some (.int (-2000000000)), (S0, q2.2.1, q2.2.2))
    else
      if x2 = 2 then
        if x1 = 0 then
          R d kX10_ordered 32 [.ref 0, .int x1, .int x2, .null] [] (S0, q2.2.1, q2.2.2)
        else
          some (some (.int (-2000000000)), (S0, q2.2.1, q2.2.2))
      else
        R d kX10_ordered 32 [.ref 0, .int x1, .int x2, .null] [] (S0, q2.2.1, q2.2.2)) q2.1) q1.1) := (R_ev d kX10_ordered 400 0 _ _ _).trans rfl
theorem bX10_ordered_32 (d : Nat) (x1 : Int32) (x2 : Int32) (M : j_M) (N : j_N) : R d kX10_ordered 32 [.ref 0, .int x1, .int x2, .null] [] (S0, M, N) =
  ((C d 65 [.ref 12] S0 M N).bind fun q1 => j_oi none (fun r1 =>
  if x2 = 0 then
    bif j_in x1 6 then
    if 0 ≤ (q1.2.1 15 (x1).toNatClampNeg) then
      bif j_in x1 6 then
      some (some (.int (q1.2.1 15 (x1).toNatClampNeg)), (S0, q1.2.1, q1.2.2)) else none
    else
      some (some (.int (-2)), (S0, q1.2.1, q1.2.2)) else none
  else if x2 = 1 then
    bif j_in x1 6 then
    (C d 68 [.ref 12, .int x1, .int (q1.2.1 15 (x1).toNatClampNeg), .int r1] S0 q1.2.1 q1.2.2).bind fun q2 => j_oi none (fun r2 =>
    some (some (.int r2), (S0, q2.2.1, q2.2.2))) q2.1 else none
  else 
    some (some (.int r1), (S0, q1.2.1, q1.2.2))) q1.1) := (R_ev d kX10_ordered 400 32 _ _ _).trans rfl
theorem bX10_thought_0 (d : Nat) (x1 : Int32) (x2 : Int32) (x3 : Int32) (M : j_M) (N : j_N) : R d kX10_thought 0 [.ref 0, .int x1, .int x2, .int x3, .null, .null] [] (S0, M, N) =
  ((C d 16 [.ref 1, .int x1] S0 M N).bind fun q1 => j_oi none (fun r1 =>
  if r1 = 0 then
    some (some (.int (-1)), (S0, q1.2.1, q1.2.2))
  else
    (C d 147 [.int x2, .int 0, .int 99] S0 q1.2.1 q1.2.2).bind fun q2 => j_oi none (fun r2 =>
    if r2 = 0 then
      some (some (.int (-1)), (S0, q2.2.1, q2.2.2))
    else
      (C d 147 [.int x3, .int 0, .int 1] S0 q2.2.1 q2.2.2).bind fun q3 => j_oi none (fun r3 =>
      if r3 = 0 then
        some (some (.int (-1)), (S0, q3.2.1, q3.2.2))
      else
        R d kX10_thought 35 [.ref 0, .int x1, .int x2, .int x3, .int 0, .null] [] (S0, q3.2.1, q3.2.2)) q3.1) q2.1) q1.1) := (R_ev d kX10_thought 400 0 _ _ _).trans rfl
theorem bX10_thought_35 (d : Nat) (x1 : Int32) (x2 : Int32) (x3 : Int32) (x4 : Int32) (M : j_M) (N : j_N) : R d kX10_thought 35 [.ref 0, .int x1, .int x2, .int x3, .int x4, .null] [] (S0, M, N) =
  (if 599 < x4 then
    some (some (.int (-2)), (S0, M, N))
  else
    if x3 = 0 then
      (C d 52 [.ref 16, .ref 1, .int x1, .int x4] S0 M N).bind fun q2 => j_oi none (fun r2 =>
      if r2 = x2 then
        some (some (.int x4), (S0, q2.2.1, q2.2.2))
      else
        R d kX10_thought 35 [.ref 0, .int x1, .int x2, .int x3, .int (x4 + 1), .null] [] (S0, q2.2.1, q2.2.2)) q2.1
    else
      (C d 52 [.ref 16, .ref 1, .int x1, .int (599 - x4)] S0 M N).bind fun q1 => j_oi none (fun r1 =>
      if r1 = x2 then
        some (some (.int (599 - x4)), (S0, q1.2.1, q1.2.2))
      else
        R d kX10_thought 35 [.ref 0, .int x1, .int x2, .int x3, .int (x4 + 1), .null] [] (S0, q1.2.1, q1.2.2)) q1.1) := (R_ev d kX10_thought 400 35 _ _ _).trans rfl
theorem bX10_given_0 (d : Nat) (x1 : Int32) (M : j_M) (N : j_N) : R d kX10_given 0 [.ref 0, .int x1, .null, .null] [] (S0, M, N) =
  (if x1 = (-1) then
    R d kX10_given 30 [.ref 0, .null, .int 0, .int 0] [] (S0, M, N)
  else
    (C d 16 [.ref 1, .int x1] S0 M N).bind fun q1 => j_oi none (fun r1 =>
    if r1 = 0 then
      some (some (.int (-1)), (S0, q1.2.1, q1.2.2))
    else
      (C d 152 [.ref 0, .int x1] S0 q1.2.1 q1.2.2).bind fun q2 => j_oi none (fun r2 =>
      some (some (.int r2), (S0, q2.2.1, q2.2.2))) q2.1) q1.1) := (R_ev d kX10_given 400 0 _ _ _).trans rfl
theorem bX10_given_30 (d : Nat) (x2 : Int32) (x3 : Int32) (M : j_M) (N : j_N) : R d kX10_given 30 [.ref 0, .null, .int x2, .int x3] [] (S0, M, N) =
  (if (M 1 6) ≤ x3 then
    some (some (.int x2), (S0, M, N))
  else
    (C d 152 [.ref 0, .int x3] S0 M N).bind fun q1 => j_oi none (fun r1 =>
    R d kX10_given 30 [.ref 0, .null, .int (x2 + r1), .int (x3 + 1)] [] (S0, q1.2.1, q1.2.2)) q1.1) := (R_ev d kX10_given 400 30 _ _ _).trans rfl
theorem bX10_stranger_0 (d : Nat) (x1 : Int32) (x2 : Int32) (x3 : Int32) (M : j_M) (N : j_N) : R d kX10_stranger 0 [.ref 0, .int x1, .int x2, .int x3, .null, .null, .null, .null, .null] [] (S0, M, N) =
  ((C d 16 [.ref 1, .int x1] S0 M N).bind fun q1 => j_oi none (fun r1 =>
  if r1 = 0 then
    some (some (.long (-9223372036854775808)), (S0, q1.2.1, q1.2.2))
  else
    (C d 147 [.int x2, .int 0, .int 1299] S0 q1.2.1 q1.2.2).bind fun q2 => j_oi none (fun r2 =>
    if r2 = 0 then
      some (some (.long (-9223372036854775808)), (S0, q2.2.1, q2.2.2))
    else
      (C d 147 [.int x3, .int 0, .int 1] S0 q2.2.1 q2.2.2).bind fun q3 => j_oi none (fun r3 =>
      if r3 = 0 then
        some (some (.long (-9223372036854775808)), (S0, q3.2.1, q3.2.2))
      else
        (C d 22 [.ref 8, .ref 1] S0 q3.2.1 q3.2.2).bind fun q4 => j_ov none (
        (C d 26 [.ref 8, .int x1] S0 q4.2.1 q4.2.2).bind fun q5 => j_oi none (fun r5 =>
        (C d 23 [.ref 8, .int (x2 - x2 / 100 * 100)] S0 q5.2.1 q5.2.2).bind fun q6 => j_ov none (
        (C d 26 [.ref 8, .int x1] S0 q6.2.1 q6.2.2).bind fun q7 => j_oi none (fun r7 =>
        (C d 154 [.long (((x2 / 100).toInt64 * r7.toInt64) + ((12 - (x2 / 100)).toInt64 * r5.toInt64)), .long 12, .int x3] S0 q7.2.1 q7.2.2).bind fun q8 => j_ol none (fun r8 =>
        some (some (.long r8), (S0, q8.2.1, q8.2.2))) q8.1) q7.1) q6.1) q5.1) q4.1) q3.1) q2.1) q1.1) := (R_ev d kX10_stranger 400 0 _ _ _).trans rfl
theorem bX10_night_0 (d : Nat)  (M : j_M) (N : j_N) : R d kX10_night 0 [.ref 0] [] (S0, M, N) =
  (if (M 1 6) = 0 then
    some (some (.int (-5)), (S0, M, N))
  else
    (C d 87 [.ref 21] S0 M N).bind fun q1 => j_oi none (fun r1 =>
    some (some (.int r1), (S0, q1.2.1, q1.2.2))) q1.1) := (R_ev d kX10_night 400 0 _ _ _).trans rfl
theorem bX10_drawn_0 (d : Nat) (x1 : Int32) (x2 : Int32) (x3 : Int32) (x4 : Int32) (M : j_M) (N : j_N) : R d kX10_drawn 0 [.ref 0, .int x1, .int x2, .int x3, .int x4] [] (S0, M, N) =
  ((C d 147 [.int x2, .int 1, .int 50] S0 M N).bind fun q1 => j_oi none (fun r1 =>
  if r1 = 0 then
    some (some (.int (-2000000000)), (S0, q1.2.1, q1.2.2))
  else
    (C d 16 [.ref 1, .int x3] S0 q1.2.1 q1.2.2).bind fun q2 => j_oi none (fun r2 =>
    if r2 = 0 then
      some (some (.int (-2000000000)), (S0, q2.2.1, q2.2.2))
    else
      (C d 147 [.int x4, .int 0, .int 1] S0 q2.2.1 q2.2.2).bind fun q3 => j_oi none (fun r3 =>
      if r3 = 0 then
        some (some (.int (-2000000000)), (S0, q3.2.1, q3.2.2))
      else
        (C d 88 [.ref 21, .int x1, .int x2, .int x3] S0 q3.2.1 q3.2.2).bind fun q4 => j_ov none (
        if x4 = 0 then
          some (some (.int (q4.2.1 21 2)), (S0, q4.2.1, q4.2.2))
        else
          some (some (.int (q4.2.1 21 3)), (S0, q4.2.1, q4.2.2))) q4.1) q3.1) q2.1) q1.1) := (R_ev d kX10_drawn 400 0 _ _ _).trans rfl
theorem bX10_judge_0 (d : Nat) (x1 : Int32) (M : j_M) (N : j_N) : R d kX10_judge 0 [.ref 0, .int x1, .null] [] (S0, M, N) =
  ((C d 153 [.ref 0, .int x1] S0 M N).bind fun q1 => j_oi none (fun r1 =>
  if r1 = 0 then
    bif j_in x1 6 && (j_nth (j_at S0 33).2.2 (x1).toNatClampNeg).isSome then
    (C d 89 [.ref 21, .ref ((j_nth (j_at S0 33).2.2 (x1).toNatClampNeg).getD 0), .int (q1.2.1 1 8)] S0 q1.2.1 q1.2.2).bind fun q2 => j_oi none (fun r2 =>
    some (some (.int r2), (S0, q2.2.1, q2.2.2))) q2.1 else none
  else
    some (some (.int r1), (S0, q1.2.1, q1.2.2))) q1.1) := (R_ev d kX10_judge 400 0 _ _ _).trans rfl
theorem bX10_fits_0 (d : Nat) (x1 : Int32) (M : j_M) (N : j_N) : R d kX10_fits 0 [.ref 0, .int x1, .null] [] (S0, M, N) =
  ((C d 153 [.ref 0, .int x1] S0 M N).bind fun q1 => j_oi none (fun r1 =>
  if r1 = 0 then
    bif j_in x1 6 && (j_nth (j_at S0 33).2.2 (x1).toNatClampNeg).isSome then
    (C d 90 [.ref 21, .ref ((j_nth (j_at S0 33).2.2 (x1).toNatClampNeg).getD 0)] S0 q1.2.1 q1.2.2).bind fun q2 => j_oi none (fun r2 =>
    some (some (.int r2), (S0, q2.2.1, q2.2.2))) q2.1 else none
  else
    some (some (.int r1), (S0, q1.2.1, q1.2.2))) q1.1) := (R_ev d kX10_fits 400 0 _ _ _).trans rfl
theorem bX10_fair_0 (d : Nat) (x1 : Int32) (M : j_M) (N : j_N) : R d kX10_fair 0 [.ref 0, .int x1] [] (S0, M, N) =
  ((C d 147 [.int x1, .int 0, .int 1] S0 M N).bind fun q1 => j_oi none (fun r1 =>
  if r1 = 0 then
    some (some (.int (-2000000000)), (S0, q1.2.1, q1.2.2))
  else
    if (q1.2.1 1 6) = 0 then
      some (some (.int (-5)), (S0, q1.2.1, q1.2.2))
    else
      (C d 91 [.ref 21] S0 q1.2.1 q1.2.2).bind fun q2 => j_ov none (
      if x1 = 0 then
        some (some (.int (q2.2.1 21 4)), (S0, q2.2.1, q2.2.2))
      else
        some (some (.int (q2.2.1 21 5)), (S0, q2.2.1, q2.2.2))) q2.1) q1.1) := (R_ev d kX10_fair 400 0 _ _ _).trans rfl
theorem bX10_image_0 (d : Nat)  (M : j_M) (N : j_N) : R d kX10_image 0 [.ref 0] [] (S0, M, N) =
  ((C d 94 [.ref 27, .ref 1] S0 M N).bind fun q1 => j_ov none (
  some (some (.int (q1.2.1 1 11)), (S0, q1.2.1, q1.2.2))) q1.1) := (R_ev d kX10_image 400 0 _ _ _).trans rfl
theorem bX10_back_0 (d : Nat)  (M : j_M) (N : j_N) : R d kX10_back 0 [.ref 0] [] (S0, M, N) =
  (if (M 27 5) = 0 then
    some (some (.int (-5)), (S0, M, N))
  else
    (C d 95 [.ref 27, .ref 1] S0 M N).bind fun q1 => j_ov none (
    some (some (.int (q1.2.1 1 11)), (S0, q1.2.1, q1.2.2))) q1.1) := (R_ev d kX10_back 400 0 _ _ _).trans rfl
theorem bX10_undo_0 (d : Nat)  (M : j_M) (N : j_N) : R d kX10_undo 0 [.ref 0] [] (S0, M, N) =
  ((C d 13 [.ref 22, .ref 1] S0 M N).bind fun q1 => j_oi none (fun r1 =>
  some (some (.int r1), (S0, q1.2.1, q1.2.2))) q1.1) := (R_ev d kX10_undo 400 0 _ _ _).trans rfl
theorem bX10_redo_0 (d : Nat)  (M : j_M) (N : j_N) : R d kX10_redo 0 [.ref 0] [] (S0, M, N) =
  ((C d 14 [.ref 22, .ref 1] S0 M N).bind fun q1 => j_oi none (fun r1 =>
  some (some (.int r1), (S0, q1.2.1, q1.2.2))) q1.1) := (R_ev d kX10_redo 400 0 _ _ _).trans rfl
theorem bX10_body_0 (d : Nat) (x1 : Int32) (M : j_M) (N : j_N) : R d kX10_body 0 [.ref 0, .int x1] [] (S0, M, N) =
  ((C d 147 [.int x1, .int 0, .int 7] S0 M N).bind fun q1 => j_oi none (fun r1 =>
  if r1 = 0 then
    some (some (.int (-1)), (S0, q1.2.1, q1.2.2))
  else
    (C d 3 [.ref 30, .int x1] S0 q1.2.1 q1.2.2).bind fun q2 => j_oi none (fun r2 =>
    some (some (.int r2), (S0, q2.2.1, q2.2.2))) q2.1) q1.1) := (R_ev d kX10_body 400 0 _ _ _).trans rfl
theorem bX10_act_0 (d : Nat) (x1 : Int32) (x2 : Int32) (x3 : Int32) (M : j_M) (N : j_N) : R d kX10_act 0 [.ref 0, .int x1, .int x2, .int x3] [] (S0, M, N) =
  ((C d 6 [.ref 30, .int x1, .int x2, .int x3] S0 M N).bind fun q1 => j_oi none (fun r1 =>
  some (some (.int r1), (S0, q1.2.1, q1.2.2))) q1.1) := (R_ev d kX10_act 400 0 _ _ _).trans rfl
theorem bX10_trace_0 (d : Nat) (x1 : Int32) (M : j_M) (N : j_N) : R d kX10_trace 0 [.ref 0, .int x1] [] (S0, M, N) =
  ((C d 5 [.ref 30, .int x1] S0 M N).bind fun q1 => j_oi none (fun r1 =>
  some (some (.int r1), (S0, q1.2.1, q1.2.2))) q1.1) := (R_ev d kX10_trace 400 0 _ _ _).trans rfl
theorem bX10_keep_0 (d : Nat) (x1 : Int32) (x2 : Int32) (M : j_M) (N : j_N) : R d kX10_keep 0 [.ref 0, .int x1, .int x2] [] (S0, M, N) =
  ((C d 148 [.int x1] S0 M N).bind fun q1 => j_oi none (fun r1 =>
  if r1 = 0 then
    some (some (.int (-1)), (S0, q1.2.1, q1.2.2))
  else
    if x2 = (-1) then
      bif j_in x1 6 && (j_nth (j_at S0 33).2.2 (x1).toNatClampNeg).isSome then
      bif Nat.beq (j_at S0 ((j_nth (j_at S0 33).2.2 (x1).toNatClampNeg).getD 0)).1 12 && Nat.ble 0 8 then (C d 100 [.ref ((j_nth (j_at S0 33).2.2 (x1).toNatClampNeg).getD 0), .int x2] S0 q1.2.1 q1.2.2).bind fun q2 => j_ov none (
      some (some (.int 1), (S0, q2.2.1, q2.2.2))) q2.1 else none else none
    else
      (C d 1 [.ref 30, .int x2] S0 q1.2.1 q1.2.2).bind fun q3 => j_oi none (fun r3 =>
      if r3 = 0 then
        some (some (.int (-1)), (S0, q3.2.1, q3.2.2))
      else
        bif j_in x1 6 && (j_nth (j_at S0 33).2.2 (x1).toNatClampNeg).isSome then
        bif Nat.beq (j_at S0 ((j_nth (j_at S0 33).2.2 (x1).toNatClampNeg).getD 0)).1 12 && Nat.ble 0 8 then (C d 100 [.ref ((j_nth (j_at S0 33).2.2 (x1).toNatClampNeg).getD 0), .int x2] S0 q3.2.1 q3.2.2).bind fun q4 => j_ov none (
        some (some (.int 1), (S0, q4.2.1, q4.2.2))) q4.1 else none else none) q3.1) q1.1) := (R_ev d kX10_keep 400 0 _ _ _).trans rfl
theorem bX10_row_0 (d : Nat) (x1 : Int32) (x2 : Int32) (x3 : Int32) (M : j_M) (N : j_N) : R d kX10_row 0 [.ref 0, .int x1, .int x2, .int x3] [] (S0, M, N) =
  ((C d 148 [.int x1] S0 M N).bind fun q1 => j_oi none (fun r1 =>
  if r1 = 0 then
    some (some (.int (-1)), (S0, q1.2.1, q1.2.2))
  else
    (C d 147 [.int x2, .int 0, .int 4] S0 q1.2.1 q1.2.2).bind fun q2 => j_oi none (fun r2 =>
    if r2 = 0 then
      some (some (.int (-1)), (S0, q2.2.1, q2.2.2))
    else
      if x3 ≤ 60 then
        if 0 ≤ x3 then
          bif j_in x1 6 && (j_nth (j_at S0 33).2.2 (x1).toNatClampNeg).isSome then
          bif Nat.beq (j_at S0 ((j_nth (j_at S0 33).2.2 (x1).toNatClampNeg).getD 0)).1 12 && Nat.ble 0 8 then (C d 101 [.ref ((j_nth (j_at S0 33).2.2 (x1).toNatClampNeg).getD 0), .int x2, .int x3] S0 q2.2.1 q2.2.2).bind fun q3 => j_ov none (
          some (some (.int 1), (S0, q3.2.1, q3.2.2))) q3.1 else none else none
        else
          some (some (.int (-14)), (S0, q2.2.1, q2.2.2))
      else
        some (some (.int (-1)), (S0, q2.2.1, q2.2.2))) q2.1) q1.1) := (R_ev d kX10_row 400 0 _ _ _).trans rfl
theorem bX10_put_0 (d : Nat) (x1 : Int32) (x2 : Int32) (y3 : Int64) (M : j_M) (N : j_N) : R d kX10_put 0 [.ref 0, .int x1, .int x2, .long y3, .null, .null] [] (S0, M, N) =
  ((C d 148 [.int x1] S0 M N).bind fun q1 => j_oi none (fun r1 =>
  if r1 = 0 then
    some (some (.int (-1)), (S0, q1.2.1, q1.2.2))
  else
    bif j_in x1 6 && (j_nth (j_at S0 33).2.2 (x1).toNatClampNeg).isSome then
    bif Nat.beq (j_at S0 ((j_nth (j_at S0 33).2.2 (x1).toNatClampNeg).getD 0)).1 12 && Nat.ble 0 8 then (C d 103 [.ref ((j_nth (j_at S0 33).2.2 (x1).toNatClampNeg).getD 0), .int x2] S0 q1.2.1 q1.2.2).bind fun q2 => j_oi none (fun r2 =>
    if r2 = 0 then
      bif j_in x1 6 && (j_nth (j_at S0 33).2.2 (x1).toNatClampNeg).isSome then
      bif Nat.beq (j_at S0 ((j_nth (j_at S0 33).2.2 (x1).toNatClampNeg).getD 0)).1 12 && Nat.ble 0 8 then (C d 105 [.ref ((j_nth (j_at S0 33).2.2 (x1).toNatClampNeg).getD 0), .int x2, .long y3] S0 q2.2.1 q2.2.2).bind fun q3 => j_ov none (
      some (some (.int 1), (S0, q3.2.1, q3.2.2))) q3.1 else none else none
    else
      some (some (.int r2), (S0, q2.2.1, q2.2.2))) q2.1 else none else none) q1.1) := (R_ev d kX10_put 400 0 _ _ _).trans rfl
theorem bX10_element_0 (d : Nat) (x1 : Int32) (x2 : Int32) (M : j_M) (N : j_N) : R d kX10_element 0 [.ref 0, .int x1, .int x2] [] (S0, M, N) =
  ((C d 148 [.int x1] S0 M N).bind fun q1 => j_oi none (fun r1 =>
  if r1 = 0 then
    some (some (.long (-9223372036854775808)), (S0, q1.2.1, q1.2.2))
  else
    bif j_in x1 6 && (j_nth (j_at S0 33).2.2 (x1).toNatClampNeg).isSome then
    bif Nat.beq (j_at S0 ((j_nth (j_at S0 33).2.2 (x1).toNatClampNeg).getD 0)).1 12 && Nat.ble 0 8 then (C d 103 [.ref ((j_nth (j_at S0 33).2.2 (x1).toNatClampNeg).getD 0), .int x2] S0 q1.2.1 q1.2.2).bind fun q2 => j_oi none (fun r2 =>
    if r2 = 0 then
      bif j_in x1 6 && (j_nth (j_at S0 33).2.2 (x1).toNatClampNeg).isSome then
      bif Nat.beq (j_at S0 ((j_nth (j_at S0 33).2.2 (x1).toNatClampNeg).getD 0)).1 12 && Nat.ble 0 8 then (C d 104 [.ref ((j_nth (j_at S0 33).2.2 (x1).toNatClampNeg).getD 0), .int x2] S0 q2.2.1 q2.2.2).bind fun q3 => j_ol none (fun r3 =>
      some (some (.long r3), (S0, q3.2.1, q3.2.2))) q3.1 else none else none
    else
      some (some (.long (-9223372036854775808)), (S0, q2.2.1, q2.2.2))) q2.1 else none else none) q1.1) := (R_ev d kX10_element 400 0 _ _ _).trans rfl
theorem bX10_shift_0 (d : Nat) (x1 : Int32) (x2 : Int32) (x3 : Int32) (x4 : Int32) (x5 : Int32) (M : j_M) (N : j_N) : R d kX10_shift 0 [.ref 0, .int x1, .int x2, .int x3, .int x4, .int x5, .null, .null] [] (S0, M, N) =
  ((C d 148 [.int x1] S0 M N).bind fun q1 => j_oi none (fun r1 =>
  if r1 = 0 then
    some (some (.int (-1)), (S0, q1.2.1, q1.2.2))
  else
    (C d 148 [.int x3] S0 q1.2.1 q1.2.2).bind fun q2 => j_oi none (fun r2 =>
    if r2 = 0 then
      some (some (.int (-1)), (S0, q2.2.1, q2.2.2))
    else
      bif j_in x1 6 && (j_nth (j_at S0 33).2.2 (x1).toNatClampNeg).isSome then
      bif j_in x3 6 && (j_nth (j_at S0 33).2.2 (x3).toNatClampNeg).isSome then
      bif Nat.beq (j_at S0 ((j_nth (j_at S0 33).2.2 (x1).toNatClampNeg).getD 0)).1 12 && Nat.ble 0 8 then (C d 97 [.ref ((j_nth (j_at S0 33).2.2 (x1).toNatClampNeg).getD 0)] S0 q2.2.1 q2.2.2).bind fun q3 => j_oi none (fun r3 =>
      if r3 = 0 then
        bif Nat.beq (j_at S0 ((j_nth (j_at S0 33).2.2 (x3).toNatClampNeg).getD 0)).1 12 && Nat.ble 0 8 then (C d 97 [.ref ((j_nth (j_at S0 33).2.2 (x3).toNatClampNeg).getD 0)] S0 q3.2.1 q3.2.2).bind fun q4 => j_oi none (fun r4 =>
        if r4 = 0 then
          bif Nat.beq (j_at S0 ((j_nth (j_at S0 33).2.2 (x1).toNatClampNeg).getD 0)).1 12 && Nat.ble 0 8 then (C d 98 [.ref ((j_nth (j_at S0 33).2.2 (x1).toNatClampNeg).getD 0)] S0 q4.2.1 q4.2.2).bind fun q5 => j_oi none (fun r5 =>
          if r5 = 0 then
            some (some (.int (-12)), (S0, q5.2.1, q5.2.2))
          else
            bif Nat.beq (j_at S0 ((j_nth (j_at S0 33).2.2 (x1).toNatClampNeg).getD 0)).1 12 then
            bif Nat.beq (j_at S0 ((j_nth (j_at S0 33).2.2 (x3).toNatClampNeg).getD 0)).1 12 && Nat.ble 0 8 then (C d 99 [.ref ((j_nth (j_at S0 33).2.2 (x3).toNatClampNeg).getD 0), .int (q5.2.1 ((j_nth (j_at S0 33).2.2 (x1).toNatClampNeg).getD 0) 1)] S0 q5.2.1 q5.2.2).bind fun q6 => j_oi none (fun r6 =>
            if r6 = 0 then
              some (some (.int (-12)), (S0, q6.2.1, q6.2.2))
            else
              bif Nat.beq (j_at S0 ((j_nth (j_at S0 33).2.2 (x1).toNatClampNeg).getD 0)).1 12 && Nat.ble 0 8 then (C d 102 [.ref ((j_nth (j_at S0 33).2.2 (x1).toNatClampNeg).getD 0), .int x2, .int x5] S0 q6.2.1 q6.2.2).bind fun q7 => j_oi none (fun r7 =>
              if r7 = 0 then
                some (some (.int (-13)), (S0, q7.2.1, q7.2.2))
              else
                bif Nat.beq (j_at S0 ((j_nth (j_at S0 33).2.2 (x3).toNatClampNeg).getD 0)).1 12 && Nat.ble 0 8 then (C d 102 [.ref ((j_nth (j_at S0 33).2.2 (x3).toNatClampNeg).getD 0), .int x4, .int x5] S0 q7.2.1 q7.2.2).bind fun q8 => j_oi none (fun r8 =>
                if r8 = 0 then
                  some (some (.int (-13)), (S0, q8.2.1, q8.2.2))
                else
                  bif Nat.beq (j_at S0 ((j_nth (j_at S0 33).2.2 (x1).toNatClampNeg).getD 0)).1 12 then (bif (j_nth (j_at S0 ((j_nth (j_at S0 33).2.2 (x1).toNatClampNeg).getD 0)).2.2 0).isSome then
                  bif Nat.beq (j_at S0 ((j_nth (j_at S0 33).2.2 (x3).toNatClampNeg).getD 0)).1 12 then (bif (j_nth (j_at S0 ((j_nth (j_at S0 33).2.2 (x3).toNatClampNeg).getD 0)).2.2 0).isSome then
                  bif (!(decide (x2 < (0:Int32))) && !(decide (x4 < (0:Int32))) && !(decide (x5 < (0:Int32))) && Nat.ble ((x2).toNatClampNeg + (x5).toNatClampNeg) (j_at S0 ((j_nth (j_at S0 ((j_nth (j_at S0 33).2.2 (x1).toNatClampNeg).getD 0)).2.2 0).getD 0)).2.1 && Nat.ble ((x4).toNatClampNeg + (x5).toNatClampNeg) (j_at S0 ((j_nth (j_at S0 ((j_nth (j_at S0 33).2.2 (x3).toNatClampNeg).getD 0)).2.2 0).getD 0)).2.1) && Nat.ble 0 8 then
                  (bif Nat.beq (j_at S0 ((j_nth (j_at S0 ((j_nth (j_at S0 33).2.2 (x1).toNatClampNeg).getD 0)).2.2 0).getD 0)).1 0 && Nat.beq (j_at S0 ((j_nth (j_at S0 ((j_nth (j_at S0 33).2.2 (x3).toNatClampNeg).getD 0)).2.2 0).getD 0)).1 0 then some (some (.int x5), (S0, (j_row q8.2.1 ((j_nth (j_at S0 ((j_nth (j_at S0 33).2.2 (x3).toNatClampNeg).getD 0)).2.2 0).getD 0) (va_cpy (q8.2.1 ((j_nth (j_at S0 ((j_nth (j_at S0 33).2.2 (x1).toNatClampNeg).getD 0)).2.2 0).getD 0)) (q8.2.1 ((j_nth (j_at S0 ((j_nth (j_at S0 33).2.2 (x3).toNatClampNeg).getD 0)).2.2 0).getD 0)) (x2).toNatClampNeg (x4).toNatClampNeg (x5).toNatClampNeg)), q8.2.2)) else bif Nat.beq (j_at S0 ((j_nth (j_at S0 ((j_nth (j_at S0 33).2.2 (x1).toNatClampNeg).getD 0)).2.2 0).getD 0)).1 1 && Nat.beq (j_at S0 ((j_nth (j_at S0 ((j_nth (j_at S0 33).2.2 (x3).toNatClampNeg).getD 0)).2.2 0).getD 0)).1 1 then some (some (.int x5), (S0, q8.2.1, (j_rowl q8.2.2 ((j_nth (j_at S0 ((j_nth (j_at S0 33).2.2 (x3).toNatClampNeg).getD 0)).2.2 0).getD 0) (va_cpy (q8.2.2 ((j_nth (j_at S0 ((j_nth (j_at S0 33).2.2 (x1).toNatClampNeg).getD 0)).2.2 0).getD 0)) (q8.2.2 ((j_nth (j_at S0 ((j_nth (j_at S0 33).2.2 (x3).toNatClampNeg).getD 0)).2.2 0).getD 0)) (x2).toNatClampNeg (x4).toNatClampNeg (x5).toNatClampNeg)))) else none) else none else none) else none else none) else none) q8.1 else none) q7.1 else none) q6.1 else none else none) q5.1 else none
        else
          some (some (.int (-11)), (S0, q4.2.1, q4.2.2))) q4.1 else none
      else
        some (some (.int (-11)), (S0, q3.2.1, q3.2.2))) q3.1 else none else none else none) q2.1) q1.1) := (R_ev d kX10_shift 400 0 _ _ _).trans rfl
theorem bX10_taken_0 (d : Nat) (x1 : Int32) (x2 : Int32) (M : j_M) (N : j_N) : R d kX10_taken 0 [.ref 0, .int x1, .int x2, .null, .null] [] (S0, M, N) =
  ((C d 148 [.int x1] S0 M N).bind fun q1 => j_oi none (fun r1 =>
  if r1 = 0 then
    some (some (.int (-1)), (S0, q1.2.1, q1.2.2))
  else
    (C d 147 [.int x2, .int 0, .int 7] S0 q1.2.1 q1.2.2).bind fun q2 => j_oi none (fun r2 =>
    if r2 = 0 then
      some (some (.int (-1)), (S0, q2.2.1, q2.2.2))
    else
      bif j_in x1 6 && (j_nth (j_at S0 33).2.2 (x1).toNatClampNeg).isSome then
      bif Nat.beq (j_at S0 ((j_nth (j_at S0 33).2.2 (x1).toNatClampNeg).getD 0)).1 12 && Nat.ble 0 8 then (C d 97 [.ref ((j_nth (j_at S0 33).2.2 (x1).toNatClampNeg).getD 0)] S0 q2.2.1 q2.2.2).bind fun q3 => j_oi none (fun r3 =>
      if r3 = 0 then
        bif Nat.beq (j_at S0 ((j_nth (j_at S0 33).2.2 (x1).toNatClampNeg).getD 0)).1 12 && Nat.ble 0 8 then (C d 98 [.ref ((j_nth (j_at S0 33).2.2 (x1).toNatClampNeg).getD 0)] S0 q3.2.1 q3.2.2).bind fun q4 => j_oi none (fun r4 =>
        if r4 = 0 then
          bif Nat.beq (j_at S0 ((j_nth (j_at S0 33).2.2 (x1).toNatClampNeg).getD 0)).1 12 then
          (C d 2 [.ref 30, .int (q4.2.1 ((j_nth (j_at S0 33).2.2 (x1).toNatClampNeg).getD 0) 3)] S0 q4.2.1 q4.2.2).bind fun q5 => j_oi none (fun r5 =>
          (C d 4 [.int r5, .int x2] S0 q5.2.1 q5.2.2).bind fun q6 => j_oi none (fun r6 =>
          if r6 = 0 then
            some (some (.int (-12)), (S0, q6.2.1, q6.2.2))
          else
            some (some (.int r5), (S0, q6.2.1, q6.2.2))) q6.1) q5.1 else none
        else
          some (some (.int (-12)), (S0, q4.2.1, q4.2.2))) q4.1 else none
      else
        some (some (.int (-11)), (S0, q3.2.1, q3.2.2))) q3.1 else none else none) q2.1) q1.1) := (R_ev d kX10_taken 400 0 _ _ _).trans rfl
theorem bX10_count_0 (d : Nat) (x1 : Int32) (M : j_M) (N : j_N) : R d kX10_count 0 [.ref 0, .int x1] [] (S0, M, N) =
  (if x1 = 0 then
    some (some (.int (M 1 6)), (S0, M, N))
  else if x1 = 1 then
    some (some (.int (M 12 5)), (S0, M, N))
  else if x1 = 2 then
    some (some (.int (M 16 4)), (S0, M, N))
  else if x1 = 3 then
    some (some (.int (M 22 4)), (S0, M, N))
  else if x1 = 4 then
    some (some (.int (M 30 2)), (S0, M, N))
  else if x1 = 5 then
    some (some (.int (M 30 3)), (S0, M, N))
  else 
    some (some (.int (-1)), (S0, M, N))) := (R_ev d kX10_count 400 0 _ _ _).trans rfl
theorem bX10_within_0 (d : Nat) (x0 : Int32) (x1 : Int32) (x2 : Int32) (M : j_M) (N : j_N) : R d kX10_within 0 [.int x0, .int x1, .int x2] [] (S0, M, N) =
  (if x0 < x1 then
    some (some (.int 0), (S0, M, N))
  else
    if x2 < x0 then
      some (some (.int 0), (S0, M, N))
    else
      some (some (.int 1), (S0, M, N))) := (R_ev d kX10_within 400 0 _ _ _).trans rfl
theorem bX10_isShelf_0 (d : Nat) (x0 : Int32) (M : j_M) (N : j_N) : R d kX10_isShelf 0 [.int x0] [] (S0, M, N) =
  ((C d 147 [.int x0, .int 0, .int 5] S0 M N).bind fun q1 => j_oi none (fun r1 =>
  bif decide (r1 = 0) || decide (r1 = 1) then some (some (.int r1), (S0, q1.2.1, q1.2.2)) else none) q1.1) := (R_ev d kX10_isShelf 400 0 _ _ _).trans rfl
theorem bX10_comesFrom_0 (d : Nat) (a1 : Nat) (y2 : Int64) (M : j_M) (N : j_N) : R d kX10_comesFrom 0 [.ref 0, .ref a1, .long y2, .null, .null, .null] [] (S0, M, N) =
  (if 6 ≤ (M 1 6) then
    some (some (.int 0), (S0, M, N))
  else
    if (lg_cmp y2 0) < 0 then
      some (some (.int 0), (S0, M, N))
    else
      bif Nat.beq (j_at S0 a1).1 12 then
      if (lg_cmp (y2 + 1) (M a1 2).toInt64) < 0 then
        bif Nat.beq (j_at S0 a1).1 12 && Nat.ble 0 8 then (C d 104 [.ref a1, .int y2.toInt32] S0 M N).bind fun q1 => j_ol none (fun r1 =>
        bif Nat.beq (j_at S0 a1).1 12 && Nat.ble 0 8 then (C d 104 [.ref a1, .int (y2.toInt32 + 1)] S0 q1.2.1 q1.2.2).bind fun q2 => j_ol none (fun r2 =>
        (C d 147 [.int r1.toInt32, .int 0, .int 99] S0 q2.2.1 q2.2.2).bind fun q3 => j_oi none (fun r3 =>
        if r3 = 0 then
          some (some (.int 0), (S0, q3.2.1, q3.2.2))
        else
          (C d 147 [.int r2.toInt32, .int 0, .int r1.toInt32] S0 q3.2.1 q3.2.2).bind fun q4 => j_oi none (fun r4 =>
          if r4 = 0 then
            some (some (.int 0), (S0, q4.2.1, q4.2.2))
          else
            (C d 17 [.ref 1, .int r1.toInt32, .int r2.toInt32] S0 q4.2.1 q4.2.2).bind fun q5 => j_ov none (
            some (some (.int 1), (S0, q5.2.1, q5.2.2))) q5.1) q4.1) q3.1) q2.1 else none) q1.1 else none
      else
        some (some (.int 0), (S0, M, N)) else none) := (R_ev d kX10_comesFrom 400 0 _ _ _).trans rfl
theorem bX10_ofOne_0 (d : Nat) (x1 : Int32) (x2 : Int32) (M : j_M) (N : j_N) : R d kX10_ofOne 0 [.ref 0, .int x1, .int x2] [] (S0, M, N) =
  (if x2 = 0 then
    bif j_in x1 6 then
    some (some (.int (M 2 (x1).toNatClampNeg)), (S0, M, N)) else none
  else if x2 = 1 then
    bif j_in x1 6 then
    some (some (.int (M 3 (x1).toNatClampNeg)), (S0, M, N)) else none
  else if x2 = 2 then
    bif j_in x1 6 then
    some (some (.int (M 4 (x1).toNatClampNeg)), (S0, M, N)) else none
  else if x2 = 3 then
    bif j_in x1 6 then
    some (some (.int (M 5 (x1).toNatClampNeg)), (S0, M, N)) else none
  else if x2 = 4 then
    (C d 22 [.ref 8, .ref 1] S0 M N).bind fun q1 => j_ov none (
    (C d 26 [.ref 8, .int x1] S0 q1.2.1 q1.2.2).bind fun q2 => j_oi none (fun r2 =>
    some (some (.int r2), (S0, q2.2.1, q2.2.2))) q2.1) q1.1
  else if x2 = 5 then
    bif j_in x1 6 then
    some (some (.int (M 7 (x1).toNatClampNeg)), (S0, M, N)) else none
  else if x2 = 6 then
    bif j_in x1 6 then
    some (some (.int (M 6 (x1).toNatClampNeg)), (S0, M, N)) else none
  else 
    some (some (.int (-2000000000)), (S0, M, N))) := (R_ev d kX10_ofOne 400 0 _ _ _).trans rfl
theorem bX10_ofTheTable_0 (d : Nat) (x1 : Int32) (M : j_M) (N : j_N) : R d kX10_ofTheTable 0 [.ref 0, .int x1] [] (S0, M, N) =
  ((C d 22 [.ref 8, .ref 1] S0 M N).bind fun q1 => j_ov none (
  if x1 = 10 then
    some (some (.int (q1.2.1 1 7)), (S0, q1.2.1, q1.2.2))
  else if x1 = 11 then
    some (some (.int (q1.2.1 1 8)), (S0, q1.2.1, q1.2.2))
  else if x1 = 12 then
    some (some (.int (q1.2.1 1 9)), (S0, q1.2.1, q1.2.2))
  else if x1 = 13 then
    some (some (.int (q1.2.1 8 4)), (S0, q1.2.1, q1.2.2))
  else if x1 = 14 then
    some (some (.int (q1.2.1 8 5)), (S0, q1.2.1, q1.2.2))
  else if x1 = 15 then
    some (some (.int (q1.2.1 8 6)), (S0, q1.2.1, q1.2.2))
  else if x1 = 16 then
    some (some (.int (q1.2.1 1 10)), (S0, q1.2.1, q1.2.2))
  else if x1 = 17 then
    some (some (.int (q1.2.1 1 11)), (S0, q1.2.1, q1.2.2))
  else 
    some (some (.int (-2000000000)), (S0, q1.2.1, q1.2.2))) q1.1) := (R_ev d kX10_ofTheTable 400 0 _ _ _).trans rfl
theorem bX10_givenBy_0 (d : Nat) (x1 : Int32) (M : j_M) (N : j_N) : R d kX10_givenBy 0 [.ref 0, .int x1, .null] [] (S0, M, N) =
  (bif j_in x1 6 then
  if (M 6 (x1).toNatClampNeg) = (-1) then
    (C d 52 [.ref 16, .ref 1, .int x1, .int (M 1 7)] S0 M N).bind fun q2 => j_oi none (fun r2 =>
    some (some (.int r2), (S0, q2.2.1, q2.2.2))) q2.1
  else
    (C d 52 [.ref 16, .ref 1, .int x1, .int (M 6 (x1).toNatClampNeg)] S0 M N).bind fun q1 => j_oi none (fun r1 =>
    some (some (.int r1), (S0, q1.2.1, q1.2.2))) q1.1 else none) := (R_ev d kX10_givenBy 400 0 _ _ _).trans rfl
theorem bX10_refusalOfTold_0 (d : Nat) (x1 : Int32) (M : j_M) (N : j_N) : R d kX10_refusalOfTold 0 [.ref 0, .int x1] [] (S0, M, N) =
  ((C d 148 [.int x1] S0 M N).bind fun q1 => j_oi none (fun r1 =>
  if r1 = 0 then
    some (some (.int (-1)), (S0, q1.2.1, q1.2.2))
  else
    bif j_in x1 6 && (j_nth (j_at S0 33).2.2 (x1).toNatClampNeg).isSome then
    bif Nat.beq (j_at S0 ((j_nth (j_at S0 33).2.2 (x1).toNatClampNeg).getD 0)).1 12 && Nat.ble 0 8 then (C d 97 [.ref ((j_nth (j_at S0 33).2.2 (x1).toNatClampNeg).getD 0)] S0 q1.2.1 q1.2.2).bind fun q2 => j_oi none (fun r2 =>
    if r2 = 0 then
      bif j_in x1 6 && (j_nth (j_at S0 33).2.2 (x1).toNatClampNeg).isSome then
      bif Nat.beq (j_at S0 ((j_nth (j_at S0 33).2.2 (x1).toNatClampNeg).getD 0)).1 12 && Nat.ble 0 8 then (C d 99 [.ref ((j_nth (j_at S0 33).2.2 (x1).toNatClampNeg).getD 0), .int 1] S0 q2.2.1 q2.2.2).bind fun q3 => j_oi none (fun r3 =>
      if r3 = 0 then
        some (some (.int (-12)), (S0, q3.2.1, q3.2.2))
      else
        some (some (.int 0), (S0, q3.2.1, q3.2.2))) q3.1 else none else none
    else
      some (some (.int (-11)), (S0, q2.2.1, q2.2.2))) q2.1 else none else none) q1.1) := (R_ev d kX10_refusalOfTold 400 0 _ _ _).trans rfl
theorem bX10_fraction_0 (d : Nat) (y0 : Int64) (y2 : Int64) (x4 : Int32) (M : j_M) (N : j_N) : R d kX10_fraction 0 [.long y0, .null, .long y2, .null, .int x4, .null, .null, .null, .null, .null, .null, .null] [] (S0, M, N) =
  (R d kX10_fraction 9 [.long y0, .null, .long y2, .null, .int x4, .long y0, .null, .long y2, .null, .int 0, .null, .null] [] (S0, M, N)) := (R_ev d kX10_fraction 400 0 _ _ _).trans rfl
theorem bX10_fraction_9 (d : Nat) (y0 : Int64) (y2 : Int64) (x4 : Int32) (y5 : Int64) (y7 : Int64) (x9 : Int32) (M : j_M) (N : j_N) : R d kX10_fraction 9 [.long y0, .null, .long y2, .null, .int x4, .long y5, .null, .long y7, .null, .int x9, .null, .null] [] (S0, M, N) =
  (if 200 ≤ x9 then
    R d kX10_fraction 45 [.long y0, .null, .long y2, .null, .int x4, .long y5, .null, .null, .null, .null, .null, .null] [] (S0, M, N)
  else
    if (lg_cmp y7 0) = 0 then
      R d kX10_fraction 45 [.long y0, .null, .long y2, .null, .int x4, .long y5, .null, .null, .null, .null, .null, .null] [] (S0, M, N)
    else
      if y7 = 0 then none else
      R d kX10_fraction 9 [.long y0, .null, .long y2, .null, .int x4, .long y7, .null, .long (y5 - y5 / y7 * y7), .null, .int (x9 + 1), .null, .null] [] (S0, M, N)) := (R_ev d kX10_fraction 400 9 _ _ _).trans rfl
theorem bX10_fraction_45 (d : Nat) (y0 : Int64) (y2 : Int64) (x4 : Int32) (y5 : Int64) (M : j_M) (N : j_N) : R d kX10_fraction 45 [.long y0, .null, .long y2, .null, .int x4, .long y5, .null, .null, .null, .null, .null, .null] [] (S0, M, N) =
  (if x4 = 0 then
    if (lg_cmp y5 0) = 0 then
      some (some (.long y0), (S0, M, N))
    else
      if y5 = 0 then none else
      some (some (.long (y0 / y5)), (S0, M, N))
  else
    if (lg_cmp y5 0) = 0 then
      some (some (.long y2), (S0, M, N))
    else
      if y5 = 0 then none else
      some (some (.long (y2 / y5)), (S0, M, N))) := (R_ev d kX10_fraction 400 45 _ _ _).trans rfl
theorem bX11_within_0 (d : Nat) (y0 : Int64) (y2 : Int64) (y4 : Int64) (M : j_M) (N : j_N) : R d kX11_within 0 [.long y0, .null, .long y2, .null, .long y4, .null] [] (S0, M, N) =
  (if (lg_cmp y0 y2) < 0 then
    some (some (.int 0), (S0, M, N))
  else
    if 0 < (lg_cmp y0 y4) then
      some (some (.int 0), (S0, M, N))
    else
      some (some (.int 1), (S0, M, N))) := (R_ev d kX11_within 400 0 _ _ _).trans rfl
theorem bX11_becomes_0 (d : Nat) (x1 : Int32) (x2 : Int32) (M : j_M) (N : j_N) : R d kX11_becomes 0 [.ref 46, .int x1, .int x2, .null, .null] [] (S0, M, N) =
  (bif j_in x1 27 then
  if (M 47 (x1).toNatClampNeg) = x2 then
    some (some (.int (M 47 (x1).toNatClampNeg)), (S0, M, N))
  else
    if (M 46 5) = 40 then
      R d kX11_becomes 26 [.ref 46, .int x1, .int x2, .int (M 47 (x1).toNatClampNeg), .int 1] [] (S0, M, N)
    else
      R d kX11_becomes 97 [.ref 46, .int x1, .int x2, .int (M 47 (x1).toNatClampNeg), .null] [] (S0, M, N) else none) := (R_ev d kX11_becomes 400 0 _ _ _).trans rfl
theorem bX11_becomes_97 (d : Nat) (x1 : Int32) (x2 : Int32) (x3 : Int32) (M : j_M) (N : j_N) : R d kX11_becomes 97 [.ref 46, .int x1, .int x2, .int x3, .null] [] (S0, M, N) =
  (bif j_in (M 46 5) 40 then
  bif j_in (M 46 5) 40 then
  bif j_in (M 46 5) 40 then
  bif j_in x1 27 then
  some (some (.int x3), (S0, (j_w (j_w (j_w (j_w (j_w (j_w M 48 ((M 46 5)).toNatClampNeg x1) 49 ((M 46 5)).toNatClampNeg x3) 50 ((M 46 5)).toNatClampNeg x2) 46 5 ((M 46 5) + 1)) 46 4 ((M 46 5) + 1)) 47 (x1).toNatClampNeg x2), N)) else none else none else none else none) := (R_ev d kX11_becomes 400 97 _ _ _).trans rfl
theorem bX11_becomes_26 (d : Nat) (x1 : Int32) (x2 : Int32) (x3 : Int32) (x4 : Int32) (M : j_M) (N : j_N) : R d kX11_becomes 26 [.ref 46, .int x1, .int x2, .int x3, .int x4] [] (S0, M, N) =
  (if 40 ≤ x4 then
    R d kX11_becomes 97 [.ref 46, .int x1, .int x2, .int x3, .null] [] (S0, (j_w M 46 5 ((M 46 5) - 1)), N)
  else
    bif j_in x4 40 then
    bif j_in (x4 - 1) 40 then
    bif j_in x4 40 then
    bif j_in (x4 - 1) 40 then
    bif j_in x4 40 then
    bif j_in (x4 - 1) 40 then
    R d kX11_becomes 26 [.ref 46, .int x1, .int x2, .int x3, .int (x4 + 1)] [] (S0, (j_w (j_w (j_w M 48 ((x4 - 1)).toNatClampNeg (M 48 (x4).toNatClampNeg)) 49 ((x4 - 1)).toNatClampNeg (M 49 (x4).toNatClampNeg)) 50 ((x4 - 1)).toNatClampNeg (M 50 (x4).toNatClampNeg)), N) else none else none else none else none else none else none) := (R_ev d kX11_becomes 400 26 _ _ _).trans rfl
theorem bX11_undo_0 (d : Nat)  (M : j_M) (N : j_N) : R d kX11_undo 0 [.ref 46] [] (S0, M, N) =
  (if (M 46 5) = 0 then
    some (some (.int (-5)), (S0, M, N))
  else
    bif j_in ((M 46 5) - 1) 40 then
    bif j_in ((M 46 5) - 1) 40 then
    bif j_in (M 48 (((M 46 5) - 1)).toNatClampNeg) 27 then
    some (some (.int ((M 46 5) - 1)), (S0, (j_w (j_w M 46 5 ((M 46 5) - 1)) 47 ((M 48 (((M 46 5) - 1)).toNatClampNeg)).toNatClampNeg (M 49 (((M 46 5) - 1)).toNatClampNeg)), N)) else none else none else none) := (R_ev d kX11_undo 400 0 _ _ _).trans rfl
theorem bX11_redo_0 (d : Nat)  (M : j_M) (N : j_N) : R d kX11_redo 0 [.ref 46] [] (S0, M, N) =
  (if (M 46 5) = (M 46 4) then
    some (some (.int (-5)), (S0, M, N))
  else
    bif j_in (M 46 5) 40 then
    bif j_in (M 46 5) 40 then
    bif j_in (M 48 ((M 46 5)).toNatClampNeg) 27 then
    some (some (.int ((M 46 4) - ((M 46 5) + 1))), (S0, (j_w (j_w M 47 ((M 48 ((M 46 5)).toNatClampNeg)).toNatClampNeg (M 50 ((M 46 5)).toNatClampNeg)) 46 5 ((M 46 5) + 1)), N)) else none else none else none) := (R_ev d kX11_redo 400 0 _ _ _).trans rfl
theorem bX11_isGuest_0 (d : Nat) (x1 : Int32) (M : j_M) (N : j_N) : R d kX11_isGuest 0 [.ref 46, .int x1] [] (S0, M, N) =
  ((C d 155 [.long x1.toInt64, .long 0, .long ((M 46 6) - 1).toInt64] S0 M N).bind fun q1 => j_oi none (fun r1 =>
  bif decide (r1 = 0) || decide (r1 = 1) then some (some (.int r1), (S0, q1.2.1, q1.2.2)) else none) q1.1) := (R_ev d kX11_isGuest 400 0 _ _ _).trans rfl
theorem bX11_guest_0 (d : Nat) (x1 : Int32) (M : j_M) (N : j_N) : R d kX11_guest 0 [.ref 46, .int x1] [] (S0, M, N) =
  ((C d 155 [.long x1.toInt64, .long 0, .long 99] S0 M N).bind fun q1 => j_oi none (fun r1 =>
  if r1 = 0 then
    some (some (.int (-1)), (S0, q1.2.1, q1.2.2))
  else
    if (q1.2.1 46 6) = 6 then
      some (some (.int (-3)), (S0, q1.2.1, q1.2.2))
    else
      bif j_in (q1.2.1 46 6) 27 then
      some (some (.int (((q1.2.1 46 6) + 1) - 1)), (S0, (j_w (j_w q1.2.1 47 ((q1.2.1 46 6)).toNatClampNeg x1) 46 6 ((q1.2.1 46 6) + 1)), q1.2.2)) else none) q1.1) := (R_ev d kX11_guest 400 0 _ _ _).trans rfl
theorem bX11_guests_0 (d : Nat) (x1 : Int32) (x2 : Int32) (x3 : Int32) (M : j_M) (N : j_N) : R d kX11_guests 0 [.ref 46, .int x1, .int x2, .int x3, .null, .null, .null] [] (S0, M, N) =
  ((C d 235 [.int x1] S0 M N).bind fun q1 => j_oi none (fun r1 =>
  if r1 = 0 then
    some (some (.int (-1)), (S0, q1.2.1, q1.2.2))
  else
    (C d 155 [.long x3.toInt64, .long 1, .long 6] S0 q1.2.1 q1.2.2).bind fun q2 => j_oi none (fun r2 =>
    if r2 = 0 then
      some (some (.int (-1)), (S0, q2.2.1, q2.2.2))
    else
      bif j_in x1 6 then
      if (q2.2.1 66 (x1).toNatClampNeg) < 0 then
        bif j_in x1 6 then
        if (q2.2.1 66 (x1).toNatClampNeg) = 50 then
          if x2 < 0 then
            R d kX11_guests 69 [.ref 46, .int x1, .int x2, .int x3, .int 0, .int 0, .null] [] (S0, q2.2.1, q2.2.2)
          else
            R d kX11_guests 69 [.ref 46, .int x1, .int x2, .int x3, .int 0, .int 1, .null] [] (S0, q2.2.1, q2.2.2)
        else
          R d kX11_guests 69 [.ref 46, .int x1, .int x2, .int x3, .int 0, .int 0, .null] [] (S0, q2.2.1, q2.2.2) else none
      else
        bif j_in x1 6 then
        if (q2.2.1 66 (x1).toNatClampNeg) = 50 then
          bif j_in x1 6 then
          if (q2.2.1 66 (x1).toNatClampNeg) = 50 then
            if x2 < 0 then
              R d kX11_guests 69 [.ref 46, .int x1, .int x2, .int x3, .int 0, .int 0, .null] [] (S0, q2.2.1, q2.2.2)
            else
              R d kX11_guests 69 [.ref 46, .int x1, .int x2, .int x3, .int 0, .int 1, .null] [] (S0, q2.2.1, q2.2.2)
          else
            R d kX11_guests 69 [.ref 46, .int x1, .int x2, .int x3, .int 0, .int 0, .null] [] (S0, q2.2.1, q2.2.2) else none
        else
          some (some (.int (-12)), (S0, q2.2.1, q2.2.2)) else none else none) q2.1) q1.1) := (R_ev d kX11_guests 400 0 _ _ _).trans rfl
theorem bX11_guests_69 (d : Nat) (x1 : Int32) (x2 : Int32) (x3 : Int32) (x4 : Int32) (x5 : Int32) (M : j_M) (N : j_N) : R d kX11_guests 69 [.ref 46, .int x1, .int x2, .int x3, .int x4, .int x5, .null] [] (S0, M, N) =
  (if x5 = 0 then
    some (some (.int x4), (S0, M, N))
  else
    if x3 ≤ x4 then
      some (some (.int x4), (S0, M, N))
    else
      bif j_in x1 6 then
      if (((M 67 (x1).toNatClampNeg) - 2) - (2 * x4)) < x2 then
        R d kX11_guests 111 [.ref 46, .int x1, .int x2, .int x3, .int x4, .null, .null] [.int 0] (S0, M, N)
      else
        if 6 ≤ (M 46 6) then
          R d kX11_guests 111 [.ref 46, .int x1, .int x2, .int x3, .int x4, .null, .null] [.int 0] (S0, M, N)
        else
          R d kX11_guests 111 [.ref 46, .int x1, .int x2, .int x3, .int x4, .null, .null] [.int 1] (S0, M, N) else none) := (R_ev d kX11_guests 400 69 _ _ _).trans rfl
theorem bX11_guests_111 (d : Nat) (x1 : Int32) (x2 : Int32) (x3 : Int32) (x4 : Int32) (s0 : Int32) (M : j_M) (N : j_N) : R d kX11_guests 111 [.ref 46, .int x1, .int x2, .int x3, .int x4, .null, .null] [.int s0] (S0, M, N) =
  (if s0 = 0 then
    R d kX11_guests 176 [.ref 46, .int x1, .int x2, .int x3, .int x4, .null, .int (((60 * x1) + x2) + (2 * x4))] [.int 0] (S0, M, N)
  else
    bif j_in (((60 * x1) + x2) + (2 * x4)) 360 then
    (C d 155 [.long (N 68 ((((60 * x1) + x2) + (2 * x4))).toNatClampNeg), .long 0, .long 99] S0 M N).bind fun q1 => j_oi none (fun r1 =>
    if r1 = 0 then
      R d kX11_guests 176 [.ref 46, .int x1, .int x2, .int x3, .int x4, .null, .int (((60 * x1) + x2) + (2 * x4))] [.int 0] (S0, q1.2.1, q1.2.2)
    else
      bif j_in ((((60 * x1) + x2) + (2 * x4)) + 1) 360 then
      bif j_in (((60 * x1) + x2) + (2 * x4)) 360 then
      (C d 155 [.long (q1.2.2 68 (((((60 * x1) + x2) + (2 * x4)) + 1)).toNatClampNeg), .long 0, .long (q1.2.2 68 ((((60 * x1) + x2) + (2 * x4))).toNatClampNeg)] S0 q1.2.1 q1.2.2).bind fun q2 => j_oi none (fun r2 =>
      if r2 = 0 then
        R d kX11_guests 176 [.ref 46, .int x1, .int x2, .int x3, .int x4, .null, .int (((60 * x1) + x2) + (2 * x4))] [.int 0] (S0, q2.2.1, q2.2.2)
      else
        R d kX11_guests 176 [.ref 46, .int x1, .int x2, .int x3, .int x4, .null, .int (((60 * x1) + x2) + (2 * x4))] [.int 1] (S0, q2.2.1, q2.2.2)) q2.1 else none else none) q1.1 else none) := (R_ev d kX11_guests 400 111 _ _ _).trans rfl
theorem bX11_guests_176 (d : Nat) (x1 : Int32) (x2 : Int32) (x3 : Int32) (x4 : Int32) (x6 : Int32) (s0 : Int32) (M : j_M) (N : j_N) : R d kX11_guests 176 [.ref 46, .int x1, .int x2, .int x3, .int x4, .null, .int x6] [.int s0] (S0, M, N) =
  (if s0 = 0 then
    R d kX11_guests 69 [.ref 46, .int x1, .int x2, .int x3, .int x4, .int s0, .null] [] (S0, M, N)
  else
    bif j_in x6 360 then
    bif j_in (M 46 6) 27 then
    bif j_in (x6 + 1) 360 then
    bif j_in (6 + (M 46 6)) 27 then
    R d kX11_guests 69 [.ref 46, .int x1, .int x2, .int x3, .int (x4 + 1), .int s0, .null] [] (S0, (j_w (j_w (j_w M 47 ((M 46 6)).toNatClampNeg (N 68 (x6).toNatClampNeg).toInt32) 47 ((6 + (M 46 6))).toNatClampNeg (N 68 ((x6 + 1)).toNatClampNeg).toInt32) 46 6 ((M 46 6) + 1)), N) else none else none else none else none) := (R_ev d kX11_guests 400 176 _ _ _).trans rfl
theorem bX11_mend_0 (d : Nat) (x1 : Int32) (x2 : Int32) (x3 : Int32) (M : j_M) (N : j_N) : R d kX11_mend 0 [.ref 46, .int x1, .int x2, .int x3] [] (S0, M, N) =
  (if x2 = 0 then
    (C d 160 [.ref 46, .int x1] S0 M N).bind fun q1 => j_oi none (fun r1 =>
    if r1 = 0 then
      some (some (.int (-1)), (S0, q1.2.1, q1.2.2))
    else
      (C d 155 [.long x3.toInt64, .long 0, .long 99] S0 q1.2.1 q1.2.2).bind fun q2 => j_oi none (fun r2 =>
      if r2 = 0 then
        some (some (.int (-1)), (S0, q2.2.1, q2.2.2))
      else
        (C d 157 [.ref 46, .int x1, .int x3] S0 q2.2.1 q2.2.2).bind fun q3 => j_oi none (fun r3 =>
        some (some (.int r3), (S0, q3.2.1, q3.2.2))) q3.1) q2.1) q1.1
  else if x2 = 1 then
    (C d 160 [.ref 46, .int x1] S0 M N).bind fun q4 => j_oi none (fun r4 =>
    if r4 = 0 then
      some (some (.int (-1)), (S0, q4.2.1, q4.2.2))
    else
      bif j_in x1 27 then
      (C d 155 [.long x3.toInt64, .long 0, .long (q4.2.1 47 (x1).toNatClampNeg).toInt64] S0 q4.2.1 q4.2.2).bind fun q5 => j_oi none (fun r5 =>
      if r5 = 0 then
        some (some (.int (-1)), (S0, q5.2.1, q5.2.2))
      else
        (C d 157 [.ref 46, .int ((6 * x2) + x1), .int x3] S0 q5.2.1 q5.2.2).bind fun q6 => j_oi none (fun r6 =>
        some (some (.int r6), (S0, q6.2.1, q6.2.2))) q6.1) q5.1 else none) q4.1
  else if x2 = 2 then
    (C d 160 [.ref 46, .int x1] S0 M N).bind fun q7 => j_oi none (fun r7 =>
    if r7 = 0 then
      some (some (.int (-1)), (S0, q7.2.1, q7.2.2))
    else
      (C d 155 [.long x3.toInt64, .long 0, .long 12] S0 q7.2.1 q7.2.2).bind fun q8 => j_oi none (fun r8 =>
      if r8 = 0 then
        some (some (.int (-1)), (S0, q8.2.1, q8.2.2))
      else
        (C d 157 [.ref 46, .int (12 + x1), .int x3] S0 q8.2.1 q8.2.2).bind fun q9 => j_oi none (fun r9 =>
        some (some (.int r9), (S0, q9.2.1, q9.2.2))) q9.1) q8.1) q7.1
  else if x2 = 3 then
    (C d 160 [.ref 46, .int x1] S0 M N).bind fun q10 => j_oi none (fun r10 =>
    if r10 = 0 then
      some (some (.int (-1)), (S0, q10.2.1, q10.2.2))
    else
      bif j_in x1 27 then
      (C d 155 [.long x3.toInt64, .long 0, .long (q10.2.1 47 (x1).toNatClampNeg).toInt64] S0 q10.2.1 q10.2.2).bind fun q11 => j_oi none (fun r11 =>
      if r11 = 0 then
        some (some (.int (-1)), (S0, q11.2.1, q11.2.2))
      else
        (C d 157 [.ref 46, .int ((6 * x2) + x1), .int x3] S0 q11.2.1 q11.2.2).bind fun q12 => j_oi none (fun r12 =>
        some (some (.int r12), (S0, q12.2.1, q12.2.2))) q12.1) q11.1 else none) q10.1
  else if x2 = 4 then
    if x1 = 0 then
      (C d 155 [.long x3.toInt64, .long 0, .long 599] S0 M N).bind fun q13 => j_oi none (fun r13 =>
      if r13 = 0 then
        some (some (.int (-1)), (S0, q13.2.1, q13.2.2))
      else
        (C d 157 [.ref 46, .int 24, .int x3] S0 q13.2.1 q13.2.2).bind fun q14 => j_oi none (fun r14 =>
        some (some (.int r14), (S0, q14.2.1, q14.2.2))) q14.1) q13.1
    else
      some (some (.int (-1)), (S0, M, N))
  else if x2 = 5 then
    if x1 = 0 then
      (C d 155 [.long x3.toInt64, .long 0, .long 4] S0 M N).bind fun q15 => j_oi none (fun r15 =>
      if r15 = 0 then
        some (some (.int (-1)), (S0, q15.2.1, q15.2.2))
      else
        (C d 157 [.ref 46, .int 25, .int x3] S0 q15.2.1 q15.2.2).bind fun q16 => j_oi none (fun r16 =>
        some (some (.int r16), (S0, q16.2.1, q16.2.2))) q16.1) q15.1
    else
      some (some (.int (-1)), (S0, M, N))
  else if x2 = 6 then
    if x1 = 0 then
      (C d 155 [.long x3.toInt64, .long 1, .long 99] S0 M N).bind fun q17 => j_oi none (fun r17 =>
      if r17 = 0 then
        some (some (.int (-1)), (S0, q17.2.1, q17.2.2))
      else
        (C d 157 [.ref 46, .int 26, .int x3] S0 q17.2.1 q17.2.2).bind fun q18 => j_oi none (fun r18 =>
        some (some (.int r18), (S0, q18.2.1, q18.2.2))) q18.1) q17.1
    else
      some (some (.int (-1)), (S0, M, N))
  else 
    some (some (.int (-1)), (S0, M, N))) := (R_ev d kX11_mend 400 0 _ _ _).trans rfl
theorem bX11_ofGuest_0 (d : Nat) (x1 : Int32) (x2 : Int32) (M : j_M) (N : j_N) : R d kX11_ofGuest 0 [.ref 46, .int x1, .int x2] [] (S0, M, N) =
  (if x2 = 4 then
    (C d 175 [.ref 46, .int x1] S0 M N).bind fun q1 => j_oi none (fun r1 =>
    some (some (.int r1), (S0, q1.2.1, q1.2.2))) q1.1
  else if x2 = 5 then
    bif j_in x1 6 then
    some (some (.int (M 52 (x1).toNatClampNeg)), (S0, M, N)) else none
  else if x2 = 6 then
    bif j_in x1 6 then
    some (some (.int (M 51 (x1).toNatClampNeg)), (S0, M, N)) else none
  else 
    bif j_in ((6 * x2) + x1) 27 then
    some (some (.int (M 47 (((6 * x2) + x1)).toNatClampNeg)), (S0, M, N)) else none) := (R_ev d kX11_ofGuest 400 0 _ _ _).trans rfl
theorem bX11_of_0 (d : Nat) (x1 : Int32) (x2 : Int32) (M : j_M) (N : j_N) : R d kX11_of 0 [.ref 46, .int x1, .int x2, .null, .null] [] (S0, M, N) =
  ((C d 155 [.long x2.toInt64, .long 0, .long 6] S0 M N).bind fun q1 => j_oi none (fun r1 =>
  if r1 = 0 then
    if x1 = 0 then
      R d kX11_of 44 [.ref 46, .null, .int x2, .int 0, .int 0] [] (S0, q1.2.1, q1.2.2)
    else
      some (some (.int (-2000000000)), (S0, q1.2.1, q1.2.2))
  else
    (C d 160 [.ref 46, .int x1] S0 q1.2.1 q1.2.2).bind fun q2 => j_oi none (fun r2 =>
    if r2 = 0 then
      some (some (.int (-2000000000)), (S0, q2.2.1, q2.2.2))
    else
      (C d 164 [.ref 46, .int x1, .int x2] S0 q2.2.1 q2.2.2).bind fun q3 => j_oi none (fun r3 =>
      some (some (.int r3), (S0, q3.2.1, q3.2.2))) q3.1) q2.1) q1.1) := (R_ev d kX11_of 400 0 _ _ _).trans rfl
theorem bX11_of_44 (d : Nat) (x2 : Int32) (x3 : Int32) (x4 : Int32) (M : j_M) (N : j_N) : R d kX11_of 44 [.ref 46, .null, .int x2, .int x3, .int x4] [] (S0, M, N) =
  (if (M 46 6) ≤ x4 then
    if x2 = 10 then
      bif j_in ((24 + x2) - 10) 27 then
      some (some (.int (M 47 (((24 + x2) - 10)).toNatClampNeg)), (S0, M, N)) else none
    else if x2 = 11 then
      bif j_in ((24 + x2) - 10) 27 then
      some (some (.int (M 47 (((24 + x2) - 10)).toNatClampNeg)), (S0, M, N)) else none
    else if x2 = 12 then
      bif j_in ((24 + x2) - 10) 27 then
      some (some (.int (M 47 (((24 + x2) - 10)).toNatClampNeg)), (S0, M, N)) else none
    else if x2 = 13 then
      some (some (.int x3), (S0, M, N))
    else if x2 = 14 then
      if ((M 47 24) - x3) ≤ 0 then
        some (some (.int 0), (S0, M, N))
      else
        some (some (.int ((M 47 24) - x3)), (S0, M, N))
    else if x2 = 15 then
      if 0 ≤ ((M 47 24) - x3) then
        some (some (.int 0), (S0, M, N))
      else
        some (some (.int (-((M 47 24) - x3))), (S0, M, N))
    else if x2 = 16 then
      some (some (.int (M 46 10)), (S0, M, N))
    else if x2 = 17 then
      some (some (.int (M 46 9)), (S0, M, N))
    else 
      some (some (.int (-2000000000)), (S0, M, N))
  else
    bif j_in (6 + x4) 27 then
    R d kX11_of 44 [.ref 46, .null, .int x2, .int (x3 + (M 47 ((6 + x4)).toNatClampNeg)), .int (x4 + 1)] [] (S0, M, N) else none) := (R_ev d kX11_of 400 44 _ _ _).trans rfl
theorem bX11_think_0 (d : Nat) (x1 : Int32) (x2 : Int32) (M : j_M) (N : j_N) : R d kX11_think 0 [.ref 46, .int x1, .int x2, .null] [] (S0, M, N) =
  ((C d 160 [.ref 46, .int x1] S0 M N).bind fun q1 => j_oi none (fun r1 =>
  if r1 = 0 then
    some (some (.int (-2000000000)), (S0, q1.2.1, q1.2.2))
  else
    (C d 155 [.long x2.toInt64, .long (-1), .long 599] S0 q1.2.1 q1.2.2).bind fun q2 => j_oi none (fun r2 =>
    if r2 = 0 then
      some (some (.int (-2000000000)), (S0, q2.2.1, q2.2.2))
    else
      bif j_in x1 6 then
      bif j_in x1 6 then
      some (some (.int (q2.2.1 51 (x1).toNatClampNeg)), (S0, (j_w q2.2.1 51 (x1).toNatClampNeg x2), q2.2.2)) else none else none) q2.1) q1.1) := (R_ev d kX11_think 400 0 _ _ _).trans rfl
theorem bX11_laysOut_0 (d : Nat)  (M : j_M) (N : j_N) : R d kX11_laysOut 0 [.ref 46, .null] [] (S0, M, N) =
  (R d kX11_laysOut 10 [.ref 46, .int 0] [] (S0, (j_w M 46 12 (M 46 6)), N)) := (R_ev d kX11_laysOut 400 0 _ _ _).trans rfl
theorem bX11_laysOut_10 (d : Nat) (x1 : Int32) (M : j_M) (N : j_N) : R d kX11_laysOut 10 [.ref 46, .int x1] [] (S0, M, N) =
  (if (M 46 6) ≤ x1 then
    some (none, (S0, M, N))
  else
    bif j_in (6 + x1) 27 then
    bif j_in x1 7 then
    R d kX11_laysOut 10 [.ref 46, .int (x1 + 1)] [] (S0, (j_w M 53 (x1).toNatClampNeg (M 47 ((6 + x1)).toNatClampNeg)), N) else none else none) := (R_ev d kX11_laysOut 400 10 _ _ _).trans rfl
theorem bX11_leastBut_0 (d : Nat) (x1 : Int32) (M : j_M) (N : j_N) : R d kX11_leastBut 0 [.ref 46, .int x1, .null, .null] [] (S0, M, N) =
  (R d kX11_leastBut 4 [.ref 46, .int x1, .int (-1), .int 0] [] (S0, M, N)) := (R_ev d kX11_leastBut 400 0 _ _ _).trans rfl
theorem bX11_leastBut_4 (d : Nat) (x1 : Int32) (x2 : Int32) (x3 : Int32) (M : j_M) (N : j_N) : R d kX11_leastBut 4 [.ref 46, .int x1, .int x2, .int x3] [] (S0, M, N) =
  (if (M 46 12) ≤ x3 then
    some (some (.int x2), (S0, M, N))
  else
    if x3 = x1 then
      R d kX11_leastBut 4 [.ref 46, .int x1, .int x2, .int (x3 + 1)] [] (S0, M, N)
    else
      if x2 < 0 then
        R d kX11_leastBut 4 [.ref 46, .int x1, .int x3, .int (x3 + 1)] [] (S0, M, N)
      else
        bif j_in x3 7 then
        bif j_in x2 7 then
        if (M 53 (x2).toNatClampNeg) ≤ (M 53 (x3).toNatClampNeg) then
          R d kX11_leastBut 4 [.ref 46, .int x1, .int x2, .int (x3 + 1)] [] (S0, M, N)
        else
          R d kX11_leastBut 4 [.ref 46, .int x1, .int x3, .int (x3 + 1)] [] (S0, M, N) else none else none) := (R_ev d kX11_leastBut 400 4 _ _ _).trans rfl
theorem bX11_alikePay_0 (d : Nat) (x1 : Int32) (M : j_M) (N : j_N) : R d kX11_alikePay 0 [.ref 46, .int x1, .null, .null, .null, .null] [] (S0, M, N) =
  ((C d 168 [.ref 46, .int (-1)] S0 M N).bind fun q1 => j_oi none (fun r1 =>
  bif j_in r1 7 then
  R d kX11_alikePay 16 [.ref 46, .int x1, .int (q1.2.1 53 (r1).toNatClampNeg), .int 0, .int 0, .null] [] (S0, q1.2.1, q1.2.2) else none) q1.1) := (R_ev d kX11_alikePay 400 0 _ _ _).trans rfl
theorem bX11_alikePay_16 (d : Nat) (x1 : Int32) (x2 : Int32) (x3 : Int32) (x4 : Int32) (M : j_M) (N : j_N) : R d kX11_alikePay 16 [.ref 46, .int x1, .int x2, .int x3, .int x4, .null] [] (S0, M, N) =
  (if (M 46 12) ≤ x4 then
    if x3 = 0 then none else
    R d kX11_alikePay 58 [.ref 46, .int x1, .int x2, .int x3, .int (x1 - x1 / x3 * x3), .int 0] [] (S0, M, N)
  else
    bif j_in x4 7 then
    if (M 53 (x4).toNatClampNeg) = x2 then
      R d kX11_alikePay 16 [.ref 46, .int x1, .int x2, .int (x3 + 1), .int (x4 + 1), .null] [] (S0, M, N)
    else
      R d kX11_alikePay 16 [.ref 46, .int x1, .int x2, .int (x3 + 0), .int (x4 + 1), .null] [] (S0, M, N) else none) := (R_ev d kX11_alikePay 400 16 _ _ _).trans rfl
theorem bX11_alikePay_58 (d : Nat) (x1 : Int32) (x2 : Int32) (x3 : Int32) (x4 : Int32) (x5 : Int32) (M : j_M) (N : j_N) : R d kX11_alikePay 58 [.ref 46, .int x1, .int x2, .int x3, .int x4, .int x5] [] (S0, M, N) =
  (if (M 46 12) ≤ x5 then
    some (none, (S0, M, N))
  else
    bif j_in x5 7 then
    if (M 53 (x5).toNatClampNeg) = x2 then
      if x3 = 0 then none else
      if x4 ≤ 0 then
        bif j_in x5 7 then
        R d kX11_alikePay 58 [.ref 46, .int x1, .int x2, .int x3, .int (x4 + (-1)), .int (x5 + 1)] [] (S0, (j_w M 54 (x5).toNatClampNeg ((x1 / x3) + 0)), N) else none
      else
        bif j_in x5 7 then
        R d kX11_alikePay 58 [.ref 46, .int x1, .int x2, .int x3, .int (x4 + (-1)), .int (x5 + 1)] [] (S0, (j_w M 54 (x5).toNatClampNeg ((x1 / x3) + 1)), N) else none
    else
      R d kX11_alikePay 58 [.ref 46, .int x1, .int x2, .int x3, .int x4, .int (x5 + 1)] [] (S0, M, N) else none) := (R_ev d kX11_alikePay 400 58 _ _ _).trans rfl
theorem bX11_twoPay_0 (d : Nat) (x1 : Int32) (M : j_M) (N : j_N) : R d kX11_twoPay 0 [.ref 46, .int x1, .null, .null] [] (S0, M, N) =
  ((C d 168 [.ref 46, .int (-1)] S0 M N).bind fun q1 => j_oi none (fun r1 =>
  (C d 168 [.ref 46, .int r1] S0 q1.2.1 q1.2.2).bind fun q2 => j_oi none (fun r2 =>
  if 0 ≤ r2 then
    bif j_in r1 7 then
    if r2 < 0 then
      some (none, (S0, (j_w q2.2.1 54 (r1).toNatClampNeg (x1 - (x1 / 2))), q2.2.2))
    else
      bif j_in r2 7 then
      some (none, (S0, (j_w (j_w q2.2.1 54 (r1).toNatClampNeg (x1 - (x1 / 2))) 54 (r2).toNatClampNeg (x1 / 2)), q2.2.2)) else none else none
  else
    bif j_in r1 7 then
    if r2 < 0 then
      some (none, (S0, (j_w q2.2.1 54 (r1).toNatClampNeg x1), q2.2.2))
    else
      bif j_in r2 7 then
      some (none, (S0, (j_w (j_w q2.2.1 54 (r1).toNatClampNeg x1) 54 (r2).toNatClampNeg (x1 / 2)), q2.2.2)) else none else none) q2.1) q1.1) := (R_ev d kX11_twoPay 400 0 _ _ _).trans rfl
theorem bX11_givesBack_0 (d : Nat) (x1 : Int32) (M : j_M) (N : j_N) : R d kX11_givesBack 0 [.ref 46, .int x1, .null, .null] [] (S0, M, N) =
  (R d kX11_givesBack 4 [.ref 46, .int x1, .int 0, .int 1] [] (S0, M, N)) := (R_ev d kX11_givesBack 400 0 _ _ _).trans rfl
theorem bX11_givesBack_4 (d : Nat) (x1 : Int32) (x2 : Int32) (x3 : Int32) (M : j_M) (N : j_N) : R d kX11_givesBack 4 [.ref 46, .int x1, .int x2, .int x3] [] (S0, M, N) =
  (if (M 46 12) ≤ x3 then
    bif j_in x2 7 then
    if (M 53 (x2).toNatClampNeg) ≤ x1 then
      bif j_in x2 7 then
      bif j_in x2 7 then
      bif j_in x2 7 then
      some (none, (S0, (j_w (j_w M 55 (x2).toNatClampNeg (M 53 (x2).toNatClampNeg)) 46 15 (x1 - (M 53 (x2).toNatClampNeg))), N)) else none else none else none
    else
      bif j_in x2 7 then
      bif j_in x2 7 then
      some (none, (S0, (j_w (j_w M 55 (x2).toNatClampNeg x1) 46 15 (x1 - x1)), N)) else none else none else none
  else
    bif j_in x3 7 then
    bif j_in x2 7 then
    if (M 53 (x3).toNatClampNeg) ≤ (M 53 (x2).toNatClampNeg) then
      R d kX11_givesBack 4 [.ref 46, .int x1, .int x2, .int (x3 + 1)] [] (S0, M, N)
    else
      R d kX11_givesBack 4 [.ref 46, .int x1, .int x3, .int (x3 + 1)] [] (S0, M, N) else none else none) := (R_ev d kX11_givesBack 400 4 _ _ _).trans rfl
theorem bX11_nightBy_0 (d : Nat) (x1 : Int32) (x2 : Int32) (M : j_M) (N : j_N) : R d kX11_nightBy 0 [.ref 46, .int x1, .int x2, .null, .null, .null, .null] [] (S0, M, N) =
  (R d kX11_nightBy 5 [.ref 46, .int x1, .int x2, .int 0, .int 0, .null, .null] [] (S0, M, N)) := (R_ev d kX11_nightBy 400 0 _ _ _).trans rfl
theorem bX11_nightBy_5 (d : Nat) (x1 : Int32) (x2 : Int32) (x3 : Int32) (x4 : Int32) (M : j_M) (N : j_N) : R d kX11_nightBy 5 [.ref 46, .int x1, .int x2, .int x3, .int x4, .null, .null] [] (S0, M, N) =
  (if (M 46 12) ≤ x4 then
    if x1 ≤ x3 then
      if x3 ≤ x1 then
        R d kX11_nightBy 72 [.ref 46, .null, .int x2, .null, .int 0, .null, .null] [.int 0] (S0, M, N)
      else
        R d kX11_nightBy 72 [.ref 46, .null, .int x2, .null, .int 0, .null, .null] [.int (x3 - x1)] (S0, M, N)
    else
      if x3 ≤ x1 then
        R d kX11_nightBy 72 [.ref 46, .null, .int x2, .null, .int (x1 - x3), .null, .null] [.int 0] (S0, M, N)
      else
        R d kX11_nightBy 72 [.ref 46, .null, .int x2, .null, .int (x1 - x3), .null, .null] [.int (x3 - x1)] (S0, M, N)
  else
    bif j_in x4 7 then
    bif j_in x4 7 then
    bif j_in x4 7 then
    R d kX11_nightBy 5 [.ref 46, .int x1, .int x2, .int (x3 + (M 53 (x4).toNatClampNeg)), .int (x4 + 1), .null, .null] [] (S0, (j_w (j_w M 54 (x4).toNatClampNeg 0) 55 (x4).toNatClampNeg 0), N) else none else none else none) := (R_ev d kX11_nightBy 400 5 _ _ _).trans rfl
theorem bX11_nightBy_72 (d : Nat) (x2 : Int32) (x4 : Int32) (s0 : Int32) (M : j_M) (N : j_N) : R d kX11_nightBy 72 [.ref 46, .null, .int x2, .null, .int x4, .null, .null] [.int s0] (S0, M, N) =
  (if (M 46 12) = 0 then
    some (none, (S0, (j_w M 46 15 s0), N))
  else
    (C d 168 [.ref 46, .int (-1)] S0 (j_w M 46 15 s0) N).bind fun q1 => j_oi none (fun r1 =>
    if x2 = 0 then
      (C d 169 [.ref 46, .int x4] S0 q1.2.1 q1.2.2).bind fun q4 => j_ov none (
      if x2 = 4 then
        (C d 171 [.ref 46, .int s0] S0 q4.2.1 q4.2.2).bind fun q5 => j_ov none (
        some (none, (S0, q5.2.1, q5.2.2))) q5.1
      else
        some (none, (S0, q4.2.1, q4.2.2))) q4.1
    else
      if x2 = 2 then
        (C d 170 [.ref 46, .int x4] S0 q1.2.1 q1.2.2).bind fun q2 => j_ov none (
        if x2 = 4 then
          (C d 171 [.ref 46, .int s0] S0 q2.2.1 q2.2.2).bind fun q3 => j_ov none (
          some (none, (S0, q3.2.1, q3.2.2))) q3.1
        else
          some (none, (S0, q2.2.1, q2.2.2))) q2.1
      else
        if x2 = 3 then
          bif j_in r1 7 then
          R d kX11_nightBy 146 [.ref 46, .null, .int x2, .null, .null, .int s0, .int r1] [.int (q1.2.1 53 (r1).toNatClampNeg), .int x4, .int r1, .ref 54] (S0, q1.2.1, q1.2.2) else none
        else
          R d kX11_nightBy 146 [.ref 46, .null, .int x2, .null, .null, .int s0, .int r1] [.int 0, .int x4, .int r1, .ref 54] (S0, q1.2.1, q1.2.2)) q1.1) := (R_ev d kX11_nightBy 400 72 _ _ _).trans rfl
theorem bX11_nightBy_146 (d : Nat) (x2 : Int32) (x5 : Int32) (x6 : Int32) (s1 : Int32) (s2 : Int32) (s3 : Int32) (M : j_M) (N : j_N) : R d kX11_nightBy 146 [.ref 46, .null, .int x2, .null, .null, .int x5, .int x6] [.int s3, .int s2, .int s1, .ref 54] (S0, M, N) =
  (bif j_in s1 7 then
  if x2 = 3 then
    bif j_in x6 7 then
    if x2 = 4 then
      (C d 171 [.ref 46, .int x5] S0 (j_w (j_w M 54 (s1).toNatClampNeg (s2 + s3)) 46 15 ((M 46 15) + (M 53 (x6).toNatClampNeg))) N).bind fun q2 => j_ov none (
      some (none, (S0, q2.2.1, q2.2.2))) q2.1
    else
      some (none, (S0, (j_w (j_w M 54 (s1).toNatClampNeg (s2 + s3)) 46 15 ((M 46 15) + (M 53 (x6).toNatClampNeg))), N)) else none
  else
    if x2 = 4 then
      (C d 171 [.ref 46, .int x5] S0 (j_w (j_w M 54 (s1).toNatClampNeg (s2 + s3)) 46 15 ((M 46 15) + 0)) N).bind fun q1 => j_ov none (
      some (none, (S0, q1.2.1, q1.2.2))) q1.1
    else
      some (none, (S0, (j_w (j_w M 54 (s1).toNatClampNeg (s2 + s3)) 46 15 ((M 46 15) + 0)), N)) else none) := (R_ev d kX11_nightBy 400 146 _ _ _).trans rfl
theorem bX11_nightAsIs_0 (d : Nat)  (M : j_M) (N : j_N) : R d kX11_nightAsIs 0 [.ref 46] [] (S0, M, N) =
  ((C d 172 [.ref 46, .int (M 47 24), .int (M 47 25)] S0 M N).bind fun q1 => j_ov none (
  some (none, (S0, q1.2.1, q1.2.2))) q1.1) := (R_ev d kX11_nightAsIs 400 0 _ _ _).trans rfl
theorem bX11_costIn_0 (d : Nat) (x1 : Int32) (M : j_M) (N : j_N) : R d kX11_costIn 0 [.ref 46, .int x1] [] (S0, M, N) =
  (bif j_in x1 7 then
  bif j_in x1 7 then
  bif j_in x1 7 then
  some (some (.int (((M 53 (x1).toNatClampNeg) + (M 54 (x1).toNatClampNeg)) - (M 55 (x1).toNatClampNeg))), (S0, M, N)) else none else none else none) := (R_ev d kX11_costIn 400 0 _ _ _).trans rfl
theorem bX11_costNow_0 (d : Nat) (x1 : Int32) (M : j_M) (N : j_N) : R d kX11_costNow 0 [.ref 46, .int x1] [] (S0, M, N) =
  ((C d 167 [.ref 46] S0 M N).bind fun q1 => j_ov none (
  (C d 173 [.ref 46] S0 q1.2.1 q1.2.2).bind fun q2 => j_ov none (
  (C d 174 [.ref 46, .int x1] S0 q2.2.1 q2.2.2).bind fun q3 => j_oi none (fun r3 =>
  some (some (.int r3), (S0, q3.2.1, q3.2.2))) q3.1) q2.1) q1.1) := (R_ev d kX11_costNow 400 0 _ _ _).trans rfl
theorem bX11_costBy_0 (d : Nat) (x1 : Int32) (x2 : Int32) (M : j_M) (N : j_N) : R d kX11_costBy 0 [.ref 46, .int x1, .int x2, .null, .null] [] (S0, M, N) =
  (bif j_in x1 7 then
  bif j_in x1 7 then
  (C d 173 [.ref 46] S0 (j_w M 53 (x1).toNatClampNeg x2) N).bind fun q1 => j_ov none (
  (C d 174 [.ref 46, .int x1] S0 q1.2.1 q1.2.2).bind fun q2 => j_oi none (fun r2 =>
  bif j_in x1 7 then
  some (some (.int r2), (S0, (j_w q2.2.1 53 (x1).toNatClampNeg (M 53 (x1).toNatClampNeg)), q2.2.2)) else none) q2.1) q1.1 else none else none) := (R_ev d kX11_costBy 400 0 _ _ _).trans rfl
theorem bX11_leastCost_0 (d : Nat) (x1 : Int32) (M : j_M) (N : j_N) : R d kX11_leastCost 0 [.ref 46, .int x1, .null, .null, .null] [] (S0, M, N) =
  (R d kX11_leastCost 4 [.ref 46, .int x1, .int (-1), .int 0, .null] [] (S0, M, N)) := (R_ev d kX11_leastCost 400 0 _ _ _).trans rfl
theorem bX11_leastCost_4 (d : Nat) (x1 : Int32) (x2 : Int32) (x3 : Int32) (M : j_M) (N : j_N) : R d kX11_leastCost 4 [.ref 46, .int x1, .int x2, .int x3, .null] [] (S0, M, N) =
  (bif j_in x1 27 then
  if (M 47 (x1).toNatClampNeg) < x3 then
    some (some (.int x2), (S0, M, N))
  else
    (C d 176 [.ref 46, .int x1, .int x3] S0 M N).bind fun q1 => j_oi none (fun r1 =>
    if x2 < 0 then
      R d kX11_leastCost 4 [.ref 46, .int x1, .int r1, .int (x3 + (q1.2.1 47 26)), .null] [] (S0, (j_w q1.2.1 46 16 x3), q1.2.2)
    else
      if x2 ≤ r1 then
        R d kX11_leastCost 4 [.ref 46, .int x1, .int x2, .int (x3 + (q1.2.1 47 26)), .null] [] (S0, q1.2.1, q1.2.2)
      else
        R d kX11_leastCost 4 [.ref 46, .int x1, .int r1, .int (x3 + (q1.2.1 47 26)), .null] [] (S0, (j_w q1.2.1 46 16 x3), q1.2.2)) q1.1 else none) := (R_ev d kX11_leastCost 400 4 _ _ _).trans rfl
theorem bX11_putIn_0 (d : Nat) (x1 : Int32) (x2 : Int32) (M : j_M) (N : j_N) : R d kX11_putIn 0 [.ref 46, .int x1, .int x2, .null] [] (S0, M, N) =
  ((C d 160 [.ref 46, .int x1] S0 M N).bind fun q1 => j_oi none (fun r1 =>
  if r1 = 0 then
    some (some (.int (-2000000000)), (S0, q1.2.1, q1.2.2))
  else
    (C d 155 [.long x2.toInt64, .long 0, .long 1] S0 q1.2.1 q1.2.2).bind fun q2 => j_oi none (fun r2 =>
    if r2 = 0 then
      some (some (.int (-2000000000)), (S0, q2.2.1, q2.2.2))
    else
      (C d 167 [.ref 46] S0 q2.2.1 q2.2.2).bind fun q3 => j_ov none (
      (C d 177 [.ref 46, .int x1] S0 q3.2.1 q3.2.2).bind fun q4 => j_oi none (fun r4 =>
      if x2 = 0 then
        some (some (.int (q4.2.1 46 16)), (S0, q4.2.1, q4.2.2))
      else
        some (some (.int r4), (S0, q4.2.1, q4.2.2))) q4.1) q3.1) q2.1) q1.1) := (R_ev d kX11_putIn 400 0 _ _ _).trans rfl
theorem bX11_common_0 (d : Nat) (y0 : Int64) (y2 : Int64) (M : j_M) (N : j_N) : R d kX11_common 0 [.long y0, .null, .long y2, .null, .null, .null, .null, .null, .null, .null] [] (S0, M, N) =
  (R d kX11_common 6 [.null, .null, .null, .null, .long y0, .null, .long y2, .null, .null, .null] [] (S0, M, N)) := (R_ev d kX11_common 400 0 _ _ _).trans rfl
theorem bX11_common_6 (d : Nat) (y4 : Int64) (y6 : Int64) (M : j_M) (N : j_N) : R d kX11_common 6 [.null, .null, .null, .null, .long y4, .null, .long y6, .null, .null, .null] [] (S0, M, N) =
  (if (lg_cmp y6 0) = 0 then
    some (some (.long y4), (S0, M, N))
  else
    if y6 = 0 then none else
    R d kX11_common 6 [.null, .null, .null, .null, .long y6, .null, .long (y4 - y4 / y6 * y6), .null, .null, .null] [] (S0, M, N)) := (R_ev d kX11_common 400 6 _ _ _).trans rfl
theorem bX11_partOf_0 (d : Nat) (y0 : Int64) (y2 : Int64) (x4 : Int32) (M : j_M) (N : j_N) : R d kX11_partOf 0 [.long y0, .null, .long y2, .null, .int x4, .null, .null] [] (S0, M, N) =
  (if (lg_cmp y0 0) = 0 then
    some (some (.long x4.toInt64), (S0, M, N))
  else
    (C d 179 [.long y0, .long y2] S0 M N).bind fun q1 => j_ol none (fun r1 =>
    if x4 = 0 then
      if r1 = 0 then none else
      some (some (.long (y0 / r1)), (S0, q1.2.1, q1.2.2))
    else
      if r1 = 0 then none else
      some (some (.long (y2 / r1)), (S0, q1.2.1, q1.2.2))) q1.1) := (R_ev d kX11_partOf 400 0 _ _ _).trans rfl
theorem bX11_meanOf_0 (d : Nat) (x1 : Int32) (x2 : Int32) (M : j_M) (N : j_N) : R d kX11_meanOf 0 [.ref 46, .int x1, .int x2, .null, .null, .null, .null, .null, .null, .null] [] (S0, M, N) =
  (R d kX11_meanOf 5 [.ref 46, .int x1, .int x2, .long 0, .null, .int 0, .null, .null, .null, .null] [] (S0, M, N)) := (R_ev d kX11_meanOf 400 0 _ _ _).trans rfl
theorem bX11_meanOf_5 (d : Nat) (x1 : Int32) (x2 : Int32) (y3 : Int64) (x5 : Int32) (M : j_M) (N : j_N) : R d kX11_meanOf 5 [.ref 46, .int x1, .int x2, .long y3, .null, .int x5, .null, .null, .null, .null] [] (S0, M, N) =
  (if ((1 : Int32) <<< ((M 46 6) &&& 31)) ≤ x5 then
    some (some (.long y3), (S0, M, N))
  else
    if ((x5 >>> (x1 &&& 31)) &&& 1) = 1 then
      R d kX11_meanOf 5 [.ref 46, .int x1, .int x2, .long y3, .null, .int (x5 + 1), .null, .null, .null, .null] [] (S0, M, N)
    else
      (C d 167 [.ref 46] S0 M N).bind fun q1 => j_ov none (
      R d kX11_meanOf 39 [.ref 46, .int x1, .int x2, .long y3, .null, .int x5, .long 1, .null, .int 0, .null] [] (S0, q1.2.1, q1.2.2)) q1.1) := (R_ev d kX11_meanOf 400 5 _ _ _).trans rfl
theorem bX11_meanOf_39 (d : Nat) (x1 : Int32) (x2 : Int32) (y3 : Int64) (x5 : Int32) (y6 : Int64) (x8 : Int32) (M : j_M) (N : j_N) : R d kX11_meanOf 39 [.ref 46, .int x1, .int x2, .long y3, .null, .int x5, .long y6, .null, .int x8, .null] [] (S0, M, N) =
  (if (M 46 6) ≤ x8 then
    if (lg_cmp y6 0) = 0 then
      R d kX11_meanOf 5 [.ref 46, .int x1, .int x2, .long (y3 + 0), .null, .int (x5 + 1), .null, .null, .null, .null] [] (S0, M, N)
    else
      (C d 176 [.ref 46, .int x1, .int x2] S0 M N).bind fun q1 => j_oi none (fun r1 =>
      R d kX11_meanOf 5 [.ref 46, .int x1, .int x2, .long (y3 + (y6 * r1.toInt64)), .null, .int (x5 + 1), .null, .null, .null, .null] [] (S0, q1.2.1, q1.2.2)) q1.1
  else
    if ((x5 >>> (x8 &&& 31)) &&& 1) = 1 then
      bif j_in (18 + x8) 27 then
      R d kX11_meanOf 97 [.ref 46, .int x1, .int x2, .long y3, .null, .int x5, .long y6, .null, .int x8, .int 1] [.int (M 47 ((18 + x8)).toNatClampNeg), .int x8, .ref 53] (S0, M, N) else none
    else
      bif j_in x8 7 then
      R d kX11_meanOf 97 [.ref 46, .int x1, .int x2, .long y3, .null, .int x5, .long y6, .null, .int x8, .int 0] [.int (M 53 (x8).toNatClampNeg), .int x8, .ref 53] (S0, M, N) else none) := (R_ev d kX11_meanOf 400 39 _ _ _).trans rfl
theorem bX11_meanOf_97 (d : Nat) (x1 : Int32) (x2 : Int32) (y3 : Int64) (x5 : Int32) (y6 : Int64) (x8 : Int32) (x9 : Int32) (s1 : Int32) (s2 : Int32) (M : j_M) (N : j_N) : R d kX11_meanOf 97 [.ref 46, .int x1, .int x2, .long y3, .null, .int x5, .long y6, .null, .int x8, .int x9] [.int s2, .int s1, .ref 53] (S0, M, N) =
  (bif j_in s1 7 then
  if x8 = x1 then
    R d kX11_meanOf 39 [.ref 46, .int x1, .int x2, .long y3, .null, .int x5, .long (y6 * 1), .null, .int (x8 + 1), .null] [] (S0, (j_w M 53 (s1).toNatClampNeg s2), N)
  else
    if x9 = 0 then
      bif j_in (12 + x8) 27 then
      R d kX11_meanOf 39 [.ref 46, .int x1, .int x2, .long y3, .null, .int x5, .long (y6 * (12 - (M 47 ((12 + x8)).toNatClampNeg)).toInt64), .null, .int (x8 + 1), .null] [] (S0, (j_w M 53 (s1).toNatClampNeg s2), N) else none
    else
      bif j_in (12 + x8) 27 then
      R d kX11_meanOf 39 [.ref 46, .int x1, .int x2, .long y3, .null, .int x5, .long (y6 * (M 47 ((12 + x8)).toNatClampNeg).toInt64), .null, .int (x8 + 1), .null] [] (S0, (j_w M 53 (s1).toNatClampNeg s2), N) else none else none) := (R_ev d kX11_meanOf 400 97 _ _ _).trans rfl
theorem bX11_wholeOf_0 (d : Nat)  (M : j_M) (N : j_N) : R d kX11_wholeOf 0 [.ref 46, .null, .null, .null] [] (S0, M, N) =
  (R d kX11_wholeOf 4 [.ref 46, .long 1, .null, .int 1] [] (S0, M, N)) := (R_ev d kX11_wholeOf 400 0 _ _ _).trans rfl
theorem bX11_wholeOf_4 (d : Nat) (y1 : Int64) (x3 : Int32) (M : j_M) (N : j_N) : R d kX11_wholeOf 4 [.ref 46, .long y1, .null, .int x3] [] (S0, M, N) =
  (if (M 46 6) ≤ x3 then
    some (some (.long y1), (S0, M, N))
  else
    R d kX11_wholeOf 4 [.ref 46, .long (y1 * 12), .null, .int (x3 + 1)] [] (S0, M, N)) := (R_ev d kX11_wholeOf 400 4 _ _ _).trans rfl
theorem bX11_mean_0 (d : Nat) (x1 : Int32) (x2 : Int32) (x3 : Int32) (M : j_M) (N : j_N) : R d kX11_mean 0 [.ref 46, .int x1, .int x2, .int x3] [] (S0, M, N) =
  ((C d 160 [.ref 46, .int x1] S0 M N).bind fun q1 => j_oi none (fun r1 =>
  if r1 = 0 then
    some (some (.long (-9223372036854775808)), (S0, q1.2.1, q1.2.2))
  else
    bif j_in x1 27 then
    (C d 155 [.long x2.toInt64, .long 0, .long (q1.2.1 47 (x1).toNatClampNeg).toInt64] S0 q1.2.1 q1.2.2).bind fun q2 => j_oi none (fun r2 =>
    if r2 = 0 then
      some (some (.long (-9223372036854775808)), (S0, q2.2.1, q2.2.2))
    else
      (C d 155 [.long x3.toInt64, .long 0, .long 1] S0 q2.2.1 q2.2.2).bind fun q3 => j_oi none (fun r3 =>
      if r3 = 0 then
        some (some (.long (-9223372036854775808)), (S0, q3.2.1, q3.2.2))
      else
        (C d 181 [.ref 46, .int x1, .int x2] S0 q3.2.1 q3.2.2).bind fun q4 => j_ol none (fun r4 =>
        (C d 182 [.ref 46] S0 q4.2.1 q4.2.2).bind fun q5 => j_ol none (fun r5 =>
        (C d 180 [.long r4, .long r5, .int x3] S0 q5.2.1 q5.2.2).bind fun q6 => j_ol none (fun r6 =>
        some (some (.long r6), (S0, q6.2.1, q6.2.2))) q6.1) q5.1) q4.1) q3.1) q2.1 else none) q1.1) := (R_ev d kX11_mean 400 0 _ _ _).trans rfl
theorem bX11_bestMean_0 (d : Nat) (x1 : Int32) (M : j_M) (N : j_N) : R d kX11_bestMean 0 [.ref 46, .int x1, .null, .null, .null, .null, .null, .null] [] (S0, M, N) =
  ((C d 160 [.ref 46, .int x1] S0 M N).bind fun q1 => j_oi none (fun r1 =>
  if r1 = 0 then
    some (some (.int (-1)), (S0, q1.2.1, q1.2.2))
  else
    (C d 181 [.ref 46, .int x1, .int 0] S0 q1.2.1 q1.2.2).bind fun q2 => j_ol none (fun r2 =>
    R d kX11_bestMean 28 [.ref 46, .int x1, .int 0, .long r2, .null, .int (q2.2.1 47 26), .null, .null] [] (S0, q2.2.1, q2.2.2)) q2.1) q1.1) := (R_ev d kX11_bestMean 400 0 _ _ _).trans rfl
theorem bX11_bestMean_28 (d : Nat) (x1 : Int32) (x2 : Int32) (y3 : Int64) (x5 : Int32) (M : j_M) (N : j_N) : R d kX11_bestMean 28 [.ref 46, .int x1, .int x2, .long y3, .null, .int x5, .null, .null] [] (S0, M, N) =
  (bif j_in x1 27 then
  if (M 47 (x1).toNatClampNeg) < x5 then
    some (some (.int x2), (S0, M, N))
  else
    (C d 181 [.ref 46, .int x1, .int x5] S0 M N).bind fun q1 => j_ol none (fun r1 =>
    if 0 ≤ (lg_cmp r1 y3) then
      if 0 ≤ (lg_cmp r1 y3) then
        R d kX11_bestMean 28 [.ref 46, .int x1, .int x2, .long y3, .null, .int (x5 + (q1.2.1 47 26)), .null, .null] [] (S0, q1.2.1, q1.2.2)
      else
        R d kX11_bestMean 28 [.ref 46, .int x1, .int x2, .long r1, .null, .int (x5 + (q1.2.1 47 26)), .null, .null] [] (S0, q1.2.1, q1.2.2)
    else
      if 0 ≤ (lg_cmp r1 y3) then
        R d kX11_bestMean 28 [.ref 46, .int x1, .int x5, .long y3, .null, .int (x5 + (q1.2.1 47 26)), .null, .null] [] (S0, q1.2.1, q1.2.2)
      else
        R d kX11_bestMean 28 [.ref 46, .int x1, .int x5, .long r1, .null, .int (x5 + (q1.2.1 47 26)), .null, .null] [] (S0, q1.2.1, q1.2.2)) q1.1 else none) := (R_ev d kX11_bestMean 400 28 _ _ _).trans rfl
theorem bX11_wouldChange_0 (d : Nat) (x1 : Int32) (M : j_M) (N : j_N) : R d kX11_wouldChange 0 [.ref 46, .int x1] [] (S0, M, N) =
  ((C d 177 [.ref 46, .int x1] S0 M N).bind fun q1 => j_oi none (fun r1 =>
  bif j_in x1 7 then
  (C d 176 [.ref 46, .int x1, .int (q1.2.1 53 (x1).toNatClampNeg)] S0 q1.2.1 q1.2.2).bind fun q2 => j_oi none (fun r2 =>
  if r2 ≤ r1 then
    some (some (.int 0), (S0, q2.2.1, q2.2.2))
  else
    some (some (.int 1), (S0, q2.2.1, q2.2.2))) q2.1 else none) q1.1) := (R_ev d kX11_wouldChange 400 0 _ _ _).trans rfl
theorem bX11_firstWho_0 (d : Nat)  (M : j_M) (N : j_N) : R d kX11_firstWho 0 [.ref 46, .null] [] (S0, M, N) =
  (R d kX11_firstWho 2 [.ref 46, .int 0] [] (S0, M, N)) := (R_ev d kX11_firstWho 400 0 _ _ _).trans rfl
theorem bX11_firstWho_2 (d : Nat) (x1 : Int32) (M : j_M) (N : j_N) : R d kX11_firstWho 2 [.ref 46, .int x1] [] (S0, M, N) =
  (if (M 46 6) ≤ x1 then
    some (some (.int (-2)), (S0, M, N))
  else
    (C d 185 [.ref 46, .int x1] S0 M N).bind fun q1 => j_oi none (fun r1 =>
    if r1 = 0 then
      R d kX11_firstWho 2 [.ref 46, .int (x1 + 1)] [] (S0, q1.2.1, q1.2.2)
    else
      some (some (.int x1), (S0, q1.2.1, q1.2.2))) q1.1) := (R_ev d kX11_firstWho 400 2 _ _ _).trans rfl
theorem bX11_rest_0 (d : Nat) (x1 : Int32) (M : j_M) (N : j_N) : R d kX11_rest 0 [.ref 46, .int x1, .null] [] (S0, M, N) =
  ((C d 155 [.long x1.toInt64, .long 0, .long 1] S0 M N).bind fun q1 => j_oi none (fun r1 =>
  if r1 = 0 then
    some (some (.int (-1)), (S0, q1.2.1, q1.2.2))
  else
    (C d 167 [.ref 46] S0 q1.2.1 q1.2.2).bind fun q2 => j_ov none (
    (C d 186 [.ref 46] S0 q2.2.1 q2.2.2).bind fun q3 => j_oi none (fun r3 =>
    if x1 = 1 then
      some (some (.int r3), (S0, q3.2.1, q3.2.2))
    else
      if 0 ≤ r3 then
        some (some (.int 0), (S0, q3.2.1, q3.2.2))
      else
        some (some (.int 1), (S0, q3.2.1, q3.2.2))) q3.1) q2.1) q1.1) := (R_ev d kX11_rest 400 0 _ _ _).trans rfl
theorem bX11_sumsOf_0 (d : Nat) (x1 : Int32) (M : j_M) (N : j_N) : R d kX11_sumsOf 0 [.ref 46, .int x1] [] (S0, M, N) =
  (bif j_in x1 27 then
  if (M 47 26) = 0 then none else
  some (some (.int (((M 47 (x1).toNatClampNeg) / (M 47 26)) + 1)), (S0, M, N)) else none) := (R_ev d kX11_sumsOf 400 0 _ _ _).trans rfl
theorem bX11_rests_0 (d : Nat) (x1 : Int32) (M : j_M) (N : j_N) : R d kX11_rests 0 [.ref 46, .int x1, .null, .null, .null, .null, .null, .null] [] (S0, M, N) =
  (if x1 = (-1) then
    R d kX11_rests 19 [.ref 46, .int x1, .int 1, .int 0, .null, .null, .null, .null] [] (S0, M, N)
  else
    (C d 160 [.ref 46, .int x1] S0 M N).bind fun q1 => j_oi none (fun r1 =>
    if r1 = 0 then
      some (some (.int (-1)), (S0, q1.2.1, q1.2.2))
    else
      R d kX11_rests 19 [.ref 46, .int x1, .int 1, .int 0, .null, .null, .null, .null] [] (S0, q1.2.1, q1.2.2)) q1.1) := (R_ev d kX11_rests 400 0 _ _ _).trans rfl
theorem bX11_rests_19 (d : Nat) (x1 : Int32) (x2 : Int32) (x3 : Int32) (M : j_M) (N : j_N) : R d kX11_rests 19 [.ref 46, .int x1, .int x2, .int x3, .null, .null, .null, .null] [] (S0, M, N) =
  (if (M 46 6) ≤ x3 then
    R d kX11_rests 68 [.ref 46, .int x1, .int x2, .int 0, .int (-2), .int 0, .null, .null] [] (S0, (j_w M 46 12 (M 46 6)), N)
  else
    (C d 188 [.ref 46, .int x3] S0 M N).bind fun q1 => j_oi none (fun r1 =>
    if (x2 * r1) ≤ 4096 then
      R d kX11_rests 19 [.ref 46, .int x1, .int (x2 * r1), .int (x3 + 1), .null, .null, .null, .null] [] (S0, q1.2.1, q1.2.2)
    else
      some (some (.int (-5)), (S0, q1.2.1, q1.2.2))) q1.1) := (R_ev d kX11_rests 400 19 _ _ _).trans rfl
theorem bX11_rests_68 (d : Nat) (x1 : Int32) (x2 : Int32) (x3 : Int32) (x4 : Int32) (x5 : Int32) (M : j_M) (N : j_N) : R d kX11_rests 68 [.ref 46, .int x1, .int x2, .int x3, .int x4, .int x5, .null, .null] [] (S0, M, N) =
  (if x2 ≤ x5 then
    if 0 ≤ x1 then
      some (some (.int x4), (S0, M, N))
    else
      some (some (.int x3), (S0, M, N))
  else
    R d kX11_rests 86 [.ref 46, .int x1, .int x2, .int x3, .int x4, .int x5, .int x5, .int ((M 46 6) - 1)] [] (S0, M, N)) := (R_ev d kX11_rests 400 68 _ _ _).trans rfl
theorem bX11_rests_86 (d : Nat) (x1 : Int32) (x2 : Int32) (x3 : Int32) (x4 : Int32) (x5 : Int32) (x6 : Int32) (x7 : Int32) (M : j_M) (N : j_N) : R d kX11_rests 86 [.ref 46, .int x1, .int x2, .int x3, .int x4, .int x5, .int x6, .int x7] [] (S0, M, N) =
  (if x7 < 0 then
    (C d 186 [.ref 46] S0 M N).bind fun q1 => j_oi none (fun r1 =>
    if 0 ≤ r1 then
      R d kX11_rests 68 [.ref 46, .int x1, .int x2, .int x3, .int x4, .int (x5 + 1), .null, .null] [] (S0, q1.2.1, q1.2.2)
    else
      if x3 = 0 then
        if x1 < 0 then
          R d kX11_rests 68 [.ref 46, .int x1, .int x2, .int (x3 + 1), .int x4, .int (x5 + 1), .null, .null] [] (S0, q1.2.1, q1.2.2)
        else
          bif j_in x1 7 then
          R d kX11_rests 68 [.ref 46, .int x1, .int x2, .int (x3 + 1), .int (q1.2.1 53 (x1).toNatClampNeg), .int (x5 + 1), .null, .null] [] (S0, q1.2.1, q1.2.2) else none
      else
        R d kX11_rests 68 [.ref 46, .int x1, .int x2, .int (x3 + 1), .int x4, .int (x5 + 1), .null, .null] [] (S0, q1.2.1, q1.2.2)) q1.1
  else
    (C d 188 [.ref 46, .int x7] S0 M N).bind fun q2 => j_oi none (fun r2 =>
    if r2 = 0 then none else
    bif j_in x7 7 then
    (C d 188 [.ref 46, .int x7] S0 (j_w q2.2.1 53 (x7).toNatClampNeg ((x6 - x6 / r2 * r2) * (q2.2.1 47 26))) q2.2.2).bind fun q3 => j_oi none (fun r3 =>
    if r3 = 0 then none else
    R d kX11_rests 86 [.ref 46, .int x1, .int x2, .int x3, .int x4, .int x5, .int (x6 / r3), .int (x7 + (-1))] [] (S0, q3.2.1, q3.2.2)) q3.1 else none) q2.1) := (R_ev d kX11_rests 400 86 _ _ _).trans rfl
theorem bX11_turns_0 (d : Nat) (x1 : Int32) (M : j_M) (N : j_N) : R d kX11_turns 0 [.ref 46, .int x1, .null, .null, .null, .null] [] (S0, M, N) =
  (if x1 = (-1) then
    (C d 167 [.ref 46] S0 M N).bind fun q1 => j_ov none (
    R d kX11_turns 26 [.ref 46, .int x1, .int 0, .int 0, .int 0, .null] [] (S0, q1.2.1, q1.2.2)) q1.1
  else
    (C d 160 [.ref 46, .int x1] S0 M N).bind fun q2 => j_oi none (fun r2 =>
    if r2 = 0 then
      some (some (.int (-1)), (S0, q2.2.1, q2.2.2))
    else
      (C d 167 [.ref 46] S0 q2.2.1 q2.2.2).bind fun q3 => j_ov none (
      R d kX11_turns 26 [.ref 46, .int x1, .int 0, .int 0, .int 0, .null] [] (S0, q3.2.1, q3.2.2)) q3.1) q2.1) := (R_ev d kX11_turns 400 0 _ _ _).trans rfl
theorem bX11_turns_26 (d : Nat) (x1 : Int32) (x2 : Int32) (x3 : Int32) (x4 : Int32) (M : j_M) (N : j_N) : R d kX11_turns 26 [.ref 46, .int x1, .int x2, .int x3, .int x4, .null] [] (S0, M, N) =
  (if (M 46 6) ≤ x3 then
    if 0 ≤ x1 then
      bif j_in x1 7 then
      some (some (.int (M 53 (x1).toNatClampNeg)), (S0, M, N)) else none
    else
      some (some (.int x2), (S0, M, N))
  else
    (C d 185 [.ref 46, .int x4] S0 M N).bind fun q1 => j_oi none (fun r1 =>
    if r1 = 0 then
      if (q1.2.1 46 6) = 0 then none else
      R d kX11_turns 26 [.ref 46, .int x1, .int x2, .int (x3 + 1), .int ((x4 + 1) - (x4 + 1) / (q1.2.1 46 6) * (q1.2.1 46 6)), .null] [] (S0, q1.2.1, q1.2.2)
    else
      if x2 = 60 then
        if 0 ≤ x1 then
          bif j_in x1 7 then
          some (some (.int (q1.2.1 53 (x1).toNatClampNeg)), (S0, q1.2.1, q1.2.2)) else none
        else
          some (some (.int (-2)), (S0, q1.2.1, q1.2.2))
      else
        (C d 177 [.ref 46, .int x4] S0 q1.2.1 q1.2.2).bind fun q2 => j_oi none (fun r2 =>
        bif j_in x4 7 then
        if (q2.2.1 46 6) = 0 then none else
        R d kX11_turns 26 [.ref 46, .int x1, .int (x2 + 1), .int (0 + 1), .int ((x4 + 1) - (x4 + 1) / (q2.2.1 46 6) * (q2.2.1 46 6)), .null] [] (S0, (j_w q2.2.1 53 (x4).toNatClampNeg (q2.2.1 46 16)), q2.2.2) else none) q2.1) q1.1) := (R_ev d kX11_turns 400 26 _ _ _).trans rfl
theorem bX11_agree_0 (d : Nat) (x1 : Int32) (x2 : Int32) (M : j_M) (N : j_N) : R d kX11_agree 0 [.ref 46, .int x1, .int x2, .null, .null, .null, .null, .null, .null, .null, .null] [] (S0, M, N) =
  (if x1 < 0 then
    some (some (.int (-2000000000)), (S0, M, N))
  else
    (C d 160 [.ref 46, .int (x1 / 10)] S0 M N).bind fun q1 => j_oi none (fun r1 =>
    if r1 = 0 then
      some (some (.int (-2000000000)), (S0, q1.2.1, q1.2.2))
    else
      (C d 160 [.ref 46, .int (x1 - x1 / 10 * 10)] S0 q1.2.1 q1.2.2).bind fun q2 => j_oi none (fun r2 =>
      if r2 = 0 then
        some (some (.int (-2000000000)), (S0, q2.2.1, q2.2.2))
      else
        if (x1 - x1 / 10 * 10) ≤ (x1 / 10) then
          some (some (.int (-2000000000)), (S0, q2.2.1, q2.2.2))
        else
          (C d 155 [.long x2.toInt64, .long 0, .long 3] S0 q2.2.1 q2.2.2).bind fun q3 => j_oi none (fun r3 =>
          if r3 = 0 then
            some (some (.int (-2000000000)), (S0, q3.2.1, q3.2.2))
          else
            (C d 167 [.ref 46] S0 q3.2.1 q3.2.2).bind fun q4 => j_ov none (
            R d kX11_agree 79 [.ref 46, .null, .int x2, .int (x1 / 10), .int (x1 - x1 / 10 * 10), .int (-1), .int 0, .int 0, .int 0, .null, .null] [] (S0, q4.2.1, q4.2.2)) q4.1) q3.1) q2.1) q1.1) := (R_ev d kX11_agree 400 0 _ _ _).trans rfl
theorem bX11_agree_79 (d : Nat) (x2 : Int32) (x3 : Int32) (x4 : Int32) (x5 : Int32) (x6 : Int32) (x7 : Int32) (x8 : Int32) (M : j_M) (N : j_N) : R d kX11_agree 79 [.ref 46, .null, .int x2, .int x3, .int x4, .int x5, .int x6, .int x7, .int x8, .null, .null] [] (S0, M, N) =
  (bif j_in x3 27 then
  if (M 47 (x3).toNatClampNeg) < x8 then
    if 3 ≤ x2 then
      bif j_in x3 7 then
      bif j_in x4 7 then
      (C d 173 [.ref 46] S0 (j_w (j_w M 53 (x3).toNatClampNeg x6) 53 (x4).toNatClampNeg x7) N).bind fun q1 => j_ov none (
      R d kX11_agree 245 [.ref 46, .null, .null, .int x3, .int x4, .null, .null, .null, .int 0, .null, .null] [] (S0, q1.2.1, q1.2.2)) q1.1 else none else none
    else
      if x2 = 0 then
        some (some (.int x5), (S0, M, N))
      else
        if x2 = 1 then
          some (some (.int x6), (S0, M, N))
        else
          some (some (.int x7), (S0, M, N))
  else
    R d kX11_agree 93 [.ref 46, .null, .int x2, .int x3, .int x4, .int x5, .int x6, .int x7, .int x8, .int 0, .null] [] (S0, M, N) else none) := (R_ev d kX11_agree 400 79 _ _ _).trans rfl
theorem bX11_agree_245 (d : Nat) (x3 : Int32) (x4 : Int32) (x8 : Int32) (M : j_M) (N : j_N) : R d kX11_agree 245 [.ref 46, .null, .null, .int x3, .int x4, .null, .null, .null, .int x8, .null, .null] [] (S0, M, N) =
  (if (M 46 6) ≤ x8 then
    some (some (.int (-2)), (S0, M, N))
  else
    if x8 = x3 then
      R d kX11_agree 245 [.ref 46, .null, .null, .int x3, .int x4, .null, .null, .null, .int (x8 + 1), .null, .null] [] (S0, M, N)
    else
      if x8 = x4 then
        R d kX11_agree 245 [.ref 46, .null, .null, .int x3, .int x4, .null, .null, .null, .int (x8 + 1), .null, .null] [] (S0, M, N)
      else
        bif j_in x8 7 then
        if (M 54 (x8).toNatClampNeg) ≤ 0 then
          R d kX11_agree 245 [.ref 46, .null, .null, .int x3, .int x4, .null, .null, .null, .int (x8 + 1), .null, .null] [] (S0, M, N)
        else
          some (some (.int x8), (S0, M, N)) else none) := (R_ev d kX11_agree 400 245 _ _ _).trans rfl
theorem bX11_agree_93 (d : Nat) (x2 : Int32) (x3 : Int32) (x4 : Int32) (x5 : Int32) (x6 : Int32) (x7 : Int32) (x8 : Int32) (x9 : Int32) (M : j_M) (N : j_N) : R d kX11_agree 93 [.ref 46, .null, .int x2, .int x3, .int x4, .int x5, .int x6, .int x7, .int x8, .int x9, .null] [] (S0, M, N) =
  (bif j_in x4 27 then
  if (M 47 (x4).toNatClampNeg) < x9 then
    R d kX11_agree 79 [.ref 46, .null, .int x2, .int x3, .int x4, .int x5, .int x6, .int x7, .int (x8 + (M 47 26)), .null, .null] [] (S0, M, N)
  else
    bif j_in x3 7 then
    bif j_in x4 7 then
    (C d 173 [.ref 46] S0 (j_w (j_w M 53 (x3).toNatClampNeg x8) 53 (x4).toNatClampNeg x9) N).bind fun q1 => j_ov none (
    (C d 174 [.ref 46, .int x3] S0 q1.2.1 q1.2.2).bind fun q2 => j_oi none (fun r2 =>
    (C d 174 [.ref 46, .int x4] S0 q2.2.1 q2.2.2).bind fun q3 => j_oi none (fun r3 =>
    if x5 < 0 then
      R d kX11_agree 93 [.ref 46, .null, .int x2, .int x3, .int x4, .int (r2 + r3), .int x8, .int x9, .int x8, .int (x9 + (q3.2.1 47 26)), .null] [] (S0, q3.2.1, q3.2.2)
    else
      if x5 ≤ (r2 + r3) then
        R d kX11_agree 93 [.ref 46, .null, .int x2, .int x3, .int x4, .int x5, .int x6, .int x7, .int x8, .int (x9 + (q3.2.1 47 26)), .null] [] (S0, q3.2.1, q3.2.2)
      else
        R d kX11_agree 93 [.ref 46, .null, .int x2, .int x3, .int x4, .int (r2 + r3), .int x8, .int x9, .int x8, .int (x9 + (q3.2.1 47 26)), .null] [] (S0, q3.2.1, q3.2.2)) q3.1) q2.1) q1.1 else none else none else none) := (R_ev d kX11_agree 400 93 _ _ _).trans rfl
theorem bX11_dish_0 (d : Nat) (x1 : Int32) (M : j_M) (N : j_N) : R d kX11_dish 0 [.ref 46, .int x1] [] (S0, M, N) =
  ((C d 155 [.long x1.toInt64, .long 0, .long 99] S0 M N).bind fun q1 => j_oi none (fun r1 =>
  if r1 = 0 then
    some (some (.int (-1)), (S0, q1.2.1, q1.2.2))
  else
    if (q1.2.1 46 17) = 3 then
      some (some (.int (-3)), (S0, q1.2.1, q1.2.2))
    else
      bif j_in (q1.2.1 46 17) 3 then
      some (some (.int (((q1.2.1 46 17) + 1) - 1)), (S0, (j_w (j_w q1.2.1 56 ((q1.2.1 46 17)).toNatClampNeg x1) 46 17 ((q1.2.1 46 17) + 1)), q1.2.2)) else none) q1.1) := (R_ev d kX11_dish 400 0 _ _ _).trans rfl
theorem bX11_joy_0 (d : Nat) (x1 : Int32) (x2 : Int32) (M : j_M) (N : j_N) : R d kX11_joy 0 [.ref 46, .int x1, .int x2, .null, .null] [] (S0, M, N) =
  (if x1 < 0 then
    some (some (.int (-1)), (S0, M, N))
  else
    (C d 160 [.ref 46, .int (x1 / 10)] S0 M N).bind fun q1 => j_oi none (fun r1 =>
    if r1 = 0 then
      some (some (.int (-1)), (S0, q1.2.1, q1.2.2))
    else
      (C d 155 [.long (x1 - x1 / 10 * 10).toInt64, .long 0, .long ((q1.2.1 46 17) - 1).toInt64] S0 q1.2.1 q1.2.2).bind fun q2 => j_oi none (fun r2 =>
      if r2 = 0 then
        some (some (.int (-1)), (S0, q2.2.1, q2.2.2))
      else
        (C d 155 [.long x2.toInt64, .long 0, .long 99] S0 q2.2.1 q2.2.2).bind fun q3 => j_oi none (fun r3 =>
        if r3 = 0 then
          some (some (.int (-1)), (S0, q3.2.1, q3.2.2))
        else
          bif j_in ((3 * (x1 / 10)) + (x1 - x1 / 10 * 10)) 18 then
          bif j_in ((3 * (x1 / 10)) + (x1 - x1 / 10 * 10)) 18 then
          some (some (.int (q3.2.1 57 (((3 * (x1 / 10)) + (x1 - x1 / 10 * 10))).toNatClampNeg)), (S0, (j_w q3.2.1 57 (((3 * (x1 / 10)) + (x1 - x1 / 10 * 10))).toNatClampNeg x2), q3.2.2)) else none else none) q3.1) q2.1) q1.1) := (R_ev d kX11_joy 400 0 _ _ _).trans rfl
theorem bX11_joyOf_0 (d : Nat) (x1 : Int32) (x2 : Int32) (M : j_M) (N : j_N) : R d kX11_joyOf 0 [.ref 46, .int x1, .int x2] [] (S0, M, N) =
  (if 0 ≤ x2 then
    bif j_in ((3 * x1) + x2) 18 then
    some (some (.int (M 57 (((3 * x1) + x2)).toNatClampNeg)), (S0, M, N)) else none
  else
    some (some (.int 0), (S0, M, N))) := (R_ev d kX11_joyOf 400 0 _ _ _).trans rfl
theorem bX11_billFrom_0 (d : Nat) (x1 : Int32) (x2 : Int32) (M : j_M) (N : j_N) : R d kX11_billFrom 0 [.ref 46, .int x1, .int x2, .null, .null, .null, .null, .null] [] (S0, M, N) =
  (if x1 = (M 46 6) then
    some (some (.int x2), (S0, M, N))
  else
    R d kX11_billFrom 19 [.ref 46, .int x1, .int x2, .int (-2), .int 0, .int (-1), .null, .null] [] (S0, M, N)) := (R_ev d kX11_billFrom 400 0 _ _ _).trans rfl
theorem bX11_billFrom_19 (d : Nat) (x1 : Int32) (x2 : Int32) (x3 : Int32) (x4 : Int32) (x5 : Int32) (M : j_M) (N : j_N) : R d kX11_billFrom 19 [.ref 46, .int x1, .int x2, .int x3, .int x4, .int x5, .null, .null] [] (S0, M, N) =
  (if (M 46 17) ≤ x5 then
    if 0 ≤ x3 then
      bif j_in x3 3 then
      (C d 195 [.ref 46, .int (x1 + 1), .int (x2 + (M 56 (x3).toNatClampNeg))] S0 M N).bind fun q1 => j_oi none (fun r1 =>
      bif j_in x1 6 then
      some (some (.int r1), (S0, (j_w q1.2.1 58 (x1).toNatClampNeg x3), q1.2.2)) else none) q1.1 else none
    else
      (C d 195 [.ref 46, .int (x1 + 1), .int (x2 + 0)] S0 M N).bind fun q2 => j_oi none (fun r2 =>
      bif j_in x1 6 then
      some (some (.int r2), (S0, (j_w q2.2.1 58 (x1).toNatClampNeg x3), q2.2.2)) else none) q2.1
  else
    if 0 ≤ x5 then
      bif j_in x5 3 then
      R d kX11_billFrom 49 [.ref 46, .int x1, .int x2, .int x3, .int x4, .int x5, .null, .null] [.int (M 56 (x5).toNatClampNeg), .int x2, .int (x1 + 1), .ref 46] (S0, M, N) else none
    else
      R d kX11_billFrom 49 [.ref 46, .int x1, .int x2, .int x3, .int x4, .int x5, .null, .null] [.int 0, .int x2, .int (x1 + 1), .ref 46] (S0, M, N)) := (R_ev d kX11_billFrom 400 19 _ _ _).trans rfl
theorem bX11_billFrom_49 (d : Nat) (x1 : Int32) (x2 : Int32) (x3 : Int32) (x4 : Int32) (x5 : Int32) (s1 : Int32) (s2 : Int32) (s3 : Int32) (M : j_M) (N : j_N) : R d kX11_billFrom 49 [.ref 46, .int x1, .int x2, .int x3, .int x4, .int x5, .null, .null] [.int s3, .int s2, .int s1, .ref 46] (S0, M, N) =
  ((C d 195 [.ref 46, .int s1, .int (s2 + s3)] S0 M N).bind fun q1 => j_oi none (fun r1 =>
  (C d 172 [.ref 46, .int r1, .int (q1.2.1 47 25)] S0 q1.2.1 q1.2.2).bind fun q2 => j_ov none (
  (C d 194 [.ref 46, .int x1, .int x5] S0 q2.2.1 q2.2.2).bind fun q3 => j_oi none (fun r3 =>
  (C d 174 [.ref 46, .int x1] S0 q3.2.1 q3.2.2).bind fun q4 => j_oi none (fun r4 =>
  if x3 = (-2) then
    R d kX11_billFrom 19 [.ref 46, .int x1, .int x2, .int x5, .int (r3 - r4), .int (x5 + 1), .null, .null] [] (S0, q4.2.1, q4.2.2)
  else
    if (r3 - r4) ≤ x4 then
      R d kX11_billFrom 19 [.ref 46, .int x1, .int x2, .int x3, .int x4, .int (x5 + 1), .null, .null] [] (S0, q4.2.1, q4.2.2)
    else
      R d kX11_billFrom 19 [.ref 46, .int x1, .int x2, .int x5, .int (r3 - r4), .int (x5 + 1), .null, .null] [] (S0, q4.2.1, q4.2.2)) q4.1) q3.1) q2.1) q1.1) := (R_ev d kX11_billFrom 400 49 _ _ _).trans rfl
theorem bX11_ordered_0 (d : Nat) (x1 : Int32) (x2 : Int32) (M : j_M) (N : j_N) : R d kX11_ordered 0 [.ref 46, .int x1, .int x2, .null] [] (S0, M, N) =
  ((C d 160 [.ref 46, .int x1] S0 M N).bind fun q1 => j_oi none (fun r1 =>
  if r1 = 0 then
    some (some (.int (-2000000000)), (S0, q1.2.1, q1.2.2))
  else
    (C d 155 [.long x2.toInt64, .long 0, .long 2] S0 q1.2.1 q1.2.2).bind fun q2 => j_oi none (fun r2 =>
    if r2 = 0 then
      some (some (.int (-2000000000)), (S0, q2.2.1, q2.2.2))
    else
      if x2 = 2 then
        if x1 = 0 then
          R d kX11_ordered 32 [.ref 46, .int x1, .int x2, .null] [] (S0, q2.2.1, q2.2.2)
        else
          some (some (.int (-2000000000)), (S0, q2.2.1, q2.2.2))
      else
        R d kX11_ordered 32 [.ref 46, .int x1, .int x2, .null] [] (S0, q2.2.1, q2.2.2)) q2.1) q1.1) := (R_ev d kX11_ordered 400 0 _ _ _).trans rfl
theorem bX11_ordered_32 (d : Nat) (x1 : Int32) (x2 : Int32) (M : j_M) (N : j_N) : R d kX11_ordered 32 [.ref 46, .int x1, .int x2, .null] [] (S0, M, N) =
  ((C d 167 [.ref 46] S0 M N).bind fun q1 => j_ov none (
  (C d 195 [.ref 46, .int 0, .int 0] S0 q1.2.1 q1.2.2).bind fun q2 => j_oi none (fun r2 =>
  if x2 = 1 then
    (C d 172 [.ref 46, .int r2, .int (q2.2.1 47 25)] S0 q2.2.1 q2.2.2).bind fun q3 => j_ov none (
    bif j_in x1 6 then
    (C d 194 [.ref 46, .int x1, .int (q3.2.1 58 (x1).toNatClampNeg)] S0 q3.2.1 q3.2.2).bind fun q4 => j_oi none (fun r4 =>
    (C d 174 [.ref 46, .int x1] S0 q4.2.1 q4.2.2).bind fun q5 => j_oi none (fun r5 =>
    some (some (.int (r4 - r5)), (S0, q5.2.1, q5.2.2))) q5.1) q4.1 else none) q3.1
  else
    if x2 = 2 then
      some (some (.int r2), (S0, q2.2.1, q2.2.2))
    else
      bif j_in x1 6 then
      if 0 ≤ (q2.2.1 58 (x1).toNatClampNeg) then
        bif j_in x1 6 then
        some (some (.int (q2.2.1 58 (x1).toNatClampNeg)), (S0, q2.2.1, q2.2.2)) else none
      else
        some (some (.int (-2)), (S0, q2.2.1, q2.2.2)) else none) q2.1) q1.1) := (R_ev d kX11_ordered 400 32 _ _ _).trans rfl
theorem bX11_feed_0 (d : Nat) (x1 : Int32) (M : j_M) (N : j_N) : R d kX11_feed 0 [.ref 46, .int x1] [] (S0, M, N) =
  ((C d 155 [.long x1.toInt64, .long 0, .long 255] S0 M N).bind fun q1 => j_oi none (fun r1 =>
  if r1 = 0 then
    some (some (.int (-1)), (S0, q1.2.1, q1.2.2))
  else
    if (q1.2.1 46 22) = 120 then
      some (some (.int (-3)), (S0, q1.2.1, q1.2.2))
    else
      bif j_in (q1.2.1 46 22) 120 then
      some (some (.int ((q1.2.1 46 22) + 1)), (S0, (j_w (j_w q1.2.1 59 ((q1.2.1 46 22)).toNatClampNeg x1) 46 22 ((q1.2.1 46 22) + 1)), q1.2.2)) else none) q1.1) := (R_ev d kX11_feed 400 0 _ _ _).trans rfl
theorem bX11_byteAt_0 (d : Nat)  (M : j_M) (N : j_N) : R d kX11_byteAt 0 [.ref 46] [] (S0, M, N) =
  (if (M 46 27) ≤ (M 46 26) then
    some (some (.int 0), (S0, M, N))
  else
    if 0 ≤ (M 46 25) then
      bif j_in ((M 46 25) + (M 46 26)) 120 then
      some (some (.int (M 60 (((M 46 25) + (M 46 26))).toNatClampNeg)), (S0, M, N)) else none
    else
      bif j_in (M 46 26) 120 then
      some (some (.int (M 59 ((M 46 26)).toNatClampNeg)), (S0, M, N)) else none) := (R_ev d kX11_byteAt 400 0 _ _ _).trans rfl
theorem bX11_wrong_0 (d : Nat)  (M : j_M) (N : j_N) : R d kX11_wrong 0 [.ref 46] [] (S0, M, N) =
  (if 0 ≤ (M 46 28) then
    some (some (.int 0), (S0, (j_w M 46 28 (M 46 28)), N))
  else
    some (some (.int 0), (S0, (j_w M 46 28 (M 46 26)), N))) := (R_ev d kX11_wrong 400 0 _ _ _).trans rfl
theorem bX11_takes_0 (d : Nat) (x1 : Int32) (M : j_M) (N : j_N) : R d kX11_takes 0 [.ref 46, .int x1] [] (S0, M, N) =
  (if 0 ≤ (M 46 28) then
    some (some (.int 0), (S0, M, N))
  else
    (C d 198 [.ref 46] S0 M N).bind fun q1 => j_oi none (fun r1 =>
    if r1 = x1 then
      some (some (.int 1), (S0, (j_w q1.2.1 46 26 ((q1.2.1 46 26) + 1)), q1.2.2))
    else
      some (some (.int 0), (S0, q1.2.1, q1.2.2))) q1.1) := (R_ev d kX11_takes 400 0 _ _ _).trans rfl
theorem bX11_either_0 (d : Nat)  (M : j_M) (N : j_N) : R d kX11_either 0 [.ref 46, .null, .null] [] (S0, M, N) =
  ((C d 202 [.ref 46] S0 M N).bind fun q1 => j_oi none (fun r1 =>
  R d kX11_either 5 [.ref 46, .int r1, .null] [] (S0, q1.2.1, q1.2.2)) q1.1) := (R_ev d kX11_either 400 0 _ _ _).trans rfl
theorem bX11_either_5 (d : Nat) (x1 : Int32) (M : j_M) (N : j_N) : R d kX11_either 5 [.ref 46, .int x1, .null] [] (S0, M, N) =
  ((C d 200 [.ref 46, .int 124] S0 M N).bind fun q1 => j_oi none (fun r1 =>
  if r1 = 0 then
    some (some (.int x1), (S0, q1.2.1, q1.2.2))
  else
    (C d 202 [.ref 46] S0 q1.2.1 q1.2.2).bind fun q2 => j_oi none (fun r2 =>
    if x1 = 0 then
      if r2 = 0 then
        R d kX11_either 5 [.ref 46, .int 0, .null] [] (S0, q2.2.1, q2.2.2)
      else
        R d kX11_either 5 [.ref 46, .int 1, .null] [] (S0, q2.2.1, q2.2.2)
    else
      R d kX11_either 5 [.ref 46, .int 1, .null] [] (S0, q2.2.1, q2.2.2)) q2.1) q1.1) := (R_ev d kX11_either 400 5 _ _ _).trans rfl
theorem bX11_both_0 (d : Nat)  (M : j_M) (N : j_N) : R d kX11_both 0 [.ref 46, .null, .null] [] (S0, M, N) =
  ((C d 203 [.ref 46] S0 M N).bind fun q1 => j_oi none (fun r1 =>
  R d kX11_both 5 [.ref 46, .int r1, .null] [] (S0, q1.2.1, q1.2.2)) q1.1) := (R_ev d kX11_both 400 0 _ _ _).trans rfl
theorem bX11_both_5 (d : Nat) (x1 : Int32) (M : j_M) (N : j_N) : R d kX11_both 5 [.ref 46, .int x1, .null] [] (S0, M, N) =
  ((C d 200 [.ref 46, .int 38] S0 M N).bind fun q1 => j_oi none (fun r1 =>
  if r1 = 0 then
    some (some (.int x1), (S0, q1.2.1, q1.2.2))
  else
    (C d 203 [.ref 46] S0 q1.2.1 q1.2.2).bind fun q2 => j_oi none (fun r2 =>
    if x1 = 0 then
      R d kX11_both 5 [.ref 46, .int 0, .null] [] (S0, q2.2.1, q2.2.2)
    else
      if r2 = 0 then
        R d kX11_both 5 [.ref 46, .int 0, .null] [] (S0, q2.2.1, q2.2.2)
      else
        R d kX11_both 5 [.ref 46, .int 1, .null] [] (S0, q2.2.1, q2.2.2)) q2.1) q1.1) := (R_ev d kX11_both 400 5 _ _ _).trans rfl
theorem bX11_compared_0 (d : Nat)  (M : j_M) (N : j_N) : R d kX11_compared 0 [.ref 46, .null, .null, .null] [] (S0, M, N) =
  ((C d 204 [.ref 46] S0 M N).bind fun q1 => j_oi none (fun r1 =>
  (C d 198 [.ref 46] S0 q1.2.1 q1.2.2).bind fun q2 => j_oi none (fun r2 =>
  if 0 ≤ (q2.2.1 46 28) then
    some (some (.int r1), (S0, q2.2.1, q2.2.2))
  else
    if r2 = 60 then
      R d kX11_compared 37 [.ref 46, .int r1, .int r2, .null] [] (S0, q2.2.1, q2.2.2)
    else
      if r2 = 61 then
        R d kX11_compared 37 [.ref 46, .int r1, .int r2, .null] [] (S0, q2.2.1, q2.2.2)
      else
        if r2 = 62 then
          R d kX11_compared 37 [.ref 46, .int r1, .int r2, .null] [] (S0, q2.2.1, q2.2.2)
        else
          some (some (.int r1), (S0, q2.2.1, q2.2.2))) q2.1) q1.1) := (R_ev d kX11_compared 400 0 _ _ _).trans rfl
theorem bX11_compared_37 (d : Nat) (x1 : Int32) (x2 : Int32) (M : j_M) (N : j_N) : R d kX11_compared 37 [.ref 46, .int x1, .int x2, .null] [] (S0, M, N) =
  ((C d 204 [.ref 46] S0 (j_w M 46 26 ((M 46 26) + 1)) N).bind fun q1 => j_oi none (fun r1 =>
  if x2 = 60 then
    if r1 ≤ x1 then
      some (some (.int 0), (S0, q1.2.1, q1.2.2))
    else
      some (some (.int 1), (S0, q1.2.1, q1.2.2))
  else
    if x2 = 61 then
      if x1 = r1 then
        some (some (.int 1), (S0, q1.2.1, q1.2.2))
      else
        some (some (.int 0), (S0, q1.2.1, q1.2.2))
    else
      if x1 ≤ r1 then
        some (some (.int 0), (S0, q1.2.1, q1.2.2))
      else
        some (some (.int 1), (S0, q1.2.1, q1.2.2))) q1.1) := (R_ev d kX11_compared 400 37 _ _ _).trans rfl
theorem bX11_sums_0 (d : Nat)  (M : j_M) (N : j_N) : R d kX11_sums 0 [.ref 46, .null, .null, .null] [] (S0, M, N) =
  ((C d 205 [.ref 46] S0 M N).bind fun q1 => j_oi none (fun r1 =>
  R d kX11_sums 5 [.ref 46, .int r1, .null, .null] [] (S0, q1.2.1, q1.2.2)) q1.1) := (R_ev d kX11_sums 400 0 _ _ _).trans rfl
theorem bX11_sums_5 (d : Nat) (x1 : Int32) (M : j_M) (N : j_N) : R d kX11_sums 5 [.ref 46, .int x1, .null, .null] [] (S0, M, N) =
  (if 0 ≤ (M 46 28) then
    some (some (.int x1), (S0, M, N))
  else
    (C d 198 [.ref 46] S0 M N).bind fun q1 => j_oi none (fun r1 =>
    if r1 = 43 then
      R d kX11_sums 30 [.ref 46, .int x1, .null, .null] [] (S0, q1.2.1, q1.2.2)
    else
      (C d 198 [.ref 46] S0 q1.2.1 q1.2.2).bind fun q2 => j_oi none (fun r2 =>
      if r2 = 45 then
        R d kX11_sums 30 [.ref 46, .int x1, .null, .null] [] (S0, q2.2.1, q2.2.2)
      else
        some (some (.int x1), (S0, q2.2.1, q2.2.2))) q2.1) q1.1) := (R_ev d kX11_sums 400 5 _ _ _).trans rfl
theorem bX11_sums_30 (d : Nat) (x1 : Int32) (M : j_M) (N : j_N) : R d kX11_sums 30 [.ref 46, .int x1, .null, .null] [] (S0, M, N) =
  ((C d 198 [.ref 46] S0 M N).bind fun q1 => j_oi none (fun r1 =>
  if r1 = 43 then
    (C d 205 [.ref 46] S0 (j_w q1.2.1 46 26 ((q1.2.1 46 26) + 1)) q1.2.2).bind fun q3 => j_oi none (fun r3 =>
    R d kX11_sums 5 [.ref 46, .int (x1 + r3), .null, .null] [] (S0, q3.2.1, q3.2.2)) q3.1
  else
    (C d 205 [.ref 46] S0 (j_w q1.2.1 46 26 ((q1.2.1 46 26) + 1)) q1.2.2).bind fun q2 => j_oi none (fun r2 =>
    R d kX11_sums 5 [.ref 46, .int (x1 - r2), .null, .null] [] (S0, q2.2.1, q2.2.2)) q2.1) q1.1) := (R_ev d kX11_sums 400 30 _ _ _).trans rfl
theorem bX11_product_0 (d : Nat)  (M : j_M) (N : j_N) : R d kX11_product 0 [.ref 46, .null, .null, .null] [] (S0, M, N) =
  ((C d 207 [.ref 46] S0 M N).bind fun q1 => j_oi none (fun r1 =>
  (C d 198 [.ref 46] S0 q1.2.1 q1.2.2).bind fun q2 => j_oi none (fun r2 =>
  R d kX11_product 10 [.ref 46, .int r1, .int r2, .null] [] (S0, q2.2.1, q2.2.2)) q2.1) q1.1) := (R_ev d kX11_product 400 0 _ _ _).trans rfl
theorem bX11_product_10 (d : Nat) (x1 : Int32) (x2 : Int32) (M : j_M) (N : j_N) : R d kX11_product 10 [.ref 46, .int x1, .int x2, .null] [] (S0, M, N) =
  (if 0 ≤ (M 46 28) then
    some (some (.int x1), (S0, M, N))
  else
    if x2 = 42 then
      R d kX11_product 35 [.ref 46, .int x1, .int x2, .null] [] (S0, M, N)
    else
      if x2 = 47 then
        R d kX11_product 35 [.ref 46, .int x1, .int x2, .null] [] (S0, M, N)
      else
        if x2 = 37 then
          R d kX11_product 35 [.ref 46, .int x1, .int x2, .null] [] (S0, M, N)
        else
          some (some (.int x1), (S0, M, N))) := (R_ev d kX11_product 400 10 _ _ _).trans rfl
theorem bX11_product_35 (d : Nat) (x1 : Int32) (x2 : Int32) (M : j_M) (N : j_N) : R d kX11_product 35 [.ref 46, .int x1, .int x2, .null] [] (S0, M, N) =
  ((C d 207 [.ref 46] S0 (j_w M 46 26 ((M 46 26) + 1)) N).bind fun q1 => j_oi none (fun r1 =>
  if x2 = 42 then
    (C d 198 [.ref 46] S0 q1.2.1 q1.2.2).bind fun q5 => j_oi none (fun r5 =>
    R d kX11_product 10 [.ref 46, .int (x1 * r1), .int r5, .null] [] (S0, q5.2.1, q5.2.2)) q5.1
  else
    if r1 = 0 then
      (C d 198 [.ref 46] S0 q1.2.1 q1.2.2).bind fun q4 => j_oi none (fun r4 =>
      R d kX11_product 10 [.ref 46, .int 0, .int r4, .null] [] (S0, q4.2.1, q4.2.2)) q4.1
    else
      if x2 = 47 then
        if r1 = 0 then none else
        (C d 198 [.ref 46] S0 q1.2.1 q1.2.2).bind fun q3 => j_oi none (fun r3 =>
        R d kX11_product 10 [.ref 46, .int (x1 / r1), .int r3, .null] [] (S0, q3.2.1, q3.2.2)) q3.1
      else
        if r1 = 0 then none else
        (C d 198 [.ref 46] S0 q1.2.1 q1.2.2).bind fun q2 => j_oi none (fun r2 =>
        R d kX11_product 10 [.ref 46, .int (x1 - x1 / r1 * r1), .int r2, .null] [] (S0, q2.2.1, q2.2.2)) q2.1) q1.1) := (R_ev d kX11_product 400 35 _ _ _).trans rfl
theorem bX11_nameOf_0 (d : Nat) (x0 : Int32) (M : j_M) (N : j_N) : R d kX11_nameOf 0 [.int x0] [] (S0, M, N) =
  (if x0 = 98 then
    some (some (.int 0), (S0, M, N))
  else if x0 = 107 then
    some (some (.int 3), (S0, M, N))
  else if x0 = 110 then
    some (some (.int 2), (S0, M, N))
  else if x0 = 112 then
    some (some (.int 1), (S0, M, N))
  else if x0 = 114 then
    some (some (.int 4), (S0, M, N))
  else 
    some (some (.int (-1)), (S0, M, N))) := (R_ev d kX11_nameOf 400 0 _ _ _).trans rfl
theorem bX11_one_0 (d : Nat)  (M : j_M) (N : j_N) : R d kX11_one 0 [.ref 46, .null, .null, .null, .null] [] (S0, M, N) =
  (if (M 46 28) < 0 then
    (C d 198 [.ref 46] S0 M N).bind fun q1 => j_oi none (fun r1 =>
    if r1 = 33 then
      R d kX11_one 32 [.ref 46, .int r1, .null, .null, .null] [] (S0, q1.2.1, q1.2.2)
    else
      if r1 = 45 then
        R d kX11_one 32 [.ref 46, .int r1, .null, .null, .null] [] (S0, q1.2.1, q1.2.2)
      else
        if r1 = 40 then
          R d kX11_one 32 [.ref 46, .int r1, .null, .null, .null] [] (S0, q1.2.1, q1.2.2)
        else
          (C d 206 [.int r1] S0 q1.2.1 q1.2.2).bind fun q2 => j_oi none (fun r2 =>
          if r2 < 0 then
            R d kX11_one 176 [.ref 46, .null, .null, .int 0, .int 0] [] (S0, q2.2.1, q2.2.2)
          else
            bif j_in r2 5 then
            some (some (.int (q2.2.1 61 (r2).toNatClampNeg)), (S0, (j_w q2.2.1 46 26 ((q2.2.1 46 26) + 1)), q2.2.2)) else none) q2.1) q1.1
  else
    some (some (.int 0), (S0, M, N))) := (R_ev d kX11_one 400 0 _ _ _).trans rfl
theorem bX11_one_32 (d : Nat) (x1 : Int32) (M : j_M) (N : j_N) : R d kX11_one 32 [.ref 46, .int x1, .null, .null, .null] [] (S0, M, N) =
  (if (M 46 29) = 6 then
    (C d 199 [.ref 46] S0 M N).bind fun q3 => j_oi none (fun r3 =>
    some (some (.int r3), (S0, q3.2.1, q3.2.2))) q3.1
  else
    if x1 = 40 then
      (C d 201 [.ref 46] S0 (j_w (j_w M 46 29 ((M 46 29) + 1)) 46 26 ((M 46 26) + 1)) N).bind fun q2 => j_oi none (fun r2 =>
      R d kX11_one 83 [.ref 46, .int x1, .null, .null, .null] [.int r2] (S0, q2.2.1, q2.2.2)) q2.1
    else
      (C d 207 [.ref 46] S0 (j_w (j_w M 46 29 ((M 46 29) + 1)) 46 26 ((M 46 26) + 1)) N).bind fun q1 => j_oi none (fun r1 =>
      R d kX11_one 83 [.ref 46, .int x1, .null, .null, .null] [.int r1] (S0, q1.2.1, q1.2.2)) q1.1) := (R_ev d kX11_one 400 32 _ _ _).trans rfl
theorem bX11_one_176 (d : Nat) (x3 : Int32) (x4 : Int32) (M : j_M) (N : j_N) : R d kX11_one 176 [.ref 46, .null, .null, .int x3, .int x4] [] (S0, M, N) =
  (if 4 ≤ x4 then
    if x4 = 0 then
      (C d 199 [.ref 46] S0 M N).bind fun q1 => j_oi none (fun r1 =>
      some (some (.int r1), (S0, q1.2.1, q1.2.2))) q1.1
    else
      some (some (.int x3), (S0, M, N))
  else
    (C d 198 [.ref 46] S0 M N).bind fun q2 => j_oi none (fun r2 =>
    if r2 < 48 then
      if x4 = 0 then
        (C d 199 [.ref 46] S0 q2.2.1 q2.2.2).bind fun q3 => j_oi none (fun r3 =>
        some (some (.int r3), (S0, q3.2.1, q3.2.2))) q3.1
      else
        some (some (.int x3), (S0, q2.2.1, q2.2.2))
    else
      (C d 198 [.ref 46] S0 q2.2.1 q2.2.2).bind fun q4 => j_oi none (fun r4 =>
      if 57 < r4 then
        if x4 = 0 then
          (C d 199 [.ref 46] S0 q4.2.1 q4.2.2).bind fun q5 => j_oi none (fun r5 =>
          some (some (.int r5), (S0, q5.2.1, q5.2.2))) q5.1
        else
          some (some (.int x3), (S0, q4.2.1, q4.2.2))
      else
        (C d 198 [.ref 46] S0 q4.2.1 q4.2.2).bind fun q6 => j_oi none (fun r6 =>
        R d kX11_one 176 [.ref 46, .null, .null, .int (((10 * x3) + r6) - 48), .int (x4 + 1)] [] (S0, (j_w q6.2.1 46 26 ((q6.2.1 46 26) + 1)), q6.2.2)) q6.1) q4.1) q2.1) := (R_ev d kX11_one 400 176 _ _ _).trans rfl
theorem bX11_one_83 (d : Nat) (x1 : Int32) (s0 : Int32) (M : j_M) (N : j_N) : R d kX11_one 83 [.ref 46, .int x1, .null, .null, .null] [.int s0] (S0, M, N) =
  (if x1 = 40 then
    (C d 200 [.ref 46, .int 41] S0 M N).bind fun q1 => j_oi none (fun r1 =>
    if r1 = 0 then
      (C d 199 [.ref 46] S0 q1.2.1 q1.2.2).bind fun q2 => j_oi none (fun r2 =>
      some (some (.int r2), (S0, q2.2.1, q2.2.2))) q2.1
    else
      if x1 = 40 then
        some (some (.int s0), (S0, (j_w q1.2.1 46 29 ((q1.2.1 46 29) - 1)), q1.2.2))
      else
        if x1 = 45 then
          some (some (.int (-s0)), (S0, (j_w q1.2.1 46 29 ((q1.2.1 46 29) - 1)), q1.2.2))
        else
          if s0 = 0 then
            some (some (.int 1), (S0, (j_w q1.2.1 46 29 ((q1.2.1 46 29) - 1)), q1.2.2))
          else
            some (some (.int 0), (S0, (j_w q1.2.1 46 29 ((q1.2.1 46 29) - 1)), q1.2.2))) q1.1
  else
    if x1 = 40 then
      some (some (.int s0), (S0, (j_w M 46 29 ((M 46 29) - 1)), N))
    else
      if x1 = 45 then
        some (some (.int (-s0)), (S0, (j_w M 46 29 ((M 46 29) - 1)), N))
      else
        if s0 = 0 then
          some (some (.int 1), (S0, (j_w M 46 29 ((M 46 29) - 1)), N))
        else
          some (some (.int 0), (S0, (j_w M 46 29 ((M 46 29) - 1)), N))) := (R_ev d kX11_one 400 83 _ _ _).trans rfl
theorem bX11_workOut_0 (d : Nat) (x1 : Int32) (x2 : Int32) (M : j_M) (N : j_N) : R d kX11_workOut 0 [.ref 46, .int x1, .int x2, .null, .null, .null, .null, .null] [] (S0, M, N) =
  (R d kX11_workOut 33 [.ref 46, .null, .null, .int 0, .int 0, .int 1, .null, .null] [] (S0, (j_w (j_w (j_w (j_w (j_w M 46 25 x1) 46 26 0) 46 27 x2) 46 28 (-1)) 46 29 0), N)) := (R_ev d kX11_workOut 400 0 _ _ _).trans rfl
theorem bX11_workOut_33 (d : Nat) (x3 : Int32) (x4 : Int32) (x5 : Int32) (M : j_M) (N : j_N) : R d kX11_workOut 33 [.ref 46, .null, .null, .int x3, .int x4, .int x5, .null, .null] [] (S0, M, N) =
  (if x5 = 0 then
    if 0 ≤ (M 46 28) then
      some (some (.int x4), (S0, M, N))
    else
      if (M 46 27) ≤ (M 46 26) then
        some (some (.int x4), (S0, M, N))
      else
        (C d 199 [.ref 46] S0 M N).bind fun q1 => j_oi none (fun r1 =>
        some (some (.int r1), (S0, q1.2.1, q1.2.2))) q1.1
  else
    (C d 201 [.ref 46] S0 M N).bind fun q2 => j_oi none (fun r2 =>
    (C d 200 [.ref 46, .int 63] S0 q2.2.1 q2.2.2).bind fun q3 => j_oi none (fun r3 =>
    if r3 = 0 then
      R d kX11_workOut 74 [.ref 46, .null, .null, .int x3, .int x4, .null, .int r2, .int 1] [] (S0, q3.2.1, q3.2.2)
    else
      if r2 = 0 then
        (C d 201 [.ref 46] S0 q3.2.1 q3.2.2).bind fun q4 => j_oi none (fun r4 =>
        R d kX11_workOut 74 [.ref 46, .null, .null, .int x3, .int x4, .null, .int r4, .int 0] [] (S0, q4.2.1, q4.2.2)) q4.1
      else
        (C d 201 [.ref 46] S0 q3.2.1 q3.2.2).bind fun q5 => j_oi none (fun r5 =>
        R d kX11_workOut 74 [.ref 46, .null, .null, .int x3, .int x4, .null, .int r5, .int 1] [] (S0, q5.2.1, q5.2.2)) q5.1) q3.1) q2.1) := (R_ev d kX11_workOut 400 33 _ _ _).trans rfl
theorem bX11_workOut_74 (d : Nat) (x3 : Int32) (x4 : Int32) (x6 : Int32) (x7 : Int32) (M : j_M) (N : j_N) : R d kX11_workOut 74 [.ref 46, .null, .null, .int x3, .int x4, .null, .int x6, .int x7] [] (S0, M, N) =
  (if 0 ≤ (M 46 28) then
    (C d 200 [.ref 46, .int 59] S0 M N).bind fun q1 => j_oi none (fun r1 =>
    R d kX11_workOut 33 [.ref 46, .null, .null, .int x3, .int x4, .int r1, .null, .null] [] (S0, q1.2.1, q1.2.2)) q1.1
  else
    if x7 = 0 then
      (C d 200 [.ref 46, .int 59] S0 M N).bind fun q2 => j_oi none (fun r2 =>
      R d kX11_workOut 33 [.ref 46, .null, .null, .int x3, .int x4, .int r2, .null, .null] [] (S0, q2.2.1, q2.2.2)) q2.1
    else
      if x3 = 0 then
        (C d 200 [.ref 46, .int 59] S0 M N).bind fun q4 => j_oi none (fun r4 =>
        R d kX11_workOut 33 [.ref 46, .null, .null, .int 1, .int x6, .int r4, .null, .null] [] (S0, q4.2.1, q4.2.2)) q4.1
      else
        (C d 200 [.ref 46, .int 59] S0 M N).bind fun q3 => j_oi none (fun r3 =>
        R d kX11_workOut 33 [.ref 46, .null, .null, .int x3, .int x4, .int r3, .null, .null] [] (S0, q3.2.1, q3.2.2)) q3.1) := (R_ev d kX11_workOut 400 74 _ _ _).trans rfl
theorem bX11_law_0 (d : Nat)  (M : j_M) (N : j_N) : R d kX11_law 0 [.ref 46, .null, .null, .null] [] (S0, M, N) =
  ((C d 208 [.ref 46, .int (-1), .int (M 46 22)] S0 M N).bind fun q1 => j_oi none (fun r1 =>
  if (q1.2.1 46 28) < 0 then
    R d kX11_law 37 [.ref 46, .null, .int (q1.2.1 46 22), .int 0] [] (S0, (j_w q1.2.1 46 22 0), q1.2.2)
  else
    some (some (.int ((-100) - (q1.2.1 46 28))), (S0, (j_w q1.2.1 46 22 0), q1.2.2))) q1.1) := (R_ev d kX11_law 400 0 _ _ _).trans rfl
theorem bX11_law_37 (d : Nat) (x2 : Int32) (x3 : Int32) (M : j_M) (N : j_N) : R d kX11_law 37 [.ref 46, .null, .int x2, .int x3] [] (S0, M, N) =
  (if x2 ≤ x3 then
    some (some (.int 1), (S0, (j_w M 46 24 x2), N))
  else
    bif j_in x3 120 then
    bif j_in x3 120 then
    R d kX11_law 37 [.ref 46, .null, .int x2, .int (x3 + 1)] [] (S0, (j_w M 60 (x3).toNatClampNeg (M 59 (x3).toNatClampNeg)), N) else none else none) := (R_ev d kX11_law 400 37 _ _ _).trans rfl
theorem bX11_wouldGive_0 (d : Nat) (x1 : Int32) (x2 : Int32) (M : j_M) (N : j_N) : R d kX11_wouldGive 0 [.ref 46, .int x1, .int x2, .null] [] (S0, M, N) =
  (if (M 46 6) = 0 then none else
  if (M 46 24) < 0 then
    if 0 ≤ (x2 / (M 46 6)) then
      bif j_in x1 27 then
      if (x2 / (M 46 6)) ≤ (M 47 (x1).toNatClampNeg) then
        some (some (.int (x2 / (M 46 6))), (S0, M, N))
      else
        bif j_in x1 27 then
        some (some (.int (M 47 (x1).toNatClampNeg)), (S0, M, N)) else none else none
    else
      some (some (.int 0), (S0, M, N))
  else
    bif j_in x1 27 then
    (C d 208 [.ref 46, .int 0, .int (M 46 24)] S0 (j_w (j_w (j_w (j_w (j_w M 61 0 x2) 61 1 (M 47 (x1).toNatClampNeg)) 61 2 x1) 61 3 (M 46 6)) 61 4 (M 47 25)) N).bind fun q1 => j_oi none (fun r1 =>
    if 0 ≤ r1 then
      bif j_in x1 27 then
      if r1 ≤ (q1.2.1 47 (x1).toNatClampNeg) then
        some (some (.int r1), (S0, q1.2.1, q1.2.2))
      else
        bif j_in x1 27 then
        some (some (.int (q1.2.1 47 (x1).toNatClampNeg)), (S0, q1.2.1, q1.2.2)) else none else none
    else
      some (some (.int 0), (S0, q1.2.1, q1.2.2))) q1.1 else none) := (R_ev d kX11_wouldGive 400 0 _ _ _).trans rfl
theorem bX11_thought_0 (d : Nat) (x1 : Int32) (x2 : Int32) (x3 : Int32) (M : j_M) (N : j_N) : R d kX11_thought 0 [.ref 46, .int x1, .int x2, .int x3, .null, .null, .null] [] (S0, M, N) =
  ((C d 160 [.ref 46, .int x1] S0 M N).bind fun q1 => j_oi none (fun r1 =>
  if r1 = 0 then
    some (some (.int (-1)), (S0, q1.2.1, q1.2.2))
  else
    (C d 155 [.long x2.toInt64, .long 0, .long 99] S0 q1.2.1 q1.2.2).bind fun q2 => j_oi none (fun r2 =>
    if r2 = 0 then
      some (some (.int (-1)), (S0, q2.2.1, q2.2.2))
    else
      (C d 155 [.long x3.toInt64, .long 0, .long 1] S0 q2.2.1 q2.2.2).bind fun q3 => j_oi none (fun r3 =>
      if r3 = 0 then
        some (some (.int (-1)), (S0, q3.2.1, q3.2.2))
      else
        R d kX11_thought 43 [.ref 46, .int x1, .int x2, .int x3, .int (-2), .int (-2), .int 0] [] (S0, q3.2.1, q3.2.2)) q3.1) q2.1) q1.1) := (R_ev d kX11_thought 400 0 _ _ _).trans rfl
theorem bX11_thought_43 (d : Nat) (x1 : Int32) (x2 : Int32) (x3 : Int32) (x4 : Int32) (x5 : Int32) (x6 : Int32) (M : j_M) (N : j_N) : R d kX11_thought 43 [.ref 46, .int x1, .int x2, .int x3, .int x4, .int x5, .int x6] [] (S0, M, N) =
  (if 599 < x6 then
    if x3 = 0 then
      some (some (.int x4), (S0, M, N))
    else
      some (some (.int x5), (S0, M, N))
  else
    (C d 210 [.ref 46, .int x1, .int x6] S0 M N).bind fun q1 => j_oi none (fun r1 =>
    if r1 = x2 then
      if 0 ≤ x4 then
        R d kX11_thought 43 [.ref 46, .int x1, .int x2, .int x3, .int x4, .int x6, .int (x6 + 1)] [] (S0, q1.2.1, q1.2.2)
      else
        R d kX11_thought 43 [.ref 46, .int x1, .int x2, .int x3, .int x6, .int x6, .int (x6 + 1)] [] (S0, q1.2.1, q1.2.2)
    else
      R d kX11_thought 43 [.ref 46, .int x1, .int x2, .int x3, .int x4, .int x5, .int (x6 + 1)] [] (S0, q1.2.1, q1.2.2)) q1.1) := (R_ev d kX11_thought 400 43 _ _ _).trans rfl
theorem bX11_givenBy_0 (d : Nat) (x1 : Int32) (M : j_M) (N : j_N) : R d kX11_givenBy 0 [.ref 46, .int x1] [] (S0, M, N) =
  (bif j_in x1 6 then
  if 0 ≤ (M 51 (x1).toNatClampNeg) then
    bif j_in x1 6 then
    (C d 210 [.ref 46, .int x1, .int (M 51 (x1).toNatClampNeg)] S0 M N).bind fun q1 => j_oi none (fun r1 =>
    some (some (.int r1), (S0, q1.2.1, q1.2.2))) q1.1 else none
  else
    (C d 210 [.ref 46, .int x1, .int (M 47 24)] S0 M N).bind fun q2 => j_oi none (fun r2 =>
    some (some (.int r2), (S0, q2.2.1, q2.2.2))) q2.1 else none) := (R_ev d kX11_givenBy 400 0 _ _ _).trans rfl
theorem bX11_given_0 (d : Nat) (x1 : Int32) (M : j_M) (N : j_N) : R d kX11_given 0 [.ref 46, .int x1, .null, .null] [] (S0, M, N) =
  (if x1 = (-1) then
    if x1 < 0 then
      R d kX11_given 29 [.ref 46, .null, .int 0, .int 0] [] (S0, M, N)
    else
      (C d 212 [.ref 46, .int x1] S0 M N).bind fun q1 => j_oi none (fun r1 =>
      some (some (.int r1), (S0, q1.2.1, q1.2.2))) q1.1
  else
    (C d 160 [.ref 46, .int x1] S0 M N).bind fun q2 => j_oi none (fun r2 =>
    if r2 = 0 then
      some (some (.int (-1)), (S0, q2.2.1, q2.2.2))
    else
      if x1 < 0 then
        R d kX11_given 29 [.ref 46, .null, .int 0, .int 0] [] (S0, q2.2.1, q2.2.2)
      else
        (C d 212 [.ref 46, .int x1] S0 q2.2.1 q2.2.2).bind fun q3 => j_oi none (fun r3 =>
        some (some (.int r3), (S0, q3.2.1, q3.2.2))) q3.1) q2.1) := (R_ev d kX11_given 400 0 _ _ _).trans rfl
theorem bX11_given_29 (d : Nat) (x2 : Int32) (x3 : Int32) (M : j_M) (N : j_N) : R d kX11_given 29 [.ref 46, .null, .int x2, .int x3] [] (S0, M, N) =
  (if (M 46 6) ≤ x3 then
    some (some (.int x2), (S0, M, N))
  else
    (C d 212 [.ref 46, .int x3] S0 M N).bind fun q1 => j_oi none (fun r1 =>
    R d kX11_given 29 [.ref 46, .null, .int (x2 + r1), .int (x3 + 1)] [] (S0, q1.2.1, q1.2.2)) q1.1) := (R_ev d kX11_given 400 29 _ _ _).trans rfl
theorem bX11_stranger_0 (d : Nat) (x1 : Int32) (x2 : Int32) (x3 : Int32) (M : j_M) (N : j_N) : R d kX11_stranger 0 [.ref 46, .int x1, .int x2, .int x3, .null, .null, .null] [] (S0, M, N) =
  ((C d 160 [.ref 46, .int x1] S0 M N).bind fun q1 => j_oi none (fun r1 =>
  if r1 = 0 then
    some (some (.long (-9223372036854775808)), (S0, q1.2.1, q1.2.2))
  else
    if x2 < 0 then
      some (some (.long (-9223372036854775808)), (S0, q1.2.1, q1.2.2))
    else
      if 12 < (x2 / 100) then
        some (some (.long (-9223372036854775808)), (S0, q1.2.1, q1.2.2))
      else
        (C d 155 [.long x3.toInt64, .long 0, .long 1] S0 q1.2.1 q1.2.2).bind fun q2 => j_oi none (fun r2 =>
        if r2 = 0 then
          some (some (.long (-9223372036854775808)), (S0, q2.2.1, q2.2.2))
        else
          (C d 167 [.ref 46] S0 q2.2.1 q2.2.2).bind fun q3 => j_ov none (
          (C d 173 [.ref 46] S0 q3.2.1 q3.2.2).bind fun q4 => j_ov none (
          (C d 174 [.ref 46, .int x1] S0 q4.2.1 q4.2.2).bind fun q5 => j_oi none (fun r5 =>
          bif j_in (q5.2.1 46 6) 7 then
          (C d 173 [.ref 46] S0 (j_w (j_w q5.2.1 53 ((q5.2.1 46 6)).toNatClampNeg (x2 - x2 / 100 * 100)) 46 12 ((q5.2.1 46 6) + 1)) q5.2.2).bind fun q6 => j_ov none (
          (C d 174 [.ref 46, .int x1] S0 q6.2.1 q6.2.2).bind fun q7 => j_oi none (fun r7 =>
          (C d 180 [.long (((x2 / 100) * r7).toInt64 + ((12 - (x2 / 100)).toInt64 * r5.toInt64)), .long 12, .int x3] S0 q7.2.1 q7.2.2).bind fun q8 => j_ol none (fun r8 =>
          some (some (.long r8), (S0, q8.2.1, q8.2.2))) q8.1) q7.1) q6.1 else none) q5.1) q4.1) q3.1) q2.1) q1.1) := (R_ev d kX11_stranger 400 0 _ _ _).trans rfl
theorem bX11_night_0 (d : Nat)  (M : j_M) (N : j_N) : R d kX11_night 0 [.ref 46, .null, .null] [] (S0, M, N) =
  (if (M 46 6) = 0 then
    some (some (.int (-5)), (S0, M, N))
  else
    (C d 167 [.ref 46] S0 M N).bind fun q1 => j_ov none (
    (C d 173 [.ref 46] S0 q1.2.1 q1.2.2).bind fun q2 => j_ov none (
    R d kX11_night 22 [.ref 46, .int 0, .int 0] [] (S0, q2.2.1, q2.2.2)) q2.1) q1.1) := (R_ev d kX11_night 400 0 _ _ _).trans rfl
theorem bX11_night_22 (d : Nat) (x1 : Int32) (x2 : Int32) (M : j_M) (N : j_N) : R d kX11_night 22 [.ref 46, .int x1, .int x2] [] (S0, M, N) =
  (if (M 46 6) ≤ x2 then
    some (some (.int x1), (S0, (j_w (j_w M 46 9 ((M 46 9) + 1)) 46 10 ((M 46 10) + (M 46 15))), N))
  else
    (C d 174 [.ref 46, .int x2] S0 M N).bind fun q1 => j_oi none (fun r1 =>
    bif j_in x2 6 then
    (C d 174 [.ref 46, .int x2] S0 q1.2.1 q1.2.2).bind fun q2 => j_oi none (fun r2 =>
    bif j_in x2 6 then
    R d kX11_night 22 [.ref 46, .int (x1 + r1), .int (x2 + 1)] [] (S0, (j_w q2.2.1 52 (x2).toNatClampNeg ((q1.2.1 52 (x2).toNatClampNeg) + r2)), q2.2.2) else none) q2.1 else none) q1.1) := (R_ev d kX11_night 400 22 _ _ _).trans rfl
theorem bX11_drawn_0 (d : Nat) (x1 : Int32) (x2 : Int32) (x3 : Int32) (x4 : Int32) (M : j_M) (N : j_N) : R d kX11_drawn 0 [.ref 46, .int x1, .int x2, .int x3, .int x4, .null, .null, .null, .null, .null] [] (S0, M, N) =
  ((C d 155 [.long x2.toInt64, .long 1, .long 50] S0 M N).bind fun q1 => j_oi none (fun r1 =>
  if r1 = 0 then
    some (some (.int (-2000000000)), (S0, q1.2.1, q1.2.2))
  else
    (C d 160 [.ref 46, .int x3] S0 q1.2.1 q1.2.2).bind fun q2 => j_oi none (fun r2 =>
    if r2 = 0 then
      some (some (.int (-2000000000)), (S0, q2.2.1, q2.2.2))
    else
      (C d 155 [.long x4.toInt64, .long 0, .long 1] S0 q2.2.1 q2.2.2).bind fun q3 => j_oi none (fun r3 =>
      if r3 = 0 then
        some (some (.int (-2000000000)), (S0, q3.2.1, q3.2.2))
      else
        R d kX11_drawn 46 [.ref 46, .null, .int x2, .int x3, .int x4, .int x1, .int 0, .int 0, .int 0, .null] [] (S0, q3.2.1, q3.2.2)) q3.1) q2.1) q1.1) := (R_ev d kX11_drawn 400 0 _ _ _).trans rfl
theorem bX11_drawn_46 (d : Nat) (x2 : Int32) (x3 : Int32) (x4 : Int32) (x5 : Int32) (x6 : Int32) (x7 : Int32) (x8 : Int32) (M : j_M) (N : j_N) : R d kX11_drawn 46 [.ref 46, .null, .int x2, .int x3, .int x4, .int x5, .int x6, .int x7, .int x8, .null] [] (S0, M, N) =
  (if x2 ≤ x8 then
    if x4 = 0 then
      some (some (.int x6), (S0, M, N))
    else
      some (some (.int x7), (S0, M, N))
  else
    (C d 167 [.ref 46] S0 M N).bind fun q1 => j_ov none (
    R d kX11_drawn 59 [.ref 46, .null, .int x2, .int x3, .int x4, .int x5, .int x6, .int x7, .int x8, .int 0] [] (S0, q1.2.1, q1.2.2)) q1.1) := (R_ev d kX11_drawn 400 46 _ _ _).trans rfl
theorem bX11_drawn_59 (d : Nat) (x2 : Int32) (x3 : Int32) (x4 : Int32) (x5 : Int32) (x6 : Int32) (x7 : Int32) (x8 : Int32) (x9 : Int32) (M : j_M) (N : j_N) : R d kX11_drawn 59 [.ref 46, .null, .int x2, .int x3, .int x4, .int x5, .int x6, .int x7, .int x8, .int x9] [] (S0, M, N) =
  (if (M 46 6) ≤ x9 then
    (C d 173 [.ref 46] S0 M N).bind fun q1 => j_ov none (
    bif j_in x3 7 then
    if (q1.2.1 54 (x3).toNatClampNeg) ≤ 0 then
      (C d 174 [.ref 46, .int x3] S0 q1.2.1 q1.2.2).bind fun q2 => j_oi none (fun r2 =>
      R d kX11_drawn 46 [.ref 46, .null, .int x2, .int x3, .int x4, .int x5, .int (x6 + 0), .int (x7 + r2), .int (x8 + 1), .null] [] (S0, q2.2.1, q2.2.2)) q2.1
    else
      (C d 174 [.ref 46, .int x3] S0 q1.2.1 q1.2.2).bind fun q3 => j_oi none (fun r3 =>
      R d kX11_drawn 46 [.ref 46, .null, .int x2, .int x3, .int x4, .int x5, .int (x6 + 1), .int (x7 + r3), .int (x8 + 1), .null] [] (S0, q3.2.1, q3.2.2)) q3.1 else none) q1.1
  else
    bif j_in (12 + x9) 27 then
    if (M 47 ((12 + x9)).toNatClampNeg) ≤ (((((x5 * 1103515245) + 12345)).toUInt32 >>> ((8 : Int32).toUInt32 &&& Int32.toUInt32 31)).toInt32 - ((((x5 * 1103515245) + 12345)).toUInt32 >>> ((8 : Int32).toUInt32 &&& Int32.toUInt32 31)).toInt32 / 12 * 12) then
      bif j_in x9 7 then
      bif j_in x9 7 then
      R d kX11_drawn 59 [.ref 46, .null, .int x2, .int x3, .int x4, .int ((x5 * 1103515245) + 12345), .int x6, .int x7, .int x8, .int (x9 + 1)] [] (S0, (j_w M 53 (x9).toNatClampNeg (M 53 (x9).toNatClampNeg)), N) else none else none
    else
      bif j_in (18 + x9) 27 then
      bif j_in x9 7 then
      R d kX11_drawn 59 [.ref 46, .null, .int x2, .int x3, .int x4, .int ((x5 * 1103515245) + 12345), .int x6, .int x7, .int x8, .int (x9 + 1)] [] (S0, (j_w M 53 (x9).toNatClampNeg (M 47 ((18 + x9)).toNatClampNeg)), N) else none else none else none) := (R_ev d kX11_drawn 400 59 _ _ _).trans rfl
theorem bX11_hatIs_0 (d : Nat) (x1 : Int32) (M : j_M) (N : j_N) : R d kX11_hatIs 0 [.ref 46, .int x1] [] (S0, M, N) =
  ((C d 235 [.int x1] S0 M N).bind fun q1 => j_oi none (fun r1 =>
  if r1 = 0 then
    some (some (.int (-1)), (S0, q1.2.1, q1.2.2))
  else
    bif j_in x1 6 then
    if 0 ≤ (q1.2.1 66 (x1).toNatClampNeg) then
      bif j_in x1 6 then
      if (q1.2.1 66 (x1).toNatClampNeg) = 51 then
        some (some (.int 1), (S0, q1.2.1, q1.2.2))
      else
        some (some (.int (-12)), (S0, q1.2.1, q1.2.2)) else none
    else
      some (some (.int (-11)), (S0, q1.2.1, q1.2.2)) else none) q1.1) := (R_ev d kX11_hatIs 400 0 _ _ _).trans rfl
theorem bX11_firstFalse_0 (d : Nat) (x1 : Int32) (x2 : Int32) (M : j_M) (N : j_N) : R d kX11_firstFalse 0 [.ref 46, .int x1, .int x2, .null] [] (S0, M, N) =
  ((C d 167 [.ref 46] S0 M N).bind fun q1 => j_ov none (
  (C d 172 [.ref 46, .int (q1.2.1 47 24), .int x2] S0 q1.2.1 q1.2.2).bind fun q2 => j_ov none (
  R d kX11_firstFalse 18 [.ref 46, .int x1, .null, .int 0] [] (S0, q2.2.1, q2.2.2)) q2.1) q1.1) := (R_ev d kX11_firstFalse 400 0 _ _ _).trans rfl
theorem bX11_firstFalse_18 (d : Nat) (x1 : Int32) (x3 : Int32) (M : j_M) (N : j_N) : R d kX11_firstFalse 18 [.ref 46, .int x1, .null, .int x3] [] (S0, M, N) =
  (if (M 46 6) ≤ x3 then
    some (some (.int (-2)), (S0, M, N))
  else
    bif j_in x1 6 then
    if (M 67 (x1).toNatClampNeg) ≤ x3 then
      some (some (.int (-2)), (S0, M, N))
    else
      bif j_in ((60 * x1) + x3) 360 then
      (C d 174 [.ref 46, .int x3] S0 M N).bind fun q1 => j_oi none (fun r1 =>
      if (lg_cmp (N 68 (((60 * x1) + x3)).toNatClampNeg) r1.toInt64) = 0 then
        R d kX11_firstFalse 18 [.ref 46, .int x1, .null, .int (x3 + 1)] [] (S0, q1.2.1, q1.2.2)
      else
        some (some (.int x3), (S0, q1.2.1, q1.2.2))) q1.1 else none else none) := (R_ev d kX11_firstFalse 400 18 _ _ _).trans rfl
theorem bX11_judge_0 (d : Nat) (x1 : Int32) (M : j_M) (N : j_N) : R d kX11_judge 0 [.ref 46, .int x1] [] (S0, M, N) =
  ((C d 217 [.ref 46, .int x1] S0 M N).bind fun q1 => j_oi none (fun r1 =>
  if 0 ≤ r1 then
    (C d 218 [.ref 46, .int x1, .int (q1.2.1 47 25)] S0 q1.2.1 q1.2.2).bind fun q2 => j_oi none (fun r2 =>
    some (some (.int r2), (S0, q2.2.1, q2.2.2))) q2.1
  else
    (C d 217 [.ref 46, .int x1] S0 q1.2.1 q1.2.2).bind fun q3 => j_oi none (fun r3 =>
    some (some (.int r3), (S0, q3.2.1, q3.2.2))) q3.1) q1.1) := (R_ev d kX11_judge 400 0 _ _ _).trans rfl
theorem bX11_fits_0 (d : Nat) (x1 : Int32) (M : j_M) (N : j_N) : R d kX11_fits 0 [.ref 46, .int x1, .null, .null] [] (S0, M, N) =
  ((C d 217 [.ref 46, .int x1] S0 M N).bind fun q1 => j_oi none (fun r1 =>
  if 0 ≤ r1 then
    R d kX11_fits 18 [.ref 46, .int x1, .int 0, .int 0] [] (S0, q1.2.1, q1.2.2)
  else
    (C d 217 [.ref 46, .int x1] S0 q1.2.1 q1.2.2).bind fun q2 => j_oi none (fun r2 =>
    some (some (.int r2), (S0, q2.2.1, q2.2.2))) q2.1) q1.1) := (R_ev d kX11_fits 400 0 _ _ _).trans rfl
theorem bX11_fits_18 (d : Nat) (x1 : Int32) (x2 : Int32) (x3 : Int32) (M : j_M) (N : j_N) : R d kX11_fits 18 [.ref 46, .int x1, .int x2, .int x3] [] (S0, M, N) =
  (if 5 ≤ x3 then
    some (some (.int x2), (S0, M, N))
  else
    (C d 218 [.ref 46, .int x1, .int x3] S0 M N).bind fun q1 => j_oi none (fun r1 =>
    if r1 = (-2) then
      R d kX11_fits 18 [.ref 46, .int x1, .int (x2 ||| ((1 : Int32) <<< (x3 &&& 31))), .int (x3 + 1)] [] (S0, q1.2.1, q1.2.2)
    else
      R d kX11_fits 18 [.ref 46, .int x1, .int (x2 ||| 0), .int (x3 + 1)] [] (S0, q1.2.1, q1.2.2)) q1.1) := (R_ev d kX11_fits 400 18 _ _ _).trans rfl
theorem bX11_fair_0 (d : Nat) (x1 : Int32) (M : j_M) (N : j_N) : R d kX11_fair 0 [.ref 46, .int x1, .null, .null, .null, .null, .null] [] (S0, M, N) =
  ((C d 155 [.long x1.toInt64, .long 0, .long 1] S0 M N).bind fun q1 => j_oi none (fun r1 =>
  if r1 = 0 then
    some (some (.int (-2000000000)), (S0, q1.2.1, q1.2.2))
  else
    if (q1.2.1 46 6) = 0 then
      some (some (.int (-5)), (S0, q1.2.1, q1.2.2))
    else
      (C d 167 [.ref 46] S0 q1.2.1 q1.2.2).bind fun q2 => j_ov none (
      R d kX11_fair 34 [.ref 46, .int x1, .int (-1), .int 0, .int 0, .null, .null] [] (S0, q2.2.1, q2.2.2)) q2.1) q1.1) := (R_ev d kX11_fair 400 0 _ _ _).trans rfl
theorem bX11_fair_34 (d : Nat) (x1 : Int32) (x2 : Int32) (x3 : Int32) (x4 : Int32) (M : j_M) (N : j_N) : R d kX11_fair 34 [.ref 46, .int x1, .int x2, .int x3, .int x4, .null, .null] [] (S0, M, N) =
  (if 5 ≤ x4 then
    if x1 = 0 then
      some (some (.int x2), (S0, M, N))
    else
      some (some (.int x3), (S0, M, N))
  else
    (C d 172 [.ref 46, .int (M 47 24), .int x4] S0 M N).bind fun q1 => j_ov none (
    R d kX11_fair 59 [.ref 46, .int x1, .int x2, .int x3, .int x4, .int 0, .int 0] [] (S0, q1.2.1, q1.2.2)) q1.1) := (R_ev d kX11_fair 400 34 _ _ _).trans rfl
theorem bX11_fair_59 (d : Nat) (x1 : Int32) (x2 : Int32) (x3 : Int32) (x4 : Int32) (x5 : Int32) (x6 : Int32) (M : j_M) (N : j_N) : R d kX11_fair 59 [.ref 46, .int x1, .int x2, .int x3, .int x4, .int x5, .int x6] [] (S0, M, N) =
  (if (M 46 6) ≤ x6 then
    if x2 < 0 then
      R d kX11_fair 34 [.ref 46, .int x1, .int x4, .int x5, .int (x4 + 1), .null, .null] [] (S0, M, N)
    else
      if x3 ≤ x5 then
        R d kX11_fair 34 [.ref 46, .int x1, .int x2, .int x3, .int (x4 + 1), .null, .null] [] (S0, M, N)
      else
        R d kX11_fair 34 [.ref 46, .int x1, .int x4, .int x5, .int (x4 + 1), .null, .null] [] (S0, M, N)
  else
    (C d 174 [.ref 46, .int x6] S0 M N).bind fun q1 => j_oi none (fun r1 =>
    if r1 ≤ x5 then
      R d kX11_fair 59 [.ref 46, .int x1, .int x2, .int x3, .int x4, .int x5, .int (x6 + 1)] [] (S0, q1.2.1, q1.2.2)
    else
      (C d 174 [.ref 46, .int x6] S0 q1.2.1 q1.2.2).bind fun q2 => j_oi none (fun r2 =>
      R d kX11_fair 59 [.ref 46, .int x1, .int x2, .int x3, .int x4, .int r2, .int (x6 + 1)] [] (S0, q2.2.1, q2.2.2)) q2.1) q1.1) := (R_ev d kX11_fair 400 59 _ _ _).trans rfl
theorem bX11_image_0 (d : Nat)  (M : j_M) (N : j_N) : R d kX11_image 0 [.ref 46, .null] [] (S0, M, N) =
  (R d kX11_image 31 [.ref 46, .int 0] [] (S0, (j_w (j_w (j_w (j_w M 46 31 1) 46 32 (M 46 6)) 46 33 (M 46 9)) 46 34 (M 46 10)), N)) := (R_ev d kX11_image 400 0 _ _ _).trans rfl
theorem bX11_image_31 (d : Nat) (x1 : Int32) (M : j_M) (N : j_N) : R d kX11_image 31 [.ref 46, .int x1] [] (S0, M, N) =
  (if 6 ≤ x1 then
    some (some (.int (M 46 9)), (S0, M, N))
  else
    bif j_in (6 + x1) 27 then
    bif j_in x1 6 then
    bif j_in x1 6 then
    bif j_in x1 6 then
    R d kX11_image 31 [.ref 46, .int (x1 + 1)] [] (S0, (j_w (j_w M 62 (x1).toNatClampNeg (M 47 ((6 + x1)).toNatClampNeg)) 63 (x1).toNatClampNeg (M 52 (x1).toNatClampNeg)), N) else none else none else none else none) := (R_ev d kX11_image 400 31 _ _ _).trans rfl
theorem bX11_back_0 (d : Nat)  (M : j_M) (N : j_N) : R d kX11_back 0 [.ref 46, .null] [] (S0, M, N) =
  (if (M 46 31) = 0 then
    some (some (.int (-5)), (S0, M, N))
  else
    R d kX11_back 28 [.ref 46, .int 0] [] (S0, (j_w (j_w M 46 9 (M 46 33)) 46 10 (M 46 34)), N)) := (R_ev d kX11_back 400 0 _ _ _).trans rfl
theorem bX11_back_28 (d : Nat) (x1 : Int32) (M : j_M) (N : j_N) : R d kX11_back 28 [.ref 46, .int x1] [] (S0, M, N) =
  (if (M 46 6) ≤ x1 then
    some (some (.int (M 46 9)), (S0, M, N))
  else
    if (M 46 32) ≤ x1 then
      bif j_in (6 + x1) 27 then
      bif j_in (6 + x1) 27 then
      if (M 46 32) ≤ x1 then
        bif j_in x1 6 then
        R d kX11_back 28 [.ref 46, .int (x1 + 1)] [] (S0, (j_w (j_w M 47 ((6 + x1)).toNatClampNeg (M 47 ((6 + x1)).toNatClampNeg)) 52 (x1).toNatClampNeg 0), N) else none
      else
        bif j_in x1 6 then
        bif j_in x1 6 then
        R d kX11_back 28 [.ref 46, .int (x1 + 1)] [] (S0, (j_w (j_w M 47 ((6 + x1)).toNatClampNeg (M 47 ((6 + x1)).toNatClampNeg)) 52 (x1).toNatClampNeg (M 63 (x1).toNatClampNeg)), N) else none else none else none else none
    else
      bif j_in x1 6 then
      bif j_in (6 + x1) 27 then
      if (M 46 32) ≤ x1 then
        bif j_in x1 6 then
        R d kX11_back 28 [.ref 46, .int (x1 + 1)] [] (S0, (j_w (j_w M 47 ((6 + x1)).toNatClampNeg (M 62 (x1).toNatClampNeg)) 52 (x1).toNatClampNeg 0), N) else none
      else
        bif j_in x1 6 then
        bif j_in x1 6 then
        R d kX11_back 28 [.ref 46, .int (x1 + 1)] [] (S0, (j_w (j_w M 47 ((6 + x1)).toNatClampNeg (M 62 (x1).toNatClampNeg)) 52 (x1).toNatClampNeg (M 63 (x1).toNatClampNeg)), N) else none else none else none else none) := (R_ev d kX11_back 400 28 _ _ _).trans rfl
theorem bX11_isBody_0 (d : Nat) (x1 : Int32) (M : j_M) (N : j_N) : R d kX11_isBody 0 [.ref 46, .int x1] [] (S0, M, N) =
  ((C d 155 [.long x1.toInt64, .long 0, .long ((M 46 37) - 1).toInt64] S0 M N).bind fun q1 => j_oi none (fun r1 =>
  bif decide (r1 = 0) || decide (r1 = 1) then some (some (.int r1), (S0, q1.2.1, q1.2.2)) else none) q1.1) := (R_ev d kX11_isBody 400 0 _ _ _).trans rfl
theorem bX11_kindOf_0 (d : Nat) (x1 : Int32) (M : j_M) (N : j_N) : R d kX11_kindOf 0 [.ref 46, .int x1] [] (S0, M, N) =
  (bif j_in x1 50 then
  some (some (.int (M 64 (x1).toNatClampNeg)), (S0, M, N)) else none) := (R_ev d kX11_kindOf 400 0 _ _ _).trans rfl
theorem bX11_body_0 (d : Nat) (x1 : Int32) (M : j_M) (N : j_N) : R d kX11_body 0 [.ref 46, .int x1] [] (S0, M, N) =
  ((C d 155 [.long x1.toInt64, .long 0, .long 7] S0 M N).bind fun q1 => j_oi none (fun r1 =>
  if r1 = 0 then
    some (some (.int (-1)), (S0, q1.2.1, q1.2.2))
  else
    if (q1.2.1 46 37) = 50 then
      some (some (.int (-3)), (S0, q1.2.1, q1.2.2))
    else
      bif j_in (q1.2.1 46 37) 50 then
      some (some (.int (((q1.2.1 46 37) + 1) - 1)), (S0, (j_w (j_w q1.2.1 64 ((q1.2.1 46 37)).toNatClampNeg x1) 46 37 ((q1.2.1 46 37) + 1)), q1.2.2)) else none) q1.1) := (R_ev d kX11_body 400 0 _ _ _).trans rfl
theorem bX11_above_0 (d : Nat) (x0 : Int32) (M : j_M) (N : j_N) : R d kX11_above 0 [.int x0] [] (S0, M, N) =
  (if x0 = 3 then
    some (some (.int 2), (S0, M, N))
  else
    if x0 = 4 then
      some (some (.int 1), (S0, M, N))
    else
      if x0 = 5 then
        some (some (.int 3), (S0, M, N))
      else
        if x0 = 7 then
          some (some (.int 4), (S0, M, N))
        else
          some (some (.int 0), (S0, M, N))) := (R_ev d kX11_above 400 0 _ _ _).trans rfl
theorem bX11_begins_0 (d : Nat) (x1 : Int32) (M : j_M) (N : j_N) : R d kX11_begins 0 [.ref 46, .int x1] [] (S0, M, N) =
  (if 24 ≤ (M 46 40) then
    some (none, (S0, (j_w M 46 40 ((M 46 40) + 1)), N))
  else
    bif j_in (M 46 40) 24 then
    some (none, (S0, (j_w (j_w M 65 ((M 46 40)).toNatClampNeg x1) 46 40 ((M 46 40) + 1)), N)) else none) := (R_ev d kX11_begins 400 0 _ _ _).trans rfl
theorem bX11_givesAs_0 (d : Nat) (x1 : Int32) (x2 : Int32) (M : j_M) (N : j_N) : R d kX11_givesAs 0 [.ref 46, .int x1, .int x2] [] (S0, M, N) =
  (if x1 = 1 then
    (C d 228 [.ref 46, .int 20] S0 M N).bind fun q1 => j_ov none (
    (C d 229 [.ref 46, .int 0, .int x2] S0 q1.2.1 q1.2.2).bind fun q2 => j_oi none (fun r2 =>
    some (some (.int (r2 + 3)), (S0, q2.2.1, q2.2.2))) q2.1) q1.1
  else
    if x1 = 4 then
      (C d 228 [.ref 46, .int 20] S0 M N).bind fun q3 => j_ov none (
      (C d 229 [.ref 46, .int 0, .int x2] S0 q3.2.1 q3.2.2).bind fun q4 => j_oi none (fun r4 =>
      some (some (.int (r4 + 3)), (S0, q4.2.1, q4.2.2))) q4.1) q3.1
    else
      if x1 = 7 then
        (C d 228 [.ref 46, .int 20] S0 M N).bind fun q8 => j_ov none (
        (C d 229 [.ref 46, .int 0, .int x2] S0 q8.2.1 q8.2.2).bind fun q9 => j_oi none (fun r9 =>
        some (some (.int (r9 + 3)), (S0, q9.2.1, q9.2.2))) q9.1) q8.1
      else
        if x1 = 6 then
          (C d 228 [.ref 46, .int 70] S0 M N).bind fun q6 => j_ov none (
          (C d 229 [.ref 46, .int 0, .int x2] S0 q6.2.1 q6.2.2).bind fun q7 => j_oi none (fun r7 =>
          some (some (.int (r7 * 2)), (S0, q7.2.1, q7.2.2))) q7.1) q6.1
        else
          (C d 228 [.ref 46, .int 1] S0 M N).bind fun q5 => j_ov none (
          some (some (.int (x2 + (q5.2.1 46 42))), (S0, q5.2.1, q5.2.2))) q5.1) := (R_ev d kX11_givesAs 400 0 _ _ _).trans rfl
theorem bX11_owesAs_0 (d : Nat) (x1 : Int32) (x2 : Int32) (M : j_M) (N : j_N) : R d kX11_owesAs 0 [.ref 46, .int x1, .int x2, .null] [] (S0, M, N) =
  (if x1 = 3 then
    (C d 228 [.ref 46, .int 41] S0 M N).bind fun q1 => j_ov none (
    (C d 230 [.ref 46, .int 2, .int (x2 + 1)] S0 q1.2.1 q1.2.2).bind fun q2 => j_oi none (fun r2 =>
    some (some (.int r2), (S0, q2.2.1, q2.2.2))) q2.1) q1.1
  else
    if x1 = 5 then
      (C d 228 [.ref 46, .int 41] S0 M N).bind fun q10 => j_ov none (
      (C d 230 [.ref 46, .int 2, .int (x2 + 1)] S0 q10.2.1 q10.2.2).bind fun q11 => j_oi none (fun r11 =>
      some (some (.int r11), (S0, q11.2.1, q11.2.2))) q11.1) q10.1
    else
      if x1 = 2 then
        (C d 228 [.ref 46, .int 30] S0 M N).bind fun q8 => j_ov none (
        (C d 230 [.ref 46, .int 0, .int x2] S0 q8.2.1 q8.2.2).bind fun q9 => j_oi none (fun r9 =>
        some (some (.int (-r9)), (S0, q9.2.1, q9.2.2))) q9.1) q8.1
      else
        if x1 = 7 then
          (C d 228 [.ref 46, .int 80] S0 M N).bind fun q5 => j_ov none (
          (C d 230 [.ref 46, .int 4, .int x2] S0 q5.2.1 q5.2.2).bind fun q6 => j_oi none (fun r6 =>
          (C d 231 [.ref 46, .int (q6.2.1 46 41), .int 2] S0 q6.2.1 q6.2.2).bind fun q7 => j_oi none (fun r7 =>
          some (some (.int (r6 + r7)), (S0, q7.2.1, q7.2.2))) q7.1) q6.1) q5.1
        else
          (C d 228 [.ref 46, .int 10] S0 M N).bind fun q3 => j_ov none (
          (C d 229 [.ref 46, .int (q3.2.1 46 41), .int x2] S0 q3.2.1 q3.2.2).bind fun q4 => j_oi none (fun r4 =>
          some (some (.int (r4 * 2)), (S0, q4.2.1, q4.2.2))) q4.1) q3.1) := (R_ev d kX11_owesAs 400 0 _ _ _).trans rfl
theorem bX11_lacksAs_0 (d : Nat) (x1 : Int32) (x2 : Int32) (M : j_M) (N : j_N) : R d kX11_lacksAs 0 [.ref 46, .int x1, .int x2, .null] [] (S0, M, N) =
  (if x1 = 3 then
    (C d 228 [.ref 46, .int 40] S0 M N).bind fun q1 => j_ov none (
    (C d 231 [.ref 46, .int 2, .int x2] S0 q1.2.1 q1.2.2).bind fun q2 => j_oi none (fun r2 =>
    some (some (.int (r2 * 3)), (S0, q2.2.1, q2.2.2))) q2.1) q1.1
  else
    if x1 = 5 then
      (C d 228 [.ref 46, .int 40] S0 M N).bind fun q10 => j_ov none (
      (C d 231 [.ref 46, .int 2, .int x2] S0 q10.2.1 q10.2.2).bind fun q11 => j_oi none (fun r11 =>
      some (some (.int (r11 * 3)), (S0, q11.2.1, q11.2.2))) q11.1) q10.1
    else
      if x1 = 4 then
        (C d 228 [.ref 46, .int 50] S0 M N).bind fun q3 => j_ov none (
        (C d 231 [.ref 46, .int 1, .int x2] S0 q3.2.1 q3.2.2).bind fun q4 => j_oi none (fun r4 =>
        (C d 229 [.ref 46, .int (q4.2.1 46 41), .int 2] S0 q4.2.1 q4.2.2).bind fun q5 => j_oi none (fun r5 =>
        some (some (.int (r4 - r5)), (S0, q5.2.1, q5.2.2))) q5.1) q4.1) q3.1
      else
        if x1 = 7 then
          (C d 228 [.ref 46, .int 50] S0 M N).bind fun q7 => j_ov none (
          (C d 231 [.ref 46, .int 1, .int x2] S0 q7.2.1 q7.2.2).bind fun q8 => j_oi none (fun r8 =>
          (C d 229 [.ref 46, .int (q8.2.1 46 41), .int 2] S0 q8.2.1 q8.2.2).bind fun q9 => j_oi none (fun r9 =>
          some (some (.int (r8 - r9)), (S0, q9.2.1, q9.2.2))) q9.1) q8.1) q7.1
        else
          (C d 228 [.ref 46, .int 11] S0 M N).bind fun q6 => j_ov none (
          some (some (.int (x2 ^^^ (q6.2.1 46 42))), (S0, q6.2.1, q6.2.2))) q6.1) := (R_ev d kX11_lacksAs 400 0 _ _ _).trans rfl
theorem bX11_tellsAs_0 (d : Nat) (x1 : Int32) (x2 : Int32) (M : j_M) (N : j_N) : R d kX11_tellsAs 0 [.ref 46, .int x1, .int x2, .null] [] (S0, M, N) =
  (if x1 = 5 then
    (C d 228 [.ref 46, .int 60] S0 M N).bind fun q6 => j_ov none (
    (C d 232 [.ref 46, .int 3, .int x2] S0 q6.2.1 q6.2.2).bind fun q7 => j_oi none (fun r7 =>
    some (some (.int (r7 ^^^ 5)), (S0, q7.2.1, q7.2.2))) q7.1) q6.1
  else
    if x1 = 7 then
      (C d 228 [.ref 46, .int 81] S0 M N).bind fun q4 => j_ov none (
      (C d 232 [.ref 46, .int 4, .int x2] S0 q4.2.1 q4.2.2).bind fun q5 => j_oi none (fun r5 =>
      some (some (.int (r5 - 1)), (S0, q5.2.1, q5.2.2))) q5.1) q4.1
    else
      (C d 228 [.ref 46, .int 2] S0 M N).bind fun q1 => j_ov none (
      (C d 230 [.ref 46, .int (q1.2.1 46 41), .int x2] S0 q1.2.1 q1.2.2).bind fun q2 => j_oi none (fun r2 =>
      (C d 231 [.ref 46, .int (q2.2.1 46 41), .int 1] S0 q2.2.1 q2.2.2).bind fun q3 => j_oi none (fun r3 =>
      some (some (.int (r2 - r3)), (S0, q3.2.1, q3.2.2))) q3.1) q2.1) q1.1) := (R_ev d kX11_tellsAs 400 0 _ _ _).trans rfl
theorem bX11_act_0 (d : Nat) (x1 : Int32) (x2 : Int32) (x3 : Int32) (M : j_M) (N : j_N) : R d kX11_act 0 [.ref 46, .int x1, .int x2, .int x3] [] (S0, M, N) =
  ((C d 224 [.ref 46, .int x1] S0 (j_w M 46 40 0) N).bind fun q1 => j_oi none (fun r1 =>
  if r1 = 0 then
    some (some (.int 0), (S0, q1.2.1, q1.2.2))
  else
    bif j_in x1 50 then
    if x2 = 0 then
      (C d 229 [.ref 46, .int (q1.2.1 64 (x1).toNatClampNeg), .int x3] S0 (j_w (j_w q1.2.1 46 41 (q1.2.1 64 (x1).toNatClampNeg)) 46 42 x1) q1.2.2).bind fun q2 => j_oi none (fun r2 =>
      some (some (.int r2), (S0, q2.2.1, q2.2.2))) q2.1
    else if x2 = 1 then
      (C d 230 [.ref 46, .int (q1.2.1 64 (x1).toNatClampNeg), .int x3] S0 (j_w (j_w q1.2.1 46 41 (q1.2.1 64 (x1).toNatClampNeg)) 46 42 x1) q1.2.2).bind fun q3 => j_oi none (fun r3 =>
      some (some (.int r3), (S0, q3.2.1, q3.2.2))) q3.1
    else if x2 = 2 then
      (C d 231 [.ref 46, .int (q1.2.1 64 (x1).toNatClampNeg), .int x3] S0 (j_w (j_w q1.2.1 46 41 (q1.2.1 64 (x1).toNatClampNeg)) 46 42 x1) q1.2.2).bind fun q4 => j_oi none (fun r4 =>
      some (some (.int r4), (S0, q4.2.1, q4.2.2))) q4.1
    else if x2 = 3 then
      (C d 232 [.ref 46, .int (q1.2.1 64 (x1).toNatClampNeg), .int x3] S0 (j_w (j_w q1.2.1 46 41 (q1.2.1 64 (x1).toNatClampNeg)) 46 42 x1) q1.2.2).bind fun q5 => j_oi none (fun r5 =>
      some (some (.int r5), (S0, q5.2.1, q5.2.2))) q5.1
    else 
      some (some (.int 0), (S0, (j_w (j_w q1.2.1 46 41 (q1.2.1 64 (x1).toNatClampNeg)) 46 42 x1), q1.2.2)) else none) q1.1) := (R_ev d kX11_act 400 0 _ _ _).trans rfl
theorem bX11_trace_0 (d : Nat) (x1 : Int32) (M : j_M) (N : j_N) : R d kX11_trace 0 [.ref 46, .int x1] [] (S0, M, N) =
  (if x1 < 0 then
    some (some (.int (-1)), (S0, M, N))
  else
    if (M 46 40) ≤ x1 then
      some (some (.int (-1)), (S0, M, N))
    else
      if 24 ≤ x1 then
        some (some (.int (-1)), (S0, M, N))
      else
        bif j_in x1 24 then
        some (some (.int (M 65 (x1).toNatClampNeg)), (S0, M, N)) else none) := (R_ev d kX11_trace 400 0 _ _ _).trans rfl
theorem bX11_isShelf_0 (d : Nat) (x0 : Int32) (M : j_M) (N : j_N) : R d kX11_isShelf 0 [.int x0] [] (S0, M, N) =
  ((C d 155 [.long x0.toInt64, .long 0, .long 5] S0 M N).bind fun q1 => j_oi none (fun r1 =>
  bif decide (r1 = 0) || decide (r1 = 1) then some (some (.int r1), (S0, q1.2.1, q1.2.2)) else none) q1.1) := (R_ev d kX11_isShelf 400 0 _ _ _).trans rfl
theorem bX11_keep_0 (d : Nat) (x1 : Int32) (x2 : Int32) (M : j_M) (N : j_N) : R d kX11_keep 0 [.ref 46, .int x1, .int x2] [] (S0, M, N) =
  ((C d 235 [.int x1] S0 M N).bind fun q1 => j_oi none (fun r1 =>
  if r1 = 0 then
    some (some (.int (-1)), (S0, q1.2.1, q1.2.2))
  else
    if x2 = (-1) then
      bif j_in x1 6 then
      bif j_in x1 6 then
      some (some (.int 1), (S0, (j_w (j_w q1.2.1 66 (x1).toNatClampNeg x2) 67 (x1).toNatClampNeg 0), q1.2.2)) else none else none
    else
      (C d 224 [.ref 46, .int x2] S0 q1.2.1 q1.2.2).bind fun q2 => j_oi none (fun r2 =>
      if r2 = 0 then
        some (some (.int (-1)), (S0, q2.2.1, q2.2.2))
      else
        bif j_in x1 6 then
        bif j_in x1 6 then
        some (some (.int 1), (S0, (j_w (j_w q2.2.1 66 (x1).toNatClampNeg x2) 67 (x1).toNatClampNeg 0), q2.2.2)) else none else none) q2.1) q1.1) := (R_ev d kX11_keep 400 0 _ _ _).trans rfl
theorem bX11_row_0 (d : Nat) (x1 : Int32) (x2 : Int32) (x3 : Int32) (M : j_M) (N : j_N) : R d kX11_row 0 [.ref 46, .int x1, .int x2, .int x3, .null] [] (S0, M, N) =
  ((C d 235 [.int x1] S0 M N).bind fun q1 => j_oi none (fun r1 =>
  if r1 = 0 then
    some (some (.int (-1)), (S0, q1.2.1, q1.2.2))
  else
    (C d 155 [.long x2.toInt64, .long 0, .long 4] S0 q1.2.1 q1.2.2).bind fun q2 => j_oi none (fun r2 =>
    if r2 = 0 then
      some (some (.int (-1)), (S0, q2.2.1, q2.2.2))
    else
      if x3 ≤ 60 then
        if 0 ≤ x3 then
          bif j_in x1 6 then
          bif j_in x1 6 then
          R d kX11_row 57 [.ref 46, .int x1, .null, .null, .int (60 * x1)] [] (S0, (j_w (j_w q2.2.1 66 (x1).toNatClampNeg (50 + x2)) 67 (x1).toNatClampNeg x3), q2.2.2) else none else none
        else
          some (some (.int (-14)), (S0, q2.2.1, q2.2.2))
      else
        some (some (.int (-1)), (S0, q2.2.1, q2.2.2))) q2.1) q1.1) := (R_ev d kX11_row 400 0 _ _ _).trans rfl
theorem bX11_row_57 (d : Nat) (x1 : Int32) (x4 : Int32) (M : j_M) (N : j_N) : R d kX11_row 57 [.ref 46, .int x1, .null, .null, .int x4] [] (S0, M, N) =
  (if ((60 * x1) + 60) ≤ x4 then
    some (some (.int 1), (S0, M, N))
  else
    bif j_in x4 360 then
    R d kX11_row 57 [.ref 46, .int x1, .null, .null, .int (x4 + 1)] [] (S0, M, (j_wl N 68 (x4).toNatClampNeg 0)) else none) := (R_ev d kX11_row 400 57 _ _ _).trans rfl
theorem bX11_refusal_0 (d : Nat) (x1 : Int32) (x2 : Int32) (M : j_M) (N : j_N) : R d kX11_refusal 0 [.ref 46, .int x1, .int x2] [] (S0, M, N) =
  ((C d 235 [.int x1] S0 M N).bind fun q1 => j_oi none (fun r1 =>
  if r1 = 0 then
    some (some (.int (-1)), (S0, q1.2.1, q1.2.2))
  else
    bif j_in x1 6 then
    if 0 ≤ (q1.2.1 66 (x1).toNatClampNeg) then
      bif j_in x1 6 then
      if 50 ≤ (q1.2.1 66 (x1).toNatClampNeg) then
        if x2 < 0 then
          some (some (.int (-13)), (S0, q1.2.1, q1.2.2))
        else
          bif j_in x1 6 then
          if (q1.2.1 67 (x1).toNatClampNeg) ≤ x2 then
            some (some (.int (-13)), (S0, q1.2.1, q1.2.2))
          else
            some (some (.int 0), (S0, q1.2.1, q1.2.2)) else none
      else
        some (some (.int (-12)), (S0, q1.2.1, q1.2.2)) else none
    else
      some (some (.int (-11)), (S0, q1.2.1, q1.2.2)) else none) q1.1) := (R_ev d kX11_refusal 400 0 _ _ _).trans rfl
theorem bX11_asSort_0 (d : Nat) (x0 : Int32) (y1 : Int64) (M : j_M) (N : j_N) : R d kX11_asSort 0 [.int x0, .long y1, .null] [] (S0, M, N) =
  (if x0 = 0 then
    some (some (.long y1.toInt32.toInt8.toInt32.toInt64), (S0, M, N))
  else
    if x0 = 1 then
      some (some (.long y1.toInt32.toInt16.toInt32.toInt64), (S0, M, N))
    else
      if x0 = 2 then
        some (some (.long y1.toInt32.toInt64), (S0, M, N))
      else
        if x0 = 4 then
          if (lg_cmp y1 0) = 0 then
            some (some (.long 0), (S0, M, N))
          else
            some (some (.long 1), (S0, M, N))
        else
          some (some (.long y1), (S0, M, N))) := (R_ev d kX11_asSort 400 0 _ _ _).trans rfl
theorem bX11_put_0 (d : Nat) (x1 : Int32) (x2 : Int32) (y3 : Int64) (M : j_M) (N : j_N) : R d kX11_put 0 [.ref 46, .int x1, .int x2, .long y3, .null, .null] [] (S0, M, N) =
  ((C d 238 [.ref 46, .int x1, .int x2] S0 M N).bind fun q1 => j_oi none (fun r1 =>
  if r1 = 0 then
    bif j_in x1 6 then
    (C d 239 [.int ((q1.2.1 66 (x1).toNatClampNeg) - 50), .long y3] S0 q1.2.1 q1.2.2).bind fun q2 => j_ol none (fun r2 =>
    bif j_in ((60 * x1) + x2) 360 then
    if r1 = 0 then
      some (some (.int 1), (S0, q2.2.1, (j_wl q2.2.2 68 (((60 * x1) + x2)).toNatClampNeg r2)))
    else
      some (some (.int r1), (S0, q2.2.1, (j_wl q2.2.2 68 (((60 * x1) + x2)).toNatClampNeg r2))) else none) q2.1 else none
  else
    if r1 = 0 then
      some (some (.int 1), (S0, q1.2.1, q1.2.2))
    else
      some (some (.int r1), (S0, q1.2.1, q1.2.2))) q1.1) := (R_ev d kX11_put 400 0 _ _ _).trans rfl
theorem bX11_element_0 (d : Nat) (x1 : Int32) (x2 : Int32) (M : j_M) (N : j_N) : R d kX11_element 0 [.ref 46, .int x1, .int x2] [] (S0, M, N) =
  ((C d 238 [.ref 46, .int x1, .int x2] S0 M N).bind fun q1 => j_oi none (fun r1 =>
  if r1 = 0 then
    bif j_in ((60 * x1) + x2) 360 then
    some (some (.long (q1.2.2 68 (((60 * x1) + x2)).toNatClampNeg)), (S0, q1.2.1, q1.2.2)) else none
  else
    some (some (.long (-9223372036854775808)), (S0, q1.2.1, q1.2.2))) q1.1) := (R_ev d kX11_element 400 0 _ _ _).trans rfl
theorem bX11_shift_0 (d : Nat) (x1 : Int32) (x2 : Int32) (x3 : Int32) (x4 : Int32) (x5 : Int32) (M : j_M) (N : j_N) : R d kX11_shift 0 [.ref 46, .int x1, .int x2, .int x3, .int x4, .int x5, .null] [] (S0, M, N) =
  ((C d 235 [.int x1] S0 M N).bind fun q1 => j_oi none (fun r1 =>
  if r1 = 0 then
    some (some (.int (-1)), (S0, q1.2.1, q1.2.2))
  else
    (C d 235 [.int x3] S0 q1.2.1 q1.2.2).bind fun q2 => j_oi none (fun r2 =>
    if r2 = 0 then
      some (some (.int (-1)), (S0, q2.2.1, q2.2.2))
    else
      bif j_in x1 6 then
      if (q2.2.1 66 (x1).toNatClampNeg) < 0 then
        some (some (.int (-11)), (S0, q2.2.1, q2.2.2))
      else
        bif j_in x3 6 then
        if 0 ≤ (q2.2.1 66 (x3).toNatClampNeg) then
          bif j_in x1 6 then
          if (q2.2.1 66 (x1).toNatClampNeg) < 50 then
            some (some (.int (-12)), (S0, q2.2.1, q2.2.2))
          else
            bif j_in x1 6 then
            bif j_in x3 6 then
            if (q2.2.1 66 (x1).toNatClampNeg) = (q2.2.1 66 (x3).toNatClampNeg) then
              if x5 < 0 then
                some (some (.int (-13)), (S0, q2.2.1, q2.2.2))
              else
                if x2 < 0 then
                  some (some (.int (-13)), (S0, q2.2.1, q2.2.2))
                else
                  if x4 < 0 then
                    some (some (.int (-13)), (S0, q2.2.1, q2.2.2))
                  else
                    bif j_in x1 6 then
                    if ((q2.2.1 67 (x1).toNatClampNeg) - x5) < x2 then
                      some (some (.int (-13)), (S0, q2.2.1, q2.2.2))
                    else
                      bif j_in x3 6 then
                      if x4 ≤ ((q2.2.1 67 (x3).toNatClampNeg) - x5) then
                        R d kX11_shift 113 [.ref 46, .int x1, .int x2, .int x3, .int x4, .int x5, .int 0] [] (S0, q2.2.1, q2.2.2)
                      else
                        some (some (.int (-13)), (S0, q2.2.1, q2.2.2)) else none else none
            else
              some (some (.int (-12)), (S0, q2.2.1, q2.2.2)) else none else none else none
        else
          some (some (.int (-11)), (S0, q2.2.1, q2.2.2)) else none else none) q2.1) q1.1) := (R_ev d kX11_shift 400 0 _ _ _).trans rfl
theorem bX11_shift_113 (d : Nat) (x1 : Int32) (x2 : Int32) (x3 : Int32) (x4 : Int32) (x5 : Int32) (x6 : Int32) (M : j_M) (N : j_N) : R d kX11_shift 113 [.ref 46, .int x1, .int x2, .int x3, .int x4, .int x5, .int x6] [] (S0, M, N) =
  (if x5 ≤ x6 then
    R d kX11_shift 150 [.ref 46, .null, .null, .int x3, .int x4, .int x5, .int 0] [] (S0, M, N)
  else
    bif j_in (((60 * x1) + x2) + x6) 360 then
    bif j_in x6 60 then
    R d kX11_shift 113 [.ref 46, .int x1, .int x2, .int x3, .int x4, .int x5, .int (x6 + 1)] [] (S0, M, (j_wl N 69 (x6).toNatClampNeg (N 68 ((((60 * x1) + x2) + x6)).toNatClampNeg))) else none else none) := (R_ev d kX11_shift 400 113 _ _ _).trans rfl
theorem bX11_shift_150 (d : Nat) (x3 : Int32) (x4 : Int32) (x5 : Int32) (x6 : Int32) (M : j_M) (N : j_N) : R d kX11_shift 150 [.ref 46, .null, .null, .int x3, .int x4, .int x5, .int x6] [] (S0, M, N) =
  (if x5 ≤ x6 then
    some (some (.int x5), (S0, M, N))
  else
    bif j_in x6 60 then
    bif j_in (((60 * x3) + x4) + x6) 360 then
    R d kX11_shift 150 [.ref 46, .null, .null, .int x3, .int x4, .int x5, .int (x6 + 1)] [] (S0, M, (j_wl N 68 ((((60 * x3) + x4) + x6)).toNatClampNeg (N 69 (x6).toNatClampNeg))) else none else none) := (R_ev d kX11_shift 400 150 _ _ _).trans rfl
theorem bX11_taken_0 (d : Nat) (x1 : Int32) (x2 : Int32) (M : j_M) (N : j_N) : R d kX11_taken 0 [.ref 46, .int x1, .int x2, .null] [] (S0, M, N) =
  ((C d 235 [.int x1] S0 M N).bind fun q1 => j_oi none (fun r1 =>
  if r1 = 0 then
    some (some (.int (-1)), (S0, q1.2.1, q1.2.2))
  else
    (C d 155 [.long x2.toInt64, .long 0, .long 7] S0 q1.2.1 q1.2.2).bind fun q2 => j_oi none (fun r2 =>
    if r2 = 0 then
      some (some (.int (-1)), (S0, q2.2.1, q2.2.2))
    else
      bif j_in x1 6 then
      if 0 ≤ (q2.2.1 66 (x1).toNatClampNeg) then
        bif j_in x1 6 then
        if (q2.2.1 66 (x1).toNatClampNeg) < 50 then
          bif j_in x1 6 then
          (C d 225 [.ref 46, .int (q2.2.1 66 (x1).toNatClampNeg)] S0 q2.2.1 q2.2.2).bind fun q3 => j_oi none (fun r3 =>
          R d kX11_taken 58 [.ref 46, .int x1, .int x2, .int r3] [] (S0, q3.2.1, q3.2.2)) q3.1 else none
        else
          some (some (.int (-12)), (S0, q2.2.1, q2.2.2)) else none
      else
        some (some (.int (-11)), (S0, q2.2.1, q2.2.2)) else none) q2.1) q1.1) := (R_ev d kX11_taken 400 0 _ _ _).trans rfl
theorem bX11_taken_58 (d : Nat) (x1 : Int32) (x2 : Int32) (x3 : Int32) (M : j_M) (N : j_N) : R d kX11_taken 58 [.ref 46, .int x1, .int x2, .int x3] [] (S0, M, N) =
  (if x3 = x2 then
    if x3 = x2 then
      bif j_in x1 6 then
      (C d 225 [.ref 46, .int (M 66 (x1).toNatClampNeg)] S0 M N).bind fun q1 => j_oi none (fun r1 =>
      some (some (.int r1), (S0, q1.2.1, q1.2.2))) q1.1 else none
    else
      some (some (.int (-12)), (S0, M, N))
  else
    if x3 ≤ 0 then
      if x3 = x2 then
        bif j_in x1 6 then
        (C d 225 [.ref 46, .int (M 66 (x1).toNatClampNeg)] S0 M N).bind fun q2 => j_oi none (fun r2 =>
        some (some (.int r2), (S0, q2.2.1, q2.2.2))) q2.1 else none
      else
        some (some (.int (-12)), (S0, M, N))
    else
      (C d 227 [.int x3] S0 M N).bind fun q3 => j_oi none (fun r3 =>
      R d kX11_taken 58 [.ref 46, .int x1, .int x2, .int r3] [] (S0, q3.2.1, q3.2.2)) q3.1) := (R_ev d kX11_taken 400 58 _ _ _).trans rfl
theorem bX11_count_0 (d : Nat) (x1 : Int32) (M : j_M) (N : j_N) : R d kX11_count 0 [.ref 46, .int x1] [] (S0, M, N) =
  (if x1 = 0 then
    some (some (.int (M 46 6)), (S0, M, N))
  else if x1 = 1 then
    some (some (.int (M 46 17)), (S0, M, N))
  else if x1 = 2 then
    some (some (.int (M 46 22)), (S0, M, N))
  else if x1 = 3 then
    some (some (.int (M 46 5)), (S0, M, N))
  else if x1 = 4 then
    some (some (.int (M 46 37)), (S0, M, N))
  else if x1 = 5 then
    some (some (.int (M 46 40)), (S0, M, N))
  else 
    some (some (.int (-1)), (S0, M, N))) := (R_ev d kX11_count 400 0 _ _ _).trans rfl
theorem bJ7_fill_d0a16_0 (d : Nat) (a0 : Nat) (y1 : Int64) (M : j_M) (N : j_N) : R d kJ7_fill_d0a16 0 [.ref a0, .long y1, .null, .null, .null] [] (S0, M, N) =
  (bif Nat.ble (j_at S0 a0).1 2 then
  R d kJ7_fill_d0a16 6 [.ref a0, .long y1, .null, .int 0, .int (Int32.ofNat (j_at S0 a0).2.1)] [] (S0, M, N) else none) := (R_ev d kJ7_fill_d0a16 400 0 _ _ _).trans rfl
theorem bJ7_fill_d0a16_6 (d : Nat) (a0 : Nat) (y1 : Int64) (x3 : Int32) (x4 : Int32) (M : j_M) (N : j_N) : R d kJ7_fill_d0a16 6 [.ref a0, .long y1, .null, .int x3, .int x4] [] (S0, M, N) =
  (if x4 ≤ x3 then
    some (none, (S0, M, N))
  else
    bif Nat.beq (j_at S0 a0).1 1 && j_in x3 (j_at S0 a0).2.1 then
    R d kJ7_fill_d0a16 6 [.ref a0, .long y1, .null, .int (x3 + 1), .int x4] [] (S0, M, (j_wl N a0 (x3).toNatClampNeg y1)) else none) := (R_ev d kJ7_fill_d0a16 400 6 _ _ _).trans rfl
theorem bJ7_fill_53178_0 (d : Nat) (a0 : Nat) (x1 : Int32) (M : j_M) (N : j_N) : R d kJ7_fill_53178 0 [.ref a0, .int x1, .null, .null] [] (S0, M, N) =
  (bif Nat.ble (j_at S0 a0).1 2 then
  R d kJ7_fill_53178 5 [.ref a0, .int x1, .int 0, .int (Int32.ofNat (j_at S0 a0).2.1)] [] (S0, M, N) else none) := (R_ev d kJ7_fill_53178 400 0 _ _ _).trans rfl
theorem bJ7_fill_53178_5 (d : Nat) (a0 : Nat) (x1 : Int32) (x2 : Int32) (x3 : Int32) (M : j_M) (N : j_N) : R d kJ7_fill_53178 5 [.ref a0, .int x1, .int x2, .int x3] [] (S0, M, N) =
  (if x3 ≤ x2 then
    some (none, (S0, M, N))
  else
    bif Nat.beq (j_at S0 a0).1 0 && j_in x2 (j_at S0 a0).2.1 then
    R d kJ7_fill_53178 5 [.ref a0, .int x1, .int (x2 + 1), .int x3] [] (S0, (j_w M a0 (x2).toNatClampNeg x1), N) else none) := (R_ev d kJ7_fill_53178 400 5 _ _ _).trans rfl
