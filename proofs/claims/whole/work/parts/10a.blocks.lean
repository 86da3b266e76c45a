/-! ===== block equations (printed by wip/whole/genblk.py) ===== -/
set_option maxRecDepth 100000 in
theorem bX0_has_0 (d : Nat) (x1 : Int32) (M : j_M) (N : j_N) : R d kX0_has 0 [.ref 30, .int x1] [] (S0, M, N) =
  (if x1 < 0 then
    some (some (.int 0), (S0, M, N))
  else
    if (M 30 2) ≤ x1 then
      some (some (.int 0), (S0, M, N))
    else
      some (some (.int 1), (S0, M, N))) := (R_ev d kX0_has 400 0 _ _ _).trans rfl
set_option maxRecDepth 100000 in
theorem bX0_kindOf_0 (d : Nat) (x1 : Int32) (M : j_M) (N : j_N) : R d kX0_kindOf 0 [.ref 30, .int x1] [] (S0, M, N) =
  ((C d 1 [.ref 30, .int x1] S0 M N).bind fun q1 => j_oi none (fun r1 =>
  if r1 = 0 then
    some (some (.int 0), (S0, q1.2.1, q1.2.2))
  else
    bif j_in x1 50 then
    some (some (.int (q1.2.1 31 (x1).toNatClampNeg)), (S0, q1.2.1, q1.2.2)) else none) q1.1) := (R_ev d kX0_kindOf 400 0 _ _ _).trans rfl
set_option maxRecDepth 100000 in
theorem bX0_add_0 (d : Nat) (x1 : Int32) (M : j_M) (N : j_N) : R d kX0_add 0 [.ref 30, .int x1] [] (S0, M, N) =
  (if (M 30 2) < 50 then
    bif j_in (M 30 2) 50 then
    some (some (.int (((M 30 2) + 1) - 1)), (S0, (j_w (j_w M 31 ((M 30 2)).toNatClampNeg x1) 30 2 ((M 30 2) + 1)), N)) else none
  else
    some (some (.int (-3)), (S0, M, N))) := (R_ev d kX0_add 400 0 _ _ _).trans rfl
set_option maxRecDepth 100000 in
theorem bX0_isUnder_0 (d : Nat) (x0 : Int32) (x1 : Int32) (M : j_M) (N : j_N) : R d kX0_isUnder 0 [.int x0, .int x1, .null, .null] [] (S0, M, N) =
  (R d kX0_isUnder 4 [.null, .int x1, .int x0, .int 0] [] (S0, M, N)) := (R_ev d kX0_isUnder 400 0 _ _ _).trans rfl
set_option maxRecDepth 100000 in
theorem bX0_isUnder_4 (d : Nat) (x1 : Int32) (x2 : Int32) (x3 : Int32) (M : j_M) (N : j_N) : R d kX0_isUnder 4 [.null, .int x1, .int x2, .int x3] [] (S0, M, N) =
  (if 8 ≤ x3 then
    some (some (.int 0), (S0, M, N))
  else
    if x2 < 0 then
      some (some (.int 0), (S0, M, N))
    else
      if x2 = x1 then
        some (some (.int 1), (S0, M, N))
      else
        bif j_in x2 8 then
        R d kX0_isUnder 4 [.null, .int x1, .int (j_tg j_T0 (x2).toNatClampNeg), .int (x3 + 1)] [] (S0, M, N) else none) := (R_ev d kX0_isUnder 400 4 _ _ _).trans rfl
set_option maxRecDepth 100000 in
theorem bX0_ranAt_0 (d : Nat) (x1 : Int32) (M : j_M) (N : j_N) : R d kX0_ranAt 0 [.ref 30, .int x1] [] (S0, M, N) =
  (if x1 < 0 then
    some (some (.int (-1)), (S0, M, N))
  else
    if (M 30 3) ≤ x1 then
      some (some (.int (-1)), (S0, M, N))
    else
      if 24 ≤ x1 then
        some (some (.int (-1)), (S0, M, N))
      else
        bif j_in x1 24 then
        some (some (.int (M 32 (x1).toNatClampNeg)), (S0, M, N)) else none) := (R_ev d kX0_ranAt 400 0 _ _ _).trans rfl
set_option maxRecDepth 100000 in
theorem bX0_perform_0 (d : Nat) (x1 : Int32) (x2 : Int32) (x3 : Int32) (M : j_M) (N : j_N) : R d kX0_perform 0 [.ref 30, .int x1, .int x2, .int x3] [] (S0, M, N) =
  ((C d 1 [.ref 30, .int x1] S0 (j_w M 30 3 0) N).bind fun q1 => j_oi none (fun r1 =>
  if r1 = 0 then
    some (some (.int 0), (S0, q1.2.1, q1.2.2))
  else
    if x2 < 0 then
      some (some (.int 0), (S0, q1.2.1, q1.2.2))
    else
      if x2 < 4 then
        (C d 7 [.ref 30, .int x2, .int x3, .int 0] S0 (j_w q1.2.1 30 4 x1) q1.2.2).bind fun q2 => j_oi none (fun r2 =>
        some (some (.int r2), (S0, q2.2.1, q2.2.2))) q2.1
      else
        some (some (.int 0), (S0, q1.2.1, q1.2.2))) q1.1) := (R_ev d kX0_perform 400 0 _ _ _).trans rfl
set_option maxRecDepth 100000 in
theorem bX0_call_0 (d : Nat) (x1 : Int32) (x2 : Int32) (x3 : Int32) (M : j_M) (N : j_N) : R d kX0_call 0 [.ref 30, .int x1, .int x2, .int x3] [] (S0, M, N) =
  (bif j_in (M 30 4) 50 then
  (C d 8 [.ref 30, .int (M 31 ((M 30 4)).toNatClampNeg), .int x1, .int x2, .int x3] S0 M N).bind fun q1 => j_oi none (fun r1 =>
  some (some (.int r1), (S0, q1.2.1, q1.2.2))) q1.1 else none) := (R_ev d kX0_call 400 0 _ _ _).trans rfl
set_option maxRecDepth 100000 in
theorem bX0_from_0 (d : Nat) (x1 : Int32) (x2 : Int32) (x3 : Int32) (x4 : Int32) (M : j_M) (N : j_N) : R d kX0_from 0 [.ref 30, .int x1, .int x2, .int x3, .int x4, .null, .null] [] (S0, M, N) =
  (if x4 ≤ 40 then
    R d kX0_from 15 [.ref 30, .null, .int x2, .int x3, .int x4, .int x1, .int 0] [] (S0, M, N)
  else
    some (some (.int 0), (S0, M, N))) := (R_ev d kX0_from 400 0 _ _ _).trans rfl
set_option maxRecDepth 100000 in
theorem bX0_from_15 (d : Nat) (x2 : Int32) (x3 : Int32) (x4 : Int32) (x5 : Int32) (x6 : Int32) (M : j_M) (N : j_N) : R d kX0_from 15 [.ref 30, .null, .int x2, .int x3, .int x4, .int x5, .int x6] [] (S0, M, N) =
  (if 8 ≤ x6 then
    if 0 ≤ x5 then
      bif j_in ((x5 * 4) + x2) 32 then
      (C d 9 [.ref 30, .int (j_tg j_T1 (((x5 * 4) + x2)).toNatClampNeg), .int x3, .int (x4 + 1)] S0 M N).bind fun q1 => j_oi none (fun r1 =>
      some (some (.int r1), (S0, q1.2.1, q1.2.2))) q1.1 else none
    else
      some (some (.int 0), (S0, M, N))
  else
    if x5 ≤ 0 then
      if 0 ≤ x5 then
        bif j_in ((x5 * 4) + x2) 32 then
        (C d 9 [.ref 30, .int (j_tg j_T1 (((x5 * 4) + x2)).toNatClampNeg), .int x3, .int (x4 + 1)] S0 M N).bind fun q2 => j_oi none (fun r2 =>
        some (some (.int r2), (S0, q2.2.1, q2.2.2))) q2.1 else none
      else
        some (some (.int 0), (S0, M, N))
    else
      bif j_in ((x5 * 4) + x2) 32 then
      if (j_tg j_T1 (((x5 * 4) + x2)).toNatClampNeg) = 0 then
        bif j_in x5 8 then
        R d kX0_from 15 [.ref 30, .null, .int x2, .int x3, .int x4, .int (j_tg j_T0 (x5).toNatClampNeg), .int (x6 + 1)] [] (S0, M, N) else none
      else
        if 0 ≤ x5 then
          bif j_in ((x5 * 4) + x2) 32 then
          (C d 9 [.ref 30, .int (j_tg j_T1 (((x5 * 4) + x2)).toNatClampNeg), .int x3, .int (x4 + 1)] S0 M N).bind fun q3 => j_oi none (fun r3 =>
          some (some (.int r3), (S0, q3.2.1, q3.2.2))) q3.1 else none
        else
          some (some (.int 0), (S0, M, N)) else none) := (R_ev d kX0_from 400 15 _ _ _).trans rfl
set_option maxRecDepth 100000 in
theorem bX0_run_0 (d : Nat) (x1 : Int32) (x2 : Int32) (x3 : Int32) (M : j_M) (N : j_N) : R d kX0_run 0 [.ref 30, .int x1, .int x2, .int x3] [] (S0, M, N) =
  (if 24 ≤ (M 30 3) then
    R d kX0_run 19 [.ref 30, .int x1, .int x2, .int x3] [] (S0, M, N)
  else
    bif j_in (M 30 3) 24 then
    R d kX0_run 19 [.ref 30, .int x1, .int x2, .int x3] [] (S0, (j_w M 32 ((M 30 3)).toNatClampNeg x1), N) else none) := (R_ev d kX0_run 400 0 _ _ _).trans rfl
set_option maxRecDepth 100000 in
theorem bX0_run_19 (d : Nat) (x1 : Int32) (x2 : Int32) (x3 : Int32) (M : j_M) (N : j_N) : R d kX0_run 19 [.ref 30, .int x1, .int x2, .int x3] [] (S0, M, N) =
  (if x1 = 1 then
    some (some (.int (x2 + (M 30 4))), (S0, (j_w M 30 3 ((M 30 3) + 1)), N))
  else if x1 = 2 then
    (C d 7 [.ref 30, .int 1, .int x2, .int x3] S0 (j_w M 30 3 ((M 30 3) + 1)) N).bind fun q1 => j_oi none (fun r1 =>
    (C d 7 [.ref 30, .int 2, .int 1, .int x3] S0 q1.2.1 q1.2.2).bind fun q2 => j_oi none (fun r2 =>
    some (some (.int (r1 - r2)), (S0, q2.2.1, q2.2.2))) q2.1) q1.1
  else if x1 = 10 then
    (C d 7 [.ref 30, .int 0, .int x2, .int x3] S0 (j_w M 30 3 ((M 30 3) + 1)) N).bind fun q3 => j_oi none (fun r3 =>
    some (some (.int (r3 * 2)), (S0, q3.2.1, q3.2.2))) q3.1
  else if x1 = 11 then
    some (some (.int (x2 ^^^ (M 30 4))), (S0, (j_w M 30 3 ((M 30 3) + 1)), N))
  else if x1 = 20 then
    (C d 8 [.ref 30, .int 0, .int 0, .int x2, .int x3] S0 (j_w M 30 3 ((M 30 3) + 1)) N).bind fun q4 => j_oi none (fun r4 =>
    some (some (.int (r4 + 3)), (S0, q4.2.1, q4.2.2))) q4.1
  else if x1 = 30 then
    (C d 8 [.ref 30, .int 0, .int 1, .int x2, .int x3] S0 (j_w M 30 3 ((M 30 3) + 1)) N).bind fun q5 => j_oi none (fun r5 =>
    some (some (.int (-r5)), (S0, q5.2.1, q5.2.2))) q5.1
  else if x1 = 40 then
    (C d 8 [.ref 30, .int 2, .int 2, .int x2, .int x3] S0 (j_w M 30 3 ((M 30 3) + 1)) N).bind fun q6 => j_oi none (fun r6 =>
    some (some (.int (r6 * 3)), (S0, q6.2.1, q6.2.2))) q6.1
  else if x1 = 41 then
    (C d 8 [.ref 30, .int 2, .int 1, .int (x2 + 1), .int x3] S0 (j_w M 30 3 ((M 30 3) + 1)) N).bind fun q7 => j_oi none (fun r7 =>
    some (some (.int r7), (S0, q7.2.1, q7.2.2))) q7.1
  else if x1 = 50 then
    (C d 8 [.ref 30, .int 1, .int 2, .int x2, .int x3] S0 (j_w M 30 3 ((M 30 3) + 1)) N).bind fun q8 => j_oi none (fun r8 =>
    (C d 7 [.ref 30, .int 0, .int 2, .int x3] S0 q8.2.1 q8.2.2).bind fun q9 => j_oi none (fun r9 =>
    some (some (.int (r8 - r9)), (S0, q9.2.1, q9.2.2))) q9.1) q8.1
  else if x1 = 60 then
    (C d 8 [.ref 30, .int 3, .int 3, .int x2, .int x3] S0 (j_w M 30 3 ((M 30 3) + 1)) N).bind fun q10 => j_oi none (fun r10 =>
    some (some (.int (r10 ^^^ 5)), (S0, q10.2.1, q10.2.2))) q10.1
  else if x1 = 70 then
    (C d 8 [.ref 30, .int 0, .int 0, .int x2, .int x3] S0 (j_w M 30 3 ((M 30 3) + 1)) N).bind fun q11 => j_oi none (fun r11 =>
    some (some (.int (r11 * 2)), (S0, q11.2.1, q11.2.2))) q11.1
  else if x1 = 80 then
    (C d 8 [.ref 30, .int 4, .int 1, .int x2, .int x3] S0 (j_w M 30 3 ((M 30 3) + 1)) N).bind fun q12 => j_oi none (fun r12 =>
    (C d 7 [.ref 30, .int 2, .int 2, .int x3] S0 q12.2.1 q12.2.2).bind fun q13 => j_oi none (fun r13 =>
    some (some (.int (r12 + r13)), (S0, q13.2.1, q13.2.2))) q13.1) q12.1
  else if x1 = 81 then
    (C d 8 [.ref 30, .int 4, .int 3, .int x2, .int x3] S0 (j_w M 30 3 ((M 30 3) + 1)) N).bind fun q14 => j_oi none (fun r14 =>
    some (some (.int (r14 - 1)), (S0, q14.2.1, q14.2.2))) q14.1
  else 
    some (some (.int 0), (S0, (j_w M 30 3 ((M 30 3) + 1)), N))) := (R_ev d kX0_run 400 19 _ _ _).trans rfl
set_option maxRecDepth 100000 in
theorem bX1_note_0 (d : Nat) (x1 : Int32) (x2 : Int32) (x3 : Int32) (x4 : Int32) (M : j_M) (N : j_N) : R d kX1_note 0 [.ref 22, .int x1, .int x2, .int x3, .int x4] [] (S0, M, N) =
  (if (M 22 4) < 40 then
    R d kX1_note 13 [.ref 22, .int x1, .int x2, .int x3, .int x4] [] (S0, M, N)
  else
    (C d 12 [.ref 22] S0 M N).bind fun q1 => j_ov none (
    R d kX1_note 13 [.ref 22, .int x1, .int x2, .int x3, .int x4] [] (S0, q1.2.1, q1.2.2)) q1.1) := (R_ev d kX1_note 400 0 _ _ _).trans rfl
set_option maxRecDepth 100000 in
theorem bX1_note_13 (d : Nat) (x1 : Int32) (x2 : Int32) (x3 : Int32) (x4 : Int32) (M : j_M) (N : j_N) : R d kX1_note 13 [.ref 22, .int x1, .int x2, .int x3, .int x4] [] (S0, M, N) =
  (bif j_in (M 22 4) 40 then
  bif j_in (M 22 4) 40 then
  bif j_in (M 22 4) 40 then
  bif j_in (M 22 4) 40 then
  some (none, (S0, (j_w (j_w (j_w (j_w (j_w (j_w M 23 ((M 22 4)).toNatClampNeg x1) 24 ((M 22 4)).toNatClampNeg x2) 25 ((M 22 4)).toNatClampNeg x3) 26 ((M 22 4)).toNatClampNeg x4) 22 4 ((M 22 4) + 1)) 22 5 ((M 22 4) + 1)), N)) else none else none else none else none) := (R_ev d kX1_note 400 13 _ _ _).trans rfl
set_option maxRecDepth 100000 in
theorem bX1_dropOldest_0 (d : Nat)  (M : j_M) (N : j_N) : R d kX1_dropOldest 0 [.ref 22] [] (S0, M, N) =
  (some (none, (S0, (j_w (j_row (j_row (j_row (j_row M 23 (va_cpy (M 23) (M 23) 1 0 39)) 24 (va_cpy ((j_row M 23 (va_cpy (M 23) (M 23) 1 0 39)) 24) ((j_row M 23 (va_cpy (M 23) (M 23) 1 0 39)) 24) 1 0 39)) 25 (va_cpy ((j_row (j_row M 23 (va_cpy (M 23) (M 23) 1 0 39)) 24 (va_cpy ((j_row M 23 (va_cpy (M 23) (M 23) 1 0 39)) 24) ((j_row M 23 (va_cpy (M 23) (M 23) 1 0 39)) 24) 1 0 39)) 25) ((j_row (j_row M 23 (va_cpy (M 23) (M 23) 1 0 39)) 24 (va_cpy ((j_row M 23 (va_cpy (M 23) (M 23) 1 0 39)) 24) ((j_row M 23 (va_cpy (M 23) (M 23) 1 0 39)) 24) 1 0 39)) 25) 1 0 39)) 26 (va_cpy ((j_row (j_row (j_row M 23 (va_cpy (M 23) (M 23) 1 0 39)) 24 (va_cpy ((j_row M 23 (va_cpy (M 23) (M 23) 1 0 39)) 24) ((j_row M 23 (va_cpy (M 23) (M 23) 1 0 39)) 24) 1 0 39)) 25 (va_cpy ((j_row (j_row M 23 (va_cpy (M 23) (M 23) 1 0 39)) 24 (va_cpy ((j_row M 23 (va_cpy (M 23) (M 23) 1 0 39)) 24) ((j_row M 23 (va_cpy (M 23) (M 23) 1 0 39)) 24) 1 0 39)) 25) ((j_row (j_row M 23 (va_cpy (M 23) (M 23) 1 0 39)) 24 (va_cpy ((j_row M 23 (va_cpy (M 23) (M 23) 1 0 39)) 24) ((j_row M 23 (va_cpy (M 23) (M 23) 1 0 39)) 24) 1 0 39)) 25) 1 0 39)) 26) ((j_row (j_row (j_row M 23 (va_cpy (M 23) (M 23) 1 0 39)) 24 (va_cpy ((j_row M 23 (va_cpy (M 23) (M 23) 1 0 39)) 24) ((j_row M 23 (va_cpy (M 23) (M 23) 1 0 39)) 24) 1 0 39)) 25 (va_cpy ((j_row (j_row M 23 (va_cpy (M 23) (M 23) 1 0 39)) 24 (va_cpy ((j_row M 23 (va_cpy (M 23) (M 23) 1 0 39)) 24) ((j_row M 23 (va_cpy (M 23) (M 23) 1 0 39)) 24) 1 0 39)) 25) ((j_row (j_row M 23 (va_cpy (M 23) (M 23) 1 0 39)) 24 (va_cpy ((j_row M 23 (va_cpy (M 23) (M 23) 1 0 39)) 24) ((j_row M 23 (va_cpy (M 23) (M 23) 1 0 39)) 24) 1 0 39)) 25) 1 0 39)) 26) 1 0 39)) 22 4 39), N))) := (R_ev d kX1_dropOldest 400 0 _ _ _).trans rfl
set_option maxRecDepth 100000 in
theorem bX1_takeBack_0 (d : Nat)  (M : j_M) (N : j_N) : R d kX1_takeBack 0 [.ref 22, .ref 1] [] (S0, M, N) =
  (if 0 < (M 22 4) then
    bif j_in ((M 22 4) - 1) 40 then
    bif j_in ((M 22 4) - 1) 40 then
    bif j_in ((M 22 4) - 1) 40 then
    (C d 20 [.ref 1, .int (M 23 (((M 22 4) - 1)).toNatClampNeg), .int (M 24 (((M 22 4) - 1)).toNatClampNeg), .int (M 25 (((M 22 4) - 1)).toNatClampNeg)] S0 (j_w M 22 4 ((M 22 4) - 1)) N).bind fun q1 => j_ov none (
    some (some (.int (q1.2.1 22 4)), (S0, q1.2.1, q1.2.2))) q1.1 else none else none else none
  else
    some (some (.int (-5)), (S0, M, N))) := (R_ev d kX1_takeBack 400 0 _ _ _).trans rfl
set_option maxRecDepth 100000 in
theorem bX1_doAgain_0 (d : Nat)  (M : j_M) (N : j_N) : R d kX1_doAgain 0 [.ref 22, .ref 1] [] (S0, M, N) =
  (if (M 22 4) < (M 22 5) then
    bif j_in (M 22 4) 40 then
    bif j_in (M 22 4) 40 then
    bif j_in (M 22 4) 40 then
    (C d 20 [.ref 1, .int (M 23 ((M 22 4)).toNatClampNeg), .int (M 24 ((M 22 4)).toNatClampNeg), .int (M 26 ((M 22 4)).toNatClampNeg)] S0 M N).bind fun q1 => j_ov none (
    some (some (.int ((q1.2.1 22 5) - ((q1.2.1 22 4) + 1))), (S0, (j_w q1.2.1 22 4 ((q1.2.1 22 4) + 1)), q1.2.2))) q1.1 else none else none else none
  else
    some (some (.int (-5)), (S0, M, N))) := (R_ev d kX1_doAgain 400 0 _ _ _).trans rfl
set_option maxRecDepth 100000 in
theorem bX2_has_0 (d : Nat) (x1 : Int32) (M : j_M) (N : j_N) : R d kX2_has 0 [.ref 1, .int x1] [] (S0, M, N) =
  (if x1 < 0 then
    some (some (.int 0), (S0, M, N))
  else
    if (M 1 6) ≤ x1 then
      some (some (.int 0), (S0, M, N))
    else
      some (some (.int 1), (S0, M, N))) := (R_ev d kX2_has 400 0 _ _ _).trans rfl
set_option maxRecDepth 100000 in
theorem bX2_welcome_0 (d : Nat) (x1 : Int32) (x2 : Int32) (M : j_M) (N : j_N) : R d kX2_welcome 0 [.ref 1, .int x1, .int x2] [] (S0, M, N) =
  (if 6 ≤ (M 1 6) then
    some (none, (S0, M, N))
  else
    bif j_in (M 1 6) 6 then
    bif j_in (M 1 6) 6 then
    bif j_in (M 1 6) 6 then
    some (none, (S0, (j_w (j_w (j_w (j_w M 2 ((M 1 6)).toNatClampNeg x1) 3 ((M 1 6)).toNatClampNeg x2) 6 ((M 1 6)).toNatClampNeg (-1)) 1 6 ((M 1 6) + 1)), N)) else none else none else none) := (R_ev d kX2_welcome 400 0 _ _ _).trans rfl
set_option maxRecDepth 100000 in
theorem bX2_allows_0 (d : Nat) (x1 : Int32) (x2 : Int32) (x3 : Int32) (M : j_M) (N : j_N) : R d kX2_allows 0 [.ref 1, .int x1, .int x2, .int x3] [] (S0, M, N) =
  (if x2 < 4 then
    (C d 16 [.ref 1, .int x1] S0 M N).bind fun q1 => j_oi none (fun r1 =>
    if r1 = 0 then
      some (some (.int 0), (S0, q1.2.1, q1.2.2))
    else
      R d kX2_allows 22 [.ref 1, .int x1, .int x2, .int x3] [] (S0, q1.2.1, q1.2.2)) q1.1
  else
    if x1 = 0 then
      R d kX2_allows 22 [.ref 1, .int x1, .int x2, .int x3] [] (S0, M, N)
    else
      some (some (.int 0), (S0, M, N))) := (R_ev d kX2_allows 400 0 _ _ _).trans rfl
set_option maxRecDepth 100000 in
theorem bX2_allows_22 (d : Nat) (x1 : Int32) (x2 : Int32) (x3 : Int32) (M : j_M) (N : j_N) : R d kX2_allows 22 [.ref 1, .int x1, .int x2, .int x3] [] (S0, M, N) =
  (if x2 = 0 then
    (C d 147 [.int x3, .int 0, .int 99] S0 M N).bind fun q1 => j_oi none (fun r1 =>
    bif decide (r1 = 0) || decide (r1 = 1) then some (some (.int r1), (S0, q1.2.1, q1.2.2)) else none) q1.1
  else if x2 = 1 then
    bif j_in x1 6 then
    (C d 147 [.int x3, .int 0, .int (M 2 (x1).toNatClampNeg)] S0 M N).bind fun q2 => j_oi none (fun r2 =>
    bif decide (r2 = 0) || decide (r2 = 1) then some (some (.int r2), (S0, q2.2.1, q2.2.2)) else none) q2.1 else none
  else if x2 = 2 then
    (C d 147 [.int x3, .int 0, .int 12] S0 M N).bind fun q3 => j_oi none (fun r3 =>
    bif decide (r3 = 0) || decide (r3 = 1) then some (some (.int r3), (S0, q3.2.1, q3.2.2)) else none) q3.1
  else if x2 = 3 then
    bif j_in x1 6 then
    (C d 147 [.int x3, .int 0, .int (M 2 (x1).toNatClampNeg)] S0 M N).bind fun q4 => j_oi none (fun r4 =>
    bif decide (r4 = 0) || decide (r4 = 1) then some (some (.int r4), (S0, q4.2.1, q4.2.2)) else none) q4.1 else none
  else if x2 = 4 then
    (C d 147 [.int x3, .int 0, .int 599] S0 M N).bind fun q5 => j_oi none (fun r5 =>
    bif decide (r5 = 0) || decide (r5 = 1) then some (some (.int r5), (S0, q5.2.1, q5.2.2)) else none) q5.1
  else if x2 = 5 then
    (C d 147 [.int x3, .int 0, .int 4] S0 M N).bind fun q6 => j_oi none (fun r6 =>
    bif decide (r6 = 0) || decide (r6 = 1) then some (some (.int r6), (S0, q6.2.1, q6.2.2)) else none) q6.1
  else if x2 = 6 then
    (C d 147 [.int x3, .int 1, .int 99] S0 M N).bind fun q7 => j_oi none (fun r7 =>
    bif decide (r7 = 0) || decide (r7 = 1) then some (some (.int r7), (S0, q7.2.1, q7.2.2)) else none) q7.1
  else 
    some (some (.int 0), (S0, M, N))) := (R_ev d kX2_allows 400 22 _ _ _).trans rfl
set_option maxRecDepth 100000 in
theorem bX2_told_0 (d : Nat) (x1 : Int32) (x2 : Int32) (M : j_M) (N : j_N) : R d kX2_told 0 [.ref 1, .int x1, .int x2] [] (S0, M, N) =
  (if x2 = 0 then
    bif j_in x1 6 then
    some (some (.int (M 2 (x1).toNatClampNeg)), (S0, M, N)) else none
  else if x2 = 1 then
    bif j_in x1 6 then
    some (some (.int (M 3 (x1).toNatClampNeg)), (S0, M, N)) else none
  else if x2 = 2 then
    bif j_in x1 6 then
    some (some (.int (M 4 (x1).toNatClampNeg)), (S0, M, N)) else none
  else if x2 = 3 then
    bif j_in x1 6 then
    some (some (.int (M 5 (x1).toNatClampNeg)), (S0, M, N)) else none
  else if x2 = 4 then
    some (some (.int (M 1 7)), (S0, M, N))
  else if x2 = 5 then
    some (some (.int (M 1 8)), (S0, M, N))
  else 
    some (some (.int (M 1 9)), (S0, M, N))) := (R_ev d kX2_told 400 0 _ _ _).trans rfl
set_option maxRecDepth 100000 in
theorem bX2_tell_0 (d : Nat) (x1 : Int32) (x2 : Int32) (x3 : Int32) (M : j_M) (N : j_N) : R d kX2_tell 0 [.ref 1, .int x1, .int x2, .int x3] [] (S0, M, N) =
  (if x2 = 0 then
    bif j_in x1 6 then
    some (none, (S0, (j_w M 2 (x1).toNatClampNeg x3), N)) else none
  else if x2 = 1 then
    bif j_in x1 6 then
    some (none, (S0, (j_w M 3 (x1).toNatClampNeg x3), N)) else none
  else if x2 = 2 then
    bif j_in x1 6 then
    some (none, (S0, (j_w M 4 (x1).toNatClampNeg x3), N)) else none
  else if x2 = 3 then
    bif j_in x1 6 then
    some (none, (S0, (j_w M 5 (x1).toNatClampNeg x3), N)) else none
  else if x2 = 4 then
    some (none, (S0, (j_w M 1 7 x3), N))
  else if x2 = 5 then
    some (none, (S0, (j_w M 1 8 x3), N))
  else 
    some (none, (S0, (j_w M 1 9 x3), N))) := (R_ev d kX2_tell 400 0 _ _ _).trans rfl
set_option maxRecDepth 100000 in
theorem bX3_lay_0 (d : Nat)  (M : j_M) (N : j_N) : R d kX3_lay 0 [.ref 8, .ref 1] [] (S0, M, N) =
  (bif (!(decide (0 < (0:Int32))) && !(decide (0 < (0:Int32))) && !(decide ((M 1 6) < (0:Int32))) && Nat.ble (0 + ((M 1 6)).toNatClampNeg) 6 && Nat.ble (0 + ((M 1 6)).toNatClampNeg) 7) && Nat.ble 0 8 then
  (C d 24 [.ref 8] S0 (j_row (j_w (j_w (j_w M 8 1 (M 1 6)) 8 2 (M 1 8)) 8 3 (M 1 7)) 9 (va_cpy ((j_w (j_w (j_w M 8 1 (M 1 6)) 8 2 (M 1 8)) 8 3 (M 1 7)) 3) ((j_w (j_w (j_w M 8 1 (M 1 6)) 8 2 (M 1 8)) 8 3 (M 1 7)) 9) 0 0 ((M 1 6)).toNatClampNeg)) N).bind fun q1 => j_ov none (
  some (none, (S0, q1.2.1, q1.2.2))) q1.1 else none) := (R_ev d kX3_lay 400 0 _ _ _).trans rfl
set_option maxRecDepth 100000 in
theorem bX3_join_0 (d : Nat) (x1 : Int32) (M : j_M) (N : j_N) : R d kX3_join 0 [.ref 8, .int x1] [] (S0, M, N) =
  (if 7 ≤ (M 8 1) then
    some (none, (S0, M, N))
  else
    bif j_in (M 8 1) 7 then
    (C d 24 [.ref 8] S0 (j_w (j_w M 9 ((M 8 1)).toNatClampNeg x1) 8 1 ((M 8 1) + 1)) N).bind fun q1 => j_ov none (
    some (none, (S0, q1.2.1, q1.2.2))) q1.1 else none) := (R_ev d kX3_join 400 0 _ _ _).trans rfl
set_option maxRecDepth 100000 in
theorem bX3_weigh_0 (d : Nat)  (M : j_M) (N : j_N) : R d kX3_weigh 0 [.ref 8, .null, .null] [] (S0, M, N) =
  (R d kX3_weigh 27 [.ref 8, .int 0, .null] [] (S0, (j_w (j_w (j_w (j_w (j_w M 8 4 0) 8 7 (-1)) 8 8 (-1)) 8 9 (-1)) 8 10 0), N)) := (R_ev d kX3_weigh 400 0 _ _ _).trans rfl
set_option maxRecDepth 100000 in
theorem bX3_weigh_27 (d : Nat) (x1 : Int32) (M : j_M) (N : j_N) : R d kX3_weigh 27 [.ref 8, .int x1, .null] [] (S0, M, N) =
  (if (M 8 1) ≤ x1 then
    (C d 25 [.ref 8, .int (M 8 3)] S0 M N).bind fun q1 => j_ov none (
    some (none, (S0, q1.2.1, q1.2.2))) q1.1
  else
    bif j_in x1 7 then
    if (M 8 9) < 0 then
      R d kX3_weigh 77 [.ref 8, .int x1, .int (M 9 (x1).toNatClampNeg)] [] (S0, (j_w (j_w M 8 4 ((M 8 4) + (M 9 (x1).toNatClampNeg))) 8 9 x1), N)
    else
      bif j_in (M 8 9) 7 then
      if (M 9 (x1).toNatClampNeg) ≤ (M 9 ((M 8 9)).toNatClampNeg) then
        R d kX3_weigh 77 [.ref 8, .int x1, .int (M 9 (x1).toNatClampNeg)] [] (S0, (j_w M 8 4 ((M 8 4) + (M 9 (x1).toNatClampNeg))), N)
      else
        R d kX3_weigh 77 [.ref 8, .int x1, .int (M 9 (x1).toNatClampNeg)] [] (S0, (j_w (j_w M 8 4 ((M 8 4) + (M 9 (x1).toNatClampNeg))) 8 9 x1), N) else none else none) := (R_ev d kX3_weigh 400 27 _ _ _).trans rfl
set_option maxRecDepth 100000 in
theorem bX3_weigh_77 (d : Nat) (x1 : Int32) (x2 : Int32) (M : j_M) (N : j_N) : R d kX3_weigh 77 [.ref 8, .int x1, .int x2] [] (S0, M, N) =
  (if (M 8 7) < 0 then
    R d kX3_weigh 27 [.ref 8, .int (x1 + 1), .null] [] (S0, (j_w (j_w (j_w M 8 8 (M 8 7)) 8 7 x1) 8 10 1), N)
  else
    bif j_in (M 8 7) 7 then
    if (M 9 ((M 8 7)).toNatClampNeg) ≤ x2 then
      bif j_in (M 8 7) 7 then
      if x2 = (M 9 ((M 8 7)).toNatClampNeg) then
        R d kX3_weigh 141 [.ref 8, .int x1, .int x2] [.int 1, .int (M 8 10), .ref 8] (S0, M, N)
      else
        R d kX3_weigh 141 [.ref 8, .int x1, .int x2] [.int 0, .int (M 8 10), .ref 8] (S0, M, N) else none
    else
      R d kX3_weigh 27 [.ref 8, .int (x1 + 1), .null] [] (S0, (j_w (j_w (j_w M 8 8 (M 8 7)) 8 7 x1) 8 10 1), N) else none) := (R_ev d kX3_weigh 400 77 _ _ _).trans rfl
set_option maxRecDepth 100000 in
theorem bX3_weigh_141 (d : Nat) (x1 : Int32) (x2 : Int32) (s1 : Int32) (s2 : Int32) (M : j_M) (N : j_N) : R d kX3_weigh 141 [.ref 8, .int x1, .int x2] [.int s2, .int s1, .ref 8] (S0, M, N) =
  (if (M 8 8) < 0 then
    R d kX3_weigh 27 [.ref 8, .int (x1 + 1), .null] [] (S0, (j_w (j_w M 8 10 (s1 + s2)) 8 8 x1), N)
  else
    bif j_in (M 8 8) 7 then
    if (M 9 ((M 8 8)).toNatClampNeg) ≤ x2 then
      R d kX3_weigh 27 [.ref 8, .int (x1 + 1), .null] [] (S0, (j_w (j_w M 8 10 (s1 + s2)) 8 8 (M 8 8)), N)
    else
      R d kX3_weigh 27 [.ref 8, .int (x1 + 1), .null] [] (S0, (j_w (j_w M 8 10 (s1 + s2)) 8 8 x1), N) else none) := (R_ev d kX3_weigh 400 141 _ _ _).trans rfl
set_option maxRecDepth 100000 in
theorem bX3_charge_0 (d : Nat) (x1 : Int32) (M : j_M) (N : j_N) : R d kX3_charge 0 [.ref 8, .int x1] [] (S0, M, N) =
  (some (none, (S0, (j_w (j_w (j_w M 8 3 x1) 8 5 (if (x1 - (M 8 4)) < (0 : Int32) then (0 : Int32) else (x1 - (M 8 4)))) 8 6 (if ((M 8 4) - x1) < (0 : Int32) then (0 : Int32) else ((M 8 4) - x1))), N))) := (R_ev d kX3_charge 400 0 _ _ _).trans rfl
set_option maxRecDepth 100000 in
theorem bX3_cost_0 (d : Nat) (x1 : Int32) (M : j_M) (N : j_N) : R d kX3_cost 0 [.ref 8, .int x1] [] (S0, M, N) =
  (bif j_in x1 7 then
  (C d 27 [.ref 8, .int x1] S0 M N).bind fun q1 => j_oi none (fun r1 =>
  (C d 30 [.ref 8, .int x1] S0 q1.2.1 q1.2.2).bind fun q2 => j_oi none (fun r2 =>
  some (some (.int (((M 9 (x1).toNatClampNeg) + r1) - r2)), (S0, q2.2.1, q2.2.2))) q2.1) q1.1 else none) := (R_ev d kX3_cost 400 0 _ _ _).trans rfl
set_option maxRecDepth 100000 in
theorem bX3_besides_0 (d : Nat) (x1 : Int32) (M : j_M) (N : j_N) : R d kX3_besides 0 [.ref 8, .int x1] [] (S0, M, N) =
  (if (M 8 2) = 0 then
    (C d 28 [.ref 8, .int x1] S0 M N).bind fun q1 => j_oi none (fun r1 =>
    some (some (.int r1), (S0, q1.2.1, q1.2.2))) q1.1
  else if (M 8 2) = 1 then
    if x1 = (M 8 7) then
      some (some (.int (M 8 5)), (S0, M, N))
    else
      some (some (.int 0), (S0, M, N))
  else if (M 8 2) = 2 then
    (C d 29 [.ref 8, .int x1] S0 M N).bind fun q2 => j_oi none (fun r2 =>
    some (some (.int r2), (S0, q2.2.1, q2.2.2))) q2.1
  else if (M 8 2) = 3 then
    if x1 = (M 8 7) then
      bif j_in x1 7 then
      some (some (.int ((M 8 5) + (M 9 (x1).toNatClampNeg))), (S0, M, N)) else none
    else
      some (some (.int 0), (S0, M, N))
  else 
    if x1 = (M 8 7) then
      some (some (.int (M 8 5)), (S0, M, N))
    else
      some (some (.int 0), (S0, M, N))) := (R_ev d kX3_besides 400 0 _ _ _).trans rfl
set_option maxRecDepth 100000 in
theorem bX3_partAmongAlike_0 (d : Nat) (x1 : Int32) (M : j_M) (N : j_N) : R d kX3_partAmongAlike 0 [.ref 8, .int x1, .null, .null] [] (S0, M, N) =
  (if (M 8 10) = 0 then
    some (some (.int 0), (S0, M, N))
  else
    bif j_in x1 7 then
    bif j_in (M 8 7) 7 then
    if (M 9 (x1).toNatClampNeg) = (M 9 ((M 8 7)).toNatClampNeg) then
      R d kX3_partAmongAlike 34 [.ref 8, .int x1, .int 0, .int (M 8 7)] [] (S0, M, N)
    else
      some (some (.int 0), (S0, M, N)) else none else none) := (R_ev d kX3_partAmongAlike 400 0 _ _ _).trans rfl
set_option maxRecDepth 100000 in
theorem bX3_partAmongAlike_34 (d : Nat) (x1 : Int32) (x2 : Int32) (x3 : Int32) (M : j_M) (N : j_N) : R d kX3_partAmongAlike 34 [.ref 8, .int x1, .int x2, .int x3] [] (S0, M, N) =
  (if x1 ≤ x3 then
    if (M 8 10) = 0 then none else
    if (M 8 10) = 0 then none else
    if ((M 8 5) - (M 8 5) / (M 8 10) * (M 8 10)) ≤ x2 then
      some (some (.int (((M 8 5) / (M 8 10)) + 0)), (S0, M, N))
    else
      some (some (.int (((M 8 5) / (M 8 10)) + 1)), (S0, M, N))
  else
    bif j_in x3 7 then
    bif j_in (M 8 7) 7 then
    if (M 9 (x3).toNatClampNeg) = (M 9 ((M 8 7)).toNatClampNeg) then
      R d kX3_partAmongAlike 34 [.ref 8, .int x1, .int (x2 + 1), .int (x3 + 1)] [] (S0, M, N)
    else
      R d kX3_partAmongAlike 34 [.ref 8, .int x1, .int (x2 + 0), .int (x3 + 1)] [] (S0, M, N) else none else none) := (R_ev d kX3_partAmongAlike 400 34 _ _ _).trans rfl
set_option maxRecDepth 100000 in
theorem bX3_partOfTwo_0 (d : Nat) (x1 : Int32) (M : j_M) (N : j_N) : R d kX3_partOfTwo 0 [.ref 8, .int x1, .null] [] (S0, M, N) =
  (if 0 ≤ (M 8 8) then
    if x1 = (M 8 7) then
      some (some (.int ((M 8 5) - ((M 8 5) / 2))), (S0, M, N))
    else
      if x1 = (M 8 8) then
        some (some (.int ((M 8 5) / 2)), (S0, M, N))
      else
        some (some (.int 0), (S0, M, N))
  else
    if x1 = (M 8 7) then
      some (some (.int ((M 8 5) - 0)), (S0, M, N))
    else
      if x1 = (M 8 8) then
        some (some (.int 0), (S0, M, N))
      else
        some (some (.int 0), (S0, M, N))) := (R_ev d kX3_partOfTwo 400 0 _ _ _).trans rfl
set_option maxRecDepth 100000 in
theorem bX3_givenBack_0 (d : Nat) (x1 : Int32) (M : j_M) (N : j_N) : R d kX3_givenBack 0 [.ref 8, .int x1] [] (S0, M, N) =
  (if (M 8 2) = 4 then
    if x1 = (M 8 9) then
      bif j_in x1 7 then
      some (some (.int (if (M 9 (x1).toNatClampNeg) < (M 8 6) then (M 9 (x1).toNatClampNeg) else (M 8 6))), (S0, M, N)) else none
    else
      some (some (.int 0), (S0, M, N))
  else
    some (some (.int 0), (S0, M, N))) := (R_ev d kX3_givenBack 400 0 _ _ _).trans rfl
set_option maxRecDepth 100000 in
theorem bX3_intoChest_0 (d : Nat)  (M : j_M) (N : j_N) : R d kX3_intoChest 0 [.ref 8] [] (S0, M, N) =
  (if (M 8 2) = 4 then
    if 0 ≤ (M 8 9) then
      (C d 30 [.ref 8, .int (M 8 9)] S0 M N).bind fun q1 => j_oi none (fun r1 =>
      some (some (.int ((M 8 6) - r1)), (S0, q1.2.1, q1.2.2))) q1.1
    else
      some (some (.int (M 8 6)), (S0, M, N))
  else
    if (M 8 2) = 3 then
      if (M 8 7) < 0 then
        some (some (.int (M 8 6)), (S0, M, N))
      else
        bif j_in (M 8 7) 7 then
        some (some (.int ((M 8 6) + (M 9 ((M 8 7)).toNatClampNeg))), (S0, M, N)) else none
    else
      some (some (.int (M 8 6)), (S0, M, N))) := (R_ev d kX3_intoChest 400 0 _ _ _).trans rfl
set_option maxRecDepth 100000 in
theorem bX4_add_0 (d : Nat) (x1 : Int32) (M : j_M) (N : j_N) : R d kX4_add 0 [.ref 16, .int x1] [] (S0, M, N) =
  (if (M 16 4) < 120 then
    bif j_in (M 16 4) 120 then
    some (some (.int ((M 16 4) + 1)), (S0, (j_w (j_w M 17 ((M 16 4)).toNatClampNeg x1) 16 4 ((M 16 4) + 1)), N)) else none
  else
    some (some (.int (-3)), (S0, M, N))) := (R_ev d kX4_add 400 0 _ _ _).trans rfl
set_option maxRecDepth 100000 in
theorem bX4_enact_0 (d : Nat)  (M : j_M) (N : j_N) : R d kX4_enact 0 [.ref 16] [] (S0, M, N) =
  ((C d 35 [.ref 16] S0 M N).bind fun q1 => j_ov none (
  if (q1.2.1 16 6) = (-1) then
    bif (!(decide (0 < (0:Int32))) && !(decide (0 < (0:Int32))) && !(decide ((q1.2.1 16 7) < (0:Int32))) && Nat.ble (0 + ((q1.2.1 16 7)).toNatClampNeg) 122 && Nat.ble (0 + ((q1.2.1 16 7)).toNatClampNeg) 122) && Nat.ble 0 8 then
    some (some (.int 1), (S0, (j_w (j_w (j_row (j_w q1.2.1 16 4 0) 19 (va_cpy ((j_w q1.2.1 16 4 0) 18) ((j_w q1.2.1 16 4 0) 19) 0 0 ((q1.2.1 16 7)).toNatClampNeg)) 16 8 (q1.2.1 16 7)) 16 9 1), q1.2.2)) else none
  else
    some (some (.int ((-100) - (q1.2.1 16 6))), (S0, (j_w q1.2.1 16 4 0), q1.2.2))) q1.1) := (R_ev d kX4_enact 400 0 _ _ _).trans rfl
set_option maxRecDepth 100000 in
theorem bX4_readLines_0 (d : Nat)  (M : j_M) (N : j_N) : R d kX4_readLines 0 [.ref 16, .null] [] (S0, M, N) =
  ((C d 36 [.ref 16] S0 (j_w (j_w (j_w M 16 5 0) 16 6 (-1)) 16 7 0) N).bind fun q1 => j_ov none (
  R d kX4_readLines 21 [.ref 16, .int 0] [] (S0, q1.2.1, q1.2.2)) q1.1) := (R_ev d kX4_readLines 400 0 _ _ _).trans rfl
set_option maxRecDepth 100000 in
theorem bX4_readLines_21 (d : Nat) (x1 : Int32) (M : j_M) (N : j_N) : R d kX4_readLines 21 [.ref 16, .int x1] [] (S0, M, N) =
  (if 120 ≤ x1 then
    if (M 16 4) ≤ (M 16 5) then
      some (none, (S0, M, N))
    else
      (C d 50 [.ref 16] S0 M N).bind fun q1 => j_ov none (
      some (none, (S0, q1.2.1, q1.2.2))) q1.1
  else
    (C d 49 [.ref 16, .int 59] S0 M N).bind fun q2 => j_oi none (fun r2 =>
    if r2 = 0 then
      if (q2.2.1 16 4) ≤ (q2.2.1 16 5) then
        some (none, (S0, q2.2.1, q2.2.2))
      else
        (C d 50 [.ref 16] S0 q2.2.1 q2.2.2).bind fun q3 => j_ov none (
        some (none, (S0, q3.2.1, q3.2.2))) q3.1
    else
      (C d 36 [.ref 16] S0 q2.2.1 q2.2.2).bind fun q4 => j_ov none (
      R d kX4_readLines 21 [.ref 16, .int (x1 + 1)] [] (S0, q4.2.1, q4.2.2)) q4.1) q2.1) := (R_ev d kX4_readLines 400 21 _ _ _).trans rfl
set_option maxRecDepth 100000 in
theorem bX4_readLine_0 (d : Nat)  (M : j_M) (N : j_N) : R d kX4_readLine 0 [.ref 16] [] (S0, M, N) =
  ((C d 37 [.ref 16, .int 0] S0 M N).bind fun q1 => j_ov none (
  (C d 49 [.ref 16, .int 63] S0 q1.2.1 q1.2.2).bind fun q2 => j_oi none (fun r2 =>
  if r2 = 0 then
    (C d 51 [.ref 16, .int (-19)] S0 q2.2.1 q2.2.2).bind fun q3 => j_ov none (
    some (none, (S0, q3.2.1, q3.2.2))) q3.1
  else
    (C d 51 [.ref 16, .int (-18)] S0 q2.2.1 q2.2.2).bind fun q4 => j_ov none (
    (C d 37 [.ref 16, .int 0] S0 q4.2.1 q4.2.2).bind fun q5 => j_ov none (
    (C d 51 [.ref 16, .int (-19)] S0 q5.2.1 q5.2.2).bind fun q6 => j_ov none (
    some (none, (S0, q6.2.1, q6.2.2))) q6.1) q5.1) q4.1) q2.1) q1.1) := (R_ev d kX4_readLine 400 0 _ _ _).trans rfl
set_option maxRecDepth 100000 in
theorem bX4_readEither_0 (d : Nat) (x1 : Int32) (M : j_M) (N : j_N) : R d kX4_readEither 0 [.ref 16, .int x1, .null] [] (S0, M, N) =
  ((C d 38 [.ref 16, .int x1] S0 M N).bind fun q1 => j_ov none (
  R d kX4_readEither 7 [.ref 16, .int x1, .int 0] [] (S0, q1.2.1, q1.2.2)) q1.1) := (R_ev d kX4_readEither 400 0 _ _ _).trans rfl
set_option maxRecDepth 100000 in
theorem bX4_readEither_7 (d : Nat) (x1 : Int32) (x2 : Int32) (M : j_M) (N : j_N) : R d kX4_readEither 7 [.ref 16, .int x1, .int x2] [] (S0, M, N) =
  (if 120 ≤ x2 then
    some (none, (S0, M, N))
  else
    (C d 49 [.ref 16, .int 124] S0 M N).bind fun q1 => j_oi none (fun r1 =>
    if r1 = 0 then
      some (none, (S0, q1.2.1, q1.2.2))
    else
      (C d 38 [.ref 16, .int x1] S0 q1.2.1 q1.2.2).bind fun q2 => j_ov none (
      (C d 51 [.ref 16, .int (-6)] S0 q2.2.1 q2.2.2).bind fun q3 => j_ov none (
      R d kX4_readEither 7 [.ref 16, .int x1, .int (x2 + 1)] [] (S0, q3.2.1, q3.2.2)) q3.1) q2.1) q1.1) := (R_ev d kX4_readEither 400 7 _ _ _).trans rfl
set_option maxRecDepth 100000 in
theorem bX4_readBoth_0 (d : Nat) (x1 : Int32) (M : j_M) (N : j_N) : R d kX4_readBoth 0 [.ref 16, .int x1, .null] [] (S0, M, N) =
  ((C d 39 [.ref 16, .int x1] S0 M N).bind fun q1 => j_ov none (
  R d kX4_readBoth 7 [.ref 16, .int x1, .int 0] [] (S0, q1.2.1, q1.2.2)) q1.1) := (R_ev d kX4_readBoth 400 0 _ _ _).trans rfl
set_option maxRecDepth 100000 in
theorem bX4_readBoth_7 (d : Nat) (x1 : Int32) (x2 : Int32) (M : j_M) (N : j_N) : R d kX4_readBoth 7 [.ref 16, .int x1, .int x2] [] (S0, M, N) =
  (if 120 ≤ x2 then
    some (none, (S0, M, N))
  else
    (C d 49 [.ref 16, .int 38] S0 M N).bind fun q1 => j_oi none (fun r1 =>
    if r1 = 0 then
      some (none, (S0, q1.2.1, q1.2.2))
    else
      (C d 39 [.ref 16, .int x1] S0 q1.2.1 q1.2.2).bind fun q2 => j_ov none (
      (C d 51 [.ref 16, .int (-7)] S0 q2.2.1 q2.2.2).bind fun q3 => j_ov none (
      R d kX4_readBoth 7 [.ref 16, .int x1, .int (x2 + 1)] [] (S0, q3.2.1, q3.2.2)) q3.1) q2.1) q1.1) := (R_ev d kX4_readBoth 400 7 _ _ _).trans rfl
set_option maxRecDepth 100000 in
theorem bX4_readCompared_0 (d : Nat) (x1 : Int32) (M : j_M) (N : j_N) : R d kX4_readCompared 0 [.ref 16, .int x1, .null] [] (S0, M, N) =
  ((C d 40 [.ref 16, .int x1] S0 M N).bind fun q1 => j_ov none (
  (C d 49 [.ref 16, .int 60] S0 q1.2.1 q1.2.2).bind fun q2 => j_oi none (fun r2 =>
  if r2 = 0 then
    (C d 49 [.ref 16, .int 61] S0 q2.2.1 q2.2.2).bind fun q3 => j_oi none (fun r3 =>
    if r3 = 0 then
      (C d 49 [.ref 16, .int 62] S0 q3.2.1 q3.2.2).bind fun q4 => j_oi none (fun r4 =>
      if r4 = 0 then
        some (none, (S0, q4.2.1, q4.2.2))
      else
        (C d 40 [.ref 16, .int x1] S0 q4.2.1 q4.2.2).bind fun q5 => j_ov none (
        (C d 51 [.ref 16, .int (-10)] S0 q5.2.1 q5.2.2).bind fun q6 => j_ov none (
        some (none, (S0, q6.2.1, q6.2.2))) q6.1) q5.1) q4.1
    else
      (C d 40 [.ref 16, .int x1] S0 q3.2.1 q3.2.2).bind fun q7 => j_ov none (
      (C d 51 [.ref 16, .int (-9)] S0 q7.2.1 q7.2.2).bind fun q8 => j_ov none (
      some (none, (S0, q8.2.1, q8.2.2))) q8.1) q7.1) q3.1
  else
    (C d 40 [.ref 16, .int x1] S0 q2.2.1 q2.2.2).bind fun q9 => j_ov none (
    (C d 51 [.ref 16, .int (-8)] S0 q9.2.1 q9.2.2).bind fun q10 => j_ov none (
    some (none, (S0, q10.2.1, q10.2.2))) q10.1) q9.1) q2.1) q1.1) := (R_ev d kX4_readCompared 400 0 _ _ _).trans rfl
set_option maxRecDepth 100000 in
theorem bX4_readSum_0 (d : Nat) (x1 : Int32) (M : j_M) (N : j_N) : R d kX4_readSum 0 [.ref 16, .int x1, .null, .null] [] (S0, M, N) =
  ((C d 42 [.ref 16, .int x1] S0 M N).bind fun q1 => j_ov none (
  (C d 41 [.ref 16] S0 q1.2.1 q1.2.2).bind fun q2 => j_oi none (fun r2 =>
  R d kX4_readSum 12 [.ref 16, .int x1, .int r2, .int 0] [] (S0, q2.2.1, q2.2.2)) q2.1) q1.1) := (R_ev d kX4_readSum 400 0 _ _ _).trans rfl
set_option maxRecDepth 100000 in
theorem bX4_readSum_12 (d : Nat) (x1 : Int32) (x2 : Int32) (x3 : Int32) (M : j_M) (N : j_N) : R d kX4_readSum 12 [.ref 16, .int x1, .int x2, .int x3] [] (S0, M, N) =
  (if 120 ≤ x3 then
    some (none, (S0, M, N))
  else
    if x2 = 0 then
      some (none, (S0, M, N))
    else
      (C d 42 [.ref 16, .int x1] S0 M N).bind fun q1 => j_ov none (
      (C d 51 [.ref 16, .int x2] S0 q1.2.1 q1.2.2).bind fun q2 => j_ov none (
      (C d 41 [.ref 16] S0 q2.2.1 q2.2.2).bind fun q3 => j_oi none (fun r3 =>
      R d kX4_readSum 12 [.ref 16, .int x1, .int r3, .int (x3 + 1)] [] (S0, q3.2.1, q3.2.2)) q3.1) q2.1) q1.1) := (R_ev d kX4_readSum 400 12 _ _ _).trans rfl
set_option maxRecDepth 100000 in
theorem bX4_takesSumSign_0 (d : Nat)  (M : j_M) (N : j_N) : R d kX4_takesSumSign 0 [.ref 16] [] (S0, M, N) =
  ((C d 49 [.ref 16, .int 43] S0 M N).bind fun q1 => j_oi none (fun r1 =>
  if r1 = 0 then
    (C d 49 [.ref 16, .int 45] S0 q1.2.1 q1.2.2).bind fun q2 => j_oi none (fun r2 =>
    if r2 = 0 then
      some (some (.int 0), (S0, q2.2.1, q2.2.2))
    else
      some (some (.int (-12)), (S0, q2.2.1, q2.2.2))) q2.1
  else
    some (some (.int (-11)), (S0, q1.2.1, q1.2.2))) q1.1) := (R_ev d kX4_takesSumSign 400 0 _ _ _).trans rfl
set_option maxRecDepth 100000 in
theorem bX4_readProduct_0 (d : Nat) (x1 : Int32) (M : j_M) (N : j_N) : R d kX4_readProduct 0 [.ref 16, .int x1, .null, .null] [] (S0, M, N) =
  ((C d 44 [.ref 16, .int x1] S0 M N).bind fun q1 => j_ov none (
  (C d 43 [.ref 16] S0 q1.2.1 q1.2.2).bind fun q2 => j_oi none (fun r2 =>
  R d kX4_readProduct 12 [.ref 16, .int x1, .int r2, .int 0] [] (S0, q2.2.1, q2.2.2)) q2.1) q1.1) := (R_ev d kX4_readProduct 400 0 _ _ _).trans rfl
set_option maxRecDepth 100000 in
theorem bX4_readProduct_12 (d : Nat) (x1 : Int32) (x2 : Int32) (x3 : Int32) (M : j_M) (N : j_N) : R d kX4_readProduct 12 [.ref 16, .int x1, .int x2, .int x3] [] (S0, M, N) =
  (if 120 ≤ x3 then
    some (none, (S0, M, N))
  else
    if x2 = 0 then
      some (none, (S0, M, N))
    else
      (C d 44 [.ref 16, .int x1] S0 M N).bind fun q1 => j_ov none (
      (C d 51 [.ref 16, .int x2] S0 q1.2.1 q1.2.2).bind fun q2 => j_ov none (
      (C d 43 [.ref 16] S0 q2.2.1 q2.2.2).bind fun q3 => j_oi none (fun r3 =>
      R d kX4_readProduct 12 [.ref 16, .int x1, .int r3, .int (x3 + 1)] [] (S0, q3.2.1, q3.2.2)) q3.1) q2.1) q1.1) := (R_ev d kX4_readProduct 400 12 _ _ _).trans rfl
set_option maxRecDepth 100000 in
theorem bX4_takesProductSign_0 (d : Nat)  (M : j_M) (N : j_N) : R d kX4_takesProductSign 0 [.ref 16] [] (S0, M, N) =
  ((C d 49 [.ref 16, .int 42] S0 M N).bind fun q1 => j_oi none (fun r1 =>
  if r1 = 0 then
    (C d 49 [.ref 16, .int 47] S0 q1.2.1 q1.2.2).bind fun q2 => j_oi none (fun r2 =>
    if r2 = 0 then
      (C d 49 [.ref 16, .int 37] S0 q2.2.1 q2.2.2).bind fun q3 => j_oi none (fun r3 =>
      if r3 = 0 then
        some (some (.int 0), (S0, q3.2.1, q3.2.2))
      else
        some (some (.int (-15)), (S0, q3.2.1, q3.2.2))) q3.1
    else
      some (some (.int (-14)), (S0, q2.2.1, q2.2.2))) q2.1
  else
    some (some (.int (-13)), (S0, q1.2.1, q1.2.2))) q1.1) := (R_ev d kX4_takesProductSign 400 0 _ _ _).trans rfl
set_option maxRecDepth 100000 in
theorem bX4_readOperand_0 (d : Nat) (x1 : Int32) (M : j_M) (N : j_N) : R d kX4_readOperand 0 [.ref 16, .int x1, .null, .null] [] (S0, M, N) =
  ((C d 46 [.ref 16] S0 M N).bind fun q1 => j_oi none (fun r1 =>
  (C d 48 [.int r1] S0 q1.2.1 q1.2.2).bind fun q2 => j_oi none (fun r2 =>
  (C d 47 [.int r1] S0 q2.2.1 q2.2.2).bind fun q3 => j_oi none (fun r3 =>
  if r3 = 0 then
    if r2 = 0 then
      if x1 < 6 then
        (C d 49 [.ref 16, .int 40] S0 q3.2.1 q3.2.2).bind fun q4 => j_oi none (fun r4 =>
        if r4 = 0 then
          (C d 49 [.ref 16, .int 33] S0 q4.2.1 q4.2.2).bind fun q5 => j_oi none (fun r5 =>
          if r5 = 0 then
            (C d 49 [.ref 16, .int 45] S0 q5.2.1 q5.2.2).bind fun q6 => j_oi none (fun r6 =>
            if r6 = 0 then
              (C d 50 [.ref 16] S0 q6.2.1 q6.2.2).bind fun q7 => j_ov none (
              some (none, (S0, q7.2.1, q7.2.2))) q7.1
            else
              (C d 44 [.ref 16, .int (x1 + 1)] S0 q6.2.1 q6.2.2).bind fun q8 => j_ov none (
              (C d 51 [.ref 16, .int (-17)] S0 q8.2.1 q8.2.2).bind fun q9 => j_ov none (
              some (none, (S0, q9.2.1, q9.2.2))) q9.1) q8.1) q6.1
          else
            (C d 44 [.ref 16, .int (x1 + 1)] S0 q5.2.1 q5.2.2).bind fun q10 => j_ov none (
            (C d 51 [.ref 16, .int (-16)] S0 q10.2.1 q10.2.2).bind fun q11 => j_ov none (
            some (none, (S0, q11.2.1, q11.2.2))) q11.1) q10.1) q5.1
        else
          (C d 37 [.ref 16, .int (x1 + 1)] S0 q4.2.1 q4.2.2).bind fun q12 => j_ov none (
          (C d 49 [.ref 16, .int 41] S0 q12.2.1 q12.2.2).bind fun q13 => j_oi none (fun r13 =>
          if r13 = 0 then
            (C d 50 [.ref 16] S0 q13.2.1 q13.2.2).bind fun q14 => j_ov none (
            some (none, (S0, q14.2.1, q14.2.2))) q14.1
          else
            some (none, (S0, q13.2.1, q13.2.2))) q13.1) q12.1) q4.1
      else
        (C d 50 [.ref 16] S0 q3.2.1 q3.2.2).bind fun q15 => j_ov none (
        some (none, (S0, q15.2.1, q15.2.2))) q15.1
    else
      (C d 51 [.ref 16, .int r2] S0 (j_w q3.2.1 16 5 ((q3.2.1 16 5) + 1)) q3.2.2).bind fun q16 => j_ov none (
      some (none, (S0, q16.2.1, q16.2.2))) q16.1
  else
    (C d 45 [.ref 16] S0 q3.2.1 q3.2.2).bind fun q17 => j_ov none (
    some (none, (S0, q17.2.1, q17.2.2))) q17.1) q3.1) q2.1) q1.1) := (R_ev d kX4_readOperand 400 0 _ _ _).trans rfl
set_option maxRecDepth 100000 in
theorem bX4_readNumber_0 (d : Nat)  (M : j_M) (N : j_N) : R d kX4_readNumber 0 [.ref 16, .null, .null] [] (S0, M, N) =
  (R d kX4_readNumber 4 [.ref 16, .int 0, .int 0] [] (S0, M, N)) := (R_ev d kX4_readNumber 400 0 _ _ _).trans rfl
set_option maxRecDepth 100000 in
theorem bX4_readNumber_4 (d : Nat) (x1 : Int32) (x2 : Int32) (M : j_M) (N : j_N) : R d kX4_readNumber 4 [.ref 16, .int x1, .int x2] [] (S0, M, N) =
  (if 4 ≤ x2 then
    (C d 51 [.ref 16, .int x1] S0 M N).bind fun q1 => j_ov none (
    some (none, (S0, q1.2.1, q1.2.2))) q1.1
  else
    (C d 46 [.ref 16] S0 M N).bind fun q2 => j_oi none (fun r2 =>
    (C d 47 [.int r2] S0 q2.2.1 q2.2.2).bind fun q3 => j_oi none (fun r3 =>
    if r3 = 0 then
      (C d 51 [.ref 16, .int x1] S0 q3.2.1 q3.2.2).bind fun q4 => j_ov none (
      some (none, (S0, q4.2.1, q4.2.2))) q4.1
    else
      (C d 46 [.ref 16] S0 q3.2.1 q3.2.2).bind fun q5 => j_oi none (fun r5 =>
      R d kX4_readNumber 4 [.ref 16, .int (((x1 * 10) + r5) - 48), .int (x2 + 1)] [] (S0, (j_w q5.2.1 16 5 ((q5.2.1 16 5) + 1)), q5.2.2)) q5.1) q3.1) q2.1) := (R_ev d kX4_readNumber 400 4 _ _ _).trans rfl
set_option maxRecDepth 100000 in
theorem bX4_letterHere_0 (d : Nat)  (M : j_M) (N : j_N) : R d kX4_letterHere 0 [.ref 16] [] (S0, M, N) =
  (if (M 16 6) = (-1) then
    if (M 16 5) < 0 then
      some (some (.int (-1)), (S0, M, N))
    else
      if (M 16 4) ≤ (M 16 5) then
        some (some (.int (-1)), (S0, M, N))
      else
        bif j_in (M 16 5) 120 then
        some (some (.int (M 17 ((M 16 5)).toNatClampNeg)), (S0, M, N)) else none
  else
    some (some (.int (-1)), (S0, M, N))) := (R_ev d kX4_letterHere 400 0 _ _ _).trans rfl
set_option maxRecDepth 100000 in
theorem bX4_isDigit_0 (d : Nat) (x0 : Int32) (M : j_M) (N : j_N) : R d kX4_isDigit 0 [.int x0] [] (S0, M, N) =
  (if x0 < 48 then
    some (some (.int 0), (S0, M, N))
  else
    if 57 < x0 then
      some (some (.int 0), (S0, M, N))
    else
      some (some (.int 1), (S0, M, N))) := (R_ev d kX4_isDigit 400 0 _ _ _).trans rfl
set_option maxRecDepth 100000 in
theorem bX4_nameOf_0 (d : Nat) (x0 : Int32) (M : j_M) (N : j_N) : R d kX4_nameOf 0 [.int x0] [] (S0, M, N) =
  (if x0 = 98 then
    some (some (.int (-1)), (S0, M, N))
  else if x0 = 107 then
    some (some (.int (-4)), (S0, M, N))
  else if x0 = 110 then
    some (some (.int (-3)), (S0, M, N))
  else if x0 = 112 then
    some (some (.int (-2)), (S0, M, N))
  else if x0 = 114 then
    some (some (.int (-5)), (S0, M, N))
  else 
    some (some (.int 0), (S0, M, N))) := (R_ev d kX4_nameOf 400 0 _ _ _).trans rfl
set_option maxRecDepth 100000 in
theorem bX4_takes_0 (d : Nat) (x1 : Int32) (M : j_M) (N : j_N) : R d kX4_takes 0 [.ref 16, .int x1] [] (S0, M, N) =
  ((C d 46 [.ref 16] S0 M N).bind fun q1 => j_oi none (fun r1 =>
  if r1 = x1 then
    some (some (.int 1), (S0, (j_w q1.2.1 16 5 ((q1.2.1 16 5) + 1)), q1.2.2))
  else
    some (some (.int 0), (S0, q1.2.1, q1.2.2))) q1.1) := (R_ev d kX4_takes 400 0 _ _ _).trans rfl
set_option maxRecDepth 100000 in
theorem bX4_fail_0 (d : Nat)  (M : j_M) (N : j_N) : R d kX4_fail 0 [.ref 16] [] (S0, M, N) =
  (if (M 16 6) = (-1) then
    some (none, (S0, (j_w M 16 6 (M 16 5)), N))
  else
    some (none, (S0, M, N))) := (R_ev d kX4_fail 400 0 _ _ _).trans rfl
set_option maxRecDepth 100000 in
theorem bX4_write_0 (d : Nat) (x1 : Int32) (M : j_M) (N : j_N) : R d kX4_write 0 [.ref 16, .int x1] [] (S0, M, N) =
  (if 122 ≤ (M 16 7) then
    some (none, (S0, M, N))
  else
    bif j_in (M 16 7) 122 then
    some (none, (S0, (j_w (j_w M 18 ((M 16 7)).toNatClampNeg x1) 16 7 ((M 16 7) + 1)), N)) else none) := (R_ev d kX4_write 400 0 _ _ _).trans rfl
set_option maxRecDepth 100000 in
theorem bX4_gift_0 (d : Nat) (x2 : Int32) (x3 : Int32) (M : j_M) (N : j_N) : R d kX4_gift 0 [.ref 16, .ref 1, .int x2, .int x3, .null] [] (S0, M, N) =
  (if (M 16 9) = 0 then
    (C d 53 [.int x3, .int (M 1 6)] S0 M N).bind fun q1 => j_oi none (fun r1 =>
    bif j_in x2 6 then
    some (some (.int (if (0 : Int32) < (if (q1.2.1 2 (x2).toNatClampNeg) < r1 then (q1.2.1 2 (x2).toNatClampNeg) else r1) then (if (q1.2.1 2 (x2).toNatClampNeg) < r1 then (q1.2.1 2 (x2).toNatClampNeg) else r1) else (0 : Int32))), (S0, q1.2.1, q1.2.2)) else none) q1.1
  else
    (C d 54 [.ref 16, .ref 1, .int x2, .int x3] S0 M N).bind fun q2 => j_oi none (fun r2 =>
    bif j_in x2 6 then
    some (some (.int (if (0 : Int32) < (if (q2.2.1 2 (x2).toNatClampNeg) < r2 then (q2.2.1 2 (x2).toNatClampNeg) else r2) then (if (q2.2.1 2 (x2).toNatClampNeg) < r2 then (q2.2.1 2 (x2).toNatClampNeg) else r2) else (0 : Int32))), (S0, q2.2.1, q2.2.2)) else none) q2.1) := (R_ev d kX4_gift 400 0 _ _ _).trans rfl
set_option maxRecDepth 100000 in
theorem bX4_shareOf_0 (d : Nat) (x0 : Int32) (x1 : Int32) (M : j_M) (N : j_N) : R d kX4_shareOf 0 [.int x0, .int x1] [] (S0, M, N) =
  (if x1 = 0 then
    some (some (.int 0), (S0, M, N))
  else
    if x1 = 0 then none else
    some (some (.int (x0 / x1)), (S0, M, N))) := (R_ev d kX4_shareOf 400 0 _ _ _).trans rfl
set_option maxRecDepth 100000 in
theorem bX4_workOut_0 (d : Nat) (x2 : Int32) (x3 : Int32) (M : j_M) (N : j_N) : R d kX4_workOut 0 [.ref 16, .ref 1, .int x2, .int x3, .null, .null, .null] [] (S0, M, N) =
  (R d kX4_workOut 11 [.ref 16, .ref 1, .int x2, .int x3, .int 1, .int 0, .null] [] (S0, (j_w M 16 10 0), N)) := (R_ev d kX4_workOut 400 0 _ _ _).trans rfl
set_option maxRecDepth 100000 in
theorem bX4_workOut_11 (d : Nat) (x2 : Int32) (x3 : Int32) (x4 : Int32) (x5 : Int32) (M : j_M) (N : j_N) : R d kX4_workOut 11 [.ref 16, .ref 1, .int x2, .int x3, .int x4, .int x5, .null] [] (S0, M, N) =
  (if (M 16 8) ≤ x5 then
    some (some (.int 0), (S0, M, N))
  else
    bif j_in x5 122 then
    if (M 19 (x5).toNatClampNeg) = (-19) then
      if x4 = 0 then
        R d kX4_workOut 46 [.ref 16, .ref 1, .int x2, .int x3, .int x4, .int x5, .int (M 19 (x5).toNatClampNeg)] [] (S0, M, N)
      else
        (C d 57 [.ref 16] S0 M N).bind fun q1 => j_oi none (fun r1 =>
        some (some (.int r1), (S0, q1.2.1, q1.2.2))) q1.1
    else
      R d kX4_workOut 46 [.ref 16, .ref 1, .int x2, .int x3, .int x4, .int x5, .int (M 19 (x5).toNatClampNeg)] [] (S0, M, N) else none) := (R_ev d kX4_workOut 400 11 _ _ _).trans rfl
set_option maxRecDepth 100000 in
theorem bX4_workOut_46 (d : Nat) (x2 : Int32) (x3 : Int32) (x4 : Int32) (x5 : Int32) (x6 : Int32) (M : j_M) (N : j_N) : R d kX4_workOut 46 [.ref 16, .ref 1, .int x2, .int x3, .int x4, .int x5, .int x6] [] (S0, M, N) =
  (if x6 = (-19) then
    R d kX4_workOut 11 [.ref 16, .ref 1, .int x2, .int x3, .int 1, .int (x5 + 1), .null] [] (S0, M, N)
  else
    if x4 = 0 then
      R d kX4_workOut 88 [.ref 16, .ref 1, .int x2, .int x3, .int x4, .int x5, .int x6] [] (S0, M, N)
    else
      if x6 = (-18) then
        (C d 57 [.ref 16] S0 M N).bind fun q1 => j_oi none (fun r1 =>
        if r1 = 0 then
          R d kX4_workOut 11 [.ref 16, .ref 1, .int x2, .int x3, .int 0, .int (x5 + 1), .null] [] (S0, q1.2.1, q1.2.2)
        else
          R d kX4_workOut 11 [.ref 16, .ref 1, .int x2, .int x3, .int 1, .int (x5 + 1), .null] [] (S0, q1.2.1, q1.2.2)) q1.1
      else
        R d kX4_workOut 88 [.ref 16, .ref 1, .int x2, .int x3, .int x4, .int x5, .int x6] [] (S0, M, N)) := (R_ev d kX4_workOut 400 46 _ _ _).trans rfl
set_option maxRecDepth 100000 in
theorem bX4_workOut_88 (d : Nat) (x2 : Int32) (x3 : Int32) (x4 : Int32) (x5 : Int32) (x6 : Int32) (M : j_M) (N : j_N) : R d kX4_workOut 88 [.ref 16, .ref 1, .int x2, .int x3, .int x4, .int x5, .int x6] [] (S0, M, N) =
  (if x4 = 0 then
    if x4 = 0 then
      R d kX4_workOut 11 [.ref 16, .ref 1, .int x2, .int x3, .int x4, .int (x5 + 1), .null] [] (S0, M, N)
    else
      (C d 55 [.ref 16, .int x6] S0 M N).bind fun q1 => j_ov none (
      R d kX4_workOut 11 [.ref 16, .ref 1, .int x2, .int x3, .int x4, .int (x5 + 1), .null] [] (S0, q1.2.1, q1.2.2)) q1.1
  else
    if x6 < (-5) then
      if x4 = 0 then
        R d kX4_workOut 11 [.ref 16, .ref 1, .int x2, .int x3, .int x4, .int (x5 + 1), .null] [] (S0, M, N)
      else
        (C d 55 [.ref 16, .int x6] S0 M N).bind fun q2 => j_ov none (
        R d kX4_workOut 11 [.ref 16, .ref 1, .int x2, .int x3, .int x4, .int (x5 + 1), .null] [] (S0, q2.2.1, q2.2.2)) q2.1
    else
      if x6 < 0 then
        (C d 58 [.int x6, .ref 1, .int x2, .int x3] S0 M N).bind fun q3 => j_oi none (fun r3 =>
        (C d 56 [.ref 16, .int r3] S0 q3.2.1 q3.2.2).bind fun q4 => j_ov none (
        R d kX4_workOut 11 [.ref 16, .ref 1, .int x2, .int x3, .int x4, .int (x5 + 1), .null] [] (S0, q4.2.1, q4.2.2)) q4.1) q3.1
      else
        (C d 56 [.ref 16, .int x6] S0 M N).bind fun q5 => j_ov none (
        R d kX4_workOut 11 [.ref 16, .ref 1, .int x2, .int x3, .int x4, .int (x5 + 1), .null] [] (S0, q5.2.1, q5.2.2)) q5.1) := (R_ev d kX4_workOut 400 88 _ _ _).trans rfl
set_option maxRecDepth 100000 in
theorem bX4_apply_0 (d : Nat) (x1 : Int32) (M : j_M) (N : j_N) : R d kX4_apply 0 [.ref 16, .int x1, .null, .null] [] (S0, M, N) =
  ((C d 57 [.ref 16] S0 M N).bind fun q1 => j_oi none (fun r1 =>
  if x1 = (-17) then
    (C d 56 [.ref 16, .int (-r1)] S0 q1.2.1 q1.2.2).bind fun q9 => j_ov none (
    some (none, (S0, q9.2.1, q9.2.2))) q9.1
  else
    if x1 = (-16) then
      if r1 = 0 then
        (C d 60 [.int 1] S0 q1.2.1 q1.2.2).bind fun q7 => j_oi none (fun r7 =>
        (C d 56 [.ref 16, .int r7] S0 q7.2.1 q7.2.2).bind fun q8 => j_ov none (
        some (none, (S0, q8.2.1, q8.2.2))) q8.1) q7.1
      else
        (C d 60 [.int 0] S0 q1.2.1 q1.2.2).bind fun q5 => j_oi none (fun r5 =>
        (C d 56 [.ref 16, .int r5] S0 q5.2.1 q5.2.2).bind fun q6 => j_ov none (
        some (none, (S0, q6.2.1, q6.2.2))) q6.1) q5.1
    else
      (C d 57 [.ref 16] S0 q1.2.1 q1.2.2).bind fun q2 => j_oi none (fun r2 =>
      (C d 59 [.int x1, .int r2, .int r1] S0 q2.2.1 q2.2.2).bind fun q3 => j_oi none (fun r3 =>
      (C d 56 [.ref 16, .int r3] S0 q3.2.1 q3.2.2).bind fun q4 => j_ov none (
      some (none, (S0, q4.2.1, q4.2.2))) q4.1) q3.1) q2.1) q1.1) := (R_ev d kX4_apply 400 0 _ _ _).trans rfl
set_option maxRecDepth 100000 in
theorem bX4_push_0 (d : Nat) (x1 : Int32) (M : j_M) (N : j_N) : R d kX4_push 0 [.ref 16, .int x1] [] (S0, M, N) =
  (if 122 ≤ (M 16 10) then
    some (none, (S0, M, N))
  else
    bif j_in (M 16 10) 122 then
    some (none, (S0, (j_w (j_w M 20 ((M 16 10)).toNatClampNeg x1) 16 10 ((M 16 10) + 1)), N)) else none) := (R_ev d kX4_push 400 0 _ _ _).trans rfl
set_option maxRecDepth 100000 in
theorem bX4_pop_0 (d : Nat)  (M : j_M) (N : j_N) : R d kX4_pop 0 [.ref 16] [] (S0, M, N) =
  (if 0 < (M 16 10) then
    bif j_in ((M 16 10) - 1) 122 then
    some (some (.int (M 20 (((M 16 10) - 1)).toNatClampNeg)), (S0, (j_w M 16 10 ((M 16 10) - 1)), N)) else none
  else
    some (some (.int 0), (S0, M, N))) := (R_ev d kX4_pop 400 0 _ _ _).trans rfl
set_option maxRecDepth 100000 in
theorem bX4_valueOf_0 (d : Nat) (x0 : Int32) (x2 : Int32) (x3 : Int32) (M : j_M) (N : j_N) : R d kX4_valueOf 0 [.int x0, .ref 1, .int x2, .int x3] [] (S0, M, N) =
  (if x0 = (-4) then
    some (some (.int (M 1 6)), (S0, M, N))
  else if x0 = (-3) then
    some (some (.int x2), (S0, M, N))
  else if x0 = (-2) then
    bif j_in x2 6 then
    some (some (.int (M 2 (x2).toNatClampNeg)), (S0, M, N)) else none
  else if x0 = (-1) then
    some (some (.int x3), (S0, M, N))
  else 
    some (some (.int (M 1 8)), (S0, M, N))) := (R_ev d kX4_valueOf 400 0 _ _ _).trans rfl
set_option maxRecDepth 100000 in
theorem bX4_joined_0 (d : Nat) (x0 : Int32) (x1 : Int32) (x2 : Int32) (M : j_M) (N : j_N) : R d kX4_joined 0 [.int x0, .int x1, .int x2] [] (S0, M, N) =
  (if x0 = (-14) then
    if x2 = 0 then
      some (some (.int 0), (S0, M, N))
    else
      if x2 = 0 then none else
      some (some (.int (x1 / x2)), (S0, M, N))
  else if x0 = (-13) then
    some (some (.int (x1 * x2)), (S0, M, N))
  else if x0 = (-12) then
    some (some (.int (x1 - x2)), (S0, M, N))
  else if x0 = (-11) then
    some (some (.int (x1 + x2)), (S0, M, N))
  else if x0 = (-10) then
    if x1 ≤ x2 then
      (C d 60 [.int 0] S0 M N).bind fun q1 => j_oi none (fun r1 =>
      some (some (.int r1), (S0, q1.2.1, q1.2.2))) q1.1
    else
      (C d 60 [.int 1] S0 M N).bind fun q2 => j_oi none (fun r2 =>
      some (some (.int r2), (S0, q2.2.1, q2.2.2))) q2.1
  else if x0 = (-9) then
    if x1 = x2 then
      (C d 60 [.int 1] S0 M N).bind fun q4 => j_oi none (fun r4 =>
      some (some (.int r4), (S0, q4.2.1, q4.2.2))) q4.1
    else
      (C d 60 [.int 0] S0 M N).bind fun q3 => j_oi none (fun r3 =>
      some (some (.int r3), (S0, q3.2.1, q3.2.2))) q3.1
  else if x0 = (-8) then
    if x2 ≤ x1 then
      (C d 60 [.int 0] S0 M N).bind fun q5 => j_oi none (fun r5 =>
      some (some (.int r5), (S0, q5.2.1, q5.2.2))) q5.1
    else
      (C d 60 [.int 1] S0 M N).bind fun q6 => j_oi none (fun r6 =>
      some (some (.int r6), (S0, q6.2.1, q6.2.2))) q6.1
  else if x0 = (-7) then
    if x1 = 0 then
      (C d 60 [.int 0] S0 M N).bind fun q7 => j_oi none (fun r7 =>
      some (some (.int r7), (S0, q7.2.1, q7.2.2))) q7.1
    else
      if x2 = 0 then
        (C d 60 [.int 0] S0 M N).bind fun q8 => j_oi none (fun r8 =>
        some (some (.int r8), (S0, q8.2.1, q8.2.2))) q8.1
      else
        (C d 60 [.int 1] S0 M N).bind fun q9 => j_oi none (fun r9 =>
        some (some (.int r9), (S0, q9.2.1, q9.2.2))) q9.1
  else if x0 = (-6) then
    if x1 = 0 then
      if x2 = 0 then
        (C d 60 [.int 0] S0 M N).bind fun q11 => j_oi none (fun r11 =>
        some (some (.int r11), (S0, q11.2.1, q11.2.2))) q11.1
      else
        (C d 60 [.int 1] S0 M N).bind fun q12 => j_oi none (fun r12 =>
        some (some (.int r12), (S0, q12.2.1, q12.2.2))) q12.1
    else
      (C d 60 [.int 1] S0 M N).bind fun q10 => j_oi none (fun r10 =>
      some (some (.int r10), (S0, q10.2.1, q10.2.2))) q10.1
  else 
    if x2 = 0 then
      some (some (.int 0), (S0, M, N))
    else
      if x2 = 0 then none else
      some (some (.int (x1 - x1 / x2 * x2)), (S0, M, N))) := (R_ev d kX4_joined 400 0 _ _ _).trans rfl
set_option maxRecDepth 100000 in
theorem bX4_truth_0 (d : Nat) (x0 : Int32) (M : j_M) (N : j_N) : R d kX4_truth 0 [.int x0] [] (S0, M, N) =
  (if x0 = 0 then
    some (some (.int 0), (S0, M, N))
  else
    some (some (.int 1), (S0, M, N))) := (R_ev d kX4_truth 400 0 _ _ _).trans rfl
set_option maxRecDepth 100000 in
theorem bX5_has_0 (d : Nat) (x1 : Int32) (M : j_M) (N : j_N) : R d kX5_has 0 [.ref 12, .int x1] [] (S0, M, N) =
  (if x1 < 0 then
    some (some (.int 0), (S0, M, N))
  else
    if (M 12 5) ≤ x1 then
      some (some (.int 0), (S0, M, N))
    else
      some (some (.int 1), (S0, M, N))) := (R_ev d kX5_has 400 0 _ _ _).trans rfl
set_option maxRecDepth 100000 in
theorem bX5_add_0 (d : Nat) (x1 : Int32) (M : j_M) (N : j_N) : R d kX5_add 0 [.ref 12, .int x1] [] (S0, M, N) =
  (if (M 12 5) < 3 then
    bif j_in (M 12 5) 3 then
    some (some (.int (((M 12 5) + 1) - 1)), (S0, (j_w (j_w M 13 ((M 12 5)).toNatClampNeg x1) 12 5 ((M 12 5) + 1)), N)) else none
  else
    some (some (.int (-3)), (S0, M, N))) := (R_ev d kX5_add 400 0 _ _ _).trans rfl
set_option maxRecDepth 100000 in
theorem bX5_enjoy_0 (d : Nat) (x1 : Int32) (x2 : Int32) (x3 : Int32) (M : j_M) (N : j_N) : R d kX5_enjoy 0 [.ref 12, .int x1, .int x2, .int x3, .null, .null] [] (S0, M, N) =
  (bif j_in ((x1 * 3) + x2) 18 then
  bif j_in ((x1 * 3) + x2) 18 then
  some (some (.int (M 14 (((x1 * 3) + x2)).toNatClampNeg)), (S0, (j_w M 14 (((x1 * 3) + x2)).toNatClampNeg x3), N)) else none else none) := (R_ev d kX5_enjoy 400 0 _ _ _).trans rfl
