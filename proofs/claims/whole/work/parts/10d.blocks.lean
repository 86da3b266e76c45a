/-! ===== block equations (printed by wip/whole/genblk.py) ===== -/
set_option maxRecDepth 100000 in
theorem bX11_within_0 (d : Nat) (y0 : Int64) (y2 : Int64) (y4 : Int64) (M : j_M) (N : j_N) : R d kX11_within 0 [.long y0, .null, .long y2, .null, .long y4, .null] [] (S0, M, N) =
  (if (lg_cmp y0 y2) < 0 then
    some (some (.int 0), (S0, M, N))
  else
    if 0 < (lg_cmp y0 y4) then
      some (some (.int 0), (S0, M, N))
    else
      some (some (.int 1), (S0, M, N))) := (R_ev d kX11_within 400 0 _ _ _).trans rfl
set_option maxRecDepth 100000 in
theorem bX11_becomes_0 (d : Nat) (x1 : Int32) (x2 : Int32) (M : j_M) (N : j_N) : R d kX11_becomes 0 [.ref 46, .int x1, .int x2, .null, .null] [] (S0, M, N) =
  (bif j_in x1 27 then
  if (M 47 (x1).toNatClampNeg) = x2 then
    some (some (.int (M 47 (x1).toNatClampNeg)), (S0, M, N))
  else
    if (M 46 5) = 40 then
      R d kX11_becomes 26 [.ref 46, .int x1, .int x2, .int (M 47 (x1).toNatClampNeg), .int 1] [] (S0, M, N)
    else
      R d kX11_becomes 97 [.ref 46, .int x1, .int x2, .int (M 47 (x1).toNatClampNeg), .null] [] (S0, M, N) else none) := (R_ev d kX11_becomes 400 0 _ _ _).trans rfl
set_option maxRecDepth 100000 in
theorem bX11_becomes_97 (d : Nat) (x1 : Int32) (x2 : Int32) (x3 : Int32) (M : j_M) (N : j_N) : R d kX11_becomes 97 [.ref 46, .int x1, .int x2, .int x3, .null] [] (S0, M, N) =
  (bif j_in (M 46 5) 40 then
  bif j_in (M 46 5) 40 then
  bif j_in (M 46 5) 40 then
  bif j_in x1 27 then
  some (some (.int x3), (S0, (j_w (j_w (j_w (j_w (j_w (j_w M 48 ((M 46 5)).toNatClampNeg x1) 49 ((M 46 5)).toNatClampNeg x3) 50 ((M 46 5)).toNatClampNeg x2) 46 5 ((M 46 5) + 1)) 46 4 ((M 46 5) + 1)) 47 (x1).toNatClampNeg x2), N)) else none else none else none else none) := (R_ev d kX11_becomes 400 97 _ _ _).trans rfl
set_option maxRecDepth 100000 in
theorem bX11_becomes_26 (d : Nat) (x1 : Int32) (x2 : Int32) (x3 : Int32) (x4 : Int32) (M : j_M) (N : j_N) : R d kX11_becomes 26 [.ref 46, .int x1, .int x2, .int x3, .int x4] [] (S0, M, N) =
  (if 40 ≤ x4 then
    R d kX11_becomes 97 [.ref 46, .int x1, .int x2, .int x3, .null] [] (S0, (j_w M 46 5 ((M 46 5) - 1)), N)
  else
    bif j_in x4 40 then
    bif j_in (x4 - 1) 40 then
    bif j_in x4 40 then
    bif j_in (x4 - 1) 40 then
    bif j_in x4 40 then
    bif j_in (x4 - 1) 40 then
    R d kX11_becomes 26 [.ref 46, .int x1, .int x2, .int x3, .int (x4 + 1)] [] (S0, (j_w (j_w (j_w M 48 ((x4 - 1)).toNatClampNeg (M 48 (x4).toNatClampNeg)) 49 ((x4 - 1)).toNatClampNeg (M 49 (x4).toNatClampNeg)) 50 ((x4 - 1)).toNatClampNeg (M 50 (x4).toNatClampNeg)), N) else none else none else none else none else none else none) := (R_ev d kX11_becomes 400 26 _ _ _).trans rfl
set_option maxRecDepth 100000 in
theorem bX11_undo_0 (d : Nat)  (M : j_M) (N : j_N) : R d kX11_undo 0 [.ref 46] [] (S0, M, N) =
  (if (M 46 5) = 0 then
    some (some (.int (-5)), (S0, M, N))
  else
    bif j_in ((M 46 5) - 1) 40 then
    bif j_in ((M 46 5) - 1) 40 then
    bif j_in (M 48 (((M 46 5) - 1)).toNatClampNeg) 27 then
    some (some (.int ((M 46 5) - 1)), (S0, (j_w (j_w M 46 5 ((M 46 5) - 1)) 47 ((M 48 (((M 46 5) - 1)).toNatClampNeg)).toNatClampNeg (M 49 (((M 46 5) - 1)).toNatClampNeg)), N)) else none else none else none) := (R_ev d kX11_undo 400 0 _ _ _).trans rfl
set_option maxRecDepth 100000 in
theorem bX11_redo_0 (d : Nat)  (M : j_M) (N : j_N) : R d kX11_redo 0 [.ref 46] [] (S0, M, N) =
  (if (M 46 5) = (M 46 4) then
    some (some (.int (-5)), (S0, M, N))
  else
    bif j_in (M 46 5) 40 then
    bif j_in (M 46 5) 40 then
    bif j_in (M 48 ((M 46 5)).toNatClampNeg) 27 then
    some (some (.int ((M 46 4) - ((M 46 5) + 1))), (S0, (j_w (j_w M 47 ((M 48 ((M 46 5)).toNatClampNeg)).toNatClampNeg (M 50 ((M 46 5)).toNatClampNeg)) 46 5 ((M 46 5) + 1)), N)) else none else none else none) := (R_ev d kX11_redo 400 0 _ _ _).trans rfl
set_option maxRecDepth 100000 in
theorem bX11_isGuest_0 (d : Nat) (x1 : Int32) (M : j_M) (N : j_N) : R d kX11_isGuest 0 [.ref 46, .int x1] [] (S0, M, N) =
  ((C d 155 [.long x1.toInt64, .long 0, .long ((M 46 6) - 1).toInt64] S0 M N).bind fun q1 => j_oi none (fun r1 =>
  bif decide (r1 = 0) || decide (r1 = 1) then some (some (.int r1), (S0, q1.2.1, q1.2.2)) else none) q1.1) := (R_ev d kX11_isGuest 400 0 _ _ _).trans rfl
set_option maxRecDepth 100000 in
theorem bX11_guest_0 (d : Nat) (x1 : Int32) (M : j_M) (N : j_N) : R d kX11_guest 0 [.ref 46, .int x1] [] (S0, M, N) =
  ((C d 155 [.long x1.toInt64, .long 0, .long 99] S0 M N).bind fun q1 => j_oi none (fun r1 =>
  if r1 = 0 then
    some (some (.int (-1)), (S0, q1.2.1, q1.2.2))
  else
    if (q1.2.1 46 6) = 6 then
      some (some (.int (-3)), (S0, q1.2.1, q1.2.2))
    else
      bif j_in (q1.2.1 46 6) 27 then
      some (some (.int (((q1.2.1 46 6) + 1) - 1)), (S0, (j_w (j_w q1.2.1 47 ((q1.2.1 46 6)).toNatClampNeg x1) 46 6 ((q1.2.1 46 6) + 1)), q1.2.2)) else none) q1.1) := (R_ev d kX11_guest 400 0 _ _ _).trans rfl
set_option maxRecDepth 100000 in
theorem bX11_guests_0 (d : Nat) (x1 : Int32) (x2 : Int32) (x3 : Int32) (M : j_M) (N : j_N) : R d kX11_guests 0 [.ref 46, .int x1, .int x2, .int x3, .null, .null, .null] [] (S0, M, N) =
  ((C d 235 [.int x1] S0 M N).bind fun q1 => j_oi none (fun r1 =>
  if r1 = 0 then
    some (some (.int (-1)), (S0, q1.2.1, q1.2.2))
  else
    (C d 155 [.long x3.toInt64, .long 1, .long 6] S0 q1.2.1 q1.2.2).bind fun q2 => j_oi none (fun r2 =>
    if r2 = 0 then
      some (some (.int (-1)), (S0, q2.2.1, q2.2.2))
    else
      bif j_in x1 6 then
      if (q2.2.1 66 (x1).toNatClampNeg) < 0 then
        bif j_in x1 6 then
        if (q2.2.1 66 (x1).toNatClampNeg) = 50 then
          if x2 < 0 then
            R d kX11_guests 69 [.ref 46, .int x1, .int x2, .int x3, .int 0, .int 0, .null] [] (S0, q2.2.1, q2.2.2)
          else
            R d kX11_guests 69 [.ref 46, .int x1, .int x2, .int x3, .int 0, .int 1, .null] [] (S0, q2.2.1, q2.2.2)
        else
          R d kX11_guests 69 [.ref 46, .int x1, .int x2, .int x3, .int 0, .int 0, .null] [] (S0, q2.2.1, q2.2.2) else none
      else
        bif j_in x1 6 then
        if (q2.2.1 66 (x1).toNatClampNeg) = 50 then
          bif j_in x1 6 then
          if (q2.2.1 66 (x1).toNatClampNeg) = 50 then
            if x2 < 0 then
              R d kX11_guests 69 [.ref 46, .int x1, .int x2, .int x3, .int 0, .int 0, .null] [] (S0, q2.2.1, q2.2.2)
            else
              R d kX11_guests 69 [.ref 46, .int x1, .int x2, .int x3, .int 0, .int 1, .null] [] (S0, q2.2.1, q2.2.2)
          else
            R d kX11_guests 69 [.ref 46, .int x1, .int x2, .int x3, .int 0, .int 0, .null] [] (S0, q2.2.1, q2.2.2) else none
        else
          some (some (.int (-12)), (S0, q2.2.1, q2.2.2)) else none else none) q2.1) q1.1) := (R_ev d kX11_guests 400 0 _ _ _).trans rfl
set_option maxRecDepth 100000 in
theorem bX11_guests_69 (d : Nat) (x1 : Int32) (x2 : Int32) (x3 : Int32) (x4 : Int32) (x5 : Int32) (M : j_M) (N : j_N) : R d kX11_guests 69 [.ref 46, .int x1, .int x2, .int x3, .int x4, .int x5, .null] [] (S0, M, N) =
  (if x5 = 0 then
    some (some (.int x4), (S0, M, N))
  else
    if x3 ≤ x4 then
      some (some (.int x4), (S0, M, N))
    else
      bif j_in x1 6 then
      if (((M 67 (x1).toNatClampNeg) - 2) - (2 * x4)) < x2 then
        R d kX11_guests 111 [.ref 46, .int x1, .int x2, .int x3, .int x4, .null, .null] [.int 0] (S0, M, N)
      else
        if 6 ≤ (M 46 6) then
          R d kX11_guests 111 [.ref 46, .int x1, .int x2, .int x3, .int x4, .null, .null] [.int 0] (S0, M, N)
        else
          R d kX11_guests 111 [.ref 46, .int x1, .int x2, .int x3, .int x4, .null, .null] [.int 1] (S0, M, N) else none) := (R_ev d kX11_guests 400 69 _ _ _).trans rfl
set_option maxRecDepth 100000 in
theorem bX11_guests_111 (d : Nat) (x1 : Int32) (x2 : Int32) (x3 : Int32) (x4 : Int32) (s0 : Int32) (M : j_M) (N : j_N) : R d kX11_guests 111 [.ref 46, .int x1, .int x2, .int x3, .int x4, .null, .null] [.int s0] (S0, M, N) =
  (if s0 = 0 then
    R d kX11_guests 176 [.ref 46, .int x1, .int x2, .int x3, .int x4, .null, .int (((60 * x1) + x2) + (2 * x4))] [.int 0] (S0, M, N)
  else
    bif j_in (((60 * x1) + x2) + (2 * x4)) 360 then
    (C d 155 [.long (N 68 ((((60 * x1) + x2) + (2 * x4))).toNatClampNeg), .long 0, .long 99] S0 M N).bind fun q1 => j_oi none (fun r1 =>
    if r1 = 0 then
      R d kX11_guests 176 [.ref 46, .int x1, .int x2, .int x3, .int x4, .null, .int (((60 * x1) + x2) + (2 * x4))] [.int 0] (S0, q1.2.1, q1.2.2)
    else
      bif j_in ((((60 * x1) + x2) + (2 * x4)) + 1) 360 then
      bif j_in (((60 * x1) + x2) + (2 * x4)) 360 then
      (C d 155 [.long (q1.2.2 68 (((((60 * x1) + x2) + (2 * x4)) + 1)).toNatClampNeg), .long 0, .long (q1.2.2 68 ((((60 * x1) + x2) + (2 * x4))).toNatClampNeg)] S0 q1.2.1 q1.2.2).bind fun q2 => j_oi none (fun r2 =>
      if r2 = 0 then
        R d kX11_guests 176 [.ref 46, .int x1, .int x2, .int x3, .int x4, .null, .int (((60 * x1) + x2) + (2 * x4))] [.int 0] (S0, q2.2.1, q2.2.2)
      else
        R d kX11_guests 176 [.ref 46, .int x1, .int x2, .int x3, .int x4, .null, .int (((60 * x1) + x2) + (2 * x4))] [.int 1] (S0, q2.2.1, q2.2.2)) q2.1 else none else none) q1.1 else none) := (R_ev d kX11_guests 400 111 _ _ _).trans rfl
set_option maxRecDepth 100000 in
theorem bX11_guests_176 (d : Nat) (x1 : Int32) (x2 : Int32) (x3 : Int32) (x4 : Int32) (x6 : Int32) (s0 : Int32) (M : j_M) (N : j_N) : R d kX11_guests 176 [.ref 46, .int x1, .int x2, .int x3, .int x4, .null, .int x6] [.int s0] (S0, M, N) =
  (if s0 = 0 then
    R d kX11_guests 69 [.ref 46, .int x1, .int x2, .int x3, .int x4, .int s0, .null] [] (S0, M, N)
  else
    bif j_in x6 360 then
    bif j_in (M 46 6) 27 then
    bif j_in (x6 + 1) 360 then
    bif j_in (6 + (M 46 6)) 27 then
    R d kX11_guests 69 [.ref 46, .int x1, .int x2, .int x3, .int (x4 + 1), .int s0, .null] [] (S0, (j_w (j_w (j_w M 47 ((M 46 6)).toNatClampNeg (N 68 (x6).toNatClampNeg).toInt32) 47 ((6 + (M 46 6))).toNatClampNeg (N 68 ((x6 + 1)).toNatClampNeg).toInt32) 46 6 ((M 46 6) + 1)), N) else none else none else none else none) := (R_ev d kX11_guests 400 176 _ _ _).trans rfl
set_option maxRecDepth 100000 in
theorem bX11_mend_0 (d : Nat) (x1 : Int32) (x2 : Int32) (x3 : Int32) (M : j_M) (N : j_N) : R d kX11_mend 0 [.ref 46, .int x1, .int x2, .int x3] [] (S0, M, N) =
  (if x2 = 0 then
    (C d 160 [.ref 46, .int x1] S0 M N).bind fun q1 => j_oi none (fun r1 =>
    if r1 = 0 then
      some (some (.int (-1)), (S0, q1.2.1, q1.2.2))
    else
      (C d 155 [.long x3.toInt64, .long 0, .long 99] S0 q1.2.1 q1.2.2).bind fun q2 => j_oi none (fun r2 =>
      if r2 = 0 then
        some (some (.int (-1)), (S0, q2.2.1, q2.2.2))
      else
        (C d 157 [.ref 46, .int x1, .int x3] S0 q2.2.1 q2.2.2).bind fun q3 => j_oi none (fun r3 =>
        some (some (.int r3), (S0, q3.2.1, q3.2.2))) q3.1) q2.1) q1.1
  else if x2 = 1 then
    (C d 160 [.ref 46, .int x1] S0 M N).bind fun q4 => j_oi none (fun r4 =>
    if r4 = 0 then
      some (some (.int (-1)), (S0, q4.2.1, q4.2.2))
    else
      bif j_in x1 27 then
      (C d 155 [.long x3.toInt64, .long 0, .long (q4.2.1 47 (x1).toNatClampNeg).toInt64] S0 q4.2.1 q4.2.2).bind fun q5 => j_oi none (fun r5 =>
      if r5 = 0 then
        some (some (.int (-1)), (S0, q5.2.1, q5.2.2))
      else
        (C d 157 [.ref 46, .int ((6 * x2) + x1), .int x3] S0 q5.2.1 q5.2.2).bind fun q6 => j_oi none (fun r6 =>
        some (some (.int r6), (S0, q6.2.1, q6.2.2))) q6.1) q5.1 else none) q4.1
  else if x2 = 2 then
    (C d 160 [.ref 46, .int x1] S0 M N).bind fun q7 => j_oi none (fun r7 =>
    if r7 = 0 then
      some (some (.int (-1)), (S0, q7.2.1, q7.2.2))
    else
      (C d 155 [.long x3.toInt64, .long 0, .long 12] S0 q7.2.1 q7.2.2).bind fun q8 => j_oi none (fun r8 =>
      if r8 = 0 then
        some (some (.int (-1)), (S0, q8.2.1, q8.2.2))
      else
        (C d 157 [.ref 46, .int (12 + x1), .int x3] S0 q8.2.1 q8.2.2).bind fun q9 => j_oi none (fun r9 =>
        some (some (.int r9), (S0, q9.2.1, q9.2.2))) q9.1) q8.1) q7.1
  else if x2 = 3 then
    (C d 160 [.ref 46, .int x1] S0 M N).bind fun q10 => j_oi none (fun r10 =>
    if r10 = 0 then
      some (some (.int (-1)), (S0, q10.2.1, q10.2.2))
    else
      bif j_in x1 27 then
      (C d 155 [.long x3.toInt64, .long 0, .long (q10.2.1 47 (x1).toNatClampNeg).toInt64] S0 q10.2.1 q10.2.2).bind fun q11 => j_oi none (fun r11 =>
      if r11 = 0 then
        some (some (.int (-1)), (S0, q11.2.1, q11.2.2))
      else
        (C d 157 [.ref 46, .int ((6 * x2) + x1), .int x3] S0 q11.2.1 q11.2.2).bind fun q12 => j_oi none (fun r12 =>
        some (some (.int r12), (S0, q12.2.1, q12.2.2))) q12.1) q11.1 else none) q10.1
  else if x2 = 4 then
    if x1 = 0 then
      (C d 155 [.long x3.toInt64, .long 0, .long 599] S0 M N).bind fun q13 => j_oi none (fun r13 =>
      if r13 = 0 then
        some (some (.int (-1)), (S0, q13.2.1, q13.2.2))
      else
        (C d 157 [.ref 46, .int 24, .int x3] S0 q13.2.1 q13.2.2).bind fun q14 => j_oi none (fun r14 =>
        some (some (.int r14), (S0, q14.2.1, q14.2.2))) q14.1) q13.1
    else
      some (some (.int (-1)), (S0, M, N))
  else if x2 = 5 then
    if x1 = 0 then
      (C d 155 [.long x3.toInt64, .long 0, .long 4] S0 M N).bind fun q15 => j_oi none (fun r15 =>
      if r15 = 0 then
        some (some (.int (-1)), (S0, q15.2.1, q15.2.2))
      else
        (C d 157 [.ref 46, .int 25, .int x3] S0 q15.2.1 q15.2.2).bind fun q16 => j_oi none (fun r16 =>
        some (some (.int r16), (S0, q16.2.1, q16.2.2))) q16.1) q15.1
    else
      some (some (.int (-1)), (S0, M, N))
  else if x2 = 6 then
    if x1 = 0 then
      (C d 155 [.long x3.toInt64, .long 1, .long 99] S0 M N).bind fun q17 => j_oi none (fun r17 =>
      if r17 = 0 then
        some (some (.int (-1)), (S0, q17.2.1, q17.2.2))
      else
        (C d 157 [.ref 46, .int 26, .int x3] S0 q17.2.1 q17.2.2).bind fun q18 => j_oi none (fun r18 =>
        some (some (.int r18), (S0, q18.2.1, q18.2.2))) q18.1) q17.1
    else
      some (some (.int (-1)), (S0, M, N))
  else 
    some (some (.int (-1)), (S0, M, N))) := (R_ev d kX11_mend 400 0 _ _ _).trans rfl
set_option maxRecDepth 100000 in
theorem bX11_ofGuest_0 (d : Nat) (x1 : Int32) (x2 : Int32) (M : j_M) (N : j_N) : R d kX11_ofGuest 0 [.ref 46, .int x1, .int x2] [] (S0, M, N) =
  (if x2 = 4 then
    (C d 175 [.ref 46, .int x1] S0 M N).bind fun q1 => j_oi none (fun r1 =>
    some (some (.int r1), (S0, q1.2.1, q1.2.2))) q1.1
  else if x2 = 5 then
    bif j_in x1 6 then
    some (some (.int (M 52 (x1).toNatClampNeg)), (S0, M, N)) else none
  else if x2 = 6 then
    bif j_in x1 6 then
    some (some (.int (M 51 (x1).toNatClampNeg)), (S0, M, N)) else none
  else 
    bif j_in ((6 * x2) + x1) 27 then
    some (some (.int (M 47 (((6 * x2) + x1)).toNatClampNeg)), (S0, M, N)) else none) := (R_ev d kX11_ofGuest 400 0 _ _ _).trans rfl
set_option maxRecDepth 100000 in
theorem bX11_of_0 (d : Nat) (x1 : Int32) (x2 : Int32) (M : j_M) (N : j_N) : R d kX11_of 0 [.ref 46, .int x1, .int x2, .null, .null] [] (S0, M, N) =
  ((C d 155 [.long x2.toInt64, .long 0, .long 6] S0 M N).bind fun q1 => j_oi none (fun r1 =>
  if r1 = 0 then
    if x1 = 0 then
      R d kX11_of 44 [.ref 46, .null, .int x2, .int 0, .int 0] [] (S0, q1.2.1, q1.2.2)
    else
      some (some (.int (-2000000000)), (S0, q1.2.1, q1.2.2))
  else
    (C d 160 [.ref 46, .int x1] S0 q1.2.1 q1.2.2).bind fun q2 => j_oi none (fun r2 =>
    if r2 = 0 then
      some (some (.int (-2000000000)), (S0, q2.2.1, q2.2.2))
    else
      (C d 164 [.ref 46, .int x1, .int x2] S0 q2.2.1 q2.2.2).bind fun q3 => j_oi none (fun r3 =>
      some (some (.int r3), (S0, q3.2.1, q3.2.2))) q3.1) q2.1) q1.1) := (R_ev d kX11_of 400 0 _ _ _).trans rfl
set_option maxRecDepth 100000 in
theorem bX11_of_44 (d : Nat) (x2 : Int32) (x3 : Int32) (x4 : Int32) (M : j_M) (N : j_N) : R d kX11_of 44 [.ref 46, .null, .int x2, .int x3, .int x4] [] (S0, M, N) =
  (if (M 46 6) ≤ x4 then
    if x2 = 10 then
      bif j_in ((24 + x2) - 10) 27 then
      some (some (.int (M 47 (((24 + x2) - 10)).toNatClampNeg)), (S0, M, N)) else none
    else if x2 = 11 then
      bif j_in ((24 + x2) - 10) 27 then
      some (some (.int (M 47 (((24 + x2) - 10)).toNatClampNeg)), (S0, M, N)) else none
    else if x2 = 12 then
      bif j_in ((24 + x2) - 10) 27 then
      some (some (.int (M 47 (((24 + x2) - 10)).toNatClampNeg)), (S0, M, N)) else none
    else if x2 = 13 then
      some (some (.int x3), (S0, M, N))
    else if x2 = 14 then
      if ((M 47 24) - x3) ≤ 0 then
        some (some (.int 0), (S0, M, N))
      else
        some (some (.int ((M 47 24) - x3)), (S0, M, N))
    else if x2 = 15 then
      if 0 ≤ ((M 47 24) - x3) then
        some (some (.int 0), (S0, M, N))
      else
        some (some (.int (-((M 47 24) - x3))), (S0, M, N))
    else if x2 = 16 then
      some (some (.int (M 46 10)), (S0, M, N))
    else if x2 = 17 then
      some (some (.int (M 46 9)), (S0, M, N))
    else 
      some (some (.int (-2000000000)), (S0, M, N))
  else
    bif j_in (6 + x4) 27 then
    R d kX11_of 44 [.ref 46, .null, .int x2, .int (x3 + (M 47 ((6 + x4)).toNatClampNeg)), .int (x4 + 1)] [] (S0, M, N) else none) := (R_ev d kX11_of 400 44 _ _ _).trans rfl
set_option maxRecDepth 100000 in
theorem bX11_think_0 (d : Nat) (x1 : Int32) (x2 : Int32) (M : j_M) (N : j_N) : R d kX11_think 0 [.ref 46, .int x1, .int x2, .null] [] (S0, M, N) =
  ((C d 160 [.ref 46, .int x1] S0 M N).bind fun q1 => j_oi none (fun r1 =>
  if r1 = 0 then
    some (some (.int (-2000000000)), (S0, q1.2.1, q1.2.2))
  else
    (C d 155 [.long x2.toInt64, .long (-1), .long 599] S0 q1.2.1 q1.2.2).bind fun q2 => j_oi none (fun r2 =>
    if r2 = 0 then
      some (some (.int (-2000000000)), (S0, q2.2.1, q2.2.2))
    else
      bif j_in x1 6 then
      bif j_in x1 6 then
      some (some (.int (q2.2.1 51 (x1).toNatClampNeg)), (S0, (j_w q2.2.1 51 (x1).toNatClampNeg x2), q2.2.2)) else none else none) q2.1) q1.1) := (R_ev d kX11_think 400 0 _ _ _).trans rfl
set_option maxRecDepth 100000 in
theorem bX11_laysOut_0 (d : Nat)  (M : j_M) (N : j_N) : R d kX11_laysOut 0 [.ref 46, .null] [] (S0, M, N) =
  (R d kX11_laysOut 10 [.ref 46, .int 0] [] (S0, (j_w M 46 12 (M 46 6)), N)) := (R_ev d kX11_laysOut 400 0 _ _ _).trans rfl
set_option maxRecDepth 100000 in
theorem bX11_laysOut_10 (d : Nat) (x1 : Int32) (M : j_M) (N : j_N) : R d kX11_laysOut 10 [.ref 46, .int x1] [] (S0, M, N) =
  (if (M 46 6) ≤ x1 then
    some (none, (S0, M, N))
  else
    bif j_in (6 + x1) 27 then
    bif j_in x1 7 then
    R d kX11_laysOut 10 [.ref 46, .int (x1 + 1)] [] (S0, (j_w M 53 (x1).toNatClampNeg (M 47 ((6 + x1)).toNatClampNeg)), N) else none else none) := (R_ev d kX11_laysOut 400 10 _ _ _).trans rfl
set_option maxRecDepth 100000 in
theorem bX11_leastBut_0 (d : Nat) (x1 : Int32) (M : j_M) (N : j_N) : R d kX11_leastBut 0 [.ref 46, .int x1, .null, .null] [] (S0, M, N) =
  (R d kX11_leastBut 4 [.ref 46, .int x1, .int (-1), .int 0] [] (S0, M, N)) := (R_ev d kX11_leastBut 400 0 _ _ _).trans rfl
set_option maxRecDepth 100000 in
theorem bX11_leastBut_4 (d : Nat) (x1 : Int32) (x2 : Int32) (x3 : Int32) (M : j_M) (N : j_N) : R d kX11_leastBut 4 [.ref 46, .int x1, .int x2, .int x3] [] (S0, M, N) =
  (if (M 46 12) ≤ x3 then
    some (some (.int x2), (S0, M, N))
  else
    if x3 = x1 then
      R d kX11_leastBut 4 [.ref 46, .int x1, .int x2, .int (x3 + 1)] [] (S0, M, N)
    else
      if x2 < 0 then
        R d kX11_leastBut 4 [.ref 46, .int x1, .int x3, .int (x3 + 1)] [] (S0, M, N)
      else
        bif j_in x3 7 then
        bif j_in x2 7 then
        if (M 53 (x2).toNatClampNeg) ≤ (M 53 (x3).toNatClampNeg) then
          R d kX11_leastBut 4 [.ref 46, .int x1, .int x2, .int (x3 + 1)] [] (S0, M, N)
        else
          R d kX11_leastBut 4 [.ref 46, .int x1, .int x3, .int (x3 + 1)] [] (S0, M, N) else none else none) := (R_ev d kX11_leastBut 400 4 _ _ _).trans rfl
set_option maxRecDepth 100000 in
theorem bX11_alikePay_0 (d : Nat) (x1 : Int32) (M : j_M) (N : j_N) : R d kX11_alikePay 0 [.ref 46, .int x1, .null, .null, .null, .null] [] (S0, M, N) =
  ((C d 168 [.ref 46, .int (-1)] S0 M N).bind fun q1 => j_oi none (fun r1 =>
  bif j_in r1 7 then
  R d kX11_alikePay 16 [.ref 46, .int x1, .int (q1.2.1 53 (r1).toNatClampNeg), .int 0, .int 0, .null] [] (S0, q1.2.1, q1.2.2) else none) q1.1) := (R_ev d kX11_alikePay 400 0 _ _ _).trans rfl
set_option maxRecDepth 100000 in
theorem bX11_alikePay_16 (d : Nat) (x1 : Int32) (x2 : Int32) (x3 : Int32) (x4 : Int32) (M : j_M) (N : j_N) : R d kX11_alikePay 16 [.ref 46, .int x1, .int x2, .int x3, .int x4, .null] [] (S0, M, N) =
  (if (M 46 12) ≤ x4 then
    if x3 = 0 then none else
    R d kX11_alikePay 58 [.ref 46, .int x1, .int x2, .int x3, .int (x1 - x1 / x3 * x3), .int 0] [] (S0, M, N)
  else
    bif j_in x4 7 then
    if (M 53 (x4).toNatClampNeg) = x2 then
      R d kX11_alikePay 16 [.ref 46, .int x1, .int x2, .int (x3 + 1), .int (x4 + 1), .null] [] (S0, M, N)
    else
      R d kX11_alikePay 16 [.ref 46, .int x1, .int x2, .int (x3 + 0), .int (x4 + 1), .null] [] (S0, M, N) else none) := (R_ev d kX11_alikePay 400 16 _ _ _).trans rfl
set_option maxRecDepth 100000 in
theorem bX11_alikePay_58 (d : Nat) (x1 : Int32) (x2 : Int32) (x3 : Int32) (x4 : Int32) (x5 : Int32) (M : j_M) (N : j_N) : R d kX11_alikePay 58 [.ref 46, .int x1, .int x2, .int x3, .int x4, .int x5] [] (S0, M, N) =
  (if (M 46 12) ≤ x5 then
    some (none, (S0, M, N))
  else
    bif j_in x5 7 then
    if (M 53 (x5).toNatClampNeg) = x2 then
      if x3 = 0 then none else
      if x4 ≤ 0 then
        bif j_in x5 7 then
        R d kX11_alikePay 58 [.ref 46, .int x1, .int x2, .int x3, .int (x4 + (-1)), .int (x5 + 1)] [] (S0, (j_w M 54 (x5).toNatClampNeg ((x1 / x3) + 0)), N) else none
      else
        bif j_in x5 7 then
        R d kX11_alikePay 58 [.ref 46, .int x1, .int x2, .int x3, .int (x4 + (-1)), .int (x5 + 1)] [] (S0, (j_w M 54 (x5).toNatClampNeg ((x1 / x3) + 1)), N) else none
    else
      R d kX11_alikePay 58 [.ref 46, .int x1, .int x2, .int x3, .int x4, .int (x5 + 1)] [] (S0, M, N) else none) := (R_ev d kX11_alikePay 400 58 _ _ _).trans rfl
set_option maxRecDepth 100000 in
theorem bX11_twoPay_0 (d : Nat) (x1 : Int32) (M : j_M) (N : j_N) : R d kX11_twoPay 0 [.ref 46, .int x1, .null, .null] [] (S0, M, N) =
  ((C d 168 [.ref 46, .int (-1)] S0 M N).bind fun q1 => j_oi none (fun r1 =>
  (C d 168 [.ref 46, .int r1] S0 q1.2.1 q1.2.2).bind fun q2 => j_oi none (fun r2 =>
  if 0 ≤ r2 then
    bif j_in r1 7 then
    if r2 < 0 then
      some (none, (S0, (j_w q2.2.1 54 (r1).toNatClampNeg (x1 - (x1 / 2))), q2.2.2))
    else
      bif j_in r2 7 then
      some (none, (S0, (j_w (j_w q2.2.1 54 (r1).toNatClampNeg (x1 - (x1 / 2))) 54 (r2).toNatClampNeg (x1 / 2)), q2.2.2)) else none else none
  else
    bif j_in r1 7 then
    if r2 < 0 then
      some (none, (S0, (j_w q2.2.1 54 (r1).toNatClampNeg x1), q2.2.2))
    else
      bif j_in r2 7 then
      some (none, (S0, (j_w (j_w q2.2.1 54 (r1).toNatClampNeg x1) 54 (r2).toNatClampNeg (x1 / 2)), q2.2.2)) else none else none) q2.1) q1.1) := (R_ev d kX11_twoPay 400 0 _ _ _).trans rfl
set_option maxRecDepth 100000 in
theorem bX11_givesBack_0 (d : Nat) (x1 : Int32) (M : j_M) (N : j_N) : R d kX11_givesBack 0 [.ref 46, .int x1, .null, .null] [] (S0, M, N) =
  (R d kX11_givesBack 4 [.ref 46, .int x1, .int 0, .int 1] [] (S0, M, N)) := (R_ev d kX11_givesBack 400 0 _ _ _).trans rfl
set_option maxRecDepth 100000 in
theorem bX11_givesBack_4 (d : Nat) (x1 : Int32) (x2 : Int32) (x3 : Int32) (M : j_M) (N : j_N) : R d kX11_givesBack 4 [.ref 46, .int x1, .int x2, .int x3] [] (S0, M, N) =
  (if (M 46 12) ≤ x3 then
    bif j_in x2 7 then
    if (M 53 (x2).toNatClampNeg) ≤ x1 then
      bif j_in x2 7 then
      bif j_in x2 7 then
      bif j_in x2 7 then
      some (none, (S0, (j_w (j_w M 55 (x2).toNatClampNeg (M 53 (x2).toNatClampNeg)) 46 15 (x1 - ((j_w M 55 (x2).toNatClampNeg (M 53 (x2).toNatClampNeg)) 55 (x2).toNatClampNeg))), N)) else none else none else none
    else
      bif j_in x2 7 then
      bif j_in x2 7 then
      some (none, (S0, (j_w (j_w M 55 (x2).toNatClampNeg x1) 46 15 (x1 - ((j_w M 55 (x2).toNatClampNeg x1) 55 (x2).toNatClampNeg))), N)) else none else none else none
  else
    bif j_in x3 7 then
    bif j_in x2 7 then
    if (M 53 (x3).toNatClampNeg) ≤ (M 53 (x2).toNatClampNeg) then
      R d kX11_givesBack 4 [.ref 46, .int x1, .int x2, .int (x3 + 1)] [] (S0, M, N)
    else
      R d kX11_givesBack 4 [.ref 46, .int x1, .int x3, .int (x3 + 1)] [] (S0, M, N) else none else none) := (R_ev d kX11_givesBack 400 4 _ _ _).trans rfl
set_option maxRecDepth 100000 in
theorem bX11_nightBy_0 (d : Nat) (x1 : Int32) (x2 : Int32) (M : j_M) (N : j_N) : R d kX11_nightBy 0 [.ref 46, .int x1, .int x2, .null, .null, .null, .null] [] (S0, M, N) =
  (R d kX11_nightBy 5 [.ref 46, .int x1, .int x2, .int 0, .int 0, .null, .null] [] (S0, M, N)) := (R_ev d kX11_nightBy 400 0 _ _ _).trans rfl
set_option maxRecDepth 100000 in
theorem bX11_nightBy_5 (d : Nat) (x1 : Int32) (x2 : Int32) (x3 : Int32) (x4 : Int32) (M : j_M) (N : j_N) : R d kX11_nightBy 5 [.ref 46, .int x1, .int x2, .int x3, .int x4, .null, .null] [] (S0, M, N) =
  (if (M 46 12) ≤ x4 then
    if x1 ≤ x3 then
      if x3 ≤ x1 then
        R d kX11_nightBy 72 [.ref 46, .null, .int x2, .null, .int 0, .null, .null] [.int 0] (S0, M, N)
      else
        R d kX11_nightBy 72 [.ref 46, .null, .int x2, .null, .int 0, .null, .null] [.int (x3 - x1)] (S0, M, N)
    else
      if x3 ≤ x1 then
        R d kX11_nightBy 72 [.ref 46, .null, .int x2, .null, .int (x1 - x3), .null, .null] [.int 0] (S0, M, N)
      else
        R d kX11_nightBy 72 [.ref 46, .null, .int x2, .null, .int (x1 - x3), .null, .null] [.int (x3 - x1)] (S0, M, N)
  else
    bif j_in x4 7 then
    bif j_in x4 7 then
    bif j_in x4 7 then
    R d kX11_nightBy 5 [.ref 46, .int x1, .int x2, .int (x3 + (M 53 (x4).toNatClampNeg)), .int (x4 + 1), .null, .null] [] (S0, (j_w (j_w M 54 (x4).toNatClampNeg 0) 55 (x4).toNatClampNeg 0), N) else none else none else none) := (R_ev d kX11_nightBy 400 5 _ _ _).trans rfl
set_option maxRecDepth 100000 in
theorem bX11_nightBy_72 (d : Nat) (x2 : Int32) (x4 : Int32) (s0 : Int32) (M : j_M) (N : j_N) : R d kX11_nightBy 72 [.ref 46, .null, .int x2, .null, .int x4, .null, .null] [.int s0] (S0, M, N) =
  (if (M 46 12) = 0 then
    some (none, (S0, (j_w M 46 15 s0), N))
  else
    (C d 168 [.ref 46, .int (-1)] S0 (j_w M 46 15 s0) N).bind fun q1 => j_oi none (fun r1 =>
    if x2 = 0 then
      (C d 169 [.ref 46, .int x4] S0 q1.2.1 q1.2.2).bind fun q4 => j_ov none (
      if x2 = 4 then
        (C d 171 [.ref 46, .int s0] S0 q4.2.1 q4.2.2).bind fun q5 => j_ov none (
        some (none, (S0, q5.2.1, q5.2.2))) q5.1
      else
        some (none, (S0, q4.2.1, q4.2.2))) q4.1
    else
      if x2 = 2 then
        (C d 170 [.ref 46, .int x4] S0 q1.2.1 q1.2.2).bind fun q2 => j_ov none (
        if x2 = 4 then
          (C d 171 [.ref 46, .int s0] S0 q2.2.1 q2.2.2).bind fun q3 => j_ov none (
          some (none, (S0, q3.2.1, q3.2.2))) q3.1
        else
          some (none, (S0, q2.2.1, q2.2.2))) q2.1
      else
        if x2 = 3 then
          bif j_in r1 7 then
          R d kX11_nightBy 146 [.ref 46, .null, .int x2, .null, .null, .int s0, .int r1] [.int (q1.2.1 53 (r1).toNatClampNeg), .int x4, .int r1, .ref 54] (S0, q1.2.1, q1.2.2) else none
        else
          R d kX11_nightBy 146 [.ref 46, .null, .int x2, .null, .null, .int s0, .int r1] [.int 0, .int x4, .int r1, .ref 54] (S0, q1.2.1, q1.2.2)) q1.1) := (R_ev d kX11_nightBy 400 72 _ _ _).trans rfl
set_option maxRecDepth 100000 in
theorem bX11_nightBy_146 (d : Nat) (x2 : Int32) (x5 : Int32) (x6 : Int32) (s1 : Int32) (s2 : Int32) (s3 : Int32) (M : j_M) (N : j_N) : R d kX11_nightBy 146 [.ref 46, .null, .int x2, .null, .null, .int x5, .int x6] [.int s3, .int s2, .int s1, .ref 54] (S0, M, N) =
  (bif j_in s1 7 then
  if x2 = 3 then
    bif j_in x6 7 then
    if x2 = 4 then
      (C d 171 [.ref 46, .int x5] S0 (j_w (j_w M 54 (s1).toNatClampNeg (s2 + s3)) 46 15 ((M 46 15) + (M 53 (x6).toNatClampNeg))) N).bind fun q2 => j_ov none (
      some (none, (S0, q2.2.1, q2.2.2))) q2.1
    else
      some (none, (S0, (j_w (j_w M 54 (s1).toNatClampNeg (s2 + s3)) 46 15 ((M 46 15) + (M 53 (x6).toNatClampNeg))), N)) else none
  else
    if x2 = 4 then
      (C d 171 [.ref 46, .int x5] S0 (j_w (j_w M 54 (s1).toNatClampNeg (s2 + s3)) 46 15 ((M 46 15) + 0)) N).bind fun q1 => j_ov none (
      some (none, (S0, q1.2.1, q1.2.2))) q1.1
    else
      some (none, (S0, (j_w (j_w M 54 (s1).toNatClampNeg (s2 + s3)) 46 15 ((M 46 15) + 0)), N)) else none) := (R_ev d kX11_nightBy 400 146 _ _ _).trans rfl
set_option maxRecDepth 100000 in
theorem bX11_nightAsIs_0 (d : Nat)  (M : j_M) (N : j_N) : R d kX11_nightAsIs 0 [.ref 46] [] (S0, M, N) =
  ((C d 172 [.ref 46, .int (M 47 24), .int (M 47 25)] S0 M N).bind fun q1 => j_ov none (
  some (none, (S0, q1.2.1, q1.2.2))) q1.1) := (R_ev d kX11_nightAsIs 400 0 _ _ _).trans rfl
set_option maxRecDepth 100000 in
theorem bX11_costIn_0 (d : Nat) (x1 : Int32) (M : j_M) (N : j_N) : R d kX11_costIn 0 [.ref 46, .int x1] [] (S0, M, N) =
  (bif j_in x1 7 then
  bif j_in x1 7 then
  bif j_in x1 7 then
  some (some (.int (((M 53 (x1).toNatClampNeg) + (M 54 (x1).toNatClampNeg)) - (M 55 (x1).toNatClampNeg))), (S0, M, N)) else none else none else none) := (R_ev d kX11_costIn 400 0 _ _ _).trans rfl
set_option maxRecDepth 100000 in
theorem bX11_costNow_0 (d : Nat) (x1 : Int32) (M : j_M) (N : j_N) : R d kX11_costNow 0 [.ref 46, .int x1] [] (S0, M, N) =
  ((C d 167 [.ref 46] S0 M N).bind fun q1 => j_ov none (
  (C d 173 [.ref 46] S0 q1.2.1 q1.2.2).bind fun q2 => j_ov none (
  (C d 174 [.ref 46, .int x1] S0 q2.2.1 q2.2.2).bind fun q3 => j_oi none (fun r3 =>
  some (some (.int r3), (S0, q3.2.1, q3.2.2))) q3.1) q2.1) q1.1) := (R_ev d kX11_costNow 400 0 _ _ _).trans rfl
