/-! ===== block equations (printed by wip/whole/genblk.py) ===== -/
set_option maxRecDepth 100000 in
theorem bX11_stranger_0 (d : Nat) (x1 : Int32) (x2 : Int32) (x3 : Int32) (M : j_M) (N : j_N) : R d kX11_stranger 0 [.ref 46, .int x1, .int x2, .int x3, .null, .null, .null] [] (S0, M, N) =
  ((C d 160 [.ref 46, .int x1] S0 M N).bind fun q1 => j_oi none (fun r1 =>
  if r1 = 0 then
    some (some (.long (-9223372036854775808)), (S0, q1.2.1, q1.2.2))
  else
    if x2 < 0 then
      some (some (.long (-9223372036854775808)), (S0, q1.2.1, q1.2.2))
    else
      if 12 < (x2 / 100) then
        some (some (.long (-9223372036854775808)), (S0, q1.2.1, q1.2.2))
      else
        (C d 155 [.long x3.toInt64, .long 0, .long 1] S0 q1.2.1 q1.2.2).bind fun q2 => j_oi none (fun r2 =>
        if r2 = 0 then
          some (some (.long (-9223372036854775808)), (S0, q2.2.1, q2.2.2))
        else
          (C d 167 [.ref 46] S0 q2.2.1 q2.2.2).bind fun q3 => j_ov none (
          (C d 173 [.ref 46] S0 q3.2.1 q3.2.2).bind fun q4 => j_ov none (
          (C d 174 [.ref 46, .int x1] S0 q4.2.1 q4.2.2).bind fun q5 => j_oi none (fun r5 =>
          bif j_in (q5.2.1 46 6) 7 then
          (C d 173 [.ref 46] S0 (j_w (j_w q5.2.1 53 ((q5.2.1 46 6)).toNatClampNeg (x2 - x2 / 100 * 100)) 46 12 ((q5.2.1 46 6) + 1)) q5.2.2).bind fun q6 => j_ov none (
          (C d 174 [.ref 46, .int x1] S0 q6.2.1 q6.2.2).bind fun q7 => j_oi none (fun r7 =>
          (C d 180 [.long (((x2 / 100) * r7).toInt64 + ((12 - (x2 / 100)).toInt64 * r5.toInt64)), .long 12, .int x3] S0 q7.2.1 q7.2.2).bind fun q8 => j_ol none (fun r8 =>
          some (some (.long r8), (S0, q8.2.1, q8.2.2))) q8.1) q7.1) q6.1 else none) q5.1) q4.1) q3.1) q2.1) q1.1) := (R_ev d kX11_stranger 400 0 _ _ _).trans rfl
set_option maxRecDepth 100000 in
theorem bX11_night_0 (d : Nat)  (M : j_M) (N : j_N) : R d kX11_night 0 [.ref 46, .null, .null] [] (S0, M, N) =
  (if (M 46 6) = 0 then
    some (some (.int (-5)), (S0, M, N))
  else
    (C d 167 [.ref 46] S0 M N).bind fun q1 => j_ov none (
    (C d 173 [.ref 46] S0 q1.2.1 q1.2.2).bind fun q2 => j_ov none (
    R d kX11_night 22 [.ref 46, .int 0, .int 0] [] (S0, q2.2.1, q2.2.2)) q2.1) q1.1) := (R_ev d kX11_night 400 0 _ _ _).trans rfl
set_option maxRecDepth 100000 in
theorem bX11_night_22 (d : Nat) (x1 : Int32) (x2 : Int32) (M : j_M) (N : j_N) : R d kX11_night 22 [.ref 46, .int x1, .int x2] [] (S0, M, N) =
  (if (M 46 6) ≤ x2 then
    some (some (.int x1), (S0, (j_w (j_w M 46 9 ((M 46 9) + 1)) 46 10 ((M 46 10) + (M 46 15))), N))
  else
    (C d 174 [.ref 46, .int x2] S0 M N).bind fun q1 => j_oi none (fun r1 =>
    bif j_in x2 6 then
    (C d 174 [.ref 46, .int x2] S0 q1.2.1 q1.2.2).bind fun q2 => j_oi none (fun r2 =>
    bif j_in x2 6 then
    R d kX11_night 22 [.ref 46, .int (x1 + r1), .int (x2 + 1)] [] (S0, (j_w q2.2.1 52 (x2).toNatClampNeg ((q1.2.1 52 (x2).toNatClampNeg) + r2)), q2.2.2) else none) q2.1 else none) q1.1) := (R_ev d kX11_night 400 22 _ _ _).trans rfl
set_option maxRecDepth 100000 in
theorem bX11_drawn_0 (d : Nat) (x1 : Int32) (x2 : Int32) (x3 : Int32) (x4 : Int32) (M : j_M) (N : j_N) : R d kX11_drawn 0 [.ref 46, .int x1, .int x2, .int x3, .int x4, .null, .null, .null, .null, .null] [] (S0, M, N) =
  ((C d 155 [.long x2.toInt64, .long 1, .long 50] S0 M N).bind fun q1 => j_oi none (fun r1 =>
  if r1 = 0 then
    some (some (.int (-2000000000)), (S0, q1.2.1, q1.2.2))
  else
    (C d 160 [.ref 46, .int x3] S0 q1.2.1 q1.2.2).bind fun q2 => j_oi none (fun r2 =>
    if r2 = 0 then
      some (some (.int (-2000000000)), (S0, q2.2.1, q2.2.2))
    else
      (C d 155 [.long x4.toInt64, .long 0, .long 1] S0 q2.2.1 q2.2.2).bind fun q3 => j_oi none (fun r3 =>
      if r3 = 0 then
        some (some (.int (-2000000000)), (S0, q3.2.1, q3.2.2))
      else
        R d kX11_drawn 46 [.ref 46, .null, .int x2, .int x3, .int x4, .int x1, .int 0, .int 0, .int 0, .null] [] (S0, q3.2.1, q3.2.2)) q3.1) q2.1) q1.1) := (R_ev d kX11_drawn 400 0 _ _ _).trans rfl
set_option maxRecDepth 100000 in
theorem bX11_drawn_46 (d : Nat) (x2 : Int32) (x3 : Int32) (x4 : Int32) (x5 : Int32) (x6 : Int32) (x7 : Int32) (x8 : Int32) (M : j_M) (N : j_N) : R d kX11_drawn 46 [.ref 46, .null, .int x2, .int x3, .int x4, .int x5, .int x6, .int x7, .int x8, .null] [] (S0, M, N) =
  (if x2 ≤ x8 then
    if x4 = 0 then
      some (some (.int x6), (S0, M, N))
    else
      some (some (.int x7), (S0, M, N))
  else
    (C d 167 [.ref 46] S0 M N).bind fun q1 => j_ov none (
    R d kX11_drawn 59 [.ref 46, .null, .int x2, .int x3, .int x4, .int x5, .int x6, .int x7, .int x8, .int 0] [] (S0, q1.2.1, q1.2.2)) q1.1) := (R_ev d kX11_drawn 400 46 _ _ _).trans rfl
set_option maxRecDepth 100000 in
theorem bX11_drawn_59 (d : Nat) (x2 : Int32) (x3 : Int32) (x4 : Int32) (x5 : Int32) (x6 : Int32) (x7 : Int32) (x8 : Int32) (x9 : Int32) (M : j_M) (N : j_N) : R d kX11_drawn 59 [.ref 46, .null, .int x2, .int x3, .int x4, .int x5, .int x6, .int x7, .int x8, .int x9] [] (S0, M, N) =
  (if (M 46 6) ≤ x9 then
    (C d 173 [.ref 46] S0 M N).bind fun q1 => j_ov none (
    bif j_in x3 7 then
    if (q1.2.1 54 (x3).toNatClampNeg) ≤ 0 then
      (C d 174 [.ref 46, .int x3] S0 q1.2.1 q1.2.2).bind fun q2 => j_oi none (fun r2 =>
      R d kX11_drawn 46 [.ref 46, .null, .int x2, .int x3, .int x4, .int x5, .int (x6 + 0), .int (x7 + r2), .int (x8 + 1), .null] [] (S0, q2.2.1, q2.2.2)) q2.1
    else
      (C d 174 [.ref 46, .int x3] S0 q1.2.1 q1.2.2).bind fun q3 => j_oi none (fun r3 =>
      R d kX11_drawn 46 [.ref 46, .null, .int x2, .int x3, .int x4, .int x5, .int (x6 + 1), .int (x7 + r3), .int (x8 + 1), .null] [] (S0, q3.2.1, q3.2.2)) q3.1 else none) q1.1
  else
    R d kX11_drawn 73 [.ref 46, .null, .int x2, .int x3, .int x4, .null, .int x6, .int x7, .int x8, .int x9] [.int 1103515245, .int x5] (S0, M, N)) := (R_ev d kX11_drawn 400 59 _ _ _).trans rfl
set_option maxRecDepth 100000 in
theorem bX11_drawn_73 (d : Nat) (x2 : Int32) (x3 : Int32) (x4 : Int32) (x6 : Int32) (x7 : Int32) (x8 : Int32) (x9 : Int32) (s0 : Int32) (s1 : Int32) (M : j_M) (N : j_N) : R d kX11_drawn 73 [.ref 46, .null, .int x2, .int x3, .int x4, .null, .int x6, .int x7, .int x8, .int x9] [.int s1, .int s0] (S0, M, N) =
  (R d kX11_drawn 78 [.ref 46, .null, .int x2, .int x3, .int x4, .null, .int x6, .int x7, .int x8, .int x9] [.int ((s0 * s1) + 12345)] (S0, M, N)) := (R_ev d kX11_drawn 400 73 _ _ _).trans rfl
set_option maxRecDepth 100000 in
theorem bX11_drawn_78 (d : Nat) (x2 : Int32) (x3 : Int32) (x4 : Int32) (x6 : Int32) (x7 : Int32) (x8 : Int32) (x9 : Int32) (s0 : Int32) (M : j_M) (N : j_N) : R d kX11_drawn 78 [.ref 46, .null, .int x2, .int x3, .int x4, .null, .int x6, .int x7, .int x8, .int x9] [.int s0] (S0, M, N) =
  (bif j_in (12 + x9) 27 then
  if (M 47 ((12 + x9)).toNatClampNeg) ≤ (((s0).toUInt32 >>> ((8 : Int32).toUInt32 &&& Int32.toUInt32 31)).toInt32 - ((s0).toUInt32 >>> ((8 : Int32).toUInt32 &&& Int32.toUInt32 31)).toInt32 / 12 * 12) then
    bif j_in x9 7 then
    bif j_in x9 7 then
    R d kX11_drawn 59 [.ref 46, .null, .int x2, .int x3, .int x4, .int s0, .int x6, .int x7, .int x8, .int (x9 + 1)] [] (S0, (j_w M 53 (x9).toNatClampNeg (M 53 (x9).toNatClampNeg)), N) else none else none
  else
    bif j_in (18 + x9) 27 then
    bif j_in x9 7 then
    R d kX11_drawn 59 [.ref 46, .null, .int x2, .int x3, .int x4, .int s0, .int x6, .int x7, .int x8, .int (x9 + 1)] [] (S0, (j_w M 53 (x9).toNatClampNeg (M 47 ((18 + x9)).toNatClampNeg)), N) else none else none else none) := (R_ev d kX11_drawn 400 78 _ _ _).trans rfl
set_option maxRecDepth 100000 in
theorem bX11_hatIs_0 (d : Nat) (x1 : Int32) (M : j_M) (N : j_N) : R d kX11_hatIs 0 [.ref 46, .int x1] [] (S0, M, N) =
  ((C d 235 [.int x1] S0 M N).bind fun q1 => j_oi none (fun r1 =>
  if r1 = 0 then
    some (some (.int (-1)), (S0, q1.2.1, q1.2.2))
  else
    bif j_in x1 6 then
    if 0 ≤ (q1.2.1 66 (x1).toNatClampNeg) then
      bif j_in x1 6 then
      if (q1.2.1 66 (x1).toNatClampNeg) = 51 then
        some (some (.int 1), (S0, q1.2.1, q1.2.2))
      else
        some (some (.int (-12)), (S0, q1.2.1, q1.2.2)) else none
    else
      some (some (.int (-11)), (S0, q1.2.1, q1.2.2)) else none) q1.1) := (R_ev d kX11_hatIs 400 0 _ _ _).trans rfl
set_option maxRecDepth 100000 in
theorem bX11_firstFalse_0 (d : Nat) (x1 : Int32) (x2 : Int32) (M : j_M) (N : j_N) : R d kX11_firstFalse 0 [.ref 46, .int x1, .int x2, .null] [] (S0, M, N) =
  ((C d 167 [.ref 46] S0 M N).bind fun q1 => j_ov none (
  (C d 172 [.ref 46, .int (q1.2.1 47 24), .int x2] S0 q1.2.1 q1.2.2).bind fun q2 => j_ov none (
  R d kX11_firstFalse 18 [.ref 46, .int x1, .null, .int 0] [] (S0, q2.2.1, q2.2.2)) q2.1) q1.1) := (R_ev d kX11_firstFalse 400 0 _ _ _).trans rfl
set_option maxRecDepth 100000 in
theorem bX11_firstFalse_18 (d : Nat) (x1 : Int32) (x3 : Int32) (M : j_M) (N : j_N) : R d kX11_firstFalse 18 [.ref 46, .int x1, .null, .int x3] [] (S0, M, N) =
  (if (M 46 6) ≤ x3 then
    some (some (.int (-2)), (S0, M, N))
  else
    bif j_in x1 6 then
    if (M 67 (x1).toNatClampNeg) ≤ x3 then
      some (some (.int (-2)), (S0, M, N))
    else
      bif j_in ((60 * x1) + x3) 360 then
      (C d 174 [.ref 46, .int x3] S0 M N).bind fun q1 => j_oi none (fun r1 =>
      if (lg_cmp (N 68 (((60 * x1) + x3)).toNatClampNeg) r1.toInt64) = 0 then
        R d kX11_firstFalse 18 [.ref 46, .int x1, .null, .int (x3 + 1)] [] (S0, q1.2.1, q1.2.2)
      else
        some (some (.int x3), (S0, q1.2.1, q1.2.2))) q1.1 else none else none) := (R_ev d kX11_firstFalse 400 18 _ _ _).trans rfl
set_option maxRecDepth 100000 in
theorem bX11_judge_0 (d : Nat) (x1 : Int32) (M : j_M) (N : j_N) : R d kX11_judge 0 [.ref 46, .int x1] [] (S0, M, N) =
  ((C d 217 [.ref 46, .int x1] S0 M N).bind fun q1 => j_oi none (fun r1 =>
  if 0 ≤ r1 then
    (C d 218 [.ref 46, .int x1, .int (q1.2.1 47 25)] S0 q1.2.1 q1.2.2).bind fun q2 => j_oi none (fun r2 =>
    some (some (.int r2), (S0, q2.2.1, q2.2.2))) q2.1
  else
    (C d 217 [.ref 46, .int x1] S0 q1.2.1 q1.2.2).bind fun q3 => j_oi none (fun r3 =>
    some (some (.int r3), (S0, q3.2.1, q3.2.2))) q3.1) q1.1) := (R_ev d kX11_judge 400 0 _ _ _).trans rfl
set_option maxRecDepth 100000 in
theorem bX11_fits_0 (d : Nat) (x1 : Int32) (M : j_M) (N : j_N) : R d kX11_fits 0 [.ref 46, .int x1, .null, .null] [] (S0, M, N) =
  ((C d 217 [.ref 46, .int x1] S0 M N).bind fun q1 => j_oi none (fun r1 =>
  if 0 ≤ r1 then
    R d kX11_fits 18 [.ref 46, .int x1, .int 0, .int 0] [] (S0, q1.2.1, q1.2.2)
  else
    (C d 217 [.ref 46, .int x1] S0 q1.2.1 q1.2.2).bind fun q2 => j_oi none (fun r2 =>
    some (some (.int r2), (S0, q2.2.1, q2.2.2))) q2.1) q1.1) := (R_ev d kX11_fits 400 0 _ _ _).trans rfl
set_option maxRecDepth 100000 in
theorem bX11_fits_18 (d : Nat) (x1 : Int32) (x2 : Int32) (x3 : Int32) (M : j_M) (N : j_N) : R d kX11_fits 18 [.ref 46, .int x1, .int x2, .int x3] [] (S0, M, N) =
  (if 5 ≤ x3 then
    some (some (.int x2), (S0, M, N))
  else
    (C d 218 [.ref 46, .int x1, .int x3] S0 M N).bind fun q1 => j_oi none (fun r1 =>
    if r1 = (-2) then
      R d kX11_fits 18 [.ref 46, .int x1, .int (x2 ||| ((1 : Int32) <<< (x3 &&& 31))), .int (x3 + 1)] [] (S0, q1.2.1, q1.2.2)
    else
      R d kX11_fits 18 [.ref 46, .int x1, .int (x2 ||| 0), .int (x3 + 1)] [] (S0, q1.2.1, q1.2.2)) q1.1) := (R_ev d kX11_fits 400 18 _ _ _).trans rfl
set_option maxRecDepth 100000 in
theorem bX11_fair_0 (d : Nat) (x1 : Int32) (M : j_M) (N : j_N) : R d kX11_fair 0 [.ref 46, .int x1, .null, .null, .null, .null, .null] [] (S0, M, N) =
  ((C d 155 [.long x1.toInt64, .long 0, .long 1] S0 M N).bind fun q1 => j_oi none (fun r1 =>
  if r1 = 0 then
    some (some (.int (-2000000000)), (S0, q1.2.1, q1.2.2))
  else
    if (q1.2.1 46 6) = 0 then
      some (some (.int (-5)), (S0, q1.2.1, q1.2.2))
    else
      (C d 167 [.ref 46] S0 q1.2.1 q1.2.2).bind fun q2 => j_ov none (
      R d kX11_fair 34 [.ref 46, .int x1, .int (-1), .int 0, .int 0, .null, .null] [] (S0, q2.2.1, q2.2.2)) q2.1) q1.1) := (R_ev d kX11_fair 400 0 _ _ _).trans rfl
set_option maxRecDepth 100000 in
theorem bX11_fair_34 (d : Nat) (x1 : Int32) (x2 : Int32) (x3 : Int32) (x4 : Int32) (M : j_M) (N : j_N) : R d kX11_fair 34 [.ref 46, .int x1, .int x2, .int x3, .int x4, .null, .null] [] (S0, M, N) =
  (if 5 ≤ x4 then
    if x1 = 0 then
      some (some (.int x2), (S0, M, N))
    else
      some (some (.int x3), (S0, M, N))
  else
    (C d 172 [.ref 46, .int (M 47 24), .int x4] S0 M N).bind fun q1 => j_ov none (
    R d kX11_fair 59 [.ref 46, .int x1, .int x2, .int x3, .int x4, .int 0, .int 0] [] (S0, q1.2.1, q1.2.2)) q1.1) := (R_ev d kX11_fair 400 34 _ _ _).trans rfl
set_option maxRecDepth 100000 in
theorem bX11_fair_59 (d : Nat) (x1 : Int32) (x2 : Int32) (x3 : Int32) (x4 : Int32) (x5 : Int32) (x6 : Int32) (M : j_M) (N : j_N) : R d kX11_fair 59 [.ref 46, .int x1, .int x2, .int x3, .int x4, .int x5, .int x6] [] (S0, M, N) =
  (if (M 46 6) ≤ x6 then
    if x2 < 0 then
      R d kX11_fair 34 [.ref 46, .int x1, .int x4, .int x5, .int (x4 + 1), .null, .null] [] (S0, M, N)
    else
      if x3 ≤ x5 then
        R d kX11_fair 34 [.ref 46, .int x1, .int x2, .int x3, .int (x4 + 1), .null, .null] [] (S0, M, N)
      else
        R d kX11_fair 34 [.ref 46, .int x1, .int x4, .int x5, .int (x4 + 1), .null, .null] [] (S0, M, N)
  else
    (C d 174 [.ref 46, .int x6] S0 M N).bind fun q1 => j_oi none (fun r1 =>
    if r1 ≤ x5 then
      R d kX11_fair 59 [.ref 46, .int x1, .int x2, .int x3, .int x4, .int x5, .int (x6 + 1)] [] (S0, q1.2.1, q1.2.2)
    else
      (C d 174 [.ref 46, .int x6] S0 q1.2.1 q1.2.2).bind fun q2 => j_oi none (fun r2 =>
      R d kX11_fair 59 [.ref 46, .int x1, .int x2, .int x3, .int x4, .int r2, .int (x6 + 1)] [] (S0, q2.2.1, q2.2.2)) q2.1) q1.1) := (R_ev d kX11_fair 400 59 _ _ _).trans rfl
set_option maxRecDepth 100000 in
theorem bX11_image_0 (d : Nat)  (M : j_M) (N : j_N) : R d kX11_image 0 [.ref 46, .null] [] (S0, M, N) =
  (R d kX11_image 31 [.ref 46, .int 0] [] (S0, (j_w (j_w (j_w (j_w M 46 31 1) 46 32 (M 46 6)) 46 33 (M 46 9)) 46 34 (M 46 10)), N)) := (R_ev d kX11_image 400 0 _ _ _).trans rfl
set_option maxRecDepth 100000 in
theorem bX11_image_31 (d : Nat) (x1 : Int32) (M : j_M) (N : j_N) : R d kX11_image 31 [.ref 46, .int x1] [] (S0, M, N) =
  (if 6 ≤ x1 then
    some (some (.int (M 46 9)), (S0, M, N))
  else
    bif j_in (6 + x1) 27 then
    bif j_in x1 6 then
    bif j_in x1 6 then
    bif j_in x1 6 then
    R d kX11_image 31 [.ref 46, .int (x1 + 1)] [] (S0, (j_w (j_w M 62 (x1).toNatClampNeg (M 47 ((6 + x1)).toNatClampNeg)) 63 (x1).toNatClampNeg (M 52 (x1).toNatClampNeg)), N) else none else none else none else none) := (R_ev d kX11_image 400 31 _ _ _).trans rfl
set_option maxRecDepth 100000 in
theorem bX11_back_0 (d : Nat)  (M : j_M) (N : j_N) : R d kX11_back 0 [.ref 46, .null] [] (S0, M, N) =
  (if (M 46 31) = 0 then
    some (some (.int (-5)), (S0, M, N))
  else
    R d kX11_back 28 [.ref 46, .int 0] [] (S0, (j_w (j_w M 46 9 (M 46 33)) 46 10 (M 46 34)), N)) := (R_ev d kX11_back 400 0 _ _ _).trans rfl
set_option maxRecDepth 100000 in
theorem bX11_back_28 (d : Nat) (x1 : Int32) (M : j_M) (N : j_N) : R d kX11_back 28 [.ref 46, .int x1] [] (S0, M, N) =
  (if (M 46 6) ≤ x1 then
    some (some (.int (M 46 9)), (S0, M, N))
  else
    if (M 46 32) ≤ x1 then
      bif j_in (6 + x1) 27 then
      bif j_in (6 + x1) 27 then
      if (M 46 32) ≤ x1 then
        bif j_in x1 6 then
        R d kX11_back 28 [.ref 46, .int (x1 + 1)] [] (S0, (j_w (j_w M 47 ((6 + x1)).toNatClampNeg (M 47 ((6 + x1)).toNatClampNeg)) 52 (x1).toNatClampNeg 0), N) else none
      else
        bif j_in x1 6 then
        bif j_in x1 6 then
        R d kX11_back 28 [.ref 46, .int (x1 + 1)] [] (S0, (j_w (j_w M 47 ((6 + x1)).toNatClampNeg (M 47 ((6 + x1)).toNatClampNeg)) 52 (x1).toNatClampNeg (M 63 (x1).toNatClampNeg)), N) else none else none else none else none
    else
      bif j_in x1 6 then
      bif j_in (6 + x1) 27 then
      if (M 46 32) ≤ x1 then
        bif j_in x1 6 then
        R d kX11_back 28 [.ref 46, .int (x1 + 1)] [] (S0, (j_w (j_w M 47 ((6 + x1)).toNatClampNeg (M 62 (x1).toNatClampNeg)) 52 (x1).toNatClampNeg 0), N) else none
      else
        bif j_in x1 6 then
        bif j_in x1 6 then
        R d kX11_back 28 [.ref 46, .int (x1 + 1)] [] (S0, (j_w (j_w M 47 ((6 + x1)).toNatClampNeg (M 62 (x1).toNatClampNeg)) 52 (x1).toNatClampNeg (M 63 (x1).toNatClampNeg)), N) else none else none else none else none) := (R_ev d kX11_back 400 28 _ _ _).trans rfl
set_option maxRecDepth 100000 in
theorem bX11_isBody_0 (d : Nat) (x1 : Int32) (M : j_M) (N : j_N) : R d kX11_isBody 0 [.ref 46, .int x1] [] (S0, M, N) =
  ((C d 155 [.long x1.toInt64, .long 0, .long ((M 46 37) - 1).toInt64] S0 M N).bind fun q1 => j_oi none (fun r1 =>
  bif decide (r1 = 0) || decide (r1 = 1) then some (some (.int r1), (S0, q1.2.1, q1.2.2)) else none) q1.1) := (R_ev d kX11_isBody 400 0 _ _ _).trans rfl
set_option maxRecDepth 100000 in
theorem bX11_kindOf_0 (d : Nat) (x1 : Int32) (M : j_M) (N : j_N) : R d kX11_kindOf 0 [.ref 46, .int x1] [] (S0, M, N) =
  (bif j_in x1 50 then
  some (some (.int (M 64 (x1).toNatClampNeg)), (S0, M, N)) else none) := (R_ev d kX11_kindOf 400 0 _ _ _).trans rfl
set_option maxRecDepth 100000 in
theorem bX11_body_0 (d : Nat) (x1 : Int32) (M : j_M) (N : j_N) : R d kX11_body 0 [.ref 46, .int x1] [] (S0, M, N) =
  ((C d 155 [.long x1.toInt64, .long 0, .long 7] S0 M N).bind fun q1 => j_oi none (fun r1 =>
  if r1 = 0 then
    some (some (.int (-1)), (S0, q1.2.1, q1.2.2))
  else
    if (q1.2.1 46 37) = 50 then
      some (some (.int (-3)), (S0, q1.2.1, q1.2.2))
    else
      bif j_in (q1.2.1 46 37) 50 then
      some (some (.int (((q1.2.1 46 37) + 1) - 1)), (S0, (j_w (j_w q1.2.1 64 ((q1.2.1 46 37)).toNatClampNeg x1) 46 37 ((q1.2.1 46 37) + 1)), q1.2.2)) else none) q1.1) := (R_ev d kX11_body 400 0 _ _ _).trans rfl
set_option maxRecDepth 100000 in
theorem bX11_above_0 (d : Nat) (x0 : Int32) (M : j_M) (N : j_N) : R d kX11_above 0 [.int x0] [] (S0, M, N) =
  (if x0 = 3 then
    some (some (.int 2), (S0, M, N))
  else
    if x0 = 4 then
      some (some (.int 1), (S0, M, N))
    else
      if x0 = 5 then
        some (some (.int 3), (S0, M, N))
      else
        if x0 = 7 then
          some (some (.int 4), (S0, M, N))
        else
          some (some (.int 0), (S0, M, N))) := (R_ev d kX11_above 400 0 _ _ _).trans rfl
set_option maxRecDepth 100000 in
theorem bX11_begins_0 (d : Nat) (x1 : Int32) (M : j_M) (N : j_N) : R d kX11_begins 0 [.ref 46, .int x1] [] (S0, M, N) =
  (if 24 ≤ (M 46 40) then
    some (none, (S0, (j_w M 46 40 ((M 46 40) + 1)), N))
  else
    bif j_in (M 46 40) 24 then
    some (none, (S0, (j_w (j_w M 65 ((M 46 40)).toNatClampNeg x1) 46 40 ((M 46 40) + 1)), N)) else none) := (R_ev d kX11_begins 400 0 _ _ _).trans rfl
set_option maxRecDepth 100000 in
theorem bX11_givesAs_0 (d : Nat) (x1 : Int32) (x2 : Int32) (M : j_M) (N : j_N) : R d kX11_givesAs 0 [.ref 46, .int x1, .int x2] [] (S0, M, N) =
  (if x1 = 1 then
    (C d 228 [.ref 46, .int 20] S0 M N).bind fun q1 => j_ov none (
    (C d 229 [.ref 46, .int 0, .int x2] S0 q1.2.1 q1.2.2).bind fun q2 => j_oi none (fun r2 =>
    some (some (.int (r2 + 3)), (S0, q2.2.1, q2.2.2))) q2.1) q1.1
  else
    if x1 = 4 then
      (C d 228 [.ref 46, .int 20] S0 M N).bind fun q3 => j_ov none (
      (C d 229 [.ref 46, .int 0, .int x2] S0 q3.2.1 q3.2.2).bind fun q4 => j_oi none (fun r4 =>
      some (some (.int (r4 + 3)), (S0, q4.2.1, q4.2.2))) q4.1) q3.1
    else
      if x1 = 7 then
        (C d 228 [.ref 46, .int 20] S0 M N).bind fun q8 => j_ov none (
        (C d 229 [.ref 46, .int 0, .int x2] S0 q8.2.1 q8.2.2).bind fun q9 => j_oi none (fun r9 =>
        some (some (.int (r9 + 3)), (S0, q9.2.1, q9.2.2))) q9.1) q8.1
      else
        if x1 = 6 then
          (C d 228 [.ref 46, .int 70] S0 M N).bind fun q6 => j_ov none (
          (C d 229 [.ref 46, .int 0, .int x2] S0 q6.2.1 q6.2.2).bind fun q7 => j_oi none (fun r7 =>
          some (some (.int (r7 * 2)), (S0, q7.2.1, q7.2.2))) q7.1) q6.1
        else
          (C d 228 [.ref 46, .int 1] S0 M N).bind fun q5 => j_ov none (
          some (some (.int (x2 + (q5.2.1 46 42))), (S0, q5.2.1, q5.2.2))) q5.1) := (R_ev d kX11_givesAs 400 0 _ _ _).trans rfl
set_option maxRecDepth 100000 in
theorem bX11_owesAs_0 (d : Nat) (x1 : Int32) (x2 : Int32) (M : j_M) (N : j_N) : R d kX11_owesAs 0 [.ref 46, .int x1, .int x2, .null] [] (S0, M, N) =
  (if x1 = 3 then
    (C d 228 [.ref 46, .int 41] S0 M N).bind fun q1 => j_ov none (
    (C d 230 [.ref 46, .int 2, .int (x2 + 1)] S0 q1.2.1 q1.2.2).bind fun q2 => j_oi none (fun r2 =>
    some (some (.int r2), (S0, q2.2.1, q2.2.2))) q2.1) q1.1
  else
    if x1 = 5 then
      (C d 228 [.ref 46, .int 41] S0 M N).bind fun q10 => j_ov none (
      (C d 230 [.ref 46, .int 2, .int (x2 + 1)] S0 q10.2.1 q10.2.2).bind fun q11 => j_oi none (fun r11 =>
      some (some (.int r11), (S0, q11.2.1, q11.2.2))) q11.1) q10.1
    else
      if x1 = 2 then
        (C d 228 [.ref 46, .int 30] S0 M N).bind fun q8 => j_ov none (
        (C d 230 [.ref 46, .int 0, .int x2] S0 q8.2.1 q8.2.2).bind fun q9 => j_oi none (fun r9 =>
        some (some (.int (-r9)), (S0, q9.2.1, q9.2.2))) q9.1) q8.1
      else
        if x1 = 7 then
          (C d 228 [.ref 46, .int 80] S0 M N).bind fun q5 => j_ov none (
          (C d 230 [.ref 46, .int 4, .int x2] S0 q5.2.1 q5.2.2).bind fun q6 => j_oi none (fun r6 =>
          (C d 231 [.ref 46, .int (q6.2.1 46 41), .int 2] S0 q6.2.1 q6.2.2).bind fun q7 => j_oi none (fun r7 =>
          some (some (.int (r6 + r7)), (S0, q7.2.1, q7.2.2))) q7.1) q6.1) q5.1
        else
          (C d 228 [.ref 46, .int 10] S0 M N).bind fun q3 => j_ov none (
          (C d 229 [.ref 46, .int (q3.2.1 46 41), .int x2] S0 q3.2.1 q3.2.2).bind fun q4 => j_oi none (fun r4 =>
          some (some (.int (r4 * 2)), (S0, q4.2.1, q4.2.2))) q4.1) q3.1) := (R_ev d kX11_owesAs 400 0 _ _ _).trans rfl
set_option maxRecDepth 100000 in
theorem bX11_lacksAs_0 (d : Nat) (x1 : Int32) (x2 : Int32) (M : j_M) (N : j_N) : R d kX11_lacksAs 0 [.ref 46, .int x1, .int x2, .null] [] (S0, M, N) =
  (if x1 = 3 then
    (C d 228 [.ref 46, .int 40] S0 M N).bind fun q1 => j_ov none (
    (C d 231 [.ref 46, .int 2, .int x2] S0 q1.2.1 q1.2.2).bind fun q2 => j_oi none (fun r2 =>
    some (some (.int (r2 * 3)), (S0, q2.2.1, q2.2.2))) q2.1) q1.1
  else
    if x1 = 5 then
      (C d 228 [.ref 46, .int 40] S0 M N).bind fun q10 => j_ov none (
      (C d 231 [.ref 46, .int 2, .int x2] S0 q10.2.1 q10.2.2).bind fun q11 => j_oi none (fun r11 =>
      some (some (.int (r11 * 3)), (S0, q11.2.1, q11.2.2))) q11.1) q10.1
    else
      if x1 = 4 then
        (C d 228 [.ref 46, .int 50] S0 M N).bind fun q3 => j_ov none (
        (C d 231 [.ref 46, .int 1, .int x2] S0 q3.2.1 q3.2.2).bind fun q4 => j_oi none (fun r4 =>
        (C d 229 [.ref 46, .int (q4.2.1 46 41), .int 2] S0 q4.2.1 q4.2.2).bind fun q5 => j_oi none (fun r5 =>
        some (some (.int (r4 - r5)), (S0, q5.2.1, q5.2.2))) q5.1) q4.1) q3.1
      else
        if x1 = 7 then
          (C d 228 [.ref 46, .int 50] S0 M N).bind fun q7 => j_ov none (
          (C d 231 [.ref 46, .int 1, .int x2] S0 q7.2.1 q7.2.2).bind fun q8 => j_oi none (fun r8 =>
          (C d 229 [.ref 46, .int (q8.2.1 46 41), .int 2] S0 q8.2.1 q8.2.2).bind fun q9 => j_oi none (fun r9 =>
          some (some (.int (r8 - r9)), (S0, q9.2.1, q9.2.2))) q9.1) q8.1) q7.1
        else
          (C d 228 [.ref 46, .int 11] S0 M N).bind fun q6 => j_ov none (
          some (some (.int (x2 ^^^ (q6.2.1 46 42))), (S0, q6.2.1, q6.2.2))) q6.1) := (R_ev d kX11_lacksAs 400 0 _ _ _).trans rfl
set_option maxRecDepth 100000 in
theorem bX11_tellsAs_0 (d : Nat) (x1 : Int32) (x2 : Int32) (M : j_M) (N : j_N) : R d kX11_tellsAs 0 [.ref 46, .int x1, .int x2, .null] [] (S0, M, N) =
  (if x1 = 5 then
    (C d 228 [.ref 46, .int 60] S0 M N).bind fun q6 => j_ov none (
    (C d 232 [.ref 46, .int 3, .int x2] S0 q6.2.1 q6.2.2).bind fun q7 => j_oi none (fun r7 =>
    some (some (.int (r7 ^^^ 5)), (S0, q7.2.1, q7.2.2))) q7.1) q6.1
  else
    if x1 = 7 then
      (C d 228 [.ref 46, .int 81] S0 M N).bind fun q4 => j_ov none (
      (C d 232 [.ref 46, .int 4, .int x2] S0 q4.2.1 q4.2.2).bind fun q5 => j_oi none (fun r5 =>
      some (some (.int (r5 - 1)), (S0, q5.2.1, q5.2.2))) q5.1) q4.1
    else
      (C d 228 [.ref 46, .int 2] S0 M N).bind fun q1 => j_ov none (
      (C d 230 [.ref 46, .int (q1.2.1 46 41), .int x2] S0 q1.2.1 q1.2.2).bind fun q2 => j_oi none (fun r2 =>
      (C d 231 [.ref 46, .int (q2.2.1 46 41), .int 1] S0 q2.2.1 q2.2.2).bind fun q3 => j_oi none (fun r3 =>
      some (some (.int (r2 - r3)), (S0, q3.2.1, q3.2.2))) q3.1) q2.1) q1.1) := (R_ev d kX11_tellsAs 400 0 _ _ _).trans rfl
set_option maxRecDepth 100000 in
theorem bX11_act_0 (d : Nat) (x1 : Int32) (x2 : Int32) (x3 : Int32) (M : j_M) (N : j_N) : R d kX11_act 0 [.ref 46, .int x1, .int x2, .int x3] [] (S0, M, N) =
  ((C d 224 [.ref 46, .int x1] S0 (j_w M 46 40 0) N).bind fun q1 => j_oi none (fun r1 =>
  if r1 = 0 then
    some (some (.int 0), (S0, q1.2.1, q1.2.2))
  else
    bif j_in x1 50 then
    if x2 = 0 then
      (C d 229 [.ref 46, .int (q1.2.1 64 (x1).toNatClampNeg), .int x3] S0 (j_w (j_w q1.2.1 46 41 (q1.2.1 64 (x1).toNatClampNeg)) 46 42 x1) q1.2.2).bind fun q2 => j_oi none (fun r2 =>
      some (some (.int r2), (S0, q2.2.1, q2.2.2))) q2.1
    else if x2 = 1 then
      (C d 230 [.ref 46, .int (q1.2.1 64 (x1).toNatClampNeg), .int x3] S0 (j_w (j_w q1.2.1 46 41 (q1.2.1 64 (x1).toNatClampNeg)) 46 42 x1) q1.2.2).bind fun q3 => j_oi none (fun r3 =>
      some (some (.int r3), (S0, q3.2.1, q3.2.2))) q3.1
    else if x2 = 2 then
      (C d 231 [.ref 46, .int (q1.2.1 64 (x1).toNatClampNeg), .int x3] S0 (j_w (j_w q1.2.1 46 41 (q1.2.1 64 (x1).toNatClampNeg)) 46 42 x1) q1.2.2).bind fun q4 => j_oi none (fun r4 =>
      some (some (.int r4), (S0, q4.2.1, q4.2.2))) q4.1
    else if x2 = 3 then
      (C d 232 [.ref 46, .int (q1.2.1 64 (x1).toNatClampNeg), .int x3] S0 (j_w (j_w q1.2.1 46 41 (q1.2.1 64 (x1).toNatClampNeg)) 46 42 x1) q1.2.2).bind fun q5 => j_oi none (fun r5 =>
      some (some (.int r5), (S0, q5.2.1, q5.2.2))) q5.1
    else 
      some (some (.int 0), (S0, (j_w (j_w q1.2.1 46 41 (q1.2.1 64 (x1).toNatClampNeg)) 46 42 x1), q1.2.2)) else none) q1.1) := (R_ev d kX11_act 400 0 _ _ _).trans rfl
set_option maxRecDepth 100000 in
theorem bX11_trace_0 (d : Nat) (x1 : Int32) (M : j_M) (N : j_N) : R d kX11_trace 0 [.ref 46, .int x1] [] (S0, M, N) =
  (if x1 < 0 then
    some (some (.int (-1)), (S0, M, N))
  else
    if (M 46 40) ≤ x1 then
      some (some (.int (-1)), (S0, M, N))
    else
      if 24 ≤ x1 then
        some (some (.int (-1)), (S0, M, N))
      else
        bif j_in x1 24 then
        some (some (.int (M 65 (x1).toNatClampNeg)), (S0, M, N)) else none) := (R_ev d kX11_trace 400 0 _ _ _).trans rfl
set_option maxRecDepth 100000 in
theorem bX11_isShelf_0 (d : Nat) (x0 : Int32) (M : j_M) (N : j_N) : R d kX11_isShelf 0 [.int x0] [] (S0, M, N) =
  ((C d 155 [.long x0.toInt64, .long 0, .long 5] S0 M N).bind fun q1 => j_oi none (fun r1 =>
  bif decide (r1 = 0) || decide (r1 = 1) then some (some (.int r1), (S0, q1.2.1, q1.2.2)) else none) q1.1) := (R_ev d kX11_isShelf 400 0 _ _ _).trans rfl
set_option maxRecDepth 100000 in
theorem bX11_keep_0 (d : Nat) (x1 : Int32) (x2 : Int32) (M : j_M) (N : j_N) : R d kX11_keep 0 [.ref 46, .int x1, .int x2] [] (S0, M, N) =
  ((C d 235 [.int x1] S0 M N).bind fun q1 => j_oi none (fun r1 =>
  if r1 = 0 then
    some (some (.int (-1)), (S0, q1.2.1, q1.2.2))
  else
    if x2 = (-1) then
      bif j_in x1 6 then
      bif j_in x1 6 then
      some (some (.int 1), (S0, (j_w (j_w q1.2.1 66 (x1).toNatClampNeg x2) 67 (x1).toNatClampNeg 0), q1.2.2)) else none else none
    else
      (C d 224 [.ref 46, .int x2] S0 q1.2.1 q1.2.2).bind fun q2 => j_oi none (fun r2 =>
      if r2 = 0 then
        some (some (.int (-1)), (S0, q2.2.1, q2.2.2))
      else
        bif j_in x1 6 then
        bif j_in x1 6 then
        some (some (.int 1), (S0, (j_w (j_w q2.2.1 66 (x1).toNatClampNeg x2) 67 (x1).toNatClampNeg 0), q2.2.2)) else none else none) q2.1) q1.1) := (R_ev d kX11_keep 400 0 _ _ _).trans rfl
set_option maxRecDepth 100000 in
theorem bX11_row_0 (d : Nat) (x1 : Int32) (x2 : Int32) (x3 : Int32) (M : j_M) (N : j_N) : R d kX11_row 0 [.ref 46, .int x1, .int x2, .int x3, .null] [] (S0, M, N) =
  ((C d 235 [.int x1] S0 M N).bind fun q1 => j_oi none (fun r1 =>
  if r1 = 0 then
    some (some (.int (-1)), (S0, q1.2.1, q1.2.2))
  else
    (C d 155 [.long x2.toInt64, .long 0, .long 4] S0 q1.2.1 q1.2.2).bind fun q2 => j_oi none (fun r2 =>
    if r2 = 0 then
      some (some (.int (-1)), (S0, q2.2.1, q2.2.2))
    else
      if x3 ≤ 60 then
        if 0 ≤ x3 then
          bif j_in x1 6 then
          bif j_in x1 6 then
          R d kX11_row 57 [.ref 46, .int x1, .null, .null, .int (60 * x1)] [] (S0, (j_w (j_w q2.2.1 66 (x1).toNatClampNeg (50 + x2)) 67 (x1).toNatClampNeg x3), q2.2.2) else none else none
        else
          some (some (.int (-14)), (S0, q2.2.1, q2.2.2))
      else
        some (some (.int (-1)), (S0, q2.2.1, q2.2.2))) q2.1) q1.1) := (R_ev d kX11_row 400 0 _ _ _).trans rfl
set_option maxRecDepth 100000 in
theorem bX11_row_57 (d : Nat) (x1 : Int32) (x4 : Int32) (M : j_M) (N : j_N) : R d kX11_row 57 [.ref 46, .int x1, .null, .null, .int x4] [] (S0, M, N) =
  (if ((60 * x1) + 60) ≤ x4 then
    some (some (.int 1), (S0, M, N))
  else
    bif j_in x4 360 then
    R d kX11_row 57 [.ref 46, .int x1, .null, .null, .int (x4 + 1)] [] (S0, M, (j_wl N 68 (x4).toNatClampNeg 0)) else none) := (R_ev d kX11_row 400 57 _ _ _).trans rfl
set_option maxRecDepth 100000 in
theorem bX11_refusal_0 (d : Nat) (x1 : Int32) (x2 : Int32) (M : j_M) (N : j_N) : R d kX11_refusal 0 [.ref 46, .int x1, .int x2] [] (S0, M, N) =
  ((C d 235 [.int x1] S0 M N).bind fun q1 => j_oi none (fun r1 =>
  if r1 = 0 then
    some (some (.int (-1)), (S0, q1.2.1, q1.2.2))
  else
    bif j_in x1 6 then
    if 0 ≤ (q1.2.1 66 (x1).toNatClampNeg) then
      bif j_in x1 6 then
      if 50 ≤ (q1.2.1 66 (x1).toNatClampNeg) then
        if x2 < 0 then
          some (some (.int (-13)), (S0, q1.2.1, q1.2.2))
        else
          bif j_in x1 6 then
          if (q1.2.1 67 (x1).toNatClampNeg) ≤ x2 then
            some (some (.int (-13)), (S0, q1.2.1, q1.2.2))
          else
            some (some (.int 0), (S0, q1.2.1, q1.2.2)) else none
      else
        some (some (.int (-12)), (S0, q1.2.1, q1.2.2)) else none
    else
      some (some (.int (-11)), (S0, q1.2.1, q1.2.2)) else none) q1.1) := (R_ev d kX11_refusal 400 0 _ _ _).trans rfl
set_option maxRecDepth 100000 in
theorem bX11_asSort_0 (d : Nat) (x0 : Int32) (y1 : Int64) (M : j_M) (N : j_N) : R d kX11_asSort 0 [.int x0, .long y1, .null] [] (S0, M, N) =
  (if x0 = 0 then
    some (some (.long y1.toInt32.toInt8.toInt32.toInt64), (S0, M, N))
  else
    if x0 = 1 then
      some (some (.long y1.toInt32.toInt16.toInt32.toInt64), (S0, M, N))
    else
      if x0 = 2 then
        some (some (.long y1.toInt32.toInt64), (S0, M, N))
      else
        if x0 = 4 then
          if (lg_cmp y1 0) = 0 then
            some (some (.long 0), (S0, M, N))
          else
            some (some (.long 1), (S0, M, N))
        else
          some (some (.long y1), (S0, M, N))) := (R_ev d kX11_asSort 400 0 _ _ _).trans rfl
set_option maxRecDepth 100000 in
theorem bX11_put_0 (d : Nat) (x1 : Int32) (x2 : Int32) (y3 : Int64) (M : j_M) (N : j_N) : R d kX11_put 0 [.ref 46, .int x1, .int x2, .long y3, .null, .null] [] (S0, M, N) =
  ((C d 238 [.ref 46, .int x1, .int x2] S0 M N).bind fun q1 => j_oi none (fun r1 =>
  if r1 = 0 then
    bif j_in x1 6 then
    (C d 239 [.int ((q1.2.1 66 (x1).toNatClampNeg) - 50), .long y3] S0 q1.2.1 q1.2.2).bind fun q2 => j_ol none (fun r2 =>
    bif j_in ((60 * x1) + x2) 360 then
    if r1 = 0 then
      some (some (.int 1), (S0, q2.2.1, (j_wl q2.2.2 68 (((60 * x1) + x2)).toNatClampNeg r2)))
    else
      some (some (.int r1), (S0, q2.2.1, (j_wl q2.2.2 68 (((60 * x1) + x2)).toNatClampNeg r2))) else none) q2.1 else none
  else
    if r1 = 0 then
      some (some (.int 1), (S0, q1.2.1, q1.2.2))
    else
      some (some (.int r1), (S0, q1.2.1, q1.2.2))) q1.1) := (R_ev d kX11_put 400 0 _ _ _).trans rfl
set_option maxRecDepth 100000 in
theorem bX11_element_0 (d : Nat) (x1 : Int32) (x2 : Int32) (M : j_M) (N : j_N) : R d kX11_element 0 [.ref 46, .int x1, .int x2] [] (S0, M, N) =
  ((C d 238 [.ref 46, .int x1, .int x2] S0 M N).bind fun q1 => j_oi none (fun r1 =>
  if r1 = 0 then
    bif j_in ((60 * x1) + x2) 360 then
    some (some (.long (q1.2.2 68 (((60 * x1) + x2)).toNatClampNeg)), (S0, q1.2.1, q1.2.2)) else none
  else
    some (some (.long (-9223372036854775808)), (S0, q1.2.1, q1.2.2))) q1.1) := (R_ev d kX11_element 400 0 _ _ _).trans rfl
set_option maxRecDepth 100000 in
theorem bX11_shift_0 (d : Nat) (x1 : Int32) (x2 : Int32) (x3 : Int32) (x4 : Int32) (x5 : Int32) (M : j_M) (N : j_N) : R d kX11_shift 0 [.ref 46, .int x1, .int x2, .int x3, .int x4, .int x5, .null] [] (S0, M, N) =
  ((C d 235 [.int x1] S0 M N).bind fun q1 => j_oi none (fun r1 =>
  if r1 = 0 then
    some (some (.int (-1)), (S0, q1.2.1, q1.2.2))
  else
    (C d 235 [.int x3] S0 q1.2.1 q1.2.2).bind fun q2 => j_oi none (fun r2 =>
    if r2 = 0 then
      some (some (.int (-1)), (S0, q2.2.1, q2.2.2))
    else
      bif j_in x1 6 then
      if (q2.2.1 66 (x1).toNatClampNeg) < 0 then
        some (some (.int (-11)), (S0, q2.2.1, q2.2.2))
      else
        bif j_in x3 6 then
        if 0 ≤ (q2.2.1 66 (x3).toNatClampNeg) then
          bif j_in x1 6 then
          if (q2.2.1 66 (x1).toNatClampNeg) < 50 then
            some (some (.int (-12)), (S0, q2.2.1, q2.2.2))
          else
            bif j_in x1 6 then
            bif j_in x3 6 then
            if (q2.2.1 66 (x1).toNatClampNeg) = (q2.2.1 66 (x3).toNatClampNeg) then
              if x5 < 0 then
                some (some (.int (-13)), (S0, q2.2.1, q2.2.2))
              else
                if x2 < 0 then
                  some (some (.int (-13)), (S0, q2.2.1, q2.2.2))
                else
                  if x4 < 0 then
                    some (some (.int (-13)), (S0, q2.2.1, q2.2.2))
                  else
                    bif j_in x1 6 then
                    if ((q2.2.1 67 (x1).toNatClampNeg) - x5) < x2 then
                      some (some (.int (-13)), (S0, q2.2.1, q2.2.2))
                    else
                      bif j_in x3 6 then
                      if x4 ≤ ((q2.2.1 67 (x3).toNatClampNeg) - x5) then
                        R d kX11_shift 113 [.ref 46, .int x1, .int x2, .int x3, .int x4, .int x5, .int 0] [] (S0, q2.2.1, q2.2.2)
                      else
                        some (some (.int (-13)), (S0, q2.2.1, q2.2.2)) else none else none
            else
              some (some (.int (-12)), (S0, q2.2.1, q2.2.2)) else none else none else none
        else
          some (some (.int (-11)), (S0, q2.2.1, q2.2.2)) else none else none) q2.1) q1.1) := (R_ev d kX11_shift 400 0 _ _ _).trans rfl
set_option maxRecDepth 100000 in
theorem bX11_shift_113 (d : Nat) (x1 : Int32) (x2 : Int32) (x3 : Int32) (x4 : Int32) (x5 : Int32) (x6 : Int32) (M : j_M) (N : j_N) : R d kX11_shift 113 [.ref 46, .int x1, .int x2, .int x3, .int x4, .int x5, .int x6] [] (S0, M, N) =
  (if x5 ≤ x6 then
    R d kX11_shift 150 [.ref 46, .null, .null, .int x3, .int x4, .int x5, .int 0] [] (S0, M, N)
  else
    bif j_in (((60 * x1) + x2) + x6) 360 then
    bif j_in x6 60 then
    R d kX11_shift 113 [.ref 46, .int x1, .int x2, .int x3, .int x4, .int x5, .int (x6 + 1)] [] (S0, M, (j_wl N 69 (x6).toNatClampNeg (N 68 ((((60 * x1) + x2) + x6)).toNatClampNeg))) else none else none) := (R_ev d kX11_shift 400 113 _ _ _).trans rfl
set_option maxRecDepth 100000 in
theorem bX11_shift_150 (d : Nat) (x3 : Int32) (x4 : Int32) (x5 : Int32) (x6 : Int32) (M : j_M) (N : j_N) : R d kX11_shift 150 [.ref 46, .null, .null, .int x3, .int x4, .int x5, .int x6] [] (S0, M, N) =
  (if x5 ≤ x6 then
    some (some (.int x5), (S0, M, N))
  else
    bif j_in x6 60 then
    bif j_in (((60 * x3) + x4) + x6) 360 then
    R d kX11_shift 150 [.ref 46, .null, .null, .int x3, .int x4, .int x5, .int (x6 + 1)] [] (S0, M, (j_wl N 68 ((((60 * x3) + x4) + x6)).toNatClampNeg (N 69 (x6).toNatClampNeg))) else none else none) := (R_ev d kX11_shift 400 150 _ _ _).trans rfl
set_option maxRecDepth 100000 in
theorem bX11_taken_0 (d : Nat) (x1 : Int32) (x2 : Int32) (M : j_M) (N : j_N) : R d kX11_taken 0 [.ref 46, .int x1, .int x2, .null] [] (S0, M, N) =
  ((C d 235 [.int x1] S0 M N).bind fun q1 => j_oi none (fun r1 =>
  if r1 = 0 then
    some (some (.int (-1)), (S0, q1.2.1, q1.2.2))
  else
    (C d 155 [.long x2.toInt64, .long 0, .long 7] S0 q1.2.1 q1.2.2).bind fun q2 => j_oi none (fun r2 =>
    if r2 = 0 then
      some (some (.int (-1)), (S0, q2.2.1, q2.2.2))
    else
      bif j_in x1 6 then
      if 0 ≤ (q2.2.1 66 (x1).toNatClampNeg) then
        bif j_in x1 6 then
        if (q2.2.1 66 (x1).toNatClampNeg) < 50 then
          bif j_in x1 6 then
          (C d 225 [.ref 46, .int (q2.2.1 66 (x1).toNatClampNeg)] S0 q2.2.1 q2.2.2).bind fun q3 => j_oi none (fun r3 =>
          R d kX11_taken 58 [.ref 46, .int x1, .int x2, .int r3] [] (S0, q3.2.1, q3.2.2)) q3.1 else none
        else
          some (some (.int (-12)), (S0, q2.2.1, q2.2.2)) else none
      else
        some (some (.int (-11)), (S0, q2.2.1, q2.2.2)) else none) q2.1) q1.1) := (R_ev d kX11_taken 400 0 _ _ _).trans rfl
set_option maxRecDepth 100000 in
theorem bX11_taken_58 (d : Nat) (x1 : Int32) (x2 : Int32) (x3 : Int32) (M : j_M) (N : j_N) : R d kX11_taken 58 [.ref 46, .int x1, .int x2, .int x3] [] (S0, M, N) =
  (if x3 = x2 then
    if x3 = x2 then
      bif j_in x1 6 then
      (C d 225 [.ref 46, .int (M 66 (x1).toNatClampNeg)] S0 M N).bind fun q1 => j_oi none (fun r1 =>
      some (some (.int r1), (S0, q1.2.1, q1.2.2))) q1.1 else none
    else
      some (some (.int (-12)), (S0, M, N))
  else
    if x3 ≤ 0 then
      if x3 = x2 then
        bif j_in x1 6 then
        (C d 225 [.ref 46, .int (M 66 (x1).toNatClampNeg)] S0 M N).bind fun q2 => j_oi none (fun r2 =>
        some (some (.int r2), (S0, q2.2.1, q2.2.2))) q2.1 else none
      else
        some (some (.int (-12)), (S0, M, N))
    else
      (C d 227 [.int x3] S0 M N).bind fun q3 => j_oi none (fun r3 =>
      R d kX11_taken 58 [.ref 46, .int x1, .int x2, .int r3] [] (S0, q3.2.1, q3.2.2)) q3.1) := (R_ev d kX11_taken 400 58 _ _ _).trans rfl
set_option maxRecDepth 100000 in
theorem bX11_count_0 (d : Nat) (x1 : Int32) (M : j_M) (N : j_N) : R d kX11_count 0 [.ref 46, .int x1] [] (S0, M, N) =
  (if x1 = 0 then
    some (some (.int (M 46 6)), (S0, M, N))
  else if x1 = 1 then
    some (some (.int (M 46 17)), (S0, M, N))
  else if x1 = 2 then
    some (some (.int (M 46 22)), (S0, M, N))
  else if x1 = 3 then
    some (some (.int (M 46 5)), (S0, M, N))
  else if x1 = 4 then
    some (some (.int (M 46 37)), (S0, M, N))
  else if x1 = 5 then
    some (some (.int (M 46 40)), (S0, M, N))
  else 
    some (some (.int (-1)), (S0, M, N))) := (R_ev d kX11_count 400 0 _ _ _).trans rfl
set_option maxRecDepth 100000 in
theorem bJ7_fill_d0a16_0 (d : Nat) (a0 : Nat) (y1 : Int64) (M : j_M) (N : j_N) : R d kJ7_fill_d0a16 0 [.ref a0, .long y1, .null, .null, .null] [] (S0, M, N) =
  (bif Nat.ble (j_at S0 a0).1 2 then
  R d kJ7_fill_d0a16 6 [.ref a0, .long y1, .null, .int 0, .int (Int32.ofNat (j_at S0 a0).2.1)] [] (S0, M, N) else none) := (R_ev d kJ7_fill_d0a16 400 0 _ _ _).trans rfl
set_option maxRecDepth 100000 in
theorem bJ7_fill_d0a16_6 (d : Nat) (a0 : Nat) (y1 : Int64) (x3 : Int32) (x4 : Int32) (M : j_M) (N : j_N) : R d kJ7_fill_d0a16 6 [.ref a0, .long y1, .null, .int x3, .int x4] [] (S0, M, N) =
  (if x4 ≤ x3 then
    some (none, (S0, M, N))
  else
    bif Nat.beq (j_at S0 a0).1 1 && j_in x3 (j_at S0 a0).2.1 then
    R d kJ7_fill_d0a16 6 [.ref a0, .long y1, .null, .int (x3 + 1), .int x4] [] (S0, M, (j_wl N a0 (x3).toNatClampNeg y1)) else none) := (R_ev d kJ7_fill_d0a16 400 6 _ _ _).trans rfl
set_option maxRecDepth 100000 in
theorem bJ7_fill_53178_0 (d : Nat) (a0 : Nat) (x1 : Int32) (M : j_M) (N : j_N) : R d kJ7_fill_53178 0 [.ref a0, .int x1, .null, .null] [] (S0, M, N) =
  (bif Nat.ble (j_at S0 a0).1 2 then
  R d kJ7_fill_53178 5 [.ref a0, .int x1, .int 0, .int (Int32.ofNat (j_at S0 a0).2.1)] [] (S0, M, N) else none) := (R_ev d kJ7_fill_53178 400 0 _ _ _).trans rfl
set_option maxRecDepth 100000 in
theorem bJ7_fill_53178_5 (d : Nat) (a0 : Nat) (x1 : Int32) (x2 : Int32) (x3 : Int32) (M : j_M) (N : j_N) : R d kJ7_fill_53178 5 [.ref a0, .int x1, .int x2, .int x3] [] (S0, M, N) =
  (if x3 ≤ x2 then
    some (none, (S0, M, N))
  else
    bif Nat.beq (j_at S0 a0).1 0 && j_in x2 (j_at S0 a0).2.1 then
    R d kJ7_fill_53178 5 [.ref a0, .int x1, .int (x2 + 1), .int x3] [] (S0, (j_w M a0 (x2).toNatClampNeg x1), N) else none) := (R_ev d kJ7_fill_53178 400 5 _ _ _).trans rfl
