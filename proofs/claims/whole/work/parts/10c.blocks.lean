/-! ===== block equations (printed by wip/whole/genblk.py) ===== -/
set_option maxRecDepth 100000 in
theorem bX10_guest_0 (d : Nat) (x1 : Int32) (M : j_M) (N : j_N) : R d kX10_guest 0 [.ref 0, .int x1] [] (S0, M, N) =
  ((C d 147 [.int x1, .int 0, .int 99] S0 M N).bind fun q1 => j_oi none (fun r1 =>
  if r1 = 0 then
    some (some (.int (-1)), (S0, q1.2.1, q1.2.2))
  else
    if (q1.2.1 1 6) < 6 then
      (C d 17 [.ref 1, .int x1, .int 0] S0 q1.2.1 q1.2.2).bind fun q2 => j_ov none (
      some (some (.int ((q2.2.1 1 6) - 1)), (S0, q2.2.1, q2.2.2))) q2.1
    else
      some (some (.int (-3)), (S0, q1.2.1, q1.2.2))) q1.1) := (R_ev d kX10_guest 400 0 _ _ _).trans rfl
set_option maxRecDepth 100000 in
theorem bX10_guests_0 (d : Nat) (x1 : Int32) (x2 : Int32) (x3 : Int32) (M : j_M) (N : j_N) : R d kX10_guests 0 [.ref 0, .int x1, .int x2, .int x3, .null, .null] [] (S0, M, N) =
  ((C d 148 [.int x1] S0 M N).bind fun q1 => j_oi none (fun r1 =>
  if r1 = 0 then
    some (some (.int (-1)), (S0, q1.2.1, q1.2.2))
  else
    (C d 147 [.int x3, .int 1, .int 6] S0 q1.2.1 q1.2.2).bind fun q2 => j_oi none (fun r2 =>
    if r2 = 0 then
      some (some (.int (-1)), (S0, q2.2.1, q2.2.2))
    else
      bif j_in x1 6 && (j_nth (j_at S0 33).2.2 (x1).toNatClampNeg).isSome then
      bif Nat.beq (j_at S0 ((j_nth (j_at S0 33).2.2 (x1).toNatClampNeg).getD 0)).1 12 && Nat.ble 0 8 then (C d 97 [.ref ((j_nth (j_at S0 33).2.2 (x1).toNatClampNeg).getD 0)] S0 q2.2.1 q2.2.2).bind fun q3 => j_oi none (fun r3 =>
      if r3 = 0 then
        bif Nat.beq (j_at S0 ((j_nth (j_at S0 33).2.2 (x1).toNatClampNeg).getD 0)).1 12 && Nat.ble 0 8 then (C d 99 [.ref ((j_nth (j_at S0 33).2.2 (x1).toNatClampNeg).getD 0), .int 0] S0 q3.2.1 q3.2.2).bind fun q4 => j_oi none (fun r4 =>
        if r4 = 0 then
          some (some (.int (-12)), (S0, q4.2.1, q4.2.2))
        else
          R d kX10_guests 52 [.ref 0, .null, .int x2, .int x3, .ref ((j_nth (j_at S0 33).2.2 (x1).toNatClampNeg).getD 0), .int 0] [] (S0, q4.2.1, q4.2.2)) q4.1 else none
      else
        some (some (.int 0), (S0, q3.2.1, q3.2.2))) q3.1 else none else none) q2.1) q1.1) := (R_ev d kX10_guests 400 0 _ _ _).trans rfl
set_option maxRecDepth 100000 in
theorem bX10_guests_52 (d : Nat) (x2 : Int32) (x3 : Int32) (a4 : Nat) (x5 : Int32) (M : j_M) (N : j_N) : R d kX10_guests 52 [.ref 0, .null, .int x2, .int x3, .ref a4, .int x5] [] (S0, M, N) =
  (if x3 ≤ x5 then
    some (some (.int x5), (S0, M, N))
  else
    (C d 149 [.ref 0, .ref a4, .long (x2.toInt64 + (2 * x5.toInt64))] S0 M N).bind fun q1 => j_oi none (fun r1 =>
    if r1 = 0 then
      some (some (.int x5), (S0, q1.2.1, q1.2.2))
    else
      R d kX10_guests 52 [.ref 0, .null, .int x2, .int x3, .ref a4, .int (x5 + 1)] [] (S0, q1.2.1, q1.2.2)) q1.1) := (R_ev d kX10_guests 400 52 _ _ _).trans rfl
set_option maxRecDepth 100000 in
theorem bX10_mend_0 (d : Nat) (x1 : Int32) (x2 : Int32) (x3 : Int32) (M : j_M) (N : j_N) : R d kX10_mend 0 [.ref 0, .int x1, .int x2, .int x3, .null] [] (S0, M, N) =
  ((C d 18 [.ref 1, .int x1, .int x2, .int x3] S0 M N).bind fun q1 => j_oi none (fun r1 =>
  if r1 = 0 then
    some (some (.int (-1)), (S0, q1.2.1, q1.2.2))
  else
    (C d 19 [.ref 1, .int x1, .int x2] S0 q1.2.1 q1.2.2).bind fun q2 => j_oi none (fun r2 =>
    if r2 = x3 then
      some (some (.int r2), (S0, q2.2.1, q2.2.2))
    else
      (C d 20 [.ref 1, .int x1, .int x2, .int x3] S0 q2.2.1 q2.2.2).bind fun q3 => j_ov none (
      (C d 11 [.ref 22, .int x1, .int x2, .int r2, .int x3] S0 q3.2.1 q3.2.2).bind fun q4 => j_ov none (
      some (some (.int r2), (S0, q4.2.1, q4.2.2))) q4.1) q3.1) q2.1) q1.1) := (R_ev d kX10_mend 400 0 _ _ _).trans rfl
set_option maxRecDepth 100000 in
theorem bX10_of_0 (d : Nat) (x1 : Int32) (x2 : Int32) (M : j_M) (N : j_N) : R d kX10_of 0 [.ref 0, .int x1, .int x2] [] (S0, M, N) =
  (if x2 < 10 then
    (C d 16 [.ref 1, .int x1] S0 M N).bind fun q1 => j_oi none (fun r1 =>
    if r1 = 0 then
      some (some (.int (-2000000000)), (S0, q1.2.1, q1.2.2))
    else
      (C d 150 [.ref 0, .int x1, .int x2] S0 q1.2.1 q1.2.2).bind fun q2 => j_oi none (fun r2 =>
      some (some (.int r2), (S0, q2.2.1, q2.2.2))) q2.1) q1.1
  else
    if x1 = 0 then
      (C d 151 [.ref 0, .int x2] S0 M N).bind fun q3 => j_oi none (fun r3 =>
      some (some (.int r3), (S0, q3.2.1, q3.2.2))) q3.1
    else
      some (some (.int (-2000000000)), (S0, M, N))) := (R_ev d kX10_of 400 0 _ _ _).trans rfl
set_option maxRecDepth 100000 in
theorem bX10_think_0 (d : Nat) (x1 : Int32) (x2 : Int32) (M : j_M) (N : j_N) : R d kX10_think 0 [.ref 0, .int x1, .int x2, .null] [] (S0, M, N) =
  ((C d 16 [.ref 1, .int x1] S0 M N).bind fun q1 => j_oi none (fun r1 =>
  if r1 = 0 then
    some (some (.int (-2000000000)), (S0, q1.2.1, q1.2.2))
  else
    (C d 147 [.int x2, .int (-1), .int 599] S0 q1.2.1 q1.2.2).bind fun q2 => j_oi none (fun r2 =>
    if r2 = 0 then
      some (some (.int (-2000000000)), (S0, q2.2.1, q2.2.2))
    else
      bif j_in x1 6 then
      bif j_in x1 6 then
      some (some (.int (q2.2.1 6 (x1).toNatClampNeg)), (S0, (j_w q2.2.1 6 (x1).toNatClampNeg x2), q2.2.2)) else none else none) q2.1) q1.1) := (R_ev d kX10_think 400 0 _ _ _).trans rfl
set_option maxRecDepth 100000 in
theorem bX10_feed_0 (d : Nat) (x1 : Int32) (M : j_M) (N : j_N) : R d kX10_feed 0 [.ref 0, .int x1] [] (S0, M, N) =
  ((C d 147 [.int x1, .int 0, .int 255] S0 M N).bind fun q1 => j_oi none (fun r1 =>
  if r1 = 0 then
    some (some (.int (-1)), (S0, q1.2.1, q1.2.2))
  else
    (C d 33 [.ref 16, .int x1] S0 q1.2.1 q1.2.2).bind fun q2 => j_oi none (fun r2 =>
    some (some (.int r2), (S0, q2.2.1, q2.2.2))) q2.1) q1.1) := (R_ev d kX10_feed 400 0 _ _ _).trans rfl
set_option maxRecDepth 100000 in
theorem bX10_law_0 (d : Nat)  (M : j_M) (N : j_N) : R d kX10_law 0 [.ref 0] [] (S0, M, N) =
  ((C d 34 [.ref 16] S0 M N).bind fun q1 => j_oi none (fun r1 =>
  some (some (.int r1), (S0, q1.2.1, q1.2.2))) q1.1) := (R_ev d kX10_law 400 0 _ _ _).trans rfl
set_option maxRecDepth 100000 in
theorem bX10_putIn_0 (d : Nat) (x1 : Int32) (x2 : Int32) (M : j_M) (N : j_N) : R d kX10_putIn 0 [.ref 0, .int x1, .int x2] [] (S0, M, N) =
  ((C d 16 [.ref 1, .int x1] S0 M N).bind fun q1 => j_oi none (fun r1 =>
  if r1 = 0 then
    some (some (.int (-2000000000)), (S0, q1.2.1, q1.2.2))
  else
    (C d 147 [.int x2, .int 0, .int 1] S0 q1.2.1 q1.2.2).bind fun q2 => j_oi none (fun r2 =>
    if r2 = 0 then
      some (some (.int (-2000000000)), (S0, q2.2.1, q2.2.2))
    else
      (C d 22 [.ref 8, .ref 1] S0 q2.2.1 q2.2.2).bind fun q3 => j_ov none (
      (C d 71 [.ref 10, .int x1] S0 q3.2.1 q3.2.2).bind fun q4 => j_ov none (
      if x2 = 0 then
        some (some (.int (q4.2.1 10 3)), (S0, q4.2.1, q4.2.2))
      else
        some (some (.int (q4.2.1 10 4)), (S0, q4.2.1, q4.2.2))) q4.1) q3.1) q2.1) q1.1) := (R_ev d kX10_putIn 400 0 _ _ _).trans rfl
set_option maxRecDepth 100000 in
theorem bX10_mean_0 (d : Nat) (x1 : Int32) (x2 : Int32) (x3 : Int32) (M : j_M) (N : j_N) : R d kX10_mean 0 [.ref 0, .int x1, .int x2, .int x3] [] (S0, M, N) =
  ((C d 16 [.ref 1, .int x1] S0 M N).bind fun q1 => j_oi none (fun r1 =>
  if r1 = 0 then
    some (some (.long (-9223372036854775808)), (S0, q1.2.1, q1.2.2))
  else
    bif j_in x1 6 then
    (C d 147 [.int x2, .int 0, .int (q1.2.1 2 (x1).toNatClampNeg)] S0 q1.2.1 q1.2.2).bind fun q2 => j_oi none (fun r2 =>
    if r2 = 0 then
      some (some (.long (-9223372036854775808)), (S0, q2.2.1, q2.2.2))
    else
      (C d 147 [.int x3, .int 0, .int 1] S0 q2.2.1 q2.2.2).bind fun q3 => j_oi none (fun r3 =>
      if r3 = 0 then
        some (some (.long (-9223372036854775808)), (S0, q3.2.1, q3.2.2))
      else
        (C d 83 [.ref 10, .int x1, .int x2] S0 q3.2.1 q3.2.2).bind fun q4 => j_ol none (fun r4 =>
        (C d 82 [.ref 10] S0 q4.2.1 q4.2.2).bind fun q5 => j_ol none (fun r5 =>
        (C d 154 [.long r4, .long r5, .int x3] S0 q5.2.1 q5.2.2).bind fun q6 => j_ol none (fun r6 =>
        some (some (.long r6), (S0, q6.2.1, q6.2.2))) q6.1) q5.1) q4.1) q3.1) q2.1 else none) q1.1) := (R_ev d kX10_mean 400 0 _ _ _).trans rfl
set_option maxRecDepth 100000 in
theorem bX10_bestMean_0 (d : Nat) (x1 : Int32) (M : j_M) (N : j_N) : R d kX10_bestMean 0 [.ref 0, .int x1] [] (S0, M, N) =
  ((C d 16 [.ref 1, .int x1] S0 M N).bind fun q1 => j_oi none (fun r1 =>
  if r1 = 0 then
    some (some (.int (-1)), (S0, q1.2.1, q1.2.2))
  else
    (C d 85 [.ref 10, .int x1] S0 q1.2.1 q1.2.2).bind fun q2 => j_oi none (fun r2 =>
    some (some (.int r2), (S0, q2.2.1, q2.2.2))) q2.1) q1.1) := (R_ev d kX10_bestMean 400 0 _ _ _).trans rfl
set_option maxRecDepth 100000 in
theorem bX10_rest_0 (d : Nat) (x1 : Int32) (M : j_M) (N : j_N) : R d kX10_rest 0 [.ref 0, .int x1, .null] [] (S0, M, N) =
  ((C d 147 [.int x1, .int 0, .int 1] S0 M N).bind fun q1 => j_oi none (fun r1 =>
  if r1 = 0 then
    some (some (.int (-1)), (S0, q1.2.1, q1.2.2))
  else
    (C d 22 [.ref 8, .ref 1] S0 q1.2.1 q1.2.2).bind fun q2 => j_ov none (
    (C d 73 [.ref 10] S0 q2.2.1 q2.2.2).bind fun q3 => j_oi none (fun r3 =>
    if x1 = 1 then
      some (some (.int r3), (S0, q3.2.1, q3.2.2))
    else
      if r3 = (-2) then
        some (some (.int 1), (S0, q3.2.1, q3.2.2))
      else
        some (some (.int 0), (S0, q3.2.1, q3.2.2))) q3.1) q2.1) q1.1) := (R_ev d kX10_rest 400 0 _ _ _).trans rfl
set_option maxRecDepth 100000 in
theorem bX10_rests_0 (d : Nat) (x1 : Int32) (M : j_M) (N : j_N) : R d kX10_rests 0 [.ref 0, .int x1, .null] [] (S0, M, N) =
  (if x1 = (-1) then
    (C d 76 [.ref 10] S0 M N).bind fun q1 => j_oi none (fun r1 =>
    if r1 = 0 then
      some (some (.int (-5)), (S0, q1.2.1, q1.2.2))
    else
      (C d 77 [.ref 10] S0 q1.2.1 q1.2.2).bind fun q2 => j_oi none (fun r2 =>
      if x1 = (-1) then
        some (some (.int r2), (S0, q2.2.1, q2.2.2))
      else
        if r2 = 0 then
          some (some (.int (-2)), (S0, q2.2.1, q2.2.2))
        else
          bif j_in x1 6 then
          some (some (.int (q2.2.1 11 (x1).toNatClampNeg)), (S0, q2.2.1, q2.2.2)) else none) q2.1) q1.1
  else
    (C d 16 [.ref 1, .int x1] S0 M N).bind fun q3 => j_oi none (fun r3 =>
    if r3 = 0 then
      some (some (.int (-1)), (S0, q3.2.1, q3.2.2))
    else
      (C d 76 [.ref 10] S0 q3.2.1 q3.2.2).bind fun q4 => j_oi none (fun r4 =>
      if r4 = 0 then
        some (some (.int (-5)), (S0, q4.2.1, q4.2.2))
      else
        (C d 77 [.ref 10] S0 q4.2.1 q4.2.2).bind fun q5 => j_oi none (fun r5 =>
        if x1 = (-1) then
          some (some (.int r5), (S0, q5.2.1, q5.2.2))
        else
          if r5 = 0 then
            some (some (.int (-2)), (S0, q5.2.1, q5.2.2))
          else
            bif j_in x1 6 then
            some (some (.int (q5.2.1 11 (x1).toNatClampNeg)), (S0, q5.2.1, q5.2.2)) else none) q5.1) q4.1) q3.1) := (R_ev d kX10_rests 400 0 _ _ _).trans rfl
set_option maxRecDepth 100000 in
theorem bX10_turns_0 (d : Nat) (x1 : Int32) (M : j_M) (N : j_N) : R d kX10_turns 0 [.ref 0, .int x1, .null] [] (S0, M, N) =
  (if x1 = (-1) then
    (C d 79 [.ref 10] S0 M N).bind fun q1 => j_oi none (fun r1 =>
    if x1 = (-1) then
      some (some (.int r1), (S0, q1.2.1, q1.2.2))
    else
      bif j_in x1 7 then
      some (some (.int (q1.2.1 9 (x1).toNatClampNeg)), (S0, q1.2.1, q1.2.2)) else none) q1.1
  else
    (C d 16 [.ref 1, .int x1] S0 M N).bind fun q2 => j_oi none (fun r2 =>
    if r2 = 0 then
      some (some (.int (-1)), (S0, q2.2.1, q2.2.2))
    else
      (C d 79 [.ref 10] S0 q2.2.1 q2.2.2).bind fun q3 => j_oi none (fun r3 =>
      if x1 = (-1) then
        some (some (.int r3), (S0, q3.2.1, q3.2.2))
      else
        bif j_in x1 7 then
        some (some (.int (q3.2.1 9 (x1).toNatClampNeg)), (S0, q3.2.1, q3.2.2)) else none) q3.1) q2.1) := (R_ev d kX10_turns 400 0 _ _ _).trans rfl
set_option maxRecDepth 100000 in
theorem bX10_agree_0 (d : Nat) (x1 : Int32) (x2 : Int32) (M : j_M) (N : j_N) : R d kX10_agree 0 [.ref 0, .int x1, .int x2, .null, .null] [] (S0, M, N) =
  ((C d 16 [.ref 1, .int (x1 / 10)] S0 M N).bind fun q1 => j_oi none (fun r1 =>
  if r1 = 0 then
    some (some (.int (-2000000000)), (S0, q1.2.1, q1.2.2))
  else
    (C d 16 [.ref 1, .int (x1 - x1 / 10 * 10)] S0 q1.2.1 q1.2.2).bind fun q2 => j_oi none (fun r2 =>
    if r2 = 0 then
      some (some (.int (-2000000000)), (S0, q2.2.1, q2.2.2))
    else
      if (x1 / 10) < (x1 - x1 / 10 * 10) then
        (C d 147 [.int x2, .int 0, .int 3] S0 q2.2.1 q2.2.2).bind fun q3 => j_oi none (fun r3 =>
        if r3 = 0 then
          some (some (.int (-2000000000)), (S0, q3.2.1, q3.2.2))
        else
          (C d 80 [.ref 10, .int (x1 / 10), .int (x1 - x1 / 10 * 10)] S0 q3.2.1 q3.2.2).bind fun q4 => j_ov none (
          if x2 = 0 then
            some (some (.int (q4.2.1 10 4)), (S0, q4.2.1, q4.2.2))
          else if x2 = 1 then
            some (some (.int (q4.2.1 10 3)), (S0, q4.2.1, q4.2.2))
          else if x2 = 2 then
            some (some (.int (q4.2.1 10 5)), (S0, q4.2.1, q4.2.2))
          else 
            (C d 81 [.ref 10, .int (x1 / 10), .int (x1 - x1 / 10 * 10)] S0 q4.2.1 q4.2.2).bind fun q5 => j_oi none (fun r5 =>
            some (some (.int r5), (S0, q5.2.1, q5.2.2))) q5.1) q4.1) q3.1
      else
        some (some (.int (-2000000000)), (S0, q2.2.1, q2.2.2))) q2.1) q1.1) := (R_ev d kX10_agree 400 0 _ _ _).trans rfl
set_option maxRecDepth 100000 in
theorem bX10_dish_0 (d : Nat) (x1 : Int32) (M : j_M) (N : j_N) : R d kX10_dish 0 [.ref 0, .int x1] [] (S0, M, N) =
  ((C d 147 [.int x1, .int 0, .int 99] S0 M N).bind fun q1 => j_oi none (fun r1 =>
  if r1 = 0 then
    some (some (.int (-1)), (S0, q1.2.1, q1.2.2))
  else
    (C d 63 [.ref 12, .int x1] S0 q1.2.1 q1.2.2).bind fun q2 => j_oi none (fun r2 =>
    some (some (.int r2), (S0, q2.2.1, q2.2.2))) q2.1) q1.1) := (R_ev d kX10_dish 400 0 _ _ _).trans rfl
set_option maxRecDepth 100000 in
theorem bX10_joy_0 (d : Nat) (x1 : Int32) (x2 : Int32) (M : j_M) (N : j_N) : R d kX10_joy 0 [.ref 0, .int x1, .int x2, .null, .null] [] (S0, M, N) =
  ((C d 16 [.ref 1, .int (x1 / 10)] S0 M N).bind fun q1 => j_oi none (fun r1 =>
  if r1 = 0 then
    some (some (.int (-1)), (S0, q1.2.1, q1.2.2))
  else
    (C d 62 [.ref 12, .int (x1 - x1 / 10 * 10)] S0 q1.2.1 q1.2.2).bind fun q2 => j_oi none (fun r2 =>
    if r2 = 0 then
      some (some (.int (-1)), (S0, q2.2.1, q2.2.2))
    else
      (C d 147 [.int x2, .int 0, .int 99] S0 q2.2.1 q2.2.2).bind fun q3 => j_oi none (fun r3 =>
      if r3 = 0 then
        some (some (.int (-1)), (S0, q3.2.1, q3.2.2))
      else
        (C d 64 [.ref 12, .int (x1 / 10), .int (x1 - x1 / 10 * 10), .int x2] S0 q3.2.1 q3.2.2).bind fun q4 => j_oi none (fun r4 =>
        some (some (.int r4), (S0, q4.2.1, q4.2.2))) q4.1) q3.1) q2.1) q1.1) := (R_ev d kX10_joy 400 0 _ _ _).trans rfl
set_option maxRecDepth 100000 in
theorem bX10_ordered_0 (d : Nat) (x1 : Int32) (x2 : Int32) (M : j_M) (N : j_N) : R d kX10_ordered 0 [.ref 0, .int x1, .int x2, .null] [] (S0, M, N) =
  ((C d 16 [.ref 1, .int x1] S0 M N).bind fun q1 => j_oi none (fun r1 =>
  if r1 = 0 then
    some (some (.int (-2000000000)), (S0, q1.2.1, q1.2.2))
  else
    (C d 147 [.int x2, .int 0, .int 2] S0 q1.2.1 q1.2.2).bind fun q2 => j_oi none (fun r2 =>
    if r2 = 0 then
      some (some (.int (-2000000000)), (S0, q2.2.1, q2.2.2))
    else
      if x2 = 2 then
        if x1 = 0 then
          R d kX10_ordered 32 [.ref 0, .int x1, .int x2, .null] [] (S0, q2.2.1, q2.2.2)
        else
          some (some (.int (-2000000000)), (S0, q2.2.1, q2.2.2))
      else
        R d kX10_ordered 32 [.ref 0, .int x1, .int x2, .null] [] (S0, q2.2.1, q2.2.2)) q2.1) q1.1) := (R_ev d kX10_ordered 400 0 _ _ _).trans rfl
set_option maxRecDepth 100000 in
theorem bX10_ordered_32 (d : Nat) (x1 : Int32) (x2 : Int32) (M : j_M) (N : j_N) : R d kX10_ordered 32 [.ref 0, .int x1, .int x2, .null] [] (S0, M, N) =
  ((C d 65 [.ref 12] S0 M N).bind fun q1 => j_oi none (fun r1 =>
  if x2 = 0 then
    bif j_in x1 6 then
    if 0 ≤ (q1.2.1 15 (x1).toNatClampNeg) then
      bif j_in x1 6 then
      some (some (.int (q1.2.1 15 (x1).toNatClampNeg)), (S0, q1.2.1, q1.2.2)) else none
    else
      some (some (.int (-2)), (S0, q1.2.1, q1.2.2)) else none
  else if x2 = 1 then
    bif j_in x1 6 then
    (C d 68 [.ref 12, .int x1, .int (q1.2.1 15 (x1).toNatClampNeg), .int r1] S0 q1.2.1 q1.2.2).bind fun q2 => j_oi none (fun r2 =>
    some (some (.int r2), (S0, q2.2.1, q2.2.2))) q2.1 else none
  else 
    some (some (.int r1), (S0, q1.2.1, q1.2.2))) q1.1) := (R_ev d kX10_ordered 400 32 _ _ _).trans rfl
set_option maxRecDepth 100000 in
theorem bX10_thought_0 (d : Nat) (x1 : Int32) (x2 : Int32) (x3 : Int32) (M : j_M) (N : j_N) : R d kX10_thought 0 [.ref 0, .int x1, .int x2, .int x3, .null, .null] [] (S0, M, N) =
  ((C d 16 [.ref 1, .int x1] S0 M N).bind fun q1 => j_oi none (fun r1 =>
  if r1 = 0 then
    some (some (.int (-1)), (S0, q1.2.1, q1.2.2))
  else
    (C d 147 [.int x2, .int 0, .int 99] S0 q1.2.1 q1.2.2).bind fun q2 => j_oi none (fun r2 =>
    if r2 = 0 then
      some (some (.int (-1)), (S0, q2.2.1, q2.2.2))
    else
      (C d 147 [.int x3, .int 0, .int 1] S0 q2.2.1 q2.2.2).bind fun q3 => j_oi none (fun r3 =>
      if r3 = 0 then
        some (some (.int (-1)), (S0, q3.2.1, q3.2.2))
      else
        R d kX10_thought 35 [.ref 0, .int x1, .int x2, .int x3, .int 0, .null] [] (S0, q3.2.1, q3.2.2)) q3.1) q2.1) q1.1) := (R_ev d kX10_thought 400 0 _ _ _).trans rfl
set_option maxRecDepth 100000 in
theorem bX10_thought_35 (d : Nat) (x1 : Int32) (x2 : Int32) (x3 : Int32) (x4 : Int32) (M : j_M) (N : j_N) : R d kX10_thought 35 [.ref 0, .int x1, .int x2, .int x3, .int x4, .null] [] (S0, M, N) =
  (if 599 < x4 then
    some (some (.int (-2)), (S0, M, N))
  else
    if x3 = 0 then
      (C d 52 [.ref 16, .ref 1, .int x1, .int x4] S0 M N).bind fun q2 => j_oi none (fun r2 =>
      if r2 = x2 then
        some (some (.int x4), (S0, q2.2.1, q2.2.2))
      else
        R d kX10_thought 35 [.ref 0, .int x1, .int x2, .int x3, .int (x4 + 1), .null] [] (S0, q2.2.1, q2.2.2)) q2.1
    else
      (C d 52 [.ref 16, .ref 1, .int x1, .int (599 - x4)] S0 M N).bind fun q1 => j_oi none (fun r1 =>
      if r1 = x2 then
        some (some (.int (599 - x4)), (S0, q1.2.1, q1.2.2))
      else
        R d kX10_thought 35 [.ref 0, .int x1, .int x2, .int x3, .int (x4 + 1), .null] [] (S0, q1.2.1, q1.2.2)) q1.1) := (R_ev d kX10_thought 400 35 _ _ _).trans rfl
set_option maxRecDepth 100000 in
theorem bX10_given_0 (d : Nat) (x1 : Int32) (M : j_M) (N : j_N) : R d kX10_given 0 [.ref 0, .int x1, .null, .null] [] (S0, M, N) =
  (if x1 = (-1) then
    R d kX10_given 30 [.ref 0, .null, .int 0, .int 0] [] (S0, M, N)
  else
    (C d 16 [.ref 1, .int x1] S0 M N).bind fun q1 => j_oi none (fun r1 =>
    if r1 = 0 then
      some (some (.int (-1)), (S0, q1.2.1, q1.2.2))
    else
      (C d 152 [.ref 0, .int x1] S0 q1.2.1 q1.2.2).bind fun q2 => j_oi none (fun r2 =>
      some (some (.int r2), (S0, q2.2.1, q2.2.2))) q2.1) q1.1) := (R_ev d kX10_given 400 0 _ _ _).trans rfl
set_option maxRecDepth 100000 in
theorem bX10_given_30 (d : Nat) (x2 : Int32) (x3 : Int32) (M : j_M) (N : j_N) : R d kX10_given 30 [.ref 0, .null, .int x2, .int x3] [] (S0, M, N) =
  (if (M 1 6) ≤ x3 then
    some (some (.int x2), (S0, M, N))
  else
    (C d 152 [.ref 0, .int x3] S0 M N).bind fun q1 => j_oi none (fun r1 =>
    R d kX10_given 30 [.ref 0, .null, .int (x2 + r1), .int (x3 + 1)] [] (S0, q1.2.1, q1.2.2)) q1.1) := (R_ev d kX10_given 400 30 _ _ _).trans rfl
set_option maxRecDepth 100000 in
theorem bX10_stranger_0 (d : Nat) (x1 : Int32) (x2 : Int32) (x3 : Int32) (M : j_M) (N : j_N) : R d kX10_stranger 0 [.ref 0, .int x1, .int x2, .int x3, .null, .null, .null, .null, .null] [] (S0, M, N) =
  ((C d 16 [.ref 1, .int x1] S0 M N).bind fun q1 => j_oi none (fun r1 =>
  if r1 = 0 then
    some (some (.long (-9223372036854775808)), (S0, q1.2.1, q1.2.2))
  else
    (C d 147 [.int x2, .int 0, .int 1299] S0 q1.2.1 q1.2.2).bind fun q2 => j_oi none (fun r2 =>
    if r2 = 0 then
      some (some (.long (-9223372036854775808)), (S0, q2.2.1, q2.2.2))
    else
      (C d 147 [.int x3, .int 0, .int 1] S0 q2.2.1 q2.2.2).bind fun q3 => j_oi none (fun r3 =>
      if r3 = 0 then
        some (some (.long (-9223372036854775808)), (S0, q3.2.1, q3.2.2))
      else
        (C d 22 [.ref 8, .ref 1] S0 q3.2.1 q3.2.2).bind fun q4 => j_ov none (
        (C d 26 [.ref 8, .int x1] S0 q4.2.1 q4.2.2).bind fun q5 => j_oi none (fun r5 =>
        (C d 23 [.ref 8, .int (x2 - x2 / 100 * 100)] S0 q5.2.1 q5.2.2).bind fun q6 => j_ov none (
        (C d 26 [.ref 8, .int x1] S0 q6.2.1 q6.2.2).bind fun q7 => j_oi none (fun r7 =>
        (C d 154 [.long (((x2 / 100).toInt64 * r7.toInt64) + ((12 - (x2 / 100)).toInt64 * r5.toInt64)), .long 12, .int x3] S0 q7.2.1 q7.2.2).bind fun q8 => j_ol none (fun r8 =>
        some (some (.long r8), (S0, q8.2.1, q8.2.2))) q8.1) q7.1) q6.1) q5.1) q4.1) q3.1) q2.1) q1.1) := (R_ev d kX10_stranger 400 0 _ _ _).trans rfl
set_option maxRecDepth 100000 in
theorem bX10_night_0 (d : Nat)  (M : j_M) (N : j_N) : R d kX10_night 0 [.ref 0] [] (S0, M, N) =
  (if (M 1 6) = 0 then
    some (some (.int (-5)), (S0, M, N))
  else
    (C d 87 [.ref 21] S0 M N).bind fun q1 => j_oi none (fun r1 =>
    some (some (.int r1), (S0, q1.2.1, q1.2.2))) q1.1) := (R_ev d kX10_night 400 0 _ _ _).trans rfl
set_option maxRecDepth 100000 in
theorem bX10_drawn_0 (d : Nat) (x1 : Int32) (x2 : Int32) (x3 : Int32) (x4 : Int32) (M : j_M) (N : j_N) : R d kX10_drawn 0 [.ref 0, .int x1, .int x2, .int x3, .int x4] [] (S0, M, N) =
  ((C d 147 [.int x2, .int 1, .int 50] S0 M N).bind fun q1 => j_oi none (fun r1 =>
  if r1 = 0 then
    some (some (.int (-2000000000)), (S0, q1.2.1, q1.2.2))
  else
    (C d 16 [.ref 1, .int x3] S0 q1.2.1 q1.2.2).bind fun q2 => j_oi none (fun r2 =>
    if r2 = 0 then
      some (some (.int (-2000000000)), (S0, q2.2.1, q2.2.2))
    else
      (C d 147 [.int x4, .int 0, .int 1] S0 q2.2.1 q2.2.2).bind fun q3 => j_oi none (fun r3 =>
      if r3 = 0 then
        some (some (.int (-2000000000)), (S0, q3.2.1, q3.2.2))
      else
        (C d 88 [.ref 21, .int x1, .int x2, .int x3] S0 q3.2.1 q3.2.2).bind fun q4 => j_ov none (
        if x4 = 0 then
          some (some (.int (q4.2.1 21 2)), (S0, q4.2.1, q4.2.2))
        else
          some (some (.int (q4.2.1 21 3)), (S0, q4.2.1, q4.2.2))) q4.1) q3.1) q2.1) q1.1) := (R_ev d kX10_drawn 400 0 _ _ _).trans rfl
set_option maxRecDepth 100000 in
theorem bX10_judge_0 (d : Nat) (x1 : Int32) (M : j_M) (N : j_N) : R d kX10_judge 0 [.ref 0, .int x1, .null] [] (S0, M, N) =
  ((C d 153 [.ref 0, .int x1] S0 M N).bind fun q1 => j_oi none (fun r1 =>
  if r1 = 0 then
    bif j_in x1 6 && (j_nth (j_at S0 33).2.2 (x1).toNatClampNeg).isSome then
    (C d 89 [.ref 21, .ref ((j_nth (j_at S0 33).2.2 (x1).toNatClampNeg).getD 0), .int (q1.2.1 1 8)] S0 q1.2.1 q1.2.2).bind fun q2 => j_oi none (fun r2 =>
    some (some (.int r2), (S0, q2.2.1, q2.2.2))) q2.1 else none
  else
    some (some (.int r1), (S0, q1.2.1, q1.2.2))) q1.1) := (R_ev d kX10_judge 400 0 _ _ _).trans rfl
set_option maxRecDepth 100000 in
theorem bX10_fits_0 (d : Nat) (x1 : Int32) (M : j_M) (N : j_N) : R d kX10_fits 0 [.ref 0, .int x1, .null] [] (S0, M, N) =
  ((C d 153 [.ref 0, .int x1] S0 M N).bind fun q1 => j_oi none (fun r1 =>
  if r1 = 0 then
    bif j_in x1 6 && (j_nth (j_at S0 33).2.2 (x1).toNatClampNeg).isSome then
    (C d 90 [.ref 21, .ref ((j_nth (j_at S0 33).2.2 (x1).toNatClampNeg).getD 0)] S0 q1.2.1 q1.2.2).bind fun q2 => j_oi none (fun r2 =>
    some (some (.int r2), (S0, q2.2.1, q2.2.2))) q2.1 else none
  else
    some (some (.int r1), (S0, q1.2.1, q1.2.2))) q1.1) := (R_ev d kX10_fits 400 0 _ _ _).trans rfl
set_option maxRecDepth 100000 in
theorem bX10_fair_0 (d : Nat) (x1 : Int32) (M : j_M) (N : j_N) : R d kX10_fair 0 [.ref 0, .int x1] [] (S0, M, N) =
  ((C d 147 [.int x1, .int 0, .int 1] S0 M N).bind fun q1 => j_oi none (fun r1 =>
  if r1 = 0 then
    some (some (.int (-2000000000)), (S0, q1.2.1, q1.2.2))
  else
    if (q1.2.1 1 6) = 0 then
      some (some (.int (-5)), (S0, q1.2.1, q1.2.2))
    else
      (C d 91 [.ref 21] S0 q1.2.1 q1.2.2).bind fun q2 => j_ov none (
      if x1 = 0 then
        some (some (.int (q2.2.1 21 4)), (S0, q2.2.1, q2.2.2))
      else
        some (some (.int (q2.2.1 21 5)), (S0, q2.2.1, q2.2.2))) q2.1) q1.1) := (R_ev d kX10_fair 400 0 _ _ _).trans rfl
set_option maxRecDepth 100000 in
theorem bX10_image_0 (d : Nat)  (M : j_M) (N : j_N) : R d kX10_image 0 [.ref 0] [] (S0, M, N) =
  ((C d 94 [.ref 27, .ref 1] S0 M N).bind fun q1 => j_ov none (
  some (some (.int (q1.2.1 1 11)), (S0, q1.2.1, q1.2.2))) q1.1) := (R_ev d kX10_image 400 0 _ _ _).trans rfl
set_option maxRecDepth 100000 in
theorem bX10_back_0 (d : Nat)  (M : j_M) (N : j_N) : R d kX10_back 0 [.ref 0] [] (S0, M, N) =
  (if (M 27 5) = 0 then
    some (some (.int (-5)), (S0, M, N))
  else
    (C d 95 [.ref 27, .ref 1] S0 M N).bind fun q1 => j_ov none (
    some (some (.int (q1.2.1 1 11)), (S0, q1.2.1, q1.2.2))) q1.1) := (R_ev d kX10_back 400 0 _ _ _).trans rfl
set_option maxRecDepth 100000 in
theorem bX10_undo_0 (d : Nat)  (M : j_M) (N : j_N) : R d kX10_undo 0 [.ref 0] [] (S0, M, N) =
  ((C d 13 [.ref 22, .ref 1] S0 M N).bind fun q1 => j_oi none (fun r1 =>
  some (some (.int r1), (S0, q1.2.1, q1.2.2))) q1.1) := (R_ev d kX10_undo 400 0 _ _ _).trans rfl
set_option maxRecDepth 100000 in
theorem bX10_redo_0 (d : Nat)  (M : j_M) (N : j_N) : R d kX10_redo 0 [.ref 0] [] (S0, M, N) =
  ((C d 14 [.ref 22, .ref 1] S0 M N).bind fun q1 => j_oi none (fun r1 =>
  some (some (.int r1), (S0, q1.2.1, q1.2.2))) q1.1) := (R_ev d kX10_redo 400 0 _ _ _).trans rfl
set_option maxRecDepth 100000 in
theorem bX10_body_0 (d : Nat) (x1 : Int32) (M : j_M) (N : j_N) : R d kX10_body 0 [.ref 0, .int x1] [] (S0, M, N) =
  ((C d 147 [.int x1, .int 0, .int 7] S0 M N).bind fun q1 => j_oi none (fun r1 =>
  if r1 = 0 then
    some (some (.int (-1)), (S0, q1.2.1, q1.2.2))
  else
    (C d 3 [.ref 30, .int x1] S0 q1.2.1 q1.2.2).bind fun q2 => j_oi none (fun r2 =>
    some (some (.int r2), (S0, q2.2.1, q2.2.2))) q2.1) q1.1) := (R_ev d kX10_body 400 0 _ _ _).trans rfl
set_option maxRecDepth 100000 in
theorem bX10_act_0 (d : Nat) (x1 : Int32) (x2 : Int32) (x3 : Int32) (M : j_M) (N : j_N) : R d kX10_act 0 [.ref 0, .int x1, .int x2, .int x3] [] (S0, M, N) =
  ((C d 6 [.ref 30, .int x1, .int x2, .int x3] S0 M N).bind fun q1 => j_oi none (fun r1 =>
  some (some (.int r1), (S0, q1.2.1, q1.2.2))) q1.1) := (R_ev d kX10_act 400 0 _ _ _).trans rfl
set_option maxRecDepth 100000 in
theorem bX10_trace_0 (d : Nat) (x1 : Int32) (M : j_M) (N : j_N) : R d kX10_trace 0 [.ref 0, .int x1] [] (S0, M, N) =
  ((C d 5 [.ref 30, .int x1] S0 M N).bind fun q1 => j_oi none (fun r1 =>
  some (some (.int r1), (S0, q1.2.1, q1.2.2))) q1.1) := (R_ev d kX10_trace 400 0 _ _ _).trans rfl
set_option maxRecDepth 100000 in
theorem bX10_keep_0 (d : Nat) (x1 : Int32) (x2 : Int32) (M : j_M) (N : j_N) : R d kX10_keep 0 [.ref 0, .int x1, .int x2] [] (S0, M, N) =
  ((C d 148 [.int x1] S0 M N).bind fun q1 => j_oi none (fun r1 =>
  if r1 = 0 then
    some (some (.int (-1)), (S0, q1.2.1, q1.2.2))
  else
    if x2 = (-1) then
      bif j_in x1 6 && (j_nth (j_at S0 33).2.2 (x1).toNatClampNeg).isSome then
      bif Nat.beq (j_at S0 ((j_nth (j_at S0 33).2.2 (x1).toNatClampNeg).getD 0)).1 12 && Nat.ble 0 8 then (C d 100 [.ref ((j_nth (j_at S0 33).2.2 (x1).toNatClampNeg).getD 0), .int x2] S0 q1.2.1 q1.2.2).bind fun q2 => j_ov none (
      some (some (.int 1), (S0, q2.2.1, q2.2.2))) q2.1 else none else none
    else
      (C d 1 [.ref 30, .int x2] S0 q1.2.1 q1.2.2).bind fun q3 => j_oi none (fun r3 =>
      if r3 = 0 then
        some (some (.int (-1)), (S0, q3.2.1, q3.2.2))
      else
        bif j_in x1 6 && (j_nth (j_at S0 33).2.2 (x1).toNatClampNeg).isSome then
        bif Nat.beq (j_at S0 ((j_nth (j_at S0 33).2.2 (x1).toNatClampNeg).getD 0)).1 12 && Nat.ble 0 8 then (C d 100 [.ref ((j_nth (j_at S0 33).2.2 (x1).toNatClampNeg).getD 0), .int x2] S0 q3.2.1 q3.2.2).bind fun q4 => j_ov none (
        some (some (.int 1), (S0, q4.2.1, q4.2.2))) q4.1 else none else none) q3.1) q1.1) := (R_ev d kX10_keep 400 0 _ _ _).trans rfl
set_option maxRecDepth 100000 in
theorem bX10_row_0 (d : Nat) (x1 : Int32) (x2 : Int32) (x3 : Int32) (M : j_M) (N : j_N) : R d kX10_row 0 [.ref 0, .int x1, .int x2, .int x3] [] (S0, M, N) =
  ((C d 148 [.int x1] S0 M N).bind fun q1 => j_oi none (fun r1 =>
  if r1 = 0 then
    some (some (.int (-1)), (S0, q1.2.1, q1.2.2))
  else
    (C d 147 [.int x2, .int 0, .int 4] S0 q1.2.1 q1.2.2).bind fun q2 => j_oi none (fun r2 =>
    if r2 = 0 then
      some (some (.int (-1)), (S0, q2.2.1, q2.2.2))
    else
      if x3 ≤ 60 then
        if 0 ≤ x3 then
          bif j_in x1 6 && (j_nth (j_at S0 33).2.2 (x1).toNatClampNeg).isSome then
          bif Nat.beq (j_at S0 ((j_nth (j_at S0 33).2.2 (x1).toNatClampNeg).getD 0)).1 12 && Nat.ble 0 8 then (C d 101 [.ref ((j_nth (j_at S0 33).2.2 (x1).toNatClampNeg).getD 0), .int x2, .int x3] S0 q2.2.1 q2.2.2).bind fun q3 => j_ov none (
          some (some (.int 1), (S0, q3.2.1, q3.2.2))) q3.1 else none else none
        else
          some (some (.int (-14)), (S0, q2.2.1, q2.2.2))
      else
        some (some (.int (-1)), (S0, q2.2.1, q2.2.2))) q2.1) q1.1) := (R_ev d kX10_row 400 0 _ _ _).trans rfl
set_option maxRecDepth 100000 in
theorem bX10_put_0 (d : Nat) (x1 : Int32) (x2 : Int32) (y3 : Int64) (M : j_M) (N : j_N) : R d kX10_put 0 [.ref 0, .int x1, .int x2, .long y3, .null, .null] [] (S0, M, N) =
  ((C d 148 [.int x1] S0 M N).bind fun q1 => j_oi none (fun r1 =>
  if r1 = 0 then
    some (some (.int (-1)), (S0, q1.2.1, q1.2.2))
  else
    bif j_in x1 6 && (j_nth (j_at S0 33).2.2 (x1).toNatClampNeg).isSome then
    bif Nat.beq (j_at S0 ((j_nth (j_at S0 33).2.2 (x1).toNatClampNeg).getD 0)).1 12 && Nat.ble 0 8 then (C d 103 [.ref ((j_nth (j_at S0 33).2.2 (x1).toNatClampNeg).getD 0), .int x2] S0 q1.2.1 q1.2.2).bind fun q2 => j_oi none (fun r2 =>
    if r2 = 0 then
      bif j_in x1 6 && (j_nth (j_at S0 33).2.2 (x1).toNatClampNeg).isSome then
      bif Nat.beq (j_at S0 ((j_nth (j_at S0 33).2.2 (x1).toNatClampNeg).getD 0)).1 12 && Nat.ble 0 8 then (C d 105 [.ref ((j_nth (j_at S0 33).2.2 (x1).toNatClampNeg).getD 0), .int x2, .long y3] S0 q2.2.1 q2.2.2).bind fun q3 => j_ov none (
      some (some (.int 1), (S0, q3.2.1, q3.2.2))) q3.1 else none else none
    else
      some (some (.int r2), (S0, q2.2.1, q2.2.2))) q2.1 else none else none) q1.1) := (R_ev d kX10_put 400 0 _ _ _).trans rfl
set_option maxRecDepth 100000 in
theorem bX10_element_0 (d : Nat) (x1 : Int32) (x2 : Int32) (M : j_M) (N : j_N) : R d kX10_element 0 [.ref 0, .int x1, .int x2] [] (S0, M, N) =
  ((C d 148 [.int x1] S0 M N).bind fun q1 => j_oi none (fun r1 =>
  if r1 = 0 then
    some (some (.long (-9223372036854775808)), (S0, q1.2.1, q1.2.2))
  else
    bif j_in x1 6 && (j_nth (j_at S0 33).2.2 (x1).toNatClampNeg).isSome then
    bif Nat.beq (j_at S0 ((j_nth (j_at S0 33).2.2 (x1).toNatClampNeg).getD 0)).1 12 && Nat.ble 0 8 then (C d 103 [.ref ((j_nth (j_at S0 33).2.2 (x1).toNatClampNeg).getD 0), .int x2] S0 q1.2.1 q1.2.2).bind fun q2 => j_oi none (fun r2 =>
    if r2 = 0 then
      bif j_in x1 6 && (j_nth (j_at S0 33).2.2 (x1).toNatClampNeg).isSome then
      bif Nat.beq (j_at S0 ((j_nth (j_at S0 33).2.2 (x1).toNatClampNeg).getD 0)).1 12 && Nat.ble 0 8 then (C d 104 [.ref ((j_nth (j_at S0 33).2.2 (x1).toNatClampNeg).getD 0), .int x2] S0 q2.2.1 q2.2.2).bind fun q3 => j_ol none (fun r3 =>
      some (some (.long r3), (S0, q3.2.1, q3.2.2))) q3.1 else none else none
    else
      some (some (.long (-9223372036854775808)), (S0, q2.2.1, q2.2.2))) q2.1 else none else none) q1.1) := (R_ev d kX10_element 400 0 _ _ _).trans rfl
set_option maxRecDepth 100000 in
theorem bX10_shift_0 (d : Nat) (x1 : Int32) (x2 : Int32) (x3 : Int32) (x4 : Int32) (x5 : Int32) (M : j_M) (N : j_N) : R d kX10_shift 0 [.ref 0, .int x1, .int x2, .int x3, .int x4, .int x5, .null, .null] [] (S0, M, N) =
  ((C d 148 [.int x1] S0 M N).bind fun q1 => j_oi none (fun r1 =>
  if r1 = 0 then
    some (some (.int (-1)), (S0, q1.2.1, q1.2.2))
  else
    (C d 148 [.int x3] S0 q1.2.1 q1.2.2).bind fun q2 => j_oi none (fun r2 =>
    if r2 = 0 then
      some (some (.int (-1)), (S0, q2.2.1, q2.2.2))
    else
      bif j_in x1 6 && (j_nth (j_at S0 33).2.2 (x1).toNatClampNeg).isSome then
      bif j_in x3 6 && (j_nth (j_at S0 33).2.2 (x3).toNatClampNeg).isSome then
      bif Nat.beq (j_at S0 ((j_nth (j_at S0 33).2.2 (x1).toNatClampNeg).getD 0)).1 12 && Nat.ble 0 8 then (C d 97 [.ref ((j_nth (j_at S0 33).2.2 (x1).toNatClampNeg).getD 0)] S0 q2.2.1 q2.2.2).bind fun q3 => j_oi none (fun r3 =>
      if r3 = 0 then
        bif Nat.beq (j_at S0 ((j_nth (j_at S0 33).2.2 (x3).toNatClampNeg).getD 0)).1 12 && Nat.ble 0 8 then (C d 97 [.ref ((j_nth (j_at S0 33).2.2 (x3).toNatClampNeg).getD 0)] S0 q3.2.1 q3.2.2).bind fun q4 => j_oi none (fun r4 =>
        if r4 = 0 then
          bif Nat.beq (j_at S0 ((j_nth (j_at S0 33).2.2 (x1).toNatClampNeg).getD 0)).1 12 && Nat.ble 0 8 then (C d 98 [.ref ((j_nth (j_at S0 33).2.2 (x1).toNatClampNeg).getD 0)] S0 q4.2.1 q4.2.2).bind fun q5 => j_oi none (fun r5 =>
          if r5 = 0 then
            some (some (.int (-12)), (S0, q5.2.1, q5.2.2))
          else
            bif Nat.beq (j_at S0 ((j_nth (j_at S0 33).2.2 (x1).toNatClampNeg).getD 0)).1 12 then
            bif Nat.beq (j_at S0 ((j_nth (j_at S0 33).2.2 (x3).toNatClampNeg).getD 0)).1 12 && Nat.ble 0 8 then (C d 99 [.ref ((j_nth (j_at S0 33).2.2 (x3).toNatClampNeg).getD 0), .int (q5.2.1 ((j_nth (j_at S0 33).2.2 (x1).toNatClampNeg).getD 0) 1)] S0 q5.2.1 q5.2.2).bind fun q6 => j_oi none (fun r6 =>
            if r6 = 0 then
              some (some (.int (-12)), (S0, q6.2.1, q6.2.2))
            else
              bif Nat.beq (j_at S0 ((j_nth (j_at S0 33).2.2 (x1).toNatClampNeg).getD 0)).1 12 && Nat.ble 0 8 then (C d 102 [.ref ((j_nth (j_at S0 33).2.2 (x1).toNatClampNeg).getD 0), .int x2, .int x5] S0 q6.2.1 q6.2.2).bind fun q7 => j_oi none (fun r7 =>
              if r7 = 0 then
                some (some (.int (-13)), (S0, q7.2.1, q7.2.2))
              else
                bif Nat.beq (j_at S0 ((j_nth (j_at S0 33).2.2 (x3).toNatClampNeg).getD 0)).1 12 && Nat.ble 0 8 then (C d 102 [.ref ((j_nth (j_at S0 33).2.2 (x3).toNatClampNeg).getD 0), .int x4, .int x5] S0 q7.2.1 q7.2.2).bind fun q8 => j_oi none (fun r8 =>
                if r8 = 0 then
                  some (some (.int (-13)), (S0, q8.2.1, q8.2.2))
                else
                  bif Nat.beq (j_at S0 ((j_nth (j_at S0 33).2.2 (x1).toNatClampNeg).getD 0)).1 12 then (bif (j_nth (j_at S0 ((j_nth (j_at S0 33).2.2 (x1).toNatClampNeg).getD 0)).2.2 0).isSome then
                  bif Nat.beq (j_at S0 ((j_nth (j_at S0 33).2.2 (x3).toNatClampNeg).getD 0)).1 12 then (bif (j_nth (j_at S0 ((j_nth (j_at S0 33).2.2 (x3).toNatClampNeg).getD 0)).2.2 0).isSome then
                  bif (!(decide (x2 < (0:Int32))) && !(decide (x4 < (0:Int32))) && !(decide (x5 < (0:Int32))) && Nat.ble ((x2).toNatClampNeg + (x5).toNatClampNeg) (j_at S0 ((j_nth (j_at S0 ((j_nth (j_at S0 33).2.2 (x1).toNatClampNeg).getD 0)).2.2 0).getD 0)).2.1 && Nat.ble ((x4).toNatClampNeg + (x5).toNatClampNeg) (j_at S0 ((j_nth (j_at S0 ((j_nth (j_at S0 33).2.2 (x3).toNatClampNeg).getD 0)).2.2 0).getD 0)).2.1) && Nat.ble 0 8 then
                  (bif Nat.beq (j_at S0 ((j_nth (j_at S0 ((j_nth (j_at S0 33).2.2 (x1).toNatClampNeg).getD 0)).2.2 0).getD 0)).1 0 && Nat.beq (j_at S0 ((j_nth (j_at S0 ((j_nth (j_at S0 33).2.2 (x3).toNatClampNeg).getD 0)).2.2 0).getD 0)).1 0 then some (some (.int x5), (S0, (j_row q8.2.1 ((j_nth (j_at S0 ((j_nth (j_at S0 33).2.2 (x3).toNatClampNeg).getD 0)).2.2 0).getD 0) (va_cpy (q8.2.1 ((j_nth (j_at S0 ((j_nth (j_at S0 33).2.2 (x1).toNatClampNeg).getD 0)).2.2 0).getD 0)) (q8.2.1 ((j_nth (j_at S0 ((j_nth (j_at S0 33).2.2 (x3).toNatClampNeg).getD 0)).2.2 0).getD 0)) (x2).toNatClampNeg (x4).toNatClampNeg (x5).toNatClampNeg)), q8.2.2)) else bif Nat.beq (j_at S0 ((j_nth (j_at S0 ((j_nth (j_at S0 33).2.2 (x1).toNatClampNeg).getD 0)).2.2 0).getD 0)).1 1 && Nat.beq (j_at S0 ((j_nth (j_at S0 ((j_nth (j_at S0 33).2.2 (x3).toNatClampNeg).getD 0)).2.2 0).getD 0)).1 1 then some (some (.int x5), (S0, q8.2.1, (j_rowl q8.2.2 ((j_nth (j_at S0 ((j_nth (j_at S0 33).2.2 (x3).toNatClampNeg).getD 0)).2.2 0).getD 0) (va_cpy (q8.2.2 ((j_nth (j_at S0 ((j_nth (j_at S0 33).2.2 (x1).toNatClampNeg).getD 0)).2.2 0).getD 0)) (q8.2.2 ((j_nth (j_at S0 ((j_nth (j_at S0 33).2.2 (x3).toNatClampNeg).getD 0)).2.2 0).getD 0)) (x2).toNatClampNeg (x4).toNatClampNeg (x5).toNatClampNeg)))) else none) else none else none) else none else none) else none) q8.1 else none) q7.1 else none) q6.1 else none else none) q5.1 else none
        else
          some (some (.int (-11)), (S0, q4.2.1, q4.2.2))) q4.1 else none
      else
        some (some (.int (-11)), (S0, q3.2.1, q3.2.2))) q3.1 else none else none else none) q2.1) q1.1) := (R_ev d kX10_shift 400 0 _ _ _).trans rfl
set_option maxRecDepth 100000 in
theorem bX10_taken_0 (d : Nat) (x1 : Int32) (x2 : Int32) (M : j_M) (N : j_N) : R d kX10_taken 0 [.ref 0, .int x1, .int x2, .null, .null] [] (S0, M, N) =
  ((C d 148 [.int x1] S0 M N).bind fun q1 => j_oi none (fun r1 =>
  if r1 = 0 then
    some (some (.int (-1)), (S0, q1.2.1, q1.2.2))
  else
    (C d 147 [.int x2, .int 0, .int 7] S0 q1.2.1 q1.2.2).bind fun q2 => j_oi none (fun r2 =>
    if r2 = 0 then
      some (some (.int (-1)), (S0, q2.2.1, q2.2.2))
    else
      bif j_in x1 6 && (j_nth (j_at S0 33).2.2 (x1).toNatClampNeg).isSome then
      bif Nat.beq (j_at S0 ((j_nth (j_at S0 33).2.2 (x1).toNatClampNeg).getD 0)).1 12 && Nat.ble 0 8 then (C d 97 [.ref ((j_nth (j_at S0 33).2.2 (x1).toNatClampNeg).getD 0)] S0 q2.2.1 q2.2.2).bind fun q3 => j_oi none (fun r3 =>
      if r3 = 0 then
        bif Nat.beq (j_at S0 ((j_nth (j_at S0 33).2.2 (x1).toNatClampNeg).getD 0)).1 12 && Nat.ble 0 8 then (C d 98 [.ref ((j_nth (j_at S0 33).2.2 (x1).toNatClampNeg).getD 0)] S0 q3.2.1 q3.2.2).bind fun q4 => j_oi none (fun r4 =>
        if r4 = 0 then
          bif Nat.beq (j_at S0 ((j_nth (j_at S0 33).2.2 (x1).toNatClampNeg).getD 0)).1 12 then
          (C d 2 [.ref 30, .int (q4.2.1 ((j_nth (j_at S0 33).2.2 (x1).toNatClampNeg).getD 0) 3)] S0 q4.2.1 q4.2.2).bind fun q5 => j_oi none (fun r5 =>
          (C d 4 [.int r5, .int x2] S0 q5.2.1 q5.2.2).bind fun q6 => j_oi none (fun r6 =>
          if r6 = 0 then
            some (some (.int (-12)), (S0, q6.2.1, q6.2.2))
          else
            some (some (.int r5), (S0, q6.2.1, q6.2.2))) q6.1) q5.1 else none
        else
          some (some (.int (-12)), (S0, q4.2.1, q4.2.2))) q4.1 else none
      else
        some (some (.int (-11)), (S0, q3.2.1, q3.2.2))) q3.1 else none else none) q2.1) q1.1) := (R_ev d kX10_taken 400 0 _ _ _).trans rfl
set_option maxRecDepth 100000 in
theorem bX10_count_0 (d : Nat) (x1 : Int32) (M : j_M) (N : j_N) : R d kX10_count 0 [.ref 0, .int x1] [] (S0, M, N) =
  (if x1 = 0 then
    some (some (.int (M 1 6)), (S0, M, N))
  else if x1 = 1 then
    some (some (.int (M 12 5)), (S0, M, N))
  else if x1 = 2 then
    some (some (.int (M 16 4)), (S0, M, N))
  else if x1 = 3 then
    some (some (.int (M 22 4)), (S0, M, N))
  else if x1 = 4 then
    some (some (.int (M 30 2)), (S0, M, N))
  else if x1 = 5 then
    some (some (.int (M 30 3)), (S0, M, N))
  else 
    some (some (.int (-1)), (S0, M, N))) := (R_ev d kX10_count 400 0 _ _ _).trans rfl
set_option maxRecDepth 100000 in
theorem bX10_within_0 (d : Nat) (x0 : Int32) (x1 : Int32) (x2 : Int32) (M : j_M) (N : j_N) : R d kX10_within 0 [.int x0, .int x1, .int x2] [] (S0, M, N) =
  (if x0 < x1 then
    some (some (.int 0), (S0, M, N))
  else
    if x2 < x0 then
      some (some (.int 0), (S0, M, N))
    else
      some (some (.int 1), (S0, M, N))) := (R_ev d kX10_within 400 0 _ _ _).trans rfl
set_option maxRecDepth 100000 in
theorem bX10_isShelf_0 (d : Nat) (x0 : Int32) (M : j_M) (N : j_N) : R d kX10_isShelf 0 [.int x0] [] (S0, M, N) =
  ((C d 147 [.int x0, .int 0, .int 5] S0 M N).bind fun q1 => j_oi none (fun r1 =>
  bif decide (r1 = 0) || decide (r1 = 1) then some (some (.int r1), (S0, q1.2.1, q1.2.2)) else none) q1.1) := (R_ev d kX10_isShelf 400 0 _ _ _).trans rfl
set_option maxRecDepth 100000 in
theorem bX10_comesFrom_0 (d : Nat) (a1 : Nat) (y2 : Int64) (M : j_M) (N : j_N) : R d kX10_comesFrom 0 [.ref 0, .ref a1, .long y2, .null, .null, .null] [] (S0, M, N) =
  (if 6 ≤ (M 1 6) then
    some (some (.int 0), (S0, M, N))
  else
    if (lg_cmp y2 0) < 0 then
      some (some (.int 0), (S0, M, N))
    else
      bif Nat.beq (j_at S0 a1).1 12 then
      if (lg_cmp (y2 + 1) (M a1 2).toInt64) < 0 then
        bif Nat.beq (j_at S0 a1).1 12 && Nat.ble 0 8 then (C d 104 [.ref a1, .int y2.toInt32] S0 M N).bind fun q1 => j_ol none (fun r1 =>
        bif Nat.beq (j_at S0 a1).1 12 && Nat.ble 0 8 then (C d 104 [.ref a1, .int (y2.toInt32 + 1)] S0 q1.2.1 q1.2.2).bind fun q2 => j_ol none (fun r2 =>
        (C d 147 [.int r1.toInt32, .int 0, .int 99] S0 q2.2.1 q2.2.2).bind fun q3 => j_oi none (fun r3 =>
        if r3 = 0 then
          some (some (.int 0), (S0, q3.2.1, q3.2.2))
        else
          (C d 147 [.int r2.toInt32, .int 0, .int r1.toInt32] S0 q3.2.1 q3.2.2).bind fun q4 => j_oi none (fun r4 =>
          if r4 = 0 then
            some (some (.int 0), (S0, q4.2.1, q4.2.2))
          else
            (C d 17 [.ref 1, .int r1.toInt32, .int r2.toInt32] S0 q4.2.1 q4.2.2).bind fun q5 => j_ov none (
            some (some (.int 1), (S0, q5.2.1, q5.2.2))) q5.1) q4.1) q3.1) q2.1 else none) q1.1 else none
      else
        some (some (.int 0), (S0, M, N)) else none) := (R_ev d kX10_comesFrom 400 0 _ _ _).trans rfl
set_option maxRecDepth 100000 in
theorem bX10_ofOne_0 (d : Nat) (x1 : Int32) (x2 : Int32) (M : j_M) (N : j_N) : R d kX10_ofOne 0 [.ref 0, .int x1, .int x2] [] (S0, M, N) =
  (if x2 = 0 then
    bif j_in x1 6 then
    some (some (.int (M 2 (x1).toNatClampNeg)), (S0, M, N)) else none
  else if x2 = 1 then
    bif j_in x1 6 then
    some (some (.int (M 3 (x1).toNatClampNeg)), (S0, M, N)) else none
  else if x2 = 2 then
    bif j_in x1 6 then
    some (some (.int (M 4 (x1).toNatClampNeg)), (S0, M, N)) else none
  else if x2 = 3 then
    bif j_in x1 6 then
    some (some (.int (M 5 (x1).toNatClampNeg)), (S0, M, N)) else none
  else if x2 = 4 then
    (C d 22 [.ref 8, .ref 1] S0 M N).bind fun q1 => j_ov none (
    (C d 26 [.ref 8, .int x1] S0 q1.2.1 q1.2.2).bind fun q2 => j_oi none (fun r2 =>
    some (some (.int r2), (S0, q2.2.1, q2.2.2))) q2.1) q1.1
  else if x2 = 5 then
    bif j_in x1 6 then
    some (some (.int (M 7 (x1).toNatClampNeg)), (S0, M, N)) else none
  else if x2 = 6 then
    bif j_in x1 6 then
    some (some (.int (M 6 (x1).toNatClampNeg)), (S0, M, N)) else none
  else 
    some (some (.int (-2000000000)), (S0, M, N))) := (R_ev d kX10_ofOne 400 0 _ _ _).trans rfl
set_option maxRecDepth 100000 in
theorem bX10_ofTheTable_0 (d : Nat) (x1 : Int32) (M : j_M) (N : j_N) : R d kX10_ofTheTable 0 [.ref 0, .int x1] [] (S0, M, N) =
  ((C d 22 [.ref 8, .ref 1] S0 M N).bind fun q1 => j_ov none (
  if x1 = 10 then
    some (some (.int (q1.2.1 1 7)), (S0, q1.2.1, q1.2.2))
  else if x1 = 11 then
    some (some (.int (q1.2.1 1 8)), (S0, q1.2.1, q1.2.2))
  else if x1 = 12 then
    some (some (.int (q1.2.1 1 9)), (S0, q1.2.1, q1.2.2))
  else if x1 = 13 then
    some (some (.int (q1.2.1 8 4)), (S0, q1.2.1, q1.2.2))
  else if x1 = 14 then
    some (some (.int (q1.2.1 8 5)), (S0, q1.2.1, q1.2.2))
  else if x1 = 15 then
    some (some (.int (q1.2.1 8 6)), (S0, q1.2.1, q1.2.2))
  else if x1 = 16 then
    some (some (.int (q1.2.1 1 10)), (S0, q1.2.1, q1.2.2))
  else if x1 = 17 then
    some (some (.int (q1.2.1 1 11)), (S0, q1.2.1, q1.2.2))
  else 
    some (some (.int (-2000000000)), (S0, q1.2.1, q1.2.2))) q1.1) := (R_ev d kX10_ofTheTable 400 0 _ _ _).trans rfl
set_option maxRecDepth 100000 in
theorem bX10_givenBy_0 (d : Nat) (x1 : Int32) (M : j_M) (N : j_N) : R d kX10_givenBy 0 [.ref 0, .int x1, .null] [] (S0, M, N) =
  (bif j_in x1 6 then
  if (M 6 (x1).toNatClampNeg) = (-1) then
    (C d 52 [.ref 16, .ref 1, .int x1, .int (M 1 7)] S0 M N).bind fun q2 => j_oi none (fun r2 =>
    some (some (.int r2), (S0, q2.2.1, q2.2.2))) q2.1
  else
    (C d 52 [.ref 16, .ref 1, .int x1, .int (M 6 (x1).toNatClampNeg)] S0 M N).bind fun q1 => j_oi none (fun r1 =>
    some (some (.int r1), (S0, q1.2.1, q1.2.2))) q1.1 else none) := (R_ev d kX10_givenBy 400 0 _ _ _).trans rfl
set_option maxRecDepth 100000 in
theorem bX10_refusalOfTold_0 (d : Nat) (x1 : Int32) (M : j_M) (N : j_N) : R d kX10_refusalOfTold 0 [.ref 0, .int x1] [] (S0, M, N) =
  ((C d 148 [.int x1] S0 M N).bind fun q1 => j_oi none (fun r1 =>
  if r1 = 0 then
    some (some (.int (-1)), (S0, q1.2.1, q1.2.2))
  else
    bif j_in x1 6 && (j_nth (j_at S0 33).2.2 (x1).toNatClampNeg).isSome then
    bif Nat.beq (j_at S0 ((j_nth (j_at S0 33).2.2 (x1).toNatClampNeg).getD 0)).1 12 && Nat.ble 0 8 then (C d 97 [.ref ((j_nth (j_at S0 33).2.2 (x1).toNatClampNeg).getD 0)] S0 q1.2.1 q1.2.2).bind fun q2 => j_oi none (fun r2 =>
    if r2 = 0 then
      bif j_in x1 6 && (j_nth (j_at S0 33).2.2 (x1).toNatClampNeg).isSome then
      bif Nat.beq (j_at S0 ((j_nth (j_at S0 33).2.2 (x1).toNatClampNeg).getD 0)).1 12 && Nat.ble 0 8 then (C d 99 [.ref ((j_nth (j_at S0 33).2.2 (x1).toNatClampNeg).getD 0), .int 1] S0 q2.2.1 q2.2.2).bind fun q3 => j_oi none (fun r3 =>
      if r3 = 0 then
        some (some (.int (-12)), (S0, q3.2.1, q3.2.2))
      else
        some (some (.int 0), (S0, q3.2.1, q3.2.2))) q3.1 else none else none
    else
      some (some (.int (-11)), (S0, q2.2.1, q2.2.2))) q2.1 else none else none) q1.1) := (R_ev d kX10_refusalOfTold 400 0 _ _ _).trans rfl
set_option maxRecDepth 100000 in
theorem bX10_fraction_0 (d : Nat) (y0 : Int64) (y2 : Int64) (x4 : Int32) (M : j_M) (N : j_N) : R d kX10_fraction 0 [.long y0, .null, .long y2, .null, .int x4, .null, .null, .null, .null, .null, .null, .null] [] (S0, M, N) =
  (R d kX10_fraction 9 [.long y0, .null, .long y2, .null, .int x4, .long y0, .null, .long y2, .null, .int 0, .null, .null] [] (S0, M, N)) := (R_ev d kX10_fraction 400 0 _ _ _).trans rfl
set_option maxRecDepth 100000 in
theorem bX10_fraction_9 (d : Nat) (y0 : Int64) (y2 : Int64) (x4 : Int32) (y5 : Int64) (y7 : Int64) (x9 : Int32) (M : j_M) (N : j_N) : R d kX10_fraction 9 [.long y0, .null, .long y2, .null, .int x4, .long y5, .null, .long y7, .null, .int x9, .null, .null] [] (S0, M, N) =
  (if 200 ≤ x9 then
    R d kX10_fraction 45 [.long y0, .null, .long y2, .null, .int x4, .long y5, .null, .null, .null, .null, .null, .null] [] (S0, M, N)
  else
    if (lg_cmp y7 0) = 0 then
      R d kX10_fraction 45 [.long y0, .null, .long y2, .null, .int x4, .long y5, .null, .null, .null, .null, .null, .null] [] (S0, M, N)
    else
      if y7 = 0 then none else
      R d kX10_fraction 9 [.long y0, .null, .long y2, .null, .int x4, .long y7, .null, .long (y5 - y5 / y7 * y7), .null, .int (x9 + 1), .null, .null] [] (S0, M, N)) := (R_ev d kX10_fraction 400 9 _ _ _).trans rfl
set_option maxRecDepth 100000 in
theorem bX10_fraction_45 (d : Nat) (y0 : Int64) (y2 : Int64) (x4 : Int32) (y5 : Int64) (M : j_M) (N : j_N) : R d kX10_fraction 45 [.long y0, .null, .long y2, .null, .int x4, .long y5, .null, .null, .null, .null, .null, .null] [] (S0, M, N) =
  (if x4 = 0 then
    if (lg_cmp y5 0) = 0 then
      some (some (.long y0), (S0, M, N))
    else
      if y5 = 0 then none else
      some (some (.long (y0 / y5)), (S0, M, N))
  else
    if (lg_cmp y5 0) = 0 then
      some (some (.long y2), (S0, M, N))
    else
      if y5 = 0 then none else
      some (some (.long (y2 / y5)), (S0, M, N))) := (R_ev d kX10_fraction 400 45 _ _ _).trans rfl
