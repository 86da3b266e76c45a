/-! ===== block equations (printed by wip/whole/genblk.py) ===== -/
set_option maxRecDepth 100000 in
theorem bX11_costBy_0 (d : Nat) (x1 : Int32) (x2 : Int32) (M : j_M) (N : j_N) : R d kX11_costBy 0 [.ref 46, .int x1, .int x2, .null, .null] [] (S0, M, N) =
  (bif j_in x1 7 then
  bif j_in x1 7 then
  (C d 173 [.ref 46] S0 (j_w M 53 (x1).toNatClampNeg x2) N).bind fun q1 => j_ov none (
  (C d 174 [.ref 46, .int x1] S0 q1.2.1 q1.2.2).bind fun q2 => j_oi none (fun r2 =>
  bif j_in x1 7 then
  some (some (.int r2), (S0, (j_w q2.2.1 53 (x1).toNatClampNeg (M 53 (x1).toNatClampNeg)), q2.2.2)) else none) q2.1) q1.1 else none else none) := (R_ev d kX11_costBy 400 0 _ _ _).trans rfl
set_option maxRecDepth 100000 in
theorem bX11_leastCost_0 (d : Nat) (x1 : Int32) (M : j_M) (N : j_N) : R d kX11_leastCost 0 [.ref 46, .int x1, .null, .null, .null] [] (S0, M, N) =
  (R d kX11_leastCost 4 [.ref 46, .int x1, .int (-1), .int 0, .null] [] (S0, M, N)) := (R_ev d kX11_leastCost 400 0 _ _ _).trans rfl
set_option maxRecDepth 100000 in
theorem bX11_leastCost_4 (d : Nat) (x1 : Int32) (x2 : Int32) (x3 : Int32) (M : j_M) (N : j_N) : R d kX11_leastCost 4 [.ref 46, .int x1, .int x2, .int x3, .null] [] (S0, M, N) =
  (bif j_in x1 27 then
  if (M 47 (x1).toNatClampNeg) < x3 then
    some (some (.int x2), (S0, M, N))
  else
    (C d 176 [.ref 46, .int x1, .int x3] S0 M N).bind fun q1 => j_oi none (fun r1 =>
    if x2 < 0 then
      R d kX11_leastCost 4 [.ref 46, .int x1, .int r1, .int (x3 + (q1.2.1 47 26)), .null] [] (S0, (j_w q1.2.1 46 16 x3), q1.2.2)
    else
      if x2 ≤ r1 then
        R d kX11_leastCost 4 [.ref 46, .int x1, .int x2, .int (x3 + (q1.2.1 47 26)), .null] [] (S0, q1.2.1, q1.2.2)
      else
        R d kX11_leastCost 4 [.ref 46, .int x1, .int r1, .int (x3 + (q1.2.1 47 26)), .null] [] (S0, (j_w q1.2.1 46 16 x3), q1.2.2)) q1.1 else none) := (R_ev d kX11_leastCost 400 4 _ _ _).trans rfl
set_option maxRecDepth 100000 in
theorem bX11_putIn_0 (d : Nat) (x1 : Int32) (x2 : Int32) (M : j_M) (N : j_N) : R d kX11_putIn 0 [.ref 46, .int x1, .int x2, .null] [] (S0, M, N) =
  ((C d 160 [.ref 46, .int x1] S0 M N).bind fun q1 => j_oi none (fun r1 =>
  if r1 = 0 then
    some (some (.int (-2000000000)), (S0, q1.2.1, q1.2.2))
  else
    (C d 155 [.long x2.toInt64, .long 0, .long 1] S0 q1.2.1 q1.2.2).bind fun q2 => j_oi none (fun r2 =>
    if r2 = 0 then
      some (some (.int (-2000000000)), (S0, q2.2.1, q2.2.2))
    else
      (C d 167 [.ref 46] S0 q2.2.1 q2.2.2).bind fun q3 => j_ov none (
      (C d 177 [.ref 46, .int x1] S0 q3.2.1 q3.2.2).bind fun q4 => j_oi none (fun r4 =>
      if x2 = 0 then
        some (some (.int (q4.2.1 46 16)), (S0, q4.2.1, q4.2.2))
      else
        some (some (.int r4), (S0, q4.2.1, q4.2.2))) q4.1) q3.1) q2.1) q1.1) := (R_ev d kX11_putIn 400 0 _ _ _).trans rfl
set_option maxRecDepth 100000 in
theorem bX11_common_0 (d : Nat) (y0 : Int64) (y2 : Int64) (M : j_M) (N : j_N) : R d kX11_common 0 [.long y0, .null, .long y2, .null, .null, .null, .null, .null, .null, .null] [] (S0, M, N) =
  (R d kX11_common 6 [.null, .null, .null, .null, .long y0, .null, .long y2, .null, .null, .null] [] (S0, M, N)) := (R_ev d kX11_common 400 0 _ _ _).trans rfl
set_option maxRecDepth 100000 in
theorem bX11_common_6 (d : Nat) (y4 : Int64) (y6 : Int64) (M : j_M) (N : j_N) : R d kX11_common 6 [.null, .null, .null, .null, .long y4, .null, .long y6, .null, .null, .null] [] (S0, M, N) =
  (if (lg_cmp y6 0) = 0 then
    some (some (.long y4), (S0, M, N))
  else
    if y6 = 0 then none else
    R d kX11_common 6 [.null, .null, .null, .null, .long y6, .null, .long (y4 - y4 / y6 * y6), .null, .null, .null] [] (S0, M, N)) := (R_ev d kX11_common 400 6 _ _ _).trans rfl
set_option maxRecDepth 100000 in
theorem bX11_partOf_0 (d : Nat) (y0 : Int64) (y2 : Int64) (x4 : Int32) (M : j_M) (N : j_N) : R d kX11_partOf 0 [.long y0, .null, .long y2, .null, .int x4, .null, .null] [] (S0, M, N) =
  (if (lg_cmp y0 0) = 0 then
    some (some (.long x4.toInt64), (S0, M, N))
  else
    (C d 179 [.long y0, .long y2] S0 M N).bind fun q1 => j_ol none (fun r1 =>
    if x4 = 0 then
      if r1 = 0 then none else
      some (some (.long (y0 / r1)), (S0, q1.2.1, q1.2.2))
    else
      if r1 = 0 then none else
      some (some (.long (y2 / r1)), (S0, q1.2.1, q1.2.2))) q1.1) := (R_ev d kX11_partOf 400 0 _ _ _).trans rfl
set_option maxRecDepth 100000 in
theorem bX11_meanOf_0 (d : Nat) (x1 : Int32) (x2 : Int32) (M : j_M) (N : j_N) : R d kX11_meanOf 0 [.ref 46, .int x1, .int x2, .null, .null, .null, .null, .null, .null, .null] [] (S0, M, N) =
  (R d kX11_meanOf 5 [.ref 46, .int x1, .int x2, .long 0, .null, .int 0, .null, .null, .null, .null] [] (S0, M, N)) := (R_ev d kX11_meanOf 400 0 _ _ _).trans rfl
set_option maxRecDepth 100000 in
theorem bX11_meanOf_5 (d : Nat) (x1 : Int32) (x2 : Int32) (y3 : Int64) (x5 : Int32) (M : j_M) (N : j_N) : R d kX11_meanOf 5 [.ref 46, .int x1, .int x2, .long y3, .null, .int x5, .null, .null, .null, .null] [] (S0, M, N) =
  (if ((1 : Int32) <<< ((M 46 6) &&& 31)) ≤ x5 then
    some (some (.long y3), (S0, M, N))
  else
    if ((x5 >>> (x1 &&& 31)) &&& 1) = 1 then
      R d kX11_meanOf 5 [.ref 46, .int x1, .int x2, .long y3, .null, .int (x5 + 1), .null, .null, .null, .null] [] (S0, M, N)
    else
      (C d 167 [.ref 46] S0 M N).bind fun q1 => j_ov none (
      R d kX11_meanOf 39 [.ref 46, .int x1, .int x2, .long y3, .null, .int x5, .long 1, .null, .int 0, .null] [] (S0, q1.2.1, q1.2.2)) q1.1) := (R_ev d kX11_meanOf 400 5 _ _ _).trans rfl
set_option maxRecDepth 100000 in
theorem bX11_meanOf_39 (d : Nat) (x1 : Int32) (x2 : Int32) (y3 : Int64) (x5 : Int32) (y6 : Int64) (x8 : Int32) (M : j_M) (N : j_N) : R d kX11_meanOf 39 [.ref 46, .int x1, .int x2, .long y3, .null, .int x5, .long y6, .null, .int x8, .null] [] (S0, M, N) =
  (if (M 46 6) ≤ x8 then
    if (lg_cmp y6 0) = 0 then
      R d kX11_meanOf 5 [.ref 46, .int x1, .int x2, .long (y3 + 0), .null, .int (x5 + 1), .null, .null, .null, .null] [] (S0, M, N)
    else
      (C d 176 [.ref 46, .int x1, .int x2] S0 M N).bind fun q1 => j_oi none (fun r1 =>
      R d kX11_meanOf 5 [.ref 46, .int x1, .int x2, .long (y3 + (y6 * r1.toInt64)), .null, .int (x5 + 1), .null, .null, .null, .null] [] (S0, q1.2.1, q1.2.2)) q1.1
  else
    if ((x5 >>> (x8 &&& 31)) &&& 1) = 1 then
      bif j_in (18 + x8) 27 then
      R d kX11_meanOf 97 [.ref 46, .int x1, .int x2, .long y3, .null, .int x5, .long y6, .null, .int x8, .int 1] [.int (M 47 ((18 + x8)).toNatClampNeg), .int x8, .ref 53] (S0, M, N) else none
    else
      bif j_in x8 7 then
      R d kX11_meanOf 97 [.ref 46, .int x1, .int x2, .long y3, .null, .int x5, .long y6, .null, .int x8, .int 0] [.int (M 53 (x8).toNatClampNeg), .int x8, .ref 53] (S0, M, N) else none) := (R_ev d kX11_meanOf 400 39 _ _ _).trans rfl
set_option maxRecDepth 100000 in
theorem bX11_meanOf_97 (d : Nat) (x1 : Int32) (x2 : Int32) (y3 : Int64) (x5 : Int32) (y6 : Int64) (x8 : Int32) (x9 : Int32) (s1 : Int32) (s2 : Int32) (M : j_M) (N : j_N) : R d kX11_meanOf 97 [.ref 46, .int x1, .int x2, .long y3, .null, .int x5, .long y6, .null, .int x8, .int x9] [.int s2, .int s1, .ref 53] (S0, M, N) =
  (bif j_in s1 7 then
  if x8 = x1 then
    R d kX11_meanOf 39 [.ref 46, .int x1, .int x2, .long y3, .null, .int x5, .long (y6 * 1), .null, .int (x8 + 1), .null] [] (S0, (j_w M 53 (s1).toNatClampNeg s2), N)
  else
    if x9 = 0 then
      bif j_in (12 + x8) 27 then
      R d kX11_meanOf 39 [.ref 46, .int x1, .int x2, .long y3, .null, .int x5, .long (y6 * (12 - (M 47 ((12 + x8)).toNatClampNeg)).toInt64), .null, .int (x8 + 1), .null] [] (S0, (j_w M 53 (s1).toNatClampNeg s2), N) else none
    else
      bif j_in (12 + x8) 27 then
      R d kX11_meanOf 39 [.ref 46, .int x1, .int x2, .long y3, .null, .int x5, .long (y6 * (M 47 ((12 + x8)).toNatClampNeg).toInt64), .null, .int (x8 + 1), .null] [] (S0, (j_w M 53 (s1).toNatClampNeg s2), N) else none else none) := (R_ev d kX11_meanOf 400 97 _ _ _).trans rfl
set_option maxRecDepth 100000 in
theorem bX11_wholeOf_0 (d : Nat)  (M : j_M) (N : j_N) : R d kX11_wholeOf 0 [.ref 46, .null, .null, .null] [] (S0, M, N) =
  (R d kX11_wholeOf 4 [.ref 46, .long 1, .null, .int 1] [] (S0, M, N)) := (R_ev d kX11_wholeOf 400 0 _ _ _).trans rfl
set_option maxRecDepth 100000 in
theorem bX11_wholeOf_4 (d : Nat) (y1 : Int64) (x3 : Int32) (M : j_M) (N : j_N) : R d kX11_wholeOf 4 [.ref 46, .long y1, .null, .int x3] [] (S0, M, N) =
  (if (M 46 6) ≤ x3 then
    some (some (.long y1), (S0, M, N))
  else
    R d kX11_wholeOf 4 [.ref 46, .long (y1 * 12), .null, .int (x3 + 1)] [] (S0, M, N)) := (R_ev d kX11_wholeOf 400 4 _ _ _).trans rfl
set_option maxRecDepth 100000 in
theorem bX11_mean_0 (d : Nat) (x1 : Int32) (x2 : Int32) (x3 : Int32) (M : j_M) (N : j_N) : R d kX11_mean 0 [.ref 46, .int x1, .int x2, .int x3] [] (S0, M, N) =
  ((C d 160 [.ref 46, .int x1] S0 M N).bind fun q1 => j_oi none (fun r1 =>
  if r1 = 0 then
    some (some (.long (-9223372036854775808)), (S0, q1.2.1, q1.2.2))
  else
    bif j_in x1 27 then
    (C d 155 [.long x2.toInt64, .long 0, .long (q1.2.1 47 (x1).toNatClampNeg).toInt64] S0 q1.2.1 q1.2.2).bind fun q2 => j_oi none (fun r2 =>
    if r2 = 0 then
      some (some (.long (-9223372036854775808)), (S0, q2.2.1, q2.2.2))
    else
      (C d 155 [.long x3.toInt64, .long 0, .long 1] S0 q2.2.1 q2.2.2).bind fun q3 => j_oi none (fun r3 =>
      if r3 = 0 then
        some (some (.long (-9223372036854775808)), (S0, q3.2.1, q3.2.2))
      else
        (C d 181 [.ref 46, .int x1, .int x2] S0 q3.2.1 q3.2.2).bind fun q4 => j_ol none (fun r4 =>
        (C d 182 [.ref 46] S0 q4.2.1 q4.2.2).bind fun q5 => j_ol none (fun r5 =>
        (C d 180 [.long r4, .long r5, .int x3] S0 q5.2.1 q5.2.2).bind fun q6 => j_ol none (fun r6 =>
        some (some (.long r6), (S0, q6.2.1, q6.2.2))) q6.1) q5.1) q4.1) q3.1) q2.1 else none) q1.1) := (R_ev d kX11_mean 400 0 _ _ _).trans rfl
set_option maxRecDepth 100000 in
theorem bX11_bestMean_0 (d : Nat) (x1 : Int32) (M : j_M) (N : j_N) : R d kX11_bestMean 0 [.ref 46, .int x1, .null, .null, .null, .null, .null, .null] [] (S0, M, N) =
  ((C d 160 [.ref 46, .int x1] S0 M N).bind fun q1 => j_oi none (fun r1 =>
  if r1 = 0 then
    some (some (.int (-1)), (S0, q1.2.1, q1.2.2))
  else
    (C d 181 [.ref 46, .int x1, .int 0] S0 q1.2.1 q1.2.2).bind fun q2 => j_ol none (fun r2 =>
    R d kX11_bestMean 28 [.ref 46, .int x1, .int 0, .long r2, .null, .int (q2.2.1 47 26), .null, .null] [] (S0, q2.2.1, q2.2.2)) q2.1) q1.1) := (R_ev d kX11_bestMean 400 0 _ _ _).trans rfl
set_option maxRecDepth 100000 in
theorem bX11_bestMean_28 (d : Nat) (x1 : Int32) (x2 : Int32) (y3 : Int64) (x5 : Int32) (M : j_M) (N : j_N) : R d kX11_bestMean 28 [.ref 46, .int x1, .int x2, .long y3, .null, .int x5, .null, .null] [] (S0, M, N) =
  (bif j_in x1 27 then
  if (M 47 (x1).toNatClampNeg) < x5 then
    some (some (.int x2), (S0, M, N))
  else
    (C d 181 [.ref 46, .int x1, .int x5] S0 M N).bind fun q1 => j_ol none (fun r1 =>
    if 0 ≤ (lg_cmp r1 y3) then
      if 0 ≤ (lg_cmp r1 y3) then
        R d kX11_bestMean 28 [.ref 46, .int x1, .int x2, .long y3, .null, .int (x5 + (q1.2.1 47 26)), .null, .null] [] (S0, q1.2.1, q1.2.2)
      else
        R d kX11_bestMean 28 [.ref 46, .int x1, .int x2, .long r1, .null, .int (x5 + (q1.2.1 47 26)), .null, .null] [] (S0, q1.2.1, q1.2.2)
    else
      if 0 ≤ (lg_cmp r1 y3) then
        R d kX11_bestMean 28 [.ref 46, .int x1, .int x5, .long y3, .null, .int (x5 + (q1.2.1 47 26)), .null, .null] [] (S0, q1.2.1, q1.2.2)
      else
        R d kX11_bestMean 28 [.ref 46, .int x1, .int x5, .long r1, .null, .int (x5 + (q1.2.1 47 26)), .null, .null] [] (S0, q1.2.1, q1.2.2)) q1.1 else none) := (R_ev d kX11_bestMean 400 28 _ _ _).trans rfl
set_option maxRecDepth 100000 in
theorem bX11_wouldChange_0 (d : Nat) (x1 : Int32) (M : j_M) (N : j_N) : R d kX11_wouldChange 0 [.ref 46, .int x1] [] (S0, M, N) =
  ((C d 177 [.ref 46, .int x1] S0 M N).bind fun q1 => j_oi none (fun r1 =>
  bif j_in x1 7 then
  (C d 176 [.ref 46, .int x1, .int (q1.2.1 53 (x1).toNatClampNeg)] S0 q1.2.1 q1.2.2).bind fun q2 => j_oi none (fun r2 =>
  if r2 ≤ r1 then
    some (some (.int 0), (S0, q2.2.1, q2.2.2))
  else
    some (some (.int 1), (S0, q2.2.1, q2.2.2))) q2.1 else none) q1.1) := (R_ev d kX11_wouldChange 400 0 _ _ _).trans rfl
set_option maxRecDepth 100000 in
theorem bX11_firstWho_0 (d : Nat)  (M : j_M) (N : j_N) : R d kX11_firstWho 0 [.ref 46, .null] [] (S0, M, N) =
  (R d kX11_firstWho 2 [.ref 46, .int 0] [] (S0, M, N)) := (R_ev d kX11_firstWho 400 0 _ _ _).trans rfl
set_option maxRecDepth 100000 in
theorem bX11_firstWho_2 (d : Nat) (x1 : Int32) (M : j_M) (N : j_N) : R d kX11_firstWho 2 [.ref 46, .int x1] [] (S0, M, N) =
  (if (M 46 6) ≤ x1 then
    some (some (.int (-2)), (S0, M, N))
  else
    (C d 185 [.ref 46, .int x1] S0 M N).bind fun q1 => j_oi none (fun r1 =>
    if r1 = 0 then
      R d kX11_firstWho 2 [.ref 46, .int (x1 + 1)] [] (S0, q1.2.1, q1.2.2)
    else
      some (some (.int x1), (S0, q1.2.1, q1.2.2))) q1.1) := (R_ev d kX11_firstWho 400 2 _ _ _).trans rfl
set_option maxRecDepth 100000 in
theorem bX11_rest_0 (d : Nat) (x1 : Int32) (M : j_M) (N : j_N) : R d kX11_rest 0 [.ref 46, .int x1, .null] [] (S0, M, N) =
  ((C d 155 [.long x1.toInt64, .long 0, .long 1] S0 M N).bind fun q1 => j_oi none (fun r1 =>
  if r1 = 0 then
    some (some (.int (-1)), (S0, q1.2.1, q1.2.2))
  else
    (C d 167 [.ref 46] S0 q1.2.1 q1.2.2).bind fun q2 => j_ov none (
    (C d 186 [.ref 46] S0 q2.2.1 q2.2.2).bind fun q3 => j_oi none (fun r3 =>
    if x1 = 1 then
      some (some (.int r3), (S0, q3.2.1, q3.2.2))
    else
      if 0 ≤ r3 then
        some (some (.int 0), (S0, q3.2.1, q3.2.2))
      else
        some (some (.int 1), (S0, q3.2.1, q3.2.2))) q3.1) q2.1) q1.1) := (R_ev d kX11_rest 400 0 _ _ _).trans rfl
set_option maxRecDepth 100000 in
theorem bX11_sumsOf_0 (d : Nat) (x1 : Int32) (M : j_M) (N : j_N) : R d kX11_sumsOf 0 [.ref 46, .int x1] [] (S0, M, N) =
  (bif j_in x1 27 then
  if (M 47 26) = 0 then none else
  some (some (.int (((M 47 (x1).toNatClampNeg) / (M 47 26)) + 1)), (S0, M, N)) else none) := (R_ev d kX11_sumsOf 400 0 _ _ _).trans rfl
set_option maxRecDepth 100000 in
theorem bX11_rests_0 (d : Nat) (x1 : Int32) (M : j_M) (N : j_N) : R d kX11_rests 0 [.ref 46, .int x1, .null, .null, .null, .null, .null, .null] [] (S0, M, N) =
  (if x1 = (-1) then
    R d kX11_rests 19 [.ref 46, .int x1, .int 1, .int 0, .null, .null, .null, .null] [] (S0, M, N)
  else
    (C d 160 [.ref 46, .int x1] S0 M N).bind fun q1 => j_oi none (fun r1 =>
    if r1 = 0 then
      some (some (.int (-1)), (S0, q1.2.1, q1.2.2))
    else
      R d kX11_rests 19 [.ref 46, .int x1, .int 1, .int 0, .null, .null, .null, .null] [] (S0, q1.2.1, q1.2.2)) q1.1) := (R_ev d kX11_rests 400 0 _ _ _).trans rfl
set_option maxRecDepth 100000 in
theorem bX11_rests_19 (d : Nat) (x1 : Int32) (x2 : Int32) (x3 : Int32) (M : j_M) (N : j_N) : R d kX11_rests 19 [.ref 46, .int x1, .int x2, .int x3, .null, .null, .null, .null] [] (S0, M, N) =
  (if (M 46 6) ≤ x3 then
    R d kX11_rests 68 [.ref 46, .int x1, .int x2, .int 0, .int (-2), .int 0, .null, .null] [] (S0, (j_w M 46 12 (M 46 6)), N)
  else
    (C d 188 [.ref 46, .int x3] S0 M N).bind fun q1 => j_oi none (fun r1 =>
    if (x2 * r1) ≤ 4096 then
      R d kX11_rests 19 [.ref 46, .int x1, .int (x2 * r1), .int (x3 + 1), .null, .null, .null, .null] [] (S0, q1.2.1, q1.2.2)
    else
      some (some (.int (-5)), (S0, q1.2.1, q1.2.2))) q1.1) := (R_ev d kX11_rests 400 19 _ _ _).trans rfl
set_option maxRecDepth 100000 in
theorem bX11_rests_68 (d : Nat) (x1 : Int32) (x2 : Int32) (x3 : Int32) (x4 : Int32) (x5 : Int32) (M : j_M) (N : j_N) : R d kX11_rests 68 [.ref 46, .int x1, .int x2, .int x3, .int x4, .int x5, .null, .null] [] (S0, M, N) =
  (if x2 ≤ x5 then
    if 0 ≤ x1 then
      some (some (.int x4), (S0, M, N))
    else
      some (some (.int x3), (S0, M, N))
  else
    R d kX11_rests 86 [.ref 46, .int x1, .int x2, .int x3, .int x4, .int x5, .int x5, .int ((M 46 6) - 1)] [] (S0, M, N)) := (R_ev d kX11_rests 400 68 _ _ _).trans rfl
set_option maxRecDepth 100000 in
theorem bX11_rests_86 (d : Nat) (x1 : Int32) (x2 : Int32) (x3 : Int32) (x4 : Int32) (x5 : Int32) (x6 : Int32) (x7 : Int32) (M : j_M) (N : j_N) : R d kX11_rests 86 [.ref 46, .int x1, .int x2, .int x3, .int x4, .int x5, .int x6, .int x7] [] (S0, M, N) =
  (if x7 < 0 then
    (C d 186 [.ref 46] S0 M N).bind fun q1 => j_oi none (fun r1 =>
    if 0 ≤ r1 then
      R d kX11_rests 68 [.ref 46, .int x1, .int x2, .int x3, .int x4, .int (x5 + 1), .null, .null] [] (S0, q1.2.1, q1.2.2)
    else
      if x3 = 0 then
        if x1 < 0 then
          R d kX11_rests 68 [.ref 46, .int x1, .int x2, .int (x3 + 1), .int x4, .int (x5 + 1), .null, .null] [] (S0, q1.2.1, q1.2.2)
        else
          bif j_in x1 7 then
          R d kX11_rests 68 [.ref 46, .int x1, .int x2, .int (x3 + 1), .int (q1.2.1 53 (x1).toNatClampNeg), .int (x5 + 1), .null, .null] [] (S0, q1.2.1, q1.2.2) else none
      else
        R d kX11_rests 68 [.ref 46, .int x1, .int x2, .int (x3 + 1), .int x4, .int (x5 + 1), .null, .null] [] (S0, q1.2.1, q1.2.2)) q1.1
  else
    (C d 188 [.ref 46, .int x7] S0 M N).bind fun q2 => j_oi none (fun r2 =>
    if r2 = 0 then none else
    bif j_in x7 7 then
    (C d 188 [.ref 46, .int x7] S0 (j_w q2.2.1 53 (x7).toNatClampNeg ((x6 - x6 / r2 * r2) * (q2.2.1 47 26))) q2.2.2).bind fun q3 => j_oi none (fun r3 =>
    if r3 = 0 then none else
    R d kX11_rests 86 [.ref 46, .int x1, .int x2, .int x3, .int x4, .int x5, .int (x6 / r3), .int (x7 + (-1))] [] (S0, q3.2.1, q3.2.2)) q3.1 else none) q2.1) := (R_ev d kX11_rests 400 86 _ _ _).trans rfl
set_option maxRecDepth 100000 in
theorem bX11_turns_0 (d : Nat) (x1 : Int32) (M : j_M) (N : j_N) : R d kX11_turns 0 [.ref 46, .int x1, .null, .null, .null, .null] [] (S0, M, N) =
  (if x1 = (-1) then
    (C d 167 [.ref 46] S0 M N).bind fun q1 => j_ov none (
    R d kX11_turns 26 [.ref 46, .int x1, .int 0, .int 0, .int 0, .null] [] (S0, q1.2.1, q1.2.2)) q1.1
  else
    (C d 160 [.ref 46, .int x1] S0 M N).bind fun q2 => j_oi none (fun r2 =>
    if r2 = 0 then
      some (some (.int (-1)), (S0, q2.2.1, q2.2.2))
    else
      (C d 167 [.ref 46] S0 q2.2.1 q2.2.2).bind fun q3 => j_ov none (
      R d kX11_turns 26 [.ref 46, .int x1, .int 0, .int 0, .int 0, .null] [] (S0, q3.2.1, q3.2.2)) q3.1) q2.1) := (R_ev d kX11_turns 400 0 _ _ _).trans rfl
set_option maxRecDepth 100000 in
theorem bX11_turns_26 (d : Nat) (x1 : Int32) (x2 : Int32) (x3 : Int32) (x4 : Int32) (M : j_M) (N : j_N) : R d kX11_turns 26 [.ref 46, .int x1, .int x2, .int x3, .int x4, .null] [] (S0, M, N) =
  (if (M 46 6) ≤ x3 then
    if 0 ≤ x1 then
      bif j_in x1 7 then
      some (some (.int (M 53 (x1).toNatClampNeg)), (S0, M, N)) else none
    else
      some (some (.int x2), (S0, M, N))
  else
    (C d 185 [.ref 46, .int x4] S0 M N).bind fun q1 => j_oi none (fun r1 =>
    if r1 = 0 then
      if (q1.2.1 46 6) = 0 then none else
      R d kX11_turns 26 [.ref 46, .int x1, .int x2, .int (x3 + 1), .int ((x4 + 1) - (x4 + 1) / (q1.2.1 46 6) * (q1.2.1 46 6)), .null] [] (S0, q1.2.1, q1.2.2)
    else
      if x2 = 60 then
        if 0 ≤ x1 then
          bif j_in x1 7 then
          some (some (.int (q1.2.1 53 (x1).toNatClampNeg)), (S0, q1.2.1, q1.2.2)) else none
        else
          some (some (.int (-2)), (S0, q1.2.1, q1.2.2))
      else
        (C d 177 [.ref 46, .int x4] S0 q1.2.1 q1.2.2).bind fun q2 => j_oi none (fun r2 =>
        bif j_in x4 7 then
        if (q2.2.1 46 6) = 0 then none else
        R d kX11_turns 26 [.ref 46, .int x1, .int (x2 + 1), .int (0 + 1), .int ((x4 + 1) - (x4 + 1) / (q2.2.1 46 6) * (q2.2.1 46 6)), .null] [] (S0, (j_w q2.2.1 53 (x4).toNatClampNeg (q2.2.1 46 16)), q2.2.2) else none) q2.1) q1.1) := (R_ev d kX11_turns 400 26 _ _ _).trans rfl
set_option maxRecDepth 100000 in
theorem bX11_agree_0 (d : Nat) (x1 : Int32) (x2 : Int32) (M : j_M) (N : j_N) : R d kX11_agree 0 [.ref 46, .int x1, .int x2, .null, .null, .null, .null, .null, .null, .null, .null] [] (S0, M, N) =
  (if x1 < 0 then
    some (some (.int (-2000000000)), (S0, M, N))
  else
    (C d 160 [.ref 46, .int (x1 / 10)] S0 M N).bind fun q1 => j_oi none (fun r1 =>
    if r1 = 0 then
      some (some (.int (-2000000000)), (S0, q1.2.1, q1.2.2))
    else
      (C d 160 [.ref 46, .int (x1 - x1 / 10 * 10)] S0 q1.2.1 q1.2.2).bind fun q2 => j_oi none (fun r2 =>
      if r2 = 0 then
        some (some (.int (-2000000000)), (S0, q2.2.1, q2.2.2))
      else
        if (x1 - x1 / 10 * 10) ≤ (x1 / 10) then
          some (some (.int (-2000000000)), (S0, q2.2.1, q2.2.2))
        else
          (C d 155 [.long x2.toInt64, .long 0, .long 3] S0 q2.2.1 q2.2.2).bind fun q3 => j_oi none (fun r3 =>
          if r3 = 0 then
            some (some (.int (-2000000000)), (S0, q3.2.1, q3.2.2))
          else
            (C d 167 [.ref 46] S0 q3.2.1 q3.2.2).bind fun q4 => j_ov none (
            R d kX11_agree 79 [.ref 46, .null, .int x2, .int (x1 / 10), .int (x1 - x1 / 10 * 10), .int (-1), .int 0, .int 0, .int 0, .null, .null] [] (S0, q4.2.1, q4.2.2)) q4.1) q3.1) q2.1) q1.1) := (R_ev d kX11_agree 400 0 _ _ _).trans rfl
set_option maxRecDepth 100000 in
theorem bX11_agree_79 (d : Nat) (x2 : Int32) (x3 : Int32) (x4 : Int32) (x5 : Int32) (x6 : Int32) (x7 : Int32) (x8 : Int32) (M : j_M) (N : j_N) : R d kX11_agree 79 [.ref 46, .null, .int x2, .int x3, .int x4, .int x5, .int x6, .int x7, .int x8, .null, .null] [] (S0, M, N) =
  (bif j_in x3 27 then
  if (M 47 (x3).toNatClampNeg) < x8 then
    if 3 ≤ x2 then
      bif j_in x3 7 then
      bif j_in x4 7 then
      (C d 173 [.ref 46] S0 (j_w (j_w M 53 (x3).toNatClampNeg x6) 53 (x4).toNatClampNeg x7) N).bind fun q1 => j_ov none (
      R d kX11_agree 245 [.ref 46, .null, .null, .int x3, .int x4, .null, .null, .null, .int 0, .null, .null] [] (S0, q1.2.1, q1.2.2)) q1.1 else none else none
    else
      if x2 = 0 then
        some (some (.int x5), (S0, M, N))
      else
        if x2 = 1 then
          some (some (.int x6), (S0, M, N))
        else
          some (some (.int x7), (S0, M, N))
  else
    R d kX11_agree 93 [.ref 46, .null, .int x2, .int x3, .int x4, .int x5, .int x6, .int x7, .int x8, .int 0, .null] [] (S0, M, N) else none) := (R_ev d kX11_agree 400 79 _ _ _).trans rfl
set_option maxRecDepth 100000 in
theorem bX11_agree_245 (d : Nat) (x3 : Int32) (x4 : Int32) (x8 : Int32) (M : j_M) (N : j_N) : R d kX11_agree 245 [.ref 46, .null, .null, .int x3, .int x4, .null, .null, .null, .int x8, .null, .null] [] (S0, M, N) =
  (if (M 46 6) ≤ x8 then
    some (some (.int (-2)), (S0, M, N))
  else
    if x8 = x3 then
      R d kX11_agree 245 [.ref 46, .null, .null, .int x3, .int x4, .null, .null, .null, .int (x8 + 1), .null, .null] [] (S0, M, N)
    else
      if x8 = x4 then
        R d kX11_agree 245 [.ref 46, .null, .null, .int x3, .int x4, .null, .null, .null, .int (x8 + 1), .null, .null] [] (S0, M, N)
      else
        bif j_in x8 7 then
        if (M 54 (x8).toNatClampNeg) ≤ 0 then
          R d kX11_agree 245 [.ref 46, .null, .null, .int x3, .int x4, .null, .null, .null, .int (x8 + 1), .null, .null] [] (S0, M, N)
        else
          some (some (.int x8), (S0, M, N)) else none) := (R_ev d kX11_agree 400 245 _ _ _).trans rfl
set_option maxRecDepth 100000 in
theorem bX11_agree_93 (d : Nat) (x2 : Int32) (x3 : Int32) (x4 : Int32) (x5 : Int32) (x6 : Int32) (x7 : Int32) (x8 : Int32) (x9 : Int32) (M : j_M) (N : j_N) : R d kX11_agree 93 [.ref 46, .null, .int x2, .int x3, .int x4, .int x5, .int x6, .int x7, .int x8, .int x9, .null] [] (S0, M, N) =
  (bif j_in x4 27 then
  if (M 47 (x4).toNatClampNeg) < x9 then
    R d kX11_agree 79 [.ref 46, .null, .int x2, .int x3, .int x4, .int x5, .int x6, .int x7, .int (x8 + (M 47 26)), .null, .null] [] (S0, M, N)
  else
    bif j_in x3 7 then
    bif j_in x4 7 then
    (C d 173 [.ref 46] S0 (j_w (j_w M 53 (x3).toNatClampNeg x8) 53 (x4).toNatClampNeg x9) N).bind fun q1 => j_ov none (
    (C d 174 [.ref 46, .int x3] S0 q1.2.1 q1.2.2).bind fun q2 => j_oi none (fun r2 =>
    (C d 174 [.ref 46, .int x4] S0 q2.2.1 q2.2.2).bind fun q3 => j_oi none (fun r3 =>
    if x5 < 0 then
      R d kX11_agree 93 [.ref 46, .null, .int x2, .int x3, .int x4, .int (r2 + r3), .int x8, .int x9, .int x8, .int (x9 + (q3.2.1 47 26)), .null] [] (S0, q3.2.1, q3.2.2)
    else
      if x5 ≤ (r2 + r3) then
        R d kX11_agree 93 [.ref 46, .null, .int x2, .int x3, .int x4, .int x5, .int x6, .int x7, .int x8, .int (x9 + (q3.2.1 47 26)), .null] [] (S0, q3.2.1, q3.2.2)
      else
        R d kX11_agree 93 [.ref 46, .null, .int x2, .int x3, .int x4, .int (r2 + r3), .int x8, .int x9, .int x8, .int (x9 + (q3.2.1 47 26)), .null] [] (S0, q3.2.1, q3.2.2)) q3.1) q2.1) q1.1 else none else none else none) := (R_ev d kX11_agree 400 93 _ _ _).trans rfl
set_option maxRecDepth 100000 in
theorem bX11_dish_0 (d : Nat) (x1 : Int32) (M : j_M) (N : j_N) : R d kX11_dish 0 [.ref 46, .int x1] [] (S0, M, N) =
  ((C d 155 [.long x1.toInt64, .long 0, .long 99] S0 M N).bind fun q1 => j_oi none (fun r1 =>
  if r1 = 0 then
    some (some (.int (-1)), (S0, q1.2.1, q1.2.2))
  else
    if (q1.2.1 46 17) = 3 then
      some (some (.int (-3)), (S0, q1.2.1, q1.2.2))
    else
      bif j_in (q1.2.1 46 17) 3 then
      some (some (.int (((q1.2.1 46 17) + 1) - 1)), (S0, (j_w (j_w q1.2.1 56 ((q1.2.1 46 17)).toNatClampNeg x1) 46 17 ((q1.2.1 46 17) + 1)), q1.2.2)) else none) q1.1) := (R_ev d kX11_dish 400 0 _ _ _).trans rfl
set_option maxRecDepth 100000 in
theorem bX11_joy_0 (d : Nat) (x1 : Int32) (x2 : Int32) (M : j_M) (N : j_N) : R d kX11_joy 0 [.ref 46, .int x1, .int x2, .null, .null] [] (S0, M, N) =
  (if x1 < 0 then
    some (some (.int (-1)), (S0, M, N))
  else
    (C d 160 [.ref 46, .int (x1 / 10)] S0 M N).bind fun q1 => j_oi none (fun r1 =>
    if r1 = 0 then
      some (some (.int (-1)), (S0, q1.2.1, q1.2.2))
    else
      (C d 155 [.long (x1 - x1 / 10 * 10).toInt64, .long 0, .long ((q1.2.1 46 17) - 1).toInt64] S0 q1.2.1 q1.2.2).bind fun q2 => j_oi none (fun r2 =>
      if r2 = 0 then
        some (some (.int (-1)), (S0, q2.2.1, q2.2.2))
      else
        (C d 155 [.long x2.toInt64, .long 0, .long 99] S0 q2.2.1 q2.2.2).bind fun q3 => j_oi none (fun r3 =>
        if r3 = 0 then
          some (some (.int (-1)), (S0, q3.2.1, q3.2.2))
        else
          bif j_in ((3 * (x1 / 10)) + (x1 - x1 / 10 * 10)) 18 then
          bif j_in ((3 * (x1 / 10)) + (x1 - x1 / 10 * 10)) 18 then
          some (some (.int (q3.2.1 57 (((3 * (x1 / 10)) + (x1 - x1 / 10 * 10))).toNatClampNeg)), (S0, (j_w q3.2.1 57 (((3 * (x1 / 10)) + (x1 - x1 / 10 * 10))).toNatClampNeg x2), q3.2.2)) else none else none) q3.1) q2.1) q1.1) := (R_ev d kX11_joy 400 0 _ _ _).trans rfl
set_option maxRecDepth 100000 in
theorem bX11_joyOf_0 (d : Nat) (x1 : Int32) (x2 : Int32) (M : j_M) (N : j_N) : R d kX11_joyOf 0 [.ref 46, .int x1, .int x2] [] (S0, M, N) =
  (if 0 ≤ x2 then
    bif j_in ((3 * x1) + x2) 18 then
    some (some (.int (M 57 (((3 * x1) + x2)).toNatClampNeg)), (S0, M, N)) else none
  else
    some (some (.int 0), (S0, M, N))) := (R_ev d kX11_joyOf 400 0 _ _ _).trans rfl
set_option maxRecDepth 100000 in
theorem bX11_billFrom_0 (d : Nat) (x1 : Int32) (x2 : Int32) (M : j_M) (N : j_N) : R d kX11_billFrom 0 [.ref 46, .int x1, .int x2, .null, .null, .null, .null, .null] [] (S0, M, N) =
  (if x1 = (M 46 6) then
    some (some (.int x2), (S0, M, N))
  else
    R d kX11_billFrom 19 [.ref 46, .int x1, .int x2, .int (-2), .int 0, .int (-1), .null, .null] [] (S0, M, N)) := (R_ev d kX11_billFrom 400 0 _ _ _).trans rfl
set_option maxRecDepth 100000 in
theorem bX11_billFrom_19 (d : Nat) (x1 : Int32) (x2 : Int32) (x3 : Int32) (x4 : Int32) (x5 : Int32) (M : j_M) (N : j_N) : R d kX11_billFrom 19 [.ref 46, .int x1, .int x2, .int x3, .int x4, .int x5, .null, .null] [] (S0, M, N) =
  (if (M 46 17) ≤ x5 then
    if 0 ≤ x3 then
      bif j_in x3 3 then
      (C d 195 [.ref 46, .int (x1 + 1), .int (x2 + (M 56 (x3).toNatClampNeg))] S0 M N).bind fun q1 => j_oi none (fun r1 =>
      bif j_in x1 6 then
      some (some (.int r1), (S0, (j_w q1.2.1 58 (x1).toNatClampNeg x3), q1.2.2)) else none) q1.1 else none
    else
      (C d 195 [.ref 46, .int (x1 + 1), .int (x2 + 0)] S0 M N).bind fun q2 => j_oi none (fun r2 =>
      bif j_in x1 6 then
      some (some (.int r2), (S0, (j_w q2.2.1 58 (x1).toNatClampNeg x3), q2.2.2)) else none) q2.1
  else
    if 0 ≤ x5 then
      bif j_in x5 3 then
      R d kX11_billFrom 49 [.ref 46, .int x1, .int x2, .int x3, .int x4, .int x5, .null, .null] [.int (M 56 (x5).toNatClampNeg), .int x2, .int (x1 + 1), .ref 46] (S0, M, N) else none
    else
      R d kX11_billFrom 49 [.ref 46, .int x1, .int x2, .int x3, .int x4, .int x5, .null, .null] [.int 0, .int x2, .int (x1 + 1), .ref 46] (S0, M, N)) := (R_ev d kX11_billFrom 400 19 _ _ _).trans rfl
set_option maxRecDepth 100000 in
theorem bX11_billFrom_49 (d : Nat) (x1 : Int32) (x2 : Int32) (x3 : Int32) (x4 : Int32) (x5 : Int32) (s1 : Int32) (s2 : Int32) (s3 : Int32) (M : j_M) (N : j_N) : R d kX11_billFrom 49 [.ref 46, .int x1, .int x2, .int x3, .int x4, .int x5, .null, .null] [.int s3, .int s2, .int s1, .ref 46] (S0, M, N) =
  ((C d 195 [.ref 46, .int s1, .int (s2 + s3)] S0 M N).bind fun q1 => j_oi none (fun r1 =>
  (C d 172 [.ref 46, .int r1, .int (q1.2.1 47 25)] S0 q1.2.1 q1.2.2).bind fun q2 => j_ov none (
  (C d 194 [.ref 46, .int x1, .int x5] S0 q2.2.1 q2.2.2).bind fun q3 => j_oi none (fun r3 =>
  (C d 174 [.ref 46, .int x1] S0 q3.2.1 q3.2.2).bind fun q4 => j_oi none (fun r4 =>
  if x3 = (-2) then
    R d kX11_billFrom 19 [.ref 46, .int x1, .int x2, .int x5, .int (r3 - r4), .int (x5 + 1), .null, .null] [] (S0, q4.2.1, q4.2.2)
  else
    if (r3 - r4) ≤ x4 then
      R d kX11_billFrom 19 [.ref 46, .int x1, .int x2, .int x3, .int x4, .int (x5 + 1), .null, .null] [] (S0, q4.2.1, q4.2.2)
    else
      R d kX11_billFrom 19 [.ref 46, .int x1, .int x2, .int x5, .int (r3 - r4), .int (x5 + 1), .null, .null] [] (S0, q4.2.1, q4.2.2)) q4.1) q3.1) q2.1) q1.1) := (R_ev d kX11_billFrom 400 49 _ _ _).trans rfl
set_option maxRecDepth 100000 in
theorem bX11_ordered_0 (d : Nat) (x1 : Int32) (x2 : Int32) (M : j_M) (N : j_N) : R d kX11_ordered 0 [.ref 46, .int x1, .int x2, .null] [] (S0, M, N) =
  ((C d 160 [.ref 46, .int x1] S0 M N).bind fun q1 => j_oi none (fun r1 =>
  if r1 = 0 then
    some (some (.int (-2000000000)), (S0, q1.2.1, q1.2.2))
  else
    (C d 155 [.long x2.toInt64, .long 0, .long 2] S0 q1.2.1 q1.2.2).bind fun q2 => j_oi none (fun r2 =>
    if r2 = 0 then
      some (some (.int (-2000000000)), (S0, q2.2.1, q2.2.2))
    else
      if x2 = 2 then
        if x1 = 0 then
          R d kX11_ordered 32 [.ref 46, .int x1, .int x2, .null] [] (S0, q2.2.1, q2.2.2)
        else
          some (some (.int (-2000000000)), (S0, q2.2.1, q2.2.2))
      else
        R d kX11_ordered 32 [.ref 46, .int x1, .int x2, .null] [] (S0, q2.2.1, q2.2.2)) q2.1) q1.1) := (R_ev d kX11_ordered 400 0 _ _ _).trans rfl
set_option maxRecDepth 100000 in
theorem bX11_ordered_32 (d : Nat) (x1 : Int32) (x2 : Int32) (M : j_M) (N : j_N) : R d kX11_ordered 32 [.ref 46, .int x1, .int x2, .null] [] (S0, M, N) =
  ((C d 167 [.ref 46] S0 M N).bind fun q1 => j_ov none (
  (C d 195 [.ref 46, .int 0, .int 0] S0 q1.2.1 q1.2.2).bind fun q2 => j_oi none (fun r2 =>
  if x2 = 1 then
    (C d 172 [.ref 46, .int r2, .int (q2.2.1 47 25)] S0 q2.2.1 q2.2.2).bind fun q3 => j_ov none (
    bif j_in x1 6 then
    (C d 194 [.ref 46, .int x1, .int (q3.2.1 58 (x1).toNatClampNeg)] S0 q3.2.1 q3.2.2).bind fun q4 => j_oi none (fun r4 =>
    (C d 174 [.ref 46, .int x1] S0 q4.2.1 q4.2.2).bind fun q5 => j_oi none (fun r5 =>
    some (some (.int (r4 - r5)), (S0, q5.2.1, q5.2.2))) q5.1) q4.1 else none) q3.1
  else
    if x2 = 2 then
      some (some (.int r2), (S0, q2.2.1, q2.2.2))
    else
      bif j_in x1 6 then
      if 0 ≤ (q2.2.1 58 (x1).toNatClampNeg) then
        bif j_in x1 6 then
        some (some (.int (q2.2.1 58 (x1).toNatClampNeg)), (S0, q2.2.1, q2.2.2)) else none
      else
        some (some (.int (-2)), (S0, q2.2.1, q2.2.2)) else none) q2.1) q1.1) := (R_ev d kX11_ordered 400 32 _ _ _).trans rfl
