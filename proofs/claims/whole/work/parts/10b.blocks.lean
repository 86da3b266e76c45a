/-! ===== block equations (printed by wip/whole/genblk.py) ===== -/
set_option maxRecDepth 100000 in
theorem bX5_orderAll_0 (d : Nat)  (M : j_M) (N : j_N) : R d kX5_orderAll 0 [.ref 12, .null, .null] [] (S0, M, N) =
  ((C d 22 [.ref 8, .ref 1] S0 M N).bind fun q1 => j_ov none (
  R d kX5_orderAll 15 [.ref 12, .int 0, .int 0] [] (S0, q1.2.1, q1.2.2)) q1.1) := (R_ev d kX5_orderAll 400 0 _ _ _).trans rfl
set_option maxRecDepth 100000 in
theorem bX5_orderAll_15 (d : Nat) (x1 : Int32) (x2 : Int32) (M : j_M) (N : j_N) : R d kX5_orderAll 15 [.ref 12, .int x1, .int x2] [] (S0, M, N) =
  (if (M 1 6) ≤ x2 then
    some (some (.int x1), (S0, M, N))
  else
    (C d 66 [.ref 12, .int x2, .int x1] S0 M N).bind fun q1 => j_oi none (fun r1 =>
    bif j_in x2 6 then
    (C d 67 [.ref 12, .int (q1.2.1 15 (x2).toNatClampNeg)] S0 q1.2.1 q1.2.2).bind fun q2 => j_oi none (fun r2 =>
    R d kX5_orderAll 15 [.ref 12, .int (x1 + r2), .int (x2 + 1)] [] (S0, q2.2.1, q2.2.2)) q2.1 else none) q1.1) := (R_ev d kX5_orderAll 400 15 _ _ _).trans rfl
set_option maxRecDepth 100000 in
theorem bX5_playOut_0 (d : Nat) (x1 : Int32) (x2 : Int32) (M : j_M) (N : j_N) : R d kX5_playOut 0 [.ref 12, .int x1, .int x2, .null, .null, .null, .null, .null, .null] [] (S0, M, N) =
  (if (M 1 6) ≤ x1 then
    some (some (.int x2), (S0, M, N))
  else
    if x1 < 6 then
      (C d 66 [.ref 12, .int (x1 + 1), .int x2] S0 M N).bind fun q1 => j_oi none (fun r1 =>
      (C d 68 [.ref 12, .int x1, .int (-1), .int r1] S0 q1.2.1 q1.2.2).bind fun q2 => j_oi none (fun r2 =>
      R d kX5_playOut 44 [.ref 12, .int x1, .int x2, .int (-1), .int r1, .int r2, .int 0, .null, .null] [] (S0, q2.2.1, q2.2.2)) q2.1) q1.1
    else
      some (some (.int x2), (S0, M, N))) := (R_ev d kX5_playOut 400 0 _ _ _).trans rfl
set_option maxRecDepth 100000 in
theorem bX5_playOut_44 (d : Nat) (x1 : Int32) (x2 : Int32) (x3 : Int32) (x4 : Int32) (x5 : Int32) (x6 : Int32) (M : j_M) (N : j_N) : R d kX5_playOut 44 [.ref 12, .int x1, .int x2, .int x3, .int x4, .int x5, .int x6, .null, .null] [] (S0, M, N) =
  (if (M 12 5) ≤ x6 then
    bif j_in x1 6 then
    some (some (.int x4), (S0, (j_w M 15 (x1).toNatClampNeg x3), N)) else none
  else
    bif j_in x6 3 then
    (C d 66 [.ref 12, .int (x1 + 1), .int (x2 + (M 13 (x6).toNatClampNeg))] S0 M N).bind fun q1 => j_oi none (fun r1 =>
    (C d 68 [.ref 12, .int x1, .int x6, .int r1] S0 q1.2.1 q1.2.2).bind fun q2 => j_oi none (fun r2 =>
    if r2 ≤ x5 then
      R d kX5_playOut 44 [.ref 12, .int x1, .int x2, .int x3, .int x4, .int x5, .int (x6 + 1), .null, .null] [] (S0, q2.2.1, q2.2.2)
    else
      R d kX5_playOut 44 [.ref 12, .int x1, .int x2, .int x6, .int r1, .int r2, .int (x6 + 1), .null, .null] [] (S0, q2.2.1, q2.2.2)) q2.1) q1.1 else none) := (R_ev d kX5_playOut 400 44 _ _ _).trans rfl
set_option maxRecDepth 100000 in
theorem bX5_priceOf_0 (d : Nat) (x1 : Int32) (M : j_M) (N : j_N) : R d kX5_priceOf 0 [.ref 12, .int x1] [] (S0, M, N) =
  ((C d 62 [.ref 12, .int x1] S0 M N).bind fun q1 => j_oi none (fun r1 =>
  if r1 = 0 then
    some (some (.int 0), (S0, q1.2.1, q1.2.2))
  else
    bif j_in x1 3 then
    some (some (.int (q1.2.1 13 (x1).toNatClampNeg)), (S0, q1.2.1, q1.2.2)) else none) q1.1) := (R_ev d kX5_priceOf 400 0 _ _ _).trans rfl
set_option maxRecDepth 100000 in
theorem bX5_worth_0 (d : Nat) (x1 : Int32) (x2 : Int32) (x3 : Int32) (M : j_M) (N : j_N) : R d kX5_worth 0 [.ref 12, .int x1, .int x2, .int x3, .null] [] (S0, M, N) =
  ((C d 25 [.ref 8, .int x3] S0 M N).bind fun q1 => j_ov none (
  (C d 62 [.ref 12, .int x2] S0 q1.2.1 q1.2.2).bind fun q2 => j_oi none (fun r2 =>
  if r2 = 0 then
    (C d 26 [.ref 8, .int x1] S0 q2.2.1 q2.2.2).bind fun q3 => j_oi none (fun r3 =>
    some (some (.int (0 - r3)), (S0, q3.2.1, q3.2.2))) q3.1
  else
    bif j_in ((x1 * 3) + x2) 18 then
    (C d 26 [.ref 8, .int x1] S0 q2.2.1 q2.2.2).bind fun q4 => j_oi none (fun r4 =>
    some (some (.int ((q2.2.1 14 (((x1 * 3) + x2)).toNatClampNeg) - r4)), (S0, q4.2.1, q4.2.2))) q4.1 else none) q2.1) q1.1) := (R_ev d kX5_worth 400 0 _ _ _).trans rfl
set_option maxRecDepth 100000 in
theorem bX6_costBy_0 (d : Nat) (x1 : Int32) (x2 : Int32) (M : j_M) (N : j_N) : R d kX6_costBy 0 [.ref 10, .int x1, .int x2] [] (S0, M, N) =
  (bif j_in x1 7 then
  (C d 24 [.ref 8] S0 (j_w M 9 (x1).toNatClampNeg x2) N).bind fun q1 => j_ov none (
  (C d 26 [.ref 8, .int x1] S0 q1.2.1 q1.2.2).bind fun q2 => j_oi none (fun r2 =>
  some (some (.int r2), (S0, q2.2.1, q2.2.2))) q2.1) q1.1 else none) := (R_ev d kX6_costBy 400 0 _ _ _).trans rfl
set_option maxRecDepth 100000 in
theorem bX6_search_0 (d : Nat) (x1 : Int32) (M : j_M) (N : j_N) : R d kX6_search 0 [.ref 10, .int x1, .null, .null, .null, .null, .null] [] (S0, M, N) =
  (bif j_in x1 7 then
  (C d 74 [.ref 10, .int x1] S0 (j_w (j_w M 10 3 0) 10 4 1000000) N).bind fun q1 => j_oi none (fun r1 =>
  R d kX6_search 30 [.ref 10, .int x1, .int (M 9 (x1).toNatClampNeg), .int r1, .int 0, .null, .null] [] (S0, q1.2.1, q1.2.2)) q1.1 else none) := (R_ev d kX6_search 400 0 _ _ _).trans rfl
set_option maxRecDepth 100000 in
theorem bX6_search_30 (d : Nat) (x1 : Int32) (x2 : Int32) (x3 : Int32) (x4 : Int32) (M : j_M) (N : j_N) : R d kX6_search 30 [.ref 10, .int x1, .int x2, .int x3, .int x4, .null, .null] [] (S0, M, N) =
  (if x3 ≤ x4 then
    bif j_in x1 7 then
    some (none, (S0, (j_w M 9 (x1).toNatClampNeg x2), N)) else none
  else
    (C d 70 [.ref 10, .int x1, .int (x4 * (M 1 9))] S0 M N).bind fun q1 => j_oi none (fun r1 =>
    if (q1.2.1 10 4) ≤ r1 then
      R d kX6_search 30 [.ref 10, .int x1, .int x2, .int x3, .int (x4 + 1), .null, .null] [] (S0, q1.2.1, q1.2.2)
    else
      R d kX6_search 30 [.ref 10, .int x1, .int x2, .int x3, .int (x4 + 1), .null, .null] [] (S0, (j_w (j_w q1.2.1 10 3 (x4 * (M 1 9))) 10 4 r1), q1.2.2)) q1.1) := (R_ev d kX6_search 400 30 _ _ _).trans rfl
set_option maxRecDepth 100000 in
theorem bX6_wouldChange_0 (d : Nat) (x1 : Int32) (M : j_M) (N : j_N) : R d kX6_wouldChange 0 [.ref 10, .int x1, .null, .null, .null, .null, .null] [] (S0, M, N) =
  (bif j_in x1 7 then
  (C d 70 [.ref 10, .int x1, .int (M 9 (x1).toNatClampNeg)] S0 M N).bind fun q1 => j_oi none (fun r1 =>
  (C d 74 [.ref 10, .int x1] S0 q1.2.1 q1.2.2).bind fun q2 => j_oi none (fun r2 =>
  R d kX6_wouldChange 30 [.ref 10, .int x1, .int (M 9 (x1).toNatClampNeg), .int r1, .int 0, .int r2, .int 0] [] (S0, q2.2.1, q2.2.2)) q2.1) q1.1 else none) := (R_ev d kX6_wouldChange 400 0 _ _ _).trans rfl
set_option maxRecDepth 100000 in
theorem bX6_wouldChange_30 (d : Nat) (x1 : Int32) (x2 : Int32) (x3 : Int32) (x4 : Int32) (x5 : Int32) (x6 : Int32) (M : j_M) (N : j_N) : R d kX6_wouldChange 30 [.ref 10, .int x1, .int x2, .int x3, .int x4, .int x5, .int x6] [] (S0, M, N) =
  (if x5 ≤ x6 then
    bif j_in x1 7 then
    bif decide (x4 = 0) || decide (x4 = 1) then some (some (.int x4), (S0, (j_w M 9 (x1).toNatClampNeg x2), N)) else none else none
  else
    if x4 = 0 then
      (C d 70 [.ref 10, .int x1, .int (x6 * (M 1 9))] S0 M N).bind fun q1 => j_oi none (fun r1 =>
      if x3 ≤ r1 then
        R d kX6_wouldChange 30 [.ref 10, .int x1, .int x2, .int x3, .int 0, .int x5, .int (x6 + 1)] [] (S0, q1.2.1, q1.2.2)
      else
        R d kX6_wouldChange 30 [.ref 10, .int x1, .int x2, .int x3, .int 1, .int x5, .int (x6 + 1)] [] (S0, q1.2.1, q1.2.2)) q1.1
    else
      bif j_in x1 7 then
      bif decide (x4 = 0) || decide (x4 = 1) then some (some (.int x4), (S0, (j_w M 9 (x1).toNatClampNeg x2), N)) else none else none) := (R_ev d kX6_wouldChange 400 30 _ _ _).trans rfl
set_option maxRecDepth 100000 in
theorem bX6_firstRestless_0 (d : Nat)  (M : j_M) (N : j_N) : R d kX6_firstRestless 0 [.ref 10, .null] [] (S0, M, N) =
  (R d kX6_firstRestless 2 [.ref 10, .int 0] [] (S0, M, N)) := (R_ev d kX6_firstRestless 400 0 _ _ _).trans rfl
set_option maxRecDepth 100000 in
theorem bX6_firstRestless_2 (d : Nat) (x1 : Int32) (M : j_M) (N : j_N) : R d kX6_firstRestless 2 [.ref 10, .int x1] [] (S0, M, N) =
  (if (M 8 1) ≤ x1 then
    some (some (.int (-2)), (S0, M, N))
  else
    (C d 72 [.ref 10, .int x1] S0 M N).bind fun q1 => j_oi none (fun r1 =>
    if r1 = 0 then
      R d kX6_firstRestless 2 [.ref 10, .int (x1 + 1)] [] (S0, q1.2.1, q1.2.2)
    else
      some (some (.int x1), (S0, q1.2.1, q1.2.2))) q1.1) := (R_ev d kX6_firstRestless 400 2 _ _ _).trans rfl
set_option maxRecDepth 100000 in
theorem bX6_sumsOf_0 (d : Nat) (x1 : Int32) (M : j_M) (N : j_N) : R d kX6_sumsOf 0 [.ref 10, .int x1] [] (S0, M, N) =
  (if (M 1 9) ≤ 0 then
    some (some (.int 1), (S0, M, N))
  else
    bif j_in x1 6 then
    if (M 1 9) = 0 then none else
    some (some (.int (((M 2 (x1).toNatClampNeg) / (M 1 9)) + 1)), (S0, M, N)) else none) := (R_ev d kX6_sumsOf 400 0 _ _ _).trans rfl
set_option maxRecDepth 100000 in
theorem bX6_ways_0 (d : Nat)  (M : j_M) (N : j_N) : R d kX6_ways 0 [.ref 10, .null, .null, .null] [] (S0, M, N) =
  (R d kX6_ways 4 [.ref 10, .long 1, .null, .int 0] [] (S0, M, N)) := (R_ev d kX6_ways 400 0 _ _ _).trans rfl
set_option maxRecDepth 100000 in
theorem bX6_ways_4 (d : Nat) (y1 : Int64) (x3 : Int32) (M : j_M) (N : j_N) : R d kX6_ways 4 [.ref 10, .long y1, .null, .int x3] [] (S0, M, N) =
  (if (M 1 6) ≤ x3 then
    some (some (.long y1), (S0, M, N))
  else
    (C d 74 [.ref 10, .int x3] S0 M N).bind fun q1 => j_oi none (fun r1 =>
    R d kX6_ways 4 [.ref 10, .long (y1 * r1.toInt64), .null, .int (x3 + 1)] [] (S0, q1.2.1, q1.2.2)) q1.1) := (R_ev d kX6_ways 400 4 _ _ _).trans rfl
set_option maxRecDepth 100000 in
theorem bX6_fewWays_0 (d : Nat)  (M : j_M) (N : j_N) : R d kX6_fewWays 0 [.ref 10] [] (S0, M, N) =
  ((C d 75 [.ref 10] S0 M N).bind fun q1 => j_ol none (fun r1 =>
  if 0 < (lg_cmp r1 4096) then
    some (some (.int 0), (S0, q1.2.1, q1.2.2))
  else
    some (some (.int 1), (S0, q1.2.1, q1.2.2))) q1.1) := (R_ev d kX6_fewWays 400 0 _ _ _).trans rfl
set_option maxRecDepth 100000 in
theorem bX6_goThroughWays_0 (d : Nat)  (M : j_M) (N : j_N) : R d kX6_goThroughWays 0 [.ref 10, .null, .null, .null] [] (S0, M, N) =
  ((C d 22 [.ref 8, .ref 1] S0 M N).bind fun q1 => j_ov none (
  (C d 75 [.ref 10] S0 q1.2.1 q1.2.2).bind fun q2 => j_ol none (fun r2 =>
  R d kX6_goThroughWays 27 [.ref 10, .int 0, .int (if (4096 : Int64) < r2 then (4096 : Int64) else r2).toInt32, .int 0] [] (S0, q2.2.1, q2.2.2)) q2.1) q1.1) := (R_ev d kX6_goThroughWays 400 0 _ _ _).trans rfl
set_option maxRecDepth 100000 in
theorem bX6_goThroughWays_27 (d : Nat) (x1 : Int32) (x2 : Int32) (x3 : Int32) (M : j_M) (N : j_N) : R d kX6_goThroughWays 27 [.ref 10, .int x1, .int x2, .int x3] [] (S0, M, N) =
  (if x2 ≤ x3 then
    some (some (.int x1), (S0, M, N))
  else
    (C d 78 [.ref 10, .int x3] S0 M N).bind fun q1 => j_ov none (
    (C d 73 [.ref 10] S0 q1.2.1 q1.2.2).bind fun q2 => j_oi none (fun r2 =>
    if r2 = (-2) then
      if x1 = 0 then
        bif (!(decide (0 < (0:Int32))) && !(decide (0 < (0:Int32))) && !(decide ((q2.2.1 1 6) < (0:Int32))) && Nat.ble (0 + ((q2.2.1 1 6)).toNatClampNeg) 7 && Nat.ble (0 + ((q2.2.1 1 6)).toNatClampNeg) 6) && Nat.ble 0 8 then
        R d kX6_goThroughWays 27 [.ref 10, .int (x1 + 1), .int x2, .int (x3 + 1)] [] (S0, (j_row q2.2.1 11 (va_cpy (q2.2.1 9) (q2.2.1 11) 0 0 ((q2.2.1 1 6)).toNatClampNeg)), q2.2.2) else none
      else
        R d kX6_goThroughWays 27 [.ref 10, .int (x1 + 1), .int x2, .int (x3 + 1)] [] (S0, q2.2.1, q2.2.2)
    else
      R d kX6_goThroughWays 27 [.ref 10, .int x1, .int x2, .int (x3 + 1)] [] (S0, q2.2.1, q2.2.2)) q2.1) q1.1) := (R_ev d kX6_goThroughWays 400 27 _ _ _).trans rfl
set_option maxRecDepth 100000 in
theorem bX6_layWay_0 (d : Nat) (x1 : Int32) (M : j_M) (N : j_N) : R d kX6_layWay 0 [.ref 10, .int x1, .null, .null, .null] [] (S0, M, N) =
  (R d kX6_layWay 12 [.ref 10, .null, .int x1, .int ((M 1 6) - 1), .null] [] (S0, M, N)) := (R_ev d kX6_layWay 400 0 _ _ _).trans rfl
set_option maxRecDepth 100000 in
theorem bX6_layWay_12 (d : Nat) (x2 : Int32) (x3 : Int32) (M : j_M) (N : j_N) : R d kX6_layWay 12 [.ref 10, .null, .int x2, .int x3, .null] [] (S0, M, N) =
  (if x3 < 0 then
    some (none, (S0, M, N))
  else
    (C d 74 [.ref 10, .int x3] S0 M N).bind fun q1 => j_oi none (fun r1 =>
    if r1 ≤ 0 then
      R d kX6_layWay 12 [.ref 10, .null, .int x2, .int (x3 + (-1)), .null] [] (S0, q1.2.1, q1.2.2)
    else
      if r1 = 0 then none else
      bif j_in x3 7 then
      if r1 = 0 then none else
      R d kX6_layWay 12 [.ref 10, .null, .int (x2 / r1), .int (x3 + (-1)), .null] [] (S0, (j_w q1.2.1 9 (x3).toNatClampNeg ((x2 - x2 / r1 * r1) * (q1.2.1 1 9))), q1.2.2) else none) q1.1) := (R_ev d kX6_layWay 400 12 _ _ _).trans rfl
set_option maxRecDepth 100000 in
theorem bX6_takeTurns_0 (d : Nat)  (M : j_M) (N : j_N) : R d kX6_takeTurns 0 [.ref 10, .null, .null, .null, .null, .null] [] (S0, M, N) =
  ((C d 22 [.ref 8, .ref 1] S0 M N).bind fun q1 => j_ov none (
  R d kX6_takeTurns 20 [.ref 10, .int 0, .int 0, .int 0, .int 0, .null] [] (S0, q1.2.1, q1.2.2)) q1.1) := (R_ev d kX6_takeTurns 400 0 _ _ _).trans rfl
set_option maxRecDepth 100000 in
theorem bX6_takeTurns_20 (d : Nat) (x1 : Int32) (x2 : Int32) (x3 : Int32) (x4 : Int32) (M : j_M) (N : j_N) : R d kX6_takeTurns 20 [.ref 10, .int x1, .int x2, .int x3, .int x4, .null] [] (S0, M, N) =
  (if 1000 ≤ x4 then
    some (some (.int x1), (S0, M, N))
  else
    if (M 1 6) ≤ x2 then
      some (some (.int x1), (S0, M, N))
    else
      bif j_in x3 7 then
      (C d 70 [.ref 10, .int x3, .int (M 9 (x3).toNatClampNeg)] S0 M N).bind fun q1 => j_oi none (fun r1 =>
      (C d 71 [.ref 10, .int x3] S0 q1.2.1 q1.2.2).bind fun q2 => j_ov none (
      if (q2.2.1 10 4) < r1 then
        if x1 = 60 then
          some (some (.int (-2)), (S0, q2.2.1, q2.2.2))
        else
          bif j_in x3 7 then
          if (q2.2.1 1 6) ≤ (x3 + 1) then
            R d kX6_takeTurns 20 [.ref 10, .int (x1 + 1), .int 0, .int 0, .int (x4 + 1), .null] [] (S0, (j_w q2.2.1 9 (x3).toNatClampNeg (q2.2.1 10 3)), q2.2.2)
          else
            R d kX6_takeTurns 20 [.ref 10, .int (x1 + 1), .int 0, .int (x3 + 1), .int (x4 + 1), .null] [] (S0, (j_w q2.2.1 9 (x3).toNatClampNeg (q2.2.1 10 3)), q2.2.2) else none
      else
        if (q2.2.1 1 6) ≤ (x3 + 1) then
          R d kX6_takeTurns 20 [.ref 10, .int x1, .int (x2 + 1), .int 0, .int (x4 + 1), .null] [] (S0, q2.2.1, q2.2.2)
        else
          R d kX6_takeTurns 20 [.ref 10, .int x1, .int (x2 + 1), .int (x3 + 1), .int (x4 + 1), .null] [] (S0, q2.2.1, q2.2.2)) q2.1) q1.1 else none) := (R_ev d kX6_takeTurns 400 20 _ _ _).trans rfl
set_option maxRecDepth 100000 in
theorem bX6_settle_0 (d : Nat) (x1 : Int32) (x2 : Int32) (M : j_M) (N : j_N) : R d kX6_settle 0 [.ref 10, .int x1, .int x2, .null, .null, .null, .null, .null] [] (S0, M, N) =
  ((C d 22 [.ref 8, .ref 1] S0 M N).bind fun q1 => j_ov none (
  (C d 74 [.ref 10, .int x1] S0 (j_w q1.2.1 10 4 1000000) q1.2.2).bind fun q2 => j_oi none (fun r2 =>
  (C d 74 [.ref 10, .int x2] S0 q2.2.1 q2.2.2).bind fun q3 => j_oi none (fun r3 =>
  R d kX6_settle 33 [.ref 10, .int x1, .int x2, .int r2, .int r3, .int 0, .null, .null] [] (S0, q3.2.1, q3.2.2)) q3.1) q2.1) q1.1) := (R_ev d kX6_settle 400 0 _ _ _).trans rfl
set_option maxRecDepth 100000 in
theorem bX6_settle_33 (d : Nat) (x1 : Int32) (x2 : Int32) (x3 : Int32) (x4 : Int32) (x5 : Int32) (M : j_M) (N : j_N) : R d kX6_settle 33 [.ref 10, .int x1, .int x2, .int x3, .int x4, .int x5, .null, .null] [] (S0, M, N) =
  (if x3 ≤ x5 then
    bif j_in x1 7 then
    bif j_in x2 7 then
    (C d 24 [.ref 8] S0 (j_w (j_w M 9 (x1).toNatClampNeg (M 10 3)) 9 (x2).toNatClampNeg (M 10 5)) N).bind fun q1 => j_ov none (
    some (none, (S0, q1.2.1, q1.2.2))) q1.1 else none else none
  else
    bif j_in x1 7 then
    R d kX6_settle 61 [.ref 10, .int x1, .int x2, .int x3, .int x4, .int x5, .int 0, .null] [] (S0, (j_w M 9 (x1).toNatClampNeg (x5 * (M 1 9))), N) else none) := (R_ev d kX6_settle 400 33 _ _ _).trans rfl
set_option maxRecDepth 100000 in
theorem bX6_settle_61 (d : Nat) (x1 : Int32) (x2 : Int32) (x3 : Int32) (x4 : Int32) (x5 : Int32) (x6 : Int32) (M : j_M) (N : j_N) : R d kX6_settle 61 [.ref 10, .int x1, .int x2, .int x3, .int x4, .int x5, .int x6, .null] [] (S0, M, N) =
  (if x4 ≤ x6 then
    R d kX6_settle 33 [.ref 10, .int x1, .int x2, .int x3, .int x4, .int (x5 + 1), .null, .null] [] (S0, M, N)
  else
    (C d 70 [.ref 10, .int x2, .int (x6 * (M 1 9))] S0 M N).bind fun q1 => j_oi none (fun r1 =>
    (C d 26 [.ref 8, .int x1] S0 q1.2.1 q1.2.2).bind fun q2 => j_oi none (fun r2 =>
    if (q2.2.1 10 4) ≤ (r1 + r2) then
      R d kX6_settle 61 [.ref 10, .int x1, .int x2, .int x3, .int x4, .int x5, .int (x6 + 1), .null] [] (S0, q2.2.1, q2.2.2)
    else
      R d kX6_settle 61 [.ref 10, .int x1, .int x2, .int x3, .int x4, .int x5, .int (x6 + 1), .null] [] (S0, (j_w (j_w (j_w q2.2.1 10 4 (r1 + r2)) 10 3 (x5 * (q2.2.1 1 9))) 10 5 (x6 * (q2.2.1 1 9))), q2.2.2)) q2.1) q1.1) := (R_ev d kX6_settle 400 61 _ _ _).trans rfl
set_option maxRecDepth 100000 in
theorem bX6_victimOf_0 (d : Nat) (x1 : Int32) (x2 : Int32) (M : j_M) (N : j_N) : R d kX6_victimOf 0 [.ref 10, .int x1, .int x2, .null] [] (S0, M, N) =
  (R d kX6_victimOf 2 [.ref 10, .int x1, .int x2, .int 0] [] (S0, M, N)) := (R_ev d kX6_victimOf 400 0 _ _ _).trans rfl
set_option maxRecDepth 100000 in
theorem bX6_victimOf_2 (d : Nat) (x1 : Int32) (x2 : Int32) (x3 : Int32) (M : j_M) (N : j_N) : R d kX6_victimOf 2 [.ref 10, .int x1, .int x2, .int x3] [] (S0, M, N) =
  (if (M 8 1) ≤ x3 then
    some (some (.int (-2)), (S0, M, N))
  else
    if x3 = x1 then
      R d kX6_victimOf 2 [.ref 10, .int x1, .int x2, .int (x3 + 1)] [] (S0, M, N)
    else
      if x3 = x2 then
        R d kX6_victimOf 2 [.ref 10, .int x1, .int x2, .int (x3 + 1)] [] (S0, M, N)
      else
        (C d 27 [.ref 8, .int x3] S0 M N).bind fun q1 => j_oi none (fun r1 =>
        if r1 ≤ 0 then
          R d kX6_victimOf 2 [.ref 10, .int x1, .int x2, .int (x3 + 1)] [] (S0, q1.2.1, q1.2.2)
        else
          some (some (.int x3), (S0, q1.2.1, q1.2.2))) q1.1) := (R_ev d kX6_victimOf 400 2 _ _ _).trans rfl
set_option maxRecDepth 100000 in
theorem bX6_allWeights_0 (d : Nat)  (M : j_M) (N : j_N) : R d kX6_allWeights 0 [.ref 10, .null, .null, .null] [] (S0, M, N) =
  (R d kX6_allWeights 4 [.ref 10, .long 1, .null, .int 1] [] (S0, M, N)) := (R_ev d kX6_allWeights 400 0 _ _ _).trans rfl
set_option maxRecDepth 100000 in
theorem bX6_allWeights_4 (d : Nat) (y1 : Int64) (x3 : Int32) (M : j_M) (N : j_N) : R d kX6_allWeights 4 [.ref 10, .long y1, .null, .int x3] [] (S0, M, N) =
  (if (M 1 6) ≤ x3 then
    some (some (.long y1), (S0, M, N))
  else
    R d kX6_allWeights 4 [.ref 10, .long (y1 * 12), .null, .int (x3 + 1)] [] (S0, M, N)) := (R_ev d kX6_allWeights 400 4 _ _ _).trans rfl
set_option maxRecDepth 100000 in
theorem bX6_weighedCost_0 (d : Nat) (x1 : Int32) (x2 : Int32) (M : j_M) (N : j_N) : R d kX6_weighedCost 0 [.ref 10, .int x1, .int x2, .null, .null, .null, .null, .null] [] (S0, M, N) =
  ((C d 22 [.ref 8, .ref 1] S0 M N).bind fun q1 => j_ov none (
  R d kX6_weighedCost 16 [.ref 10, .int x1, .int x2, .long 0, .null, .int 0, .null, .null] [] (S0, q1.2.1, q1.2.2)) q1.1) := (R_ev d kX6_weighedCost 400 0 _ _ _).trans rfl
set_option maxRecDepth 100000 in
theorem bX6_weighedCost_16 (d : Nat) (x1 : Int32) (x2 : Int32) (y3 : Int64) (x5 : Int32) (M : j_M) (N : j_N) : R d kX6_weighedCost 16 [.ref 10, .int x1, .int x2, .long y3, .null, .int x5, .null, .null] [] (S0, M, N) =
  (if ((1 : Int32) <<< ((M 1 6) &&& 31)) ≤ x5 then
    some (some (.long y3), (S0, M, N))
  else
    if ((x5 >>> (x1 &&& 31)) &&& 1) = 0 then
      (C d 84 [.ref 10, .int x5, .int x1] S0 M N).bind fun q1 => j_ol none (fun r1 =>
      if (lg_cmp r1 0) = 0 then
        R d kX6_weighedCost 16 [.ref 10, .int x1, .int x2, .long (y3 + 0), .null, .int (x5 + 1), .null, .null] [] (S0, q1.2.1, q1.2.2)
      else
        (C d 70 [.ref 10, .int x1, .int x2] S0 q1.2.1 q1.2.2).bind fun q2 => j_oi none (fun r2 =>
        R d kX6_weighedCost 16 [.ref 10, .int x1, .int x2, .long (y3 + (r1 * r2.toInt64)), .null, .int (x5 + 1), .null, .null] [] (S0, q2.2.1, q2.2.2)) q2.1) q1.1
    else
      R d kX6_weighedCost 16 [.ref 10, .int x1, .int x2, .long y3, .null, .int (x5 + 1), .null, .null] [] (S0, M, N)) := (R_ev d kX6_weighedCost 400 16 _ _ _).trans rfl
set_option maxRecDepth 100000 in
theorem bX6_layByChance_0 (d : Nat) (x1 : Int32) (x2 : Int32) (M : j_M) (N : j_N) : R d kX6_layByChance 0 [.ref 10, .int x1, .int x2, .null, .null, .null, .null] [] (S0, M, N) =
  (R d kX6_layByChance 5 [.ref 10, .int x1, .int x2, .long 1, .null, .int 0, .null] [] (S0, M, N)) := (R_ev d kX6_layByChance 400 0 _ _ _).trans rfl
set_option maxRecDepth 100000 in
theorem bX6_layByChance_5 (d : Nat) (x1 : Int32) (x2 : Int32) (y3 : Int64) (x5 : Int32) (M : j_M) (N : j_N) : R d kX6_layByChance 5 [.ref 10, .int x1, .int x2, .long y3, .null, .int x5, .null] [] (S0, M, N) =
  (if (M 1 6) ≤ x5 then
    some (some (.long y3), (S0, M, N))
  else
    if (lg_cmp y3 0) = 0 then
      some (some (.long y3), (S0, M, N))
    else
      if x5 = x2 then
        R d kX6_layByChance 5 [.ref 10, .int x1, .int x2, .long y3, .null, .int (x5 + 1), .null] [] (S0, M, N)
      else
        if ((x1 >>> (x5 &&& 31)) &&& 1) = 1 then
          bif j_in x5 6 then
          R d kX6_layByChance 83 [.ref 10, .int x1, .int x2, .long y3, .null, .int x5, .int 1] [.int (M 5 (x5).toNatClampNeg), .int x5, .ref 9] (S0, M, N) else none
        else
          bif j_in x5 6 then
          R d kX6_layByChance 83 [.ref 10, .int x1, .int x2, .long y3, .null, .int x5, .int 0] [.int (M 3 (x5).toNatClampNeg), .int x5, .ref 9] (S0, M, N) else none) := (R_ev d kX6_layByChance 400 5 _ _ _).trans rfl
set_option maxRecDepth 100000 in
theorem bX6_layByChance_83 (d : Nat) (x1 : Int32) (x2 : Int32) (y3 : Int64) (x5 : Int32) (x6 : Int32) (s1 : Int32) (s2 : Int32) (M : j_M) (N : j_N) : R d kX6_layByChance 83 [.ref 10, .int x1, .int x2, .long y3, .null, .int x5, .int x6] [.int s2, .int s1, .ref 9] (S0, M, N) =
  (bif j_in s1 7 then
  if x6 = 0 then
    bif j_in x5 6 then
    R d kX6_layByChance 5 [.ref 10, .int x1, .int x2, .long (y3 * (12 - (M 4 (x5).toNatClampNeg)).toInt64), .null, .int (x5 + 1), .null] [] (S0, (j_w M 9 (s1).toNatClampNeg s2), N) else none
  else
    bif j_in x5 6 then
    R d kX6_layByChance 5 [.ref 10, .int x1, .int x2, .long (y3 * (M 4 (x5).toNatClampNeg).toInt64), .null, .int (x5 + 1), .null] [] (S0, (j_w M 9 (s1).toNatClampNeg s2), N) else none else none) := (R_ev d kX6_layByChance 400 83 _ _ _).trans rfl
set_option maxRecDepth 100000 in
theorem bX6_sumOfLeastMean_0 (d : Nat) (x1 : Int32) (M : j_M) (N : j_N) : R d kX6_sumOfLeastMean 0 [.ref 10, .int x1, .null, .null, .null, .null, .null, .null, .null] [] (S0, M, N) =
  ((C d 83 [.ref 10, .int x1, .int 0] S0 M N).bind fun q1 => j_ol none (fun r1 =>
  (C d 74 [.ref 10, .int x1] S0 q1.2.1 q1.2.2).bind fun q2 => j_oi none (fun r2 =>
  R d kX6_sumOfLeastMean 19 [.ref 10, .int x1, .int 0, .long r1, .null, .int r2, .int 1, .null, .null] [] (S0, q2.2.1, q2.2.2)) q2.1) q1.1) := (R_ev d kX6_sumOfLeastMean 400 0 _ _ _).trans rfl
set_option maxRecDepth 100000 in
theorem bX6_sumOfLeastMean_19 (d : Nat) (x1 : Int32) (x2 : Int32) (y3 : Int64) (x5 : Int32) (x6 : Int32) (M : j_M) (N : j_N) : R d kX6_sumOfLeastMean 19 [.ref 10, .int x1, .int x2, .long y3, .null, .int x5, .int x6, .null, .null] [] (S0, M, N) =
  (if x5 ≤ x6 then
    some (some (.int x2), (S0, M, N))
  else
    (C d 83 [.ref 10, .int x1, .int (x6 * (M 1 9))] S0 M N).bind fun q1 => j_ol none (fun r1 =>
    if 0 ≤ (lg_cmp r1 y3) then
      R d kX6_sumOfLeastMean 19 [.ref 10, .int x1, .int x2, .long y3, .null, .int x5, .int (x6 + 1), .null, .null] [] (S0, q1.2.1, q1.2.2)
    else
      R d kX6_sumOfLeastMean 19 [.ref 10, .int x1, .int (x6 * (q1.2.1 1 9)), .long r1, .null, .int x5, .int (x6 + 1), .null, .null] [] (S0, q1.2.1, q1.2.2)) q1.1) := (R_ev d kX6_sumOfLeastMean 400 19 _ _ _).trans rfl
set_option maxRecDepth 100000 in
theorem bX7_pass_0 (d : Nat)  (M : j_M) (N : j_N) : R d kX7_pass 0 [.ref 21, .null, .null, .null] [] (S0, M, N) =
  ((C d 22 [.ref 8, .ref 1] S0 M N).bind fun q1 => j_ov none (
  R d kX7_pass 15 [.ref 21, .int 0, .int 0, .null] [] (S0, q1.2.1, q1.2.2)) q1.1) := (R_ev d kX7_pass 400 0 _ _ _).trans rfl
set_option maxRecDepth 100000 in
theorem bX7_pass_15 (d : Nat) (x1 : Int32) (x2 : Int32) (M : j_M) (N : j_N) : R d kX7_pass 15 [.ref 21, .int x1, .int x2, .null] [] (S0, M, N) =
  (if (M 1 6) ≤ x2 then
    (C d 31 [.ref 8] S0 M N).bind fun q1 => j_oi none (fun r1 =>
    some (some (.int x1), (S0, (j_w (j_w q1.2.1 1 10 ((M 1 10) + r1)) 1 11 ((q1.2.1 1 11) + 1)), q1.2.2))) q1.1
  else
    (C d 26 [.ref 8, .int x2] S0 M N).bind fun q2 => j_oi none (fun r2 =>
    bif j_in x2 6 then
    bif j_in x2 6 then
    R d kX7_pass 15 [.ref 21, .int (x1 + r2), .int (x2 + 1), .null] [] (S0, (j_w q2.2.1 7 (x2).toNatClampNeg ((q2.2.1 7 (x2).toNatClampNeg) + r2)), q2.2.2) else none else none) q2.1) := (R_ev d kX7_pass 400 15 _ _ _).trans rfl
set_option maxRecDepth 100000 in
theorem bX7_draw_0 (d : Nat) (x1 : Int32) (x2 : Int32) (x3 : Int32) (M : j_M) (N : j_N) : R d kX7_draw 0 [.ref 21, .int x1, .int x2, .int x3, .null, .null, .null, .null] [] (S0, M, N) =
  ((C d 22 [.ref 8, .ref 1] S0 M N).bind fun q1 => j_ov none (
  R d kX7_draw 27 [.ref 21, .null, .int x2, .int x3, .int x1, .int 0, .null, .null] [] (S0, (j_w (j_w q1.2.1 21 2 0) 21 3 0), q1.2.2)) q1.1) := (R_ev d kX7_draw 400 0 _ _ _).trans rfl
set_option maxRecDepth 100000 in
theorem bX7_draw_27 (d : Nat) (x2 : Int32) (x3 : Int32) (x4 : Int32) (x5 : Int32) (M : j_M) (N : j_N) : R d kX7_draw 27 [.ref 21, .null, .int x2, .int x3, .int x4, .int x5, .null, .null] [] (S0, M, N) =
  (if x2 ≤ x5 then
    some (none, (S0, M, N))
  else
    R d kX7_draw 36 [.ref 21, .null, .int x2, .int x3, .int x4, .int x5, .int 0, .null] [] (S0, M, N)) := (R_ev d kX7_draw 400 27 _ _ _).trans rfl
set_option maxRecDepth 100000 in
theorem bX7_draw_36 (d : Nat) (x2 : Int32) (x3 : Int32) (x4 : Int32) (x5 : Int32) (x6 : Int32) (M : j_M) (N : j_N) : R d kX7_draw 36 [.ref 21, .null, .int x2, .int x3, .int x4, .int x5, .int x6, .null] [] (S0, M, N) =
  (if (M 1 6) ≤ x6 then
    (C d 24 [.ref 8] S0 M N).bind fun q1 => j_ov none (
    (C d 27 [.ref 8, .int x3] S0 q1.2.1 q1.2.2).bind fun q2 => j_oi none (fun r2 =>
    if r2 ≤ 0 then
      (C d 26 [.ref 8, .int x3] S0 (j_w q2.2.1 21 2 ((q1.2.1 21 2) + 0)) q2.2.2).bind fun q3 => j_oi none (fun r3 =>
      R d kX7_draw 27 [.ref 21, .null, .int x2, .int x3, .int x4, .int (x5 + 1), .null, .null] [] (S0, (j_w q3.2.1 21 3 ((q2.2.1 21 3) + r3)), q3.2.2)) q3.1
    else
      (C d 26 [.ref 8, .int x3] S0 (j_w q2.2.1 21 2 ((q1.2.1 21 2) + 1)) q2.2.2).bind fun q4 => j_oi none (fun r4 =>
      R d kX7_draw 27 [.ref 21, .null, .int x2, .int x3, .int x4, .int (x5 + 1), .null, .null] [] (S0, (j_w q4.2.1 21 3 ((q2.2.1 21 3) + r4)), q4.2.2)) q4.1) q2.1) q1.1
  else
    R d kX7_draw 52 [.ref 21, .null, .int x2, .int x3, .null, .int x5, .int x6, .null] [.int 1103515245, .int x4] (S0, M, N)) := (R_ev d kX7_draw 400 36 _ _ _).trans rfl
set_option maxRecDepth 100000 in
theorem bX7_draw_52 (d : Nat) (x2 : Int32) (x3 : Int32) (x5 : Int32) (x6 : Int32) (s0 : Int32) (s1 : Int32) (M : j_M) (N : j_N) : R d kX7_draw 52 [.ref 21, .null, .int x2, .int x3, .null, .int x5, .int x6, .null] [.int s1, .int s0] (S0, M, N) =
  (R d kX7_draw 57 [.ref 21, .null, .int x2, .int x3, .null, .int x5, .int x6, .null] [.int ((s0 * s1) + 12345)] (S0, M, N)) := (R_ev d kX7_draw 400 52 _ _ _).trans rfl
set_option maxRecDepth 100000 in
theorem bX7_draw_57 (d : Nat) (x2 : Int32) (x3 : Int32) (x5 : Int32) (x6 : Int32) (s0 : Int32) (M : j_M) (N : j_N) : R d kX7_draw 57 [.ref 21, .null, .int x2, .int x3, .null, .int x5, .int x6, .null] [.int s0] (S0, M, N) =
  (bif j_in x6 6 then
  if (M 4 (x6).toNatClampNeg) ≤ (((s0).toUInt32 >>> ((8 : Int32).toUInt32 &&& Int32.toUInt32 31)).toInt32 - ((s0).toUInt32 >>> ((8 : Int32).toUInt32 &&& Int32.toUInt32 31)).toInt32 / 12 * 12) then
    bif j_in x6 6 then
    bif j_in x6 7 then
    R d kX7_draw 36 [.ref 21, .null, .int x2, .int x3, .int s0, .int x5, .int (x6 + 1), .null] [] (S0, (j_w M 9 (x6).toNatClampNeg (M 3 (x6).toNatClampNeg)), N) else none else none
  else
    bif j_in x6 6 then
    bif j_in x6 7 then
    R d kX7_draw 36 [.ref 21, .null, .int x2, .int x3, .int s0, .int x5, .int (x6 + 1), .null] [] (S0, (j_w M 9 (x6).toNatClampNeg (M 5 (x6).toNatClampNeg)), N) else none else none else none) := (R_ev d kX7_draw 400 57 _ _ _).trans rfl
set_option maxRecDepth 100000 in
theorem bX7_firstWrong_0 (d : Nat) (a1 : Nat) (x2 : Int32) (M : j_M) (N : j_N) : R d kX7_firstWrong 0 [.ref 21, .ref a1, .int x2, .null] [] (S0, M, N) =
  ((C d 22 [.ref 8, .ref 1] S0 M N).bind fun q1 => j_ov none (
  R d kX7_firstWrong 21 [.ref 21, .ref a1, .null, .int 0] [] (S0, (j_w q1.2.1 8 2 x2), q1.2.2)) q1.1) := (R_ev d kX7_firstWrong 400 0 _ _ _).trans rfl
set_option maxRecDepth 100000 in
theorem bX7_firstWrong_21 (d : Nat) (a1 : Nat) (x3 : Int32) (M : j_M) (N : j_N) : R d kX7_firstWrong 21 [.ref 21, .ref a1, .null, .int x3] [] (S0, M, N) =
  (if (M 1 6) ≤ x3 then
    some (some (.int (-2)), (S0, M, N))
  else
    bif Nat.beq (j_at S0 a1).1 12 then
    if (M a1 2) ≤ x3 then
      some (some (.int (-2)), (S0, M, N))
    else
      bif Nat.beq (j_at S0 a1).1 12 && Nat.ble 0 8 then (C d 104 [.ref a1, .int x3] S0 M N).bind fun q1 => j_ol none (fun r1 =>
      (C d 26 [.ref 8, .int x3] S0 q1.2.1 q1.2.2).bind fun q2 => j_oi none (fun r2 =>
      if (lg_cmp r1 r2.toInt64) = 0 then
        R d kX7_firstWrong 21 [.ref 21, .ref a1, .null, .int (x3 + 1)] [] (S0, q2.2.1, q2.2.2)
      else
        some (some (.int x3), (S0, q2.2.1, q2.2.2))) q2.1) q1.1 else none else none) := (R_ev d kX7_firstWrong 400 21 _ _ _).trans rfl
set_option maxRecDepth 100000 in
theorem bX7_rulesThatFit_0 (d : Nat) (a1 : Nat) (M : j_M) (N : j_N) : R d kX7_rulesThatFit 0 [.ref 21, .ref a1, .null, .null] [] (S0, M, N) =
  (R d kX7_rulesThatFit 4 [.ref 21, .ref a1, .int 0, .int 0] [] (S0, M, N)) := (R_ev d kX7_rulesThatFit 400 0 _ _ _).trans rfl
set_option maxRecDepth 100000 in
theorem bX7_rulesThatFit_4 (d : Nat) (a1 : Nat) (x2 : Int32) (x3 : Int32) (M : j_M) (N : j_N) : R d kX7_rulesThatFit 4 [.ref 21, .ref a1, .int x2, .int x3] [] (S0, M, N) =
  (if 5 ≤ x3 then
    some (some (.int x2), (S0, M, N))
  else
    (C d 89 [.ref 21, .ref a1, .int x3] S0 M N).bind fun q1 => j_oi none (fun r1 =>
    if r1 = (-2) then
      R d kX7_rulesThatFit 4 [.ref 21, .ref a1, .int (x2 ||| ((1 : Int32) <<< (x3 &&& 31))), .int (x3 + 1)] [] (S0, q1.2.1, q1.2.2)
    else
      R d kX7_rulesThatFit 4 [.ref 21, .ref a1, .int (x2 ||| 0), .int (x3 + 1)] [] (S0, q1.2.1, q1.2.2)) q1.1) := (R_ev d kX7_rulesThatFit 400 4 _ _ _).trans rfl
set_option maxRecDepth 100000 in
theorem bX7_weighRules_0 (d : Nat)  (M : j_M) (N : j_N) : R d kX7_weighRules 0 [.ref 21, .null, .null] [] (S0, M, N) =
  ((C d 22 [.ref 8, .ref 1] S0 M N).bind fun q1 => j_ov none (
  R d kX7_weighRules 13 [.ref 21, .int 0, .null] [] (S0, q1.2.1, q1.2.2)) q1.1) := (R_ev d kX7_weighRules 400 0 _ _ _).trans rfl
set_option maxRecDepth 100000 in
theorem bX7_weighRules_13 (d : Nat) (x1 : Int32) (M : j_M) (N : j_N) : R d kX7_weighRules 13 [.ref 21, .int x1, .null] [] (S0, M, N) =
  (if 5 ≤ x1 then
    some (none, (S0, M, N))
  else
    (C d 92 [.ref 21] S0 (j_w M 8 2 x1) N).bind fun q1 => j_oi none (fun r1 =>
    if x1 = 0 then
      R d kX7_weighRules 13 [.ref 21, .int (x1 + 1), .null] [] (S0, (j_w (j_w q1.2.1 21 4 x1) 21 5 r1), q1.2.2)
    else
      if (q1.2.1 21 5) ≤ r1 then
        R d kX7_weighRules 13 [.ref 21, .int (x1 + 1), .null] [] (S0, q1.2.1, q1.2.2)
      else
        R d kX7_weighRules 13 [.ref 21, .int (x1 + 1), .null] [] (S0, (j_w (j_w q1.2.1 21 4 x1) 21 5 r1), q1.2.2)) q1.1) := (R_ev d kX7_weighRules 400 13 _ _ _).trans rfl
set_option maxRecDepth 100000 in
theorem bX7_greatestCost_0 (d : Nat)  (M : j_M) (N : j_N) : R d kX7_greatestCost 0 [.ref 21, .null, .null] [] (S0, M, N) =
  (R d kX7_greatestCost 4 [.ref 21, .int 0, .int 0] [] (S0, M, N)) := (R_ev d kX7_greatestCost 400 0 _ _ _).trans rfl
set_option maxRecDepth 100000 in
theorem bX7_greatestCost_4 (d : Nat) (x1 : Int32) (x2 : Int32) (M : j_M) (N : j_N) : R d kX7_greatestCost 4 [.ref 21, .int x1, .int x2] [] (S0, M, N) =
  (if (M 1 6) ≤ x2 then
    some (some (.int x1), (S0, M, N))
  else
    (C d 26 [.ref 8, .int x2] S0 M N).bind fun q1 => j_oi none (fun r1 =>
    R d kX7_greatestCost 4 [.ref 21, .int (if x1 < r1 then r1 else x1), .int (x2 + 1)] [] (S0, q1.2.1, q1.2.2)) q1.1) := (R_ev d kX7_greatestCost 400 4 _ _ _).trans rfl
set_option maxRecDepth 100000 in
theorem bX8_take_0 (d : Nat)  (M : j_M) (N : j_N) : R d kX8_take 0 [.ref 27, .ref 1] [] (S0, M, N) =
  (bif (!(decide (0 < (0:Int32))) && !(decide (0 < (0:Int32))) && !(decide ((M 1 6) < (0:Int32))) && Nat.ble (0 + ((M 1 6)).toNatClampNeg) 6 && Nat.ble (0 + ((M 1 6)).toNatClampNeg) 6) && Nat.ble 0 8 then
  bif (!(decide (0 < (0:Int32))) && !(decide (0 < (0:Int32))) && !(decide ((M 1 6) < (0:Int32))) && Nat.ble (0 + ((M 1 6)).toNatClampNeg) 6 && Nat.ble (0 + ((M 1 6)).toNatClampNeg) 6) && Nat.ble 0 8 then
  some (none, (S0, (j_row (j_row (j_w (j_w (j_w (j_w M 27 5 1) 27 2 (M 1 6)) 27 3 (M 1 11)) 27 4 (M 1 10)) 28 (va_cpy ((j_w (j_w (j_w (j_w M 27 5 1) 27 2 (M 1 6)) 27 3 (M 1 11)) 27 4 (M 1 10)) 3) ((j_w (j_w (j_w (j_w M 27 5 1) 27 2 (M 1 6)) 27 3 (M 1 11)) 27 4 (M 1 10)) 28) 0 0 ((M 1 6)).toNatClampNeg)) 29 (va_cpy ((j_row (j_w (j_w (j_w (j_w M 27 5 1) 27 2 (M 1 6)) 27 3 (M 1 11)) 27 4 (M 1 10)) 28 (va_cpy ((j_w (j_w (j_w (j_w M 27 5 1) 27 2 (M 1 6)) 27 3 (M 1 11)) 27 4 (M 1 10)) 3) ((j_w (j_w (j_w (j_w M 27 5 1) 27 2 (M 1 6)) 27 3 (M 1 11)) 27 4 (M 1 10)) 28) 0 0 ((M 1 6)).toNatClampNeg)) 7) ((j_row (j_w (j_w (j_w (j_w M 27 5 1) 27 2 (M 1 6)) 27 3 (M 1 11)) 27 4 (M 1 10)) 28 (va_cpy ((j_w (j_w (j_w (j_w M 27 5 1) 27 2 (M 1 6)) 27 3 (M 1 11)) 27 4 (M 1 10)) 3) ((j_w (j_w (j_w (j_w M 27 5 1) 27 2 (M 1 6)) 27 3 (M 1 11)) 27 4 (M 1 10)) 28) 0 0 ((M 1 6)).toNatClampNeg)) 29) 0 0 ((M 1 6)).toNatClampNeg)), N)) else none else none) := (R_ev d kX8_take 400 0 _ _ _).trans rfl
set_option maxRecDepth 100000 in
theorem bX8_layBack_0 (d : Nat)  (M : j_M) (N : j_N) : R d kX8_layBack 0 [.ref 27, .ref 1] [] (S0, M, N) =
  ((C d 246 [.ref 7, .int 0] S0 (j_w (j_w M 1 11 (M 27 3)) 1 10 (M 27 4)) N).bind fun q1 => j_ov none (
  bif (!(decide (0 < (0:Int32))) && !(decide (0 < (0:Int32))) && !(decide ((q1.2.1 27 2) < (0:Int32))) && Nat.ble (0 + ((q1.2.1 27 2)).toNatClampNeg) 6 && Nat.ble (0 + ((q1.2.1 27 2)).toNatClampNeg) 6) && Nat.ble 0 8 then
  bif (!(decide (0 < (0:Int32))) && !(decide (0 < (0:Int32))) && !(decide ((q1.2.1 27 2) < (0:Int32))) && Nat.ble (0 + ((q1.2.1 27 2)).toNatClampNeg) 6 && Nat.ble (0 + ((q1.2.1 27 2)).toNatClampNeg) 6) && Nat.ble 0 8 then
  some (none, (S0, (j_row (j_row q1.2.1 3 (va_cpy (q1.2.1 28) (q1.2.1 3) 0 0 ((q1.2.1 27 2)).toNatClampNeg)) 7 (va_cpy ((j_row q1.2.1 3 (va_cpy (q1.2.1 28) (q1.2.1 3) 0 0 ((q1.2.1 27 2)).toNatClampNeg)) 29) ((j_row q1.2.1 3 (va_cpy (q1.2.1 28) (q1.2.1 3) 0 0 ((q1.2.1 27 2)).toNatClampNeg)) 7) 0 0 ((q1.2.1 27 2)).toNatClampNeg)), q1.2.2)) else none else none) q1.1) := (R_ev d kX8_layBack 400 0 _ _ _).trans rfl
set_option maxRecDepth 100000 in
theorem bX9_holdsNothing_0 (d : Nat) (a0 : Nat) (M : j_M) (N : j_N) : R d kX9_holdsNothing 0 [.ref a0] [] (S0, M, N) =
  (bif Nat.beq (j_at S0 a0).1 12 then
  if (M a0 4) = 0 then
    some (some (.int 1), (S0, M, N))
  else
    some (some (.int 0), (S0, M, N)) else none) := (R_ev d kX9_holdsNothing 400 0 _ _ _).trans rfl
set_option maxRecDepth 100000 in
theorem bX9_isRow_0 (d : Nat) (a0 : Nat) (M : j_M) (N : j_N) : R d kX9_isRow 0 [.ref a0] [] (S0, M, N) =
  (bif Nat.beq (j_at S0 a0).1 12 then
  if (M a0 4) = 2 then
    some (some (.int 1), (S0, M, N))
  else
    some (some (.int 0), (S0, M, N)) else none) := (R_ev d kX9_isRow 400 0 _ _ _).trans rfl
set_option maxRecDepth 100000 in
theorem bX9_isRowOf_0 (d : Nat) (a0 : Nat) (x1 : Int32) (M : j_M) (N : j_N) : R d kX9_isRowOf 0 [.ref a0, .int x1] [] (S0, M, N) =
  (bif Nat.beq (j_at S0 a0).1 12 then
  if (M a0 4) = 2 then
    bif Nat.beq (j_at S0 a0).1 12 then
    if (M a0 1) = x1 then
      some (some (.int 1), (S0, M, N))
    else
      some (some (.int 0), (S0, M, N)) else none
  else
    some (some (.int 0), (S0, M, N)) else none) := (R_ev d kX9_isRowOf 400 0 _ _ _).trans rfl
set_option maxRecDepth 100000 in
theorem bX9_holdHat_0 (d : Nat) (a0 : Nat) (x1 : Int32) (M : j_M) (N : j_N) : R d kX9_holdHat 0 [.ref a0, .int x1] [] (S0, M, N) =
  (if 0 ≤ x1 then
    bif Nat.beq (j_at S0 a0).1 12 then
    bif Nat.beq (j_at S0 a0).1 12 then
    bif Nat.beq (j_at S0 a0).1 12 then
    some (none, (S0, (j_w (j_w (j_w M a0 4 1) a0 3 x1) a0 2 0), N)) else none else none else none
  else
    bif Nat.beq (j_at S0 a0).1 12 then
    bif Nat.beq (j_at S0 a0).1 12 then
    bif Nat.beq (j_at S0 a0).1 12 then
    some (none, (S0, (j_w (j_w (j_w M a0 4 0) a0 3 x1) a0 2 0), N)) else none else none else none) := (R_ev d kX9_holdHat 400 0 _ _ _).trans rfl
set_option maxRecDepth 100000 in
theorem bX9_holdRow_0 (d : Nat) (a0 : Nat) (x1 : Int32) (x2 : Int32) (M : j_M) (N : j_N) : R d kX9_holdRow 0 [.ref a0, .int x1, .int x2] [] (S0, M, N) =
  (bif Nat.beq (j_at S0 a0).1 12 then
  bif Nat.beq (j_at S0 a0).1 12 then
  bif Nat.beq (j_at S0 a0).1 12 then
  bif Nat.beq (j_at S0 a0).1 12 then (bif (j_nth (j_at S0 a0).2.2 0).isSome then
  (C d 245 [.ref ((j_nth (j_at S0 a0).2.2 0).getD 0), .long 0] S0 (j_w (j_w (j_w M a0 4 2) a0 1 x1) a0 2 x2) N).bind fun q1 => j_ov none (
  some (none, (S0, q1.2.1, q1.2.2))) q1.1 else none) else none else none else none else none) := (R_ev d kX9_holdRow 400 0 _ _ _).trans rfl
set_option maxRecDepth 100000 in
theorem bX9_hasPlaces_0 (d : Nat) (a0 : Nat) (x1 : Int32) (x2 : Int32) (M : j_M) (N : j_N) : R d kX9_hasPlaces 0 [.ref a0, .int x1, .int x2] [] (S0, M, N) =
  (if x1 < 0 then
    some (some (.int 0), (S0, M, N))
  else
    if x2 < 0 then
      some (some (.int 0), (S0, M, N))
    else
      bif Nat.beq (j_at S0 a0).1 12 then
      if 0 < (lg_cmp (x1.toInt64 + x2.toInt64) (M a0 2).toInt64) then
        some (some (.int 0), (S0, M, N))
      else
        some (some (.int 1), (S0, M, N)) else none) := (R_ev d kX9_hasPlaces 400 0 _ _ _).trans rfl
set_option maxRecDepth 100000 in
theorem bX9_refusalAt_0 (d : Nat) (a0 : Nat) (x1 : Int32) (M : j_M) (N : j_N) : R d kX9_refusalAt 0 [.ref a0, .int x1] [] (S0, M, N) =
  (bif Nat.beq (j_at S0 a0).1 12 then
  if (M a0 4) = 0 then
    some (some (.int (-11)), (S0, M, N))
  else
    bif Nat.beq (j_at S0 a0).1 12 then
    if (M a0 4) = 2 then
      bif Nat.beq (j_at S0 a0).1 12 && Nat.ble 0 8 then (C d 102 [.ref a0, .int x1, .int 1] S0 M N).bind fun q1 => j_oi none (fun r1 =>
      if r1 = 0 then
        some (some (.int (-13)), (S0, q1.2.1, q1.2.2))
      else
        some (some (.int 0), (S0, q1.2.1, q1.2.2))) q1.1 else none
    else
      some (some (.int (-12)), (S0, M, N)) else none else none) := (R_ev d kX9_refusalAt 400 0 _ _ _).trans rfl
set_option maxRecDepth 100000 in
theorem bX9_get_0 (d : Nat) (a0 : Nat) (x1 : Int32) (M : j_M) (N : j_N) : R d kX9_get 0 [.ref a0, .int x1] [] (S0, M, N) =
  (bif Nat.beq (j_at S0 a0).1 12 && Nat.ble 0 8 then (C d 102 [.ref a0, .int x1, .int 1] S0 M N).bind fun q1 => j_oi none (fun r1 =>
  if r1 = 0 then
    some (some (.long 0), (S0, q1.2.1, q1.2.2))
  else
    bif Nat.beq (j_at S0 a0).1 12 then (bif (j_nth (j_at S0 a0).2.2 0).isSome then
    bif Nat.beq (j_at S0 ((j_nth (j_at S0 a0).2.2 0).getD 0)).1 1 && j_in x1 (j_at S0 ((j_nth (j_at S0 a0).2.2 0).getD 0)).2.1 then
    some (some (.long (q1.2.2 ((j_nth (j_at S0 a0).2.2 0).getD 0) (x1).toNatClampNeg)), (S0, q1.2.1, q1.2.2)) else none else none) else none) q1.1 else none) := (R_ev d kX9_get 400 0 _ _ _).trans rfl
set_option maxRecDepth 100000 in
theorem bX9_set_0 (d : Nat) (a0 : Nat) (x1 : Int32) (y2 : Int64) (M : j_M) (N : j_N) : R d kX9_set 0 [.ref a0, .int x1, .long y2, .null] [] (S0, M, N) =
  (bif Nat.beq (j_at S0 a0).1 12 && Nat.ble 0 8 then (C d 102 [.ref a0, .int x1, .int 1] S0 M N).bind fun q1 => j_oi none (fun r1 =>
  if r1 = 0 then
    some (none, (S0, q1.2.1, q1.2.2))
  else
    bif Nat.beq (j_at S0 a0).1 12 then (bif (j_nth (j_at S0 a0).2.2 0).isSome then
    bif Nat.beq (j_at S0 a0).1 12 && Nat.ble 2 8 then (C d 106 [.ref a0, .long y2] S0 q1.2.1 q1.2.2).bind fun q2 => j_ol none (fun r2 =>
    bif Nat.beq (j_at S0 ((j_nth (j_at S0 a0).2.2 0).getD 0)).1 1 && j_in x1 (j_at S0 ((j_nth (j_at S0 a0).2.2 0).getD 0)).2.1 then
    some (none, (S0, q2.2.1, (j_wl q2.2.2 ((j_nth (j_at S0 a0).2.2 0).getD 0) (x1).toNatClampNeg r2))) else none) q2.1 else none else none) else none) q1.1 else none) := (R_ev d kX9_set 400 0 _ _ _).trans rfl
set_option maxRecDepth 100000 in
theorem bX9_lowestBits_0 (d : Nat) (a0 : Nat) (y1 : Int64) (M : j_M) (N : j_N) : R d kX9_lowestBits 0 [.ref a0, .long y1, .null] [] (S0, M, N) =
  (bif Nat.beq (j_at S0 a0).1 12 then
  if (M a0 1) = 0 then
    some (some (.long y1.toInt32.toInt8.toInt32.toInt64), (S0, M, N))
  else if (M a0 1) = 1 then
    some (some (.long y1.toInt32.toInt16.toInt32.toInt64), (S0, M, N))
  else if (M a0 1) = 2 then
    some (some (.long y1.toInt32.toInt64), (S0, M, N))
  else if (M a0 1) = 3 then
    some (some (.long y1), (S0, M, N))
  else 
    if (lg_cmp y1 0) = 0 then
      some (some (.long 0), (S0, M, N))
    else
      some (some (.long 1), (S0, M, N)) else none) := (R_ev d kX9_lowestBits 400 0 _ _ _).trans rfl
