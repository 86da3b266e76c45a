/-! ===== block equations (printed by wip/whole/genblk.py) ===== -/
set_option maxRecDepth 100000 in
theorem bX11_feed_0 (d : Nat) (x1 : Int32) (M : j_M) (N : j_N) : R d kX11_feed 0 [.ref 46, .int x1] [] (S0, M, N) =
  ((C d 155 [.long x1.toInt64, .long 0, .long 255] S0 M N).bind fun q1 => j_oi none (fun r1 =>
  if r1 = 0 then
    some (some (.int (-1)), (S0, q1.2.1, q1.2.2))
  else
    if (q1.2.1 46 22) = 120 then
      some (some (.int (-3)), (S0, q1.2.1, q1.2.2))
    else
      bif j_in (q1.2.1 46 22) 120 then
      some (some (.int ((q1.2.1 46 22) + 1)), (S0, (j_w (j_w q1.2.1 59 ((q1.2.1 46 22)).toNatClampNeg x1) 46 22 ((q1.2.1 46 22) + 1)), q1.2.2)) else none) q1.1) := (R_ev d kX11_feed 400 0 _ _ _).trans rfl
set_option maxRecDepth 100000 in
theorem bX11_byteAt_0 (d : Nat)  (M : j_M) (N : j_N) : R d kX11_byteAt 0 [.ref 46] [] (S0, M, N) =
  (if (M 46 27) ≤ (M 46 26) then
    some (some (.int 0), (S0, M, N))
  else
    if 0 ≤ (M 46 25) then
      bif j_in ((M 46 25) + (M 46 26)) 120 then
      some (some (.int (M 60 (((M 46 25) + (M 46 26))).toNatClampNeg)), (S0, M, N)) else none
    else
      bif j_in (M 46 26) 120 then
      some (some (.int (M 59 ((M 46 26)).toNatClampNeg)), (S0, M, N)) else none) := (R_ev d kX11_byteAt 400 0 _ _ _).trans rfl
set_option maxRecDepth 100000 in
theorem bX11_wrong_0 (d : Nat)  (M : j_M) (N : j_N) : R d kX11_wrong 0 [.ref 46] [] (S0, M, N) =
  (if 0 ≤ (M 46 28) then
    some (some (.int 0), (S0, (j_w M 46 28 (M 46 28)), N))
  else
    some (some (.int 0), (S0, (j_w M 46 28 (M 46 26)), N))) := (R_ev d kX11_wrong 400 0 _ _ _).trans rfl
set_option maxRecDepth 100000 in
theorem bX11_takes_0 (d : Nat) (x1 : Int32) (M : j_M) (N : j_N) : R d kX11_takes 0 [.ref 46, .int x1] [] (S0, M, N) =
  (if 0 ≤ (M 46 28) then
    some (some (.int 0), (S0, M, N))
  else
    (C d 198 [.ref 46] S0 M N).bind fun q1 => j_oi none (fun r1 =>
    if r1 = x1 then
      some (some (.int 1), (S0, (j_w q1.2.1 46 26 ((q1.2.1 46 26) + 1)), q1.2.2))
    else
      some (some (.int 0), (S0, q1.2.1, q1.2.2))) q1.1) := (R_ev d kX11_takes 400 0 _ _ _).trans rfl
set_option maxRecDepth 100000 in
theorem bX11_either_0 (d : Nat)  (M : j_M) (N : j_N) : R d kX11_either 0 [.ref 46, .null, .null] [] (S0, M, N) =
  ((C d 202 [.ref 46] S0 M N).bind fun q1 => j_oi none (fun r1 =>
  R d kX11_either 5 [.ref 46, .int r1, .null] [] (S0, q1.2.1, q1.2.2)) q1.1) := (R_ev d kX11_either 400 0 _ _ _).trans rfl
set_option maxRecDepth 100000 in
theorem bX11_either_5 (d : Nat) (x1 : Int32) (M : j_M) (N : j_N) : R d kX11_either 5 [.ref 46, .int x1, .null] [] (S0, M, N) =
  ((C d 200 [.ref 46, .int 124] S0 M N).bind fun q1 => j_oi none (fun r1 =>
  if r1 = 0 then
    some (some (.int x1), (S0, q1.2.1, q1.2.2))
  else
    (C d 202 [.ref 46] S0 q1.2.1 q1.2.2).bind fun q2 => j_oi none (fun r2 =>
    if x1 = 0 then
      if r2 = 0 then
        R d kX11_either 5 [.ref 46, .int 0, .null] [] (S0, q2.2.1, q2.2.2)
      else
        R d kX11_either 5 [.ref 46, .int 1, .null] [] (S0, q2.2.1, q2.2.2)
    else
      R d kX11_either 5 [.ref 46, .int 1, .null] [] (S0, q2.2.1, q2.2.2)) q2.1) q1.1) := (R_ev d kX11_either 400 5 _ _ _).trans rfl
set_option maxRecDepth 100000 in
theorem bX11_both_0 (d : Nat)  (M : j_M) (N : j_N) : R d kX11_both 0 [.ref 46, .null, .null] [] (S0, M, N) =
  ((C d 203 [.ref 46] S0 M N).bind fun q1 => j_oi none (fun r1 =>
  R d kX11_both 5 [.ref 46, .int r1, .null] [] (S0, q1.2.1, q1.2.2)) q1.1) := (R_ev d kX11_both 400 0 _ _ _).trans rfl
set_option maxRecDepth 100000 in
theorem bX11_both_5 (d : Nat) (x1 : Int32) (M : j_M) (N : j_N) : R d kX11_both 5 [.ref 46, .int x1, .null] [] (S0, M, N) =
  ((C d 200 [.ref 46, .int 38] S0 M N).bind fun q1 => j_oi none (fun r1 =>
  if r1 = 0 then
    some (some (.int x1), (S0, q1.2.1, q1.2.2))
  else
    (C d 203 [.ref 46] S0 q1.2.1 q1.2.2).bind fun q2 => j_oi none (fun r2 =>
    if x1 = 0 then
      R d kX11_both 5 [.ref 46, .int 0, .null] [] (S0, q2.2.1, q2.2.2)
    else
      if r2 = 0 then
        R d kX11_both 5 [.ref 46, .int 0, .null] [] (S0, q2.2.1, q2.2.2)
      else
        R d kX11_both 5 [.ref 46, .int 1, .null] [] (S0, q2.2.1, q2.2.2)) q2.1) q1.1) := (R_ev d kX11_both 400 5 _ _ _).trans rfl
set_option maxRecDepth 100000 in
theorem bX11_compared_0 (d : Nat)  (M : j_M) (N : j_N) : R d kX11_compared 0 [.ref 46, .null, .null, .null] [] (S0, M, N) =
  ((C d 204 [.ref 46] S0 M N).bind fun q1 => j_oi none (fun r1 =>
  (C d 198 [.ref 46] S0 q1.2.1 q1.2.2).bind fun q2 => j_oi none (fun r2 =>
  if 0 ≤ (q2.2.1 46 28) then
    some (some (.int r1), (S0, q2.2.1, q2.2.2))
  else
    if r2 = 60 then
      R d kX11_compared 37 [.ref 46, .int r1, .int r2, .null] [] (S0, q2.2.1, q2.2.2)
    else
      if r2 = 61 then
        R d kX11_compared 37 [.ref 46, .int r1, .int r2, .null] [] (S0, q2.2.1, q2.2.2)
      else
        if r2 = 62 then
          R d kX11_compared 37 [.ref 46, .int r1, .int r2, .null] [] (S0, q2.2.1, q2.2.2)
        else
          some (some (.int r1), (S0, q2.2.1, q2.2.2))) q2.1) q1.1) := (R_ev d kX11_compared 400 0 _ _ _).trans rfl
set_option maxRecDepth 100000 in
theorem bX11_compared_37 (d : Nat) (x1 : Int32) (x2 : Int32) (M : j_M) (N : j_N) : R d kX11_compared 37 [.ref 46, .int x1, .int x2, .null] [] (S0, M, N) =
  ((C d 204 [.ref 46] S0 (j_w M 46 26 ((M 46 26) + 1)) N).bind fun q1 => j_oi none (fun r1 =>
  if x2 = 60 then
    if r1 ≤ x1 then
      some (some (.int 0), (S0, q1.2.1, q1.2.2))
    else
      some (some (.int 1), (S0, q1.2.1, q1.2.2))
  else
    if x2 = 61 then
      if x1 = r1 then
        some (some (.int 1), (S0, q1.2.1, q1.2.2))
      else
        some (some (.int 0), (S0, q1.2.1, q1.2.2))
    else
      if x1 ≤ r1 then
        some (some (.int 0), (S0, q1.2.1, q1.2.2))
      else
        some (some (.int 1), (S0, q1.2.1, q1.2.2))) q1.1) := (R_ev d kX11_compared 400 37 _ _ _).trans rfl
set_option maxRecDepth 100000 in
theorem bX11_sums_0 (d : Nat)  (M : j_M) (N : j_N) : R d kX11_sums 0 [.ref 46, .null, .null, .null] [] (S0, M, N) =
  ((C d 205 [.ref 46] S0 M N).bind fun q1 => j_oi none (fun r1 =>
  R d kX11_sums 5 [.ref 46, .int r1, .null, .null] [] (S0, q1.2.1, q1.2.2)) q1.1) := (R_ev d kX11_sums 400 0 _ _ _).trans rfl
set_option maxRecDepth 100000 in
theorem bX11_sums_5 (d : Nat) (x1 : Int32) (M : j_M) (N : j_N) : R d kX11_sums 5 [.ref 46, .int x1, .null, .null] [] (S0, M, N) =
  (if 0 ≤ (M 46 28) then
    some (some (.int x1), (S0, M, N))
  else
    (C d 198 [.ref 46] S0 M N).bind fun q1 => j_oi none (fun r1 =>
    if r1 = 43 then
      R d kX11_sums 30 [.ref 46, .int x1, .null, .null] [] (S0, q1.2.1, q1.2.2)
    else
      (C d 198 [.ref 46] S0 q1.2.1 q1.2.2).bind fun q2 => j_oi none (fun r2 =>
      if r2 = 45 then
        R d kX11_sums 30 [.ref 46, .int x1, .null, .null] [] (S0, q2.2.1, q2.2.2)
      else
        some (some (.int x1), (S0, q2.2.1, q2.2.2))) q2.1) q1.1) := (R_ev d kX11_sums 400 5 _ _ _).trans rfl
set_option maxRecDepth 100000 in
theorem bX11_sums_30 (d : Nat) (x1 : Int32) (M : j_M) (N : j_N) : R d kX11_sums 30 [.ref 46, .int x1, .null, .null] [] (S0, M, N) =
  ((C d 198 [.ref 46] S0 M N).bind fun q1 => j_oi none (fun r1 =>
  if r1 = 43 then
    (C d 205 [.ref 46] S0 (j_w q1.2.1 46 26 ((q1.2.1 46 26) + 1)) q1.2.2).bind fun q3 => j_oi none (fun r3 =>
    R d kX11_sums 5 [.ref 46, .int (x1 + r3), .null, .null] [] (S0, q3.2.1, q3.2.2)) q3.1
  else
    (C d 205 [.ref 46] S0 (j_w q1.2.1 46 26 ((q1.2.1 46 26) + 1)) q1.2.2).bind fun q2 => j_oi none (fun r2 =>
    R d kX11_sums 5 [.ref 46, .int (x1 - r2), .null, .null] [] (S0, q2.2.1, q2.2.2)) q2.1) q1.1) := (R_ev d kX11_sums 400 30 _ _ _).trans rfl
set_option maxRecDepth 100000 in
theorem bX11_product_0 (d : Nat)  (M : j_M) (N : j_N) : R d kX11_product 0 [.ref 46, .null, .null, .null] [] (S0, M, N) =
  ((C d 207 [.ref 46] S0 M N).bind fun q1 => j_oi none (fun r1 =>
  (C d 198 [.ref 46] S0 q1.2.1 q1.2.2).bind fun q2 => j_oi none (fun r2 =>
  R d kX11_product 10 [.ref 46, .int r1, .int r2, .null] [] (S0, q2.2.1, q2.2.2)) q2.1) q1.1) := (R_ev d kX11_product 400 0 _ _ _).trans rfl
set_option maxRecDepth 100000 in
theorem bX11_product_10 (d : Nat) (x1 : Int32) (x2 : Int32) (M : j_M) (N : j_N) : R d kX11_product 10 [.ref 46, .int x1, .int x2, .null] [] (S0, M, N) =
  (if 0 ≤ (M 46 28) then
    some (some (.int x1), (S0, M, N))
  else
    if x2 = 42 then
      R d kX11_product 35 [.ref 46, .int x1, .int x2, .null] [] (S0, M, N)
    else
      if x2 = 47 then
        R d kX11_product 35 [.ref 46, .int x1, .int x2, .null] [] (S0, M, N)
      else
        if x2 = 37 then
          R d kX11_product 35 [.ref 46, .int x1, .int x2, .null] [] (S0, M, N)
        else
          some (some (.int x1), (S0, M, N))) := (R_ev d kX11_product 400 10 _ _ _).trans rfl
set_option maxRecDepth 100000 in
theorem bX11_product_35 (d : Nat) (x1 : Int32) (x2 : Int32) (M : j_M) (N : j_N) : R d kX11_product 35 [.ref 46, .int x1, .int x2, .null] [] (S0, M, N) =
  ((C d 207 [.ref 46] S0 (j_w M 46 26 ((M 46 26) + 1)) N).bind fun q1 => j_oi none (fun r1 =>
  if x2 = 42 then
    (C d 198 [.ref 46] S0 q1.2.1 q1.2.2).bind fun q5 => j_oi none (fun r5 =>
    R d kX11_product 10 [.ref 46, .int (x1 * r1), .int r5, .null] [] (S0, q5.2.1, q5.2.2)) q5.1
  else
    if r1 = 0 then
      (C d 198 [.ref 46] S0 q1.2.1 q1.2.2).bind fun q4 => j_oi none (fun r4 =>
      R d kX11_product 10 [.ref 46, .int 0, .int r4, .null] [] (S0, q4.2.1, q4.2.2)) q4.1
    else
      if x2 = 47 then
        if r1 = 0 then none else
        (C d 198 [.ref 46] S0 q1.2.1 q1.2.2).bind fun q3 => j_oi none (fun r3 =>
        R d kX11_product 10 [.ref 46, .int (x1 / r1), .int r3, .null] [] (S0, q3.2.1, q3.2.2)) q3.1
      else
        if r1 = 0 then none else
        (C d 198 [.ref 46] S0 q1.2.1 q1.2.2).bind fun q2 => j_oi none (fun r2 =>
        R d kX11_product 10 [.ref 46, .int (x1 - x1 / r1 * r1), .int r2, .null] [] (S0, q2.2.1, q2.2.2)) q2.1) q1.1) := (R_ev d kX11_product 400 35 _ _ _).trans rfl
set_option maxRecDepth 100000 in
theorem bX11_nameOf_0 (d : Nat) (x0 : Int32) (M : j_M) (N : j_N) : R d kX11_nameOf 0 [.int x0] [] (S0, M, N) =
  (if x0 = 98 then
    some (some (.int 0), (S0, M, N))
  else if x0 = 107 then
    some (some (.int 3), (S0, M, N))
  else if x0 = 110 then
    some (some (.int 2), (S0, M, N))
  else if x0 = 112 then
    some (some (.int 1), (S0, M, N))
  else if x0 = 114 then
    some (some (.int 4), (S0, M, N))
  else 
    some (some (.int (-1)), (S0, M, N))) := (R_ev d kX11_nameOf 400 0 _ _ _).trans rfl
set_option maxRecDepth 100000 in
theorem bX11_one_0 (d : Nat)  (M : j_M) (N : j_N) : R d kX11_one 0 [.ref 46, .null, .null, .null, .null] [] (S0, M, N) =
  (if (M 46 28) < 0 then
    (C d 198 [.ref 46] S0 M N).bind fun q1 => j_oi none (fun r1 =>
    if r1 = 33 then
      R d kX11_one 32 [.ref 46, .int r1, .null, .null, .null] [] (S0, q1.2.1, q1.2.2)
    else
      if r1 = 45 then
        R d kX11_one 32 [.ref 46, .int r1, .null, .null, .null] [] (S0, q1.2.1, q1.2.2)
      else
        if r1 = 40 then
          R d kX11_one 32 [.ref 46, .int r1, .null, .null, .null] [] (S0, q1.2.1, q1.2.2)
        else
          (C d 206 [.int r1] S0 q1.2.1 q1.2.2).bind fun q2 => j_oi none (fun r2 =>
          if r2 < 0 then
            R d kX11_one 176 [.ref 46, .null, .null, .int 0, .int 0] [] (S0, q2.2.1, q2.2.2)
          else
            bif j_in r2 5 then
            some (some (.int (q2.2.1 61 (r2).toNatClampNeg)), (S0, (j_w q2.2.1 46 26 ((q2.2.1 46 26) + 1)), q2.2.2)) else none) q2.1) q1.1
  else
    some (some (.int 0), (S0, M, N))) := (R_ev d kX11_one 400 0 _ _ _).trans rfl
set_option maxRecDepth 100000 in
theorem bX11_one_32 (d : Nat) (x1 : Int32) (M : j_M) (N : j_N) : R d kX11_one 32 [.ref 46, .int x1, .null, .null, .null] [] (S0, M, N) =
  (if (M 46 29) = 6 then
    (C d 199 [.ref 46] S0 M N).bind fun q3 => j_oi none (fun r3 =>
    some (some (.int r3), (S0, q3.2.1, q3.2.2))) q3.1
  else
    if x1 = 40 then
      (C d 201 [.ref 46] S0 (j_w (j_w M 46 29 ((M 46 29) + 1)) 46 26 ((M 46 26) + 1)) N).bind fun q2 => j_oi none (fun r2 =>
      R d kX11_one 83 [.ref 46, .int x1, .null, .null, .null] [.int r2] (S0, q2.2.1, q2.2.2)) q2.1
    else
      (C d 207 [.ref 46] S0 (j_w (j_w M 46 29 ((M 46 29) + 1)) 46 26 ((M 46 26) + 1)) N).bind fun q1 => j_oi none (fun r1 =>
      R d kX11_one 83 [.ref 46, .int x1, .null, .null, .null] [.int r1] (S0, q1.2.1, q1.2.2)) q1.1) := (R_ev d kX11_one 400 32 _ _ _).trans rfl
set_option maxRecDepth 100000 in
theorem bX11_one_176 (d : Nat) (x3 : Int32) (x4 : Int32) (M : j_M) (N : j_N) : R d kX11_one 176 [.ref 46, .null, .null, .int x3, .int x4] [] (S0, M, N) =
  (if 4 ≤ x4 then
    if x4 = 0 then
      (C d 199 [.ref 46] S0 M N).bind fun q1 => j_oi none (fun r1 =>
      some (some (.int r1), (S0, q1.2.1, q1.2.2))) q1.1
    else
      some (some (.int x3), (S0, M, N))
  else
    (C d 198 [.ref 46] S0 M N).bind fun q2 => j_oi none (fun r2 =>
    if r2 < 48 then
      if x4 = 0 then
        (C d 199 [.ref 46] S0 q2.2.1 q2.2.2).bind fun q3 => j_oi none (fun r3 =>
        some (some (.int r3), (S0, q3.2.1, q3.2.2))) q3.1
      else
        some (some (.int x3), (S0, q2.2.1, q2.2.2))
    else
      (C d 198 [.ref 46] S0 q2.2.1 q2.2.2).bind fun q4 => j_oi none (fun r4 =>
      if 57 < r4 then
        if x4 = 0 then
          (C d 199 [.ref 46] S0 q4.2.1 q4.2.2).bind fun q5 => j_oi none (fun r5 =>
          some (some (.int r5), (S0, q5.2.1, q5.2.2))) q5.1
        else
          some (some (.int x3), (S0, q4.2.1, q4.2.2))
      else
        (C d 198 [.ref 46] S0 q4.2.1 q4.2.2).bind fun q6 => j_oi none (fun r6 =>
        R d kX11_one 176 [.ref 46, .null, .null, .int (((10 * x3) + r6) - 48), .int (x4 + 1)] [] (S0, (j_w q6.2.1 46 26 ((q6.2.1 46 26) + 1)), q6.2.2)) q6.1) q4.1) q2.1) := (R_ev d kX11_one 400 176 _ _ _).trans rfl
set_option maxRecDepth 100000 in
theorem bX11_one_83 (d : Nat) (x1 : Int32) (s0 : Int32) (M : j_M) (N : j_N) : R d kX11_one 83 [.ref 46, .int x1, .null, .null, .null] [.int s0] (S0, M, N) =
  (if x1 = 40 then
    (C d 200 [.ref 46, .int 41] S0 M N).bind fun q1 => j_oi none (fun r1 =>
    if r1 = 0 then
      (C d 199 [.ref 46] S0 q1.2.1 q1.2.2).bind fun q2 => j_oi none (fun r2 =>
      some (some (.int r2), (S0, q2.2.1, q2.2.2))) q2.1
    else
      if x1 = 40 then
        some (some (.int s0), (S0, (j_w q1.2.1 46 29 ((q1.2.1 46 29) - 1)), q1.2.2))
      else
        if x1 = 45 then
          some (some (.int (-s0)), (S0, (j_w q1.2.1 46 29 ((q1.2.1 46 29) - 1)), q1.2.2))
        else
          if s0 = 0 then
            some (some (.int 1), (S0, (j_w q1.2.1 46 29 ((q1.2.1 46 29) - 1)), q1.2.2))
          else
            some (some (.int 0), (S0, (j_w q1.2.1 46 29 ((q1.2.1 46 29) - 1)), q1.2.2))) q1.1
  else
    if x1 = 40 then
      some (some (.int s0), (S0, (j_w M 46 29 ((M 46 29) - 1)), N))
    else
      if x1 = 45 then
        some (some (.int (-s0)), (S0, (j_w M 46 29 ((M 46 29) - 1)), N))
      else
        if s0 = 0 then
          some (some (.int 1), (S0, (j_w M 46 29 ((M 46 29) - 1)), N))
        else
          some (some (.int 0), (S0, (j_w M 46 29 ((M 46 29) - 1)), N))) := (R_ev d kX11_one 400 83 _ _ _).trans rfl
set_option maxRecDepth 100000 in
theorem bX11_workOut_0 (d : Nat) (x1 : Int32) (x2 : Int32) (M : j_M) (N : j_N) : R d kX11_workOut 0 [.ref 46, .int x1, .int x2, .null, .null, .null, .null, .null] [] (S0, M, N) =
  (R d kX11_workOut 33 [.ref 46, .null, .null, .int 0, .int 0, .int 1, .null, .null] [] (S0, (j_w (j_w (j_w (j_w (j_w M 46 25 x1) 46 26 0) 46 27 x2) 46 28 (-1)) 46 29 0), N)) := (R_ev d kX11_workOut 400 0 _ _ _).trans rfl
set_option maxRecDepth 100000 in
theorem bX11_workOut_33 (d : Nat) (x3 : Int32) (x4 : Int32) (x5 : Int32) (M : j_M) (N : j_N) : R d kX11_workOut 33 [.ref 46, .null, .null, .int x3, .int x4, .int x5, .null, .null] [] (S0, M, N) =
  (if x5 = 0 then
    if 0 ≤ (M 46 28) then
      some (some (.int x4), (S0, M, N))
    else
      if (M 46 27) ≤ (M 46 26) then
        some (some (.int x4), (S0, M, N))
      else
        (C d 199 [.ref 46] S0 M N).bind fun q1 => j_oi none (fun r1 =>
        some (some (.int r1), (S0, q1.2.1, q1.2.2))) q1.1
  else
    (C d 201 [.ref 46] S0 M N).bind fun q2 => j_oi none (fun r2 =>
    (C d 200 [.ref 46, .int 63] S0 q2.2.1 q2.2.2).bind fun q3 => j_oi none (fun r3 =>
    if r3 = 0 then
      R d kX11_workOut 74 [.ref 46, .null, .null, .int x3, .int x4, .null, .int r2, .int 1] [] (S0, q3.2.1, q3.2.2)
    else
      if r2 = 0 then
        (C d 201 [.ref 46] S0 q3.2.1 q3.2.2).bind fun q4 => j_oi none (fun r4 =>
        R d kX11_workOut 74 [.ref 46, .null, .null, .int x3, .int x4, .null, .int r4, .int 0] [] (S0, q4.2.1, q4.2.2)) q4.1
      else
        (C d 201 [.ref 46] S0 q3.2.1 q3.2.2).bind fun q5 => j_oi none (fun r5 =>
        R d kX11_workOut 74 [.ref 46, .null, .null, .int x3, .int x4, .null, .int r5, .int 1] [] (S0, q5.2.1, q5.2.2)) q5.1) q3.1) q2.1) := (R_ev d kX11_workOut 400 33 _ _ _).trans rfl
set_option maxRecDepth 100000 in
theorem bX11_workOut_74 (d : Nat) (x3 : Int32) (x4 : Int32) (x6 : Int32) (x7 : Int32) (M : j_M) (N : j_N) : R d kX11_workOut 74 [.ref 46, .null, .null, .int x3, .int x4, .null, .int x6, .int x7] [] (S0, M, N) =
  (if 0 ≤ (M 46 28) then
    (C d 200 [.ref 46, .int 59] S0 M N).bind fun q1 => j_oi none (fun r1 =>
    R d kX11_workOut 33 [.ref 46, .null, .null, .int x3, .int x4, .int r1, .null, .null] [] (S0, q1.2.1, q1.2.2)) q1.1
  else
    if x7 = 0 then
      (C d 200 [.ref 46, .int 59] S0 M N).bind fun q2 => j_oi none (fun r2 =>
      R d kX11_workOut 33 [.ref 46, .null, .null, .int x3, .int x4, .int r2, .null, .null] [] (S0, q2.2.1, q2.2.2)) q2.1
    else
      if x3 = 0 then
        (C d 200 [.ref 46, .int 59] S0 M N).bind fun q4 => j_oi none (fun r4 =>
        R d kX11_workOut 33 [.ref 46, .null, .null, .int 1, .int x6, .int r4, .null, .null] [] (S0, q4.2.1, q4.2.2)) q4.1
      else
        (C d 200 [.ref 46, .int 59] S0 M N).bind fun q3 => j_oi none (fun r3 =>
        R d kX11_workOut 33 [.ref 46, .null, .null, .int x3, .int x4, .int r3, .null, .null] [] (S0, q3.2.1, q3.2.2)) q3.1) := (R_ev d kX11_workOut 400 74 _ _ _).trans rfl
set_option maxRecDepth 100000 in
theorem bX11_law_0 (d : Nat)  (M : j_M) (N : j_N) : R d kX11_law 0 [.ref 46, .null, .null, .null] [] (S0, M, N) =
  ((C d 208 [.ref 46, .int (-1), .int (M 46 22)] S0 M N).bind fun q1 => j_oi none (fun r1 =>
  if (q1.2.1 46 28) < 0 then
    R d kX11_law 37 [.ref 46, .null, .int (q1.2.1 46 22), .int 0] [] (S0, (j_w q1.2.1 46 22 0), q1.2.2)
  else
    some (some (.int ((-100) - (q1.2.1 46 28))), (S0, (j_w q1.2.1 46 22 0), q1.2.2))) q1.1) := (R_ev d kX11_law 400 0 _ _ _).trans rfl
set_option maxRecDepth 100000 in
theorem bX11_law_37 (d : Nat) (x2 : Int32) (x3 : Int32) (M : j_M) (N : j_N) : R d kX11_law 37 [.ref 46, .null, .int x2, .int x3] [] (S0, M, N) =
  (if x2 ≤ x3 then
    some (some (.int 1), (S0, (j_w M 46 24 x2), N))
  else
    bif j_in x3 120 then
    bif j_in x3 120 then
    R d kX11_law 37 [.ref 46, .null, .int x2, .int (x3 + 1)] [] (S0, (j_w M 60 (x3).toNatClampNeg (M 59 (x3).toNatClampNeg)), N) else none else none) := (R_ev d kX11_law 400 37 _ _ _).trans rfl
set_option maxRecDepth 100000 in
theorem bX11_wouldGive_0 (d : Nat) (x1 : Int32) (x2 : Int32) (M : j_M) (N : j_N) : R d kX11_wouldGive 0 [.ref 46, .int x1, .int x2, .null] [] (S0, M, N) =
  (if (M 46 6) = 0 then none else
  if (M 46 24) < 0 then
    if 0 ≤ (x2 / (M 46 6)) then
      bif j_in x1 27 then
      if (x2 / (M 46 6)) ≤ (M 47 (x1).toNatClampNeg) then
        some (some (.int (x2 / (M 46 6))), (S0, M, N))
      else
        bif j_in x1 27 then
        some (some (.int (M 47 (x1).toNatClampNeg)), (S0, M, N)) else none else none
    else
      some (some (.int 0), (S0, M, N))
  else
    bif j_in x1 27 then
    (C d 208 [.ref 46, .int 0, .int (M 46 24)] S0 (j_w (j_w (j_w (j_w (j_w M 61 0 x2) 61 1 (M 47 (x1).toNatClampNeg)) 61 2 x1) 61 3 (M 46 6)) 61 4 (M 47 25)) N).bind fun q1 => j_oi none (fun r1 =>
    if 0 ≤ r1 then
      bif j_in x1 27 then
      if r1 ≤ (q1.2.1 47 (x1).toNatClampNeg) then
        some (some (.int r1), (S0, q1.2.1, q1.2.2))
      else
        bif j_in x1 27 then
        some (some (.int (q1.2.1 47 (x1).toNatClampNeg)), (S0, q1.2.1, q1.2.2)) else none else none
    else
      some (some (.int 0), (S0, q1.2.1, q1.2.2))) q1.1 else none) := (R_ev d kX11_wouldGive 400 0 _ _ _).trans rfl
set_option maxRecDepth 100000 in
theorem bX11_thought_0 (d : Nat) (x1 : Int32) (x2 : Int32) (x3 : Int32) (M : j_M) (N : j_N) : R d kX11_thought 0 [.ref 46, .int x1, .int x2, .int x3, .null, .null, .null] [] (S0, M, N) =
  ((C d 160 [.ref 46, .int x1] S0 M N).bind fun q1 => j_oi none (fun r1 =>
  if r1 = 0 then
    some (some (.int (-1)), (S0, q1.2.1, q1.2.2))
  else
    (C d 155 [.long x2.toInt64, .long 0, .long 99] S0 q1.2.1 q1.2.2).bind fun q2 => j_oi none (fun r2 =>
    if r2 = 0 then
      some (some (.int (-1)), (S0, q2.2.1, q2.2.2))
    else
      (C d 155 [.long x3.toInt64, .long 0, .long 1] S0 q2.2.1 q2.2.2).bind fun q3 => j_oi none (fun r3 =>
      if r3 = 0 then
        some (some (.int (-1)), (S0, q3.2.1, q3.2.2))
      else
        R d kX11_thought 43 [.ref 46, .int x1, .int x2, .int x3, .int (-2), .int (-2), .int 0] [] (S0, q3.2.1, q3.2.2)) q3.1) q2.1) q1.1) := (R_ev d kX11_thought 400 0 _ _ _).trans rfl
set_option maxRecDepth 100000 in
theorem bX11_thought_43 (d : Nat) (x1 : Int32) (x2 : Int32) (x3 : Int32) (x4 : Int32) (x5 : Int32) (x6 : Int32) (M : j_M) (N : j_N) : R d kX11_thought 43 [.ref 46, .int x1, .int x2, .int x3, .int x4, .int x5, .int x6] [] (S0, M, N) =
  (if 599 < x6 then
    if x3 = 0 then
      some (some (.int x4), (S0, M, N))
    else
      some (some (.int x5), (S0, M, N))
  else
    (C d 210 [.ref 46, .int x1, .int x6] S0 M N).bind fun q1 => j_oi none (fun r1 =>
    if r1 = x2 then
      if 0 ≤ x4 then
        R d kX11_thought 43 [.ref 46, .int x1, .int x2, .int x3, .int x4, .int x6, .int (x6 + 1)] [] (S0, q1.2.1, q1.2.2)
      else
        R d kX11_thought 43 [.ref 46, .int x1, .int x2, .int x3, .int x6, .int x6, .int (x6 + 1)] [] (S0, q1.2.1, q1.2.2)
    else
      R d kX11_thought 43 [.ref 46, .int x1, .int x2, .int x3, .int x4, .int x5, .int (x6 + 1)] [] (S0, q1.2.1, q1.2.2)) q1.1) := (R_ev d kX11_thought 400 43 _ _ _).trans rfl
set_option maxRecDepth 100000 in
theorem bX11_givenBy_0 (d : Nat) (x1 : Int32) (M : j_M) (N : j_N) : R d kX11_givenBy 0 [.ref 46, .int x1] [] (S0, M, N) =
  (bif j_in x1 6 then
  if 0 ≤ (M 51 (x1).toNatClampNeg) then
    bif j_in x1 6 then
    (C d 210 [.ref 46, .int x1, .int (M 51 (x1).toNatClampNeg)] S0 M N).bind fun q1 => j_oi none (fun r1 =>
    some (some (.int r1), (S0, q1.2.1, q1.2.2))) q1.1 else none
  else
    (C d 210 [.ref 46, .int x1, .int (M 47 24)] S0 M N).bind fun q2 => j_oi none (fun r2 =>
    some (some (.int r2), (S0, q2.2.1, q2.2.2))) q2.1 else none) := (R_ev d kX11_givenBy 400 0 _ _ _).trans rfl
set_option maxRecDepth 100000 in
theorem bX11_given_0 (d : Nat) (x1 : Int32) (M : j_M) (N : j_N) : R d kX11_given 0 [.ref 46, .int x1, .null, .null] [] (S0, M, N) =
  (if x1 = (-1) then
    if x1 < 0 then
      R d kX11_given 29 [.ref 46, .null, .int 0, .int 0] [] (S0, M, N)
    else
      (C d 212 [.ref 46, .int x1] S0 M N).bind fun q1 => j_oi none (fun r1 =>
      some (some (.int r1), (S0, q1.2.1, q1.2.2))) q1.1
  else
    (C d 160 [.ref 46, .int x1] S0 M N).bind fun q2 => j_oi none (fun r2 =>
    if r2 = 0 then
      some (some (.int (-1)), (S0, q2.2.1, q2.2.2))
    else
      if x1 < 0 then
        R d kX11_given 29 [.ref 46, .null, .int 0, .int 0] [] (S0, q2.2.1, q2.2.2)
      else
        (C d 212 [.ref 46, .int x1] S0 q2.2.1 q2.2.2).bind fun q3 => j_oi none (fun r3 =>
        some (some (.int r3), (S0, q3.2.1, q3.2.2))) q3.1) q2.1) := (R_ev d kX11_given 400 0 _ _ _).trans rfl
set_option maxRecDepth 100000 in
theorem bX11_given_29 (d : Nat) (x2 : Int32) (x3 : Int32) (M : j_M) (N : j_N) : R d kX11_given 29 [.ref 46, .null, .int x2, .int x3] [] (S0, M, N) =
  (if (M 46 6) ≤ x3 then
    some (some (.int x2), (S0, M, N))
  else
    (C d 212 [.ref 46, .int x3] S0 M N).bind fun q1 => j_oi none (fun r1 =>
    R d kX11_given 29 [.ref 46, .null, .int (x2 + r1), .int (x3 + 1)] [] (S0, q1.2.1, q1.2.2)) q1.1) := (R_ev d kX11_given 400 29 _ _ _).trans rfl
