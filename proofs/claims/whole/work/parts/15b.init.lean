/-! ===== both constructors, run by the kernel (own text) ===== -/
def i_e1 : j_Me := ([(13, 10, List.replicate 10 none)], fun _ _ => 0, fun _ _ => 0)
def i_s1 : Option j_R := j_run 3000 10 kX10_init 0 (j_pad kX10_init.2.2 (j_ent [.ref 0])) [] i_e1
def i_r1 : j_R := i_s1.getD (none, i_e1)
theorem i_ok1 : (i_s1.isSome && decide (i_r1.1 = none) && decide (i_r1.2.1 = S0.take 46)) = true := by decide +kernel
def i_e2 : j_Me := (i_r1.2.1 ++ [(14, 47, List.replicate 47 none)], j_row i_r1.2.2.1 46 (fun _ => 0), i_r1.2.2.2)
def i_s2 : Option j_R := j_run 3000 10 kX11_init 0 (j_pad kX11_init.2.2 (j_ent [.ref 46])) [] i_e2
def i_r2 : j_R := i_s2.getD (none, i_e2)
theorem i_ok2 : (i_s2.isSome && decide (i_r2.1 = none) && decide (i_r2.2.1 = S0)) = true := by decide +kernel
def i_m (c k : Nat) : Int32 := i_r2.2.2.1 c k
theorem i_mem : (decide (i_m 1 6 = 0) && decide (i_m 46 6 = 0) && (List.range 27).all (fun k => decide (i_m 47 k = if k = 24 then 60 else if k = 26 then 10 else 0)) && decide (i_m 1 7 = 60) && decide (i_m 1 8 = 0) && decide (i_m 1 9 = 10)) = true := by decide +kernel
