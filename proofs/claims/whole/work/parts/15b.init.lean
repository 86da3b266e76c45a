/-! ===== both constructors, run by the kernel (own text) ===== -/
def i_e1 : j_Me := ([(13, 10, List.replicate 10 none)], fun _ _ => 0, fun _ _ => 0)
def i_s1 : Option j_R := j_run 3000 10 kX10_init 0 (j_pad kX10_init.2.2 (j_ent [.ref 0])) [] i_e1
def i_r1 : j_R := i_s1.getD (none, i_e1)
theorem i_ok1 : (i_s1.isSome && decide (i_r1.1 = none) && decide (i_r1.2.1 = S0.take 46)) = true := by decide +kernel
