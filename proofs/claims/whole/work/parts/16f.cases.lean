/-! ===== the law's code, a call each (printed by wip/whole/genlaw.py) ===== -/
set_option maxRecDepth 100000 in
theorem i_x24 : i_ci 1 115 118 928 = true := by decide +kernel
set_option maxRecDepth 100000 in
theorem i_y24 : i_lk 1 115 132 10 966 = true := by decide +kernel
set_option maxRecDepth 100000 in
theorem i_z24 : i_lk 1 118 221 11 1546 = true := by decide +kernel
set_option maxRecDepth 100000 in
theorem i_x25 : i_ci 0 119 122 951 = true := by decide +kernel
set_option maxRecDepth 100000 in
theorem i_y25 : i_lk 0 119 133 10 979 = true := by decide +kernel
set_option maxRecDepth 100000 in
theorem i_z25 : i_lk 0 122 222 11 1550 = true := by decide +kernel
set_option maxRecDepth 100000 in
theorem i_x26 : i_ci 0 123 126 964 = true := by decide +kernel
set_option maxRecDepth 100000 in
theorem i_y26 : i_lk 0 123 134 10 988 = true := by decide +kernel
set_option maxRecDepth 100000 in
theorem i_z26 : i_lk 0 126 223 11 1554 = true := by decide +kernel
set_option maxRecDepth 100000 in
theorem i_x27 : i_ci 0 127 130 977 = true := by decide +kernel
set_option maxRecDepth 100000 in
theorem i_y27 : i_lk 0 127 135 10 999 = true := by decide +kernel
set_option maxRecDepth 100000 in
theorem i_z27 : i_lk 0 130 158 11 1273 = true := by decide +kernel
set_option maxRecDepth 100000 in
theorem i_x28 : i_ci 0 131 134 990 = true := by decide +kernel
set_option maxRecDepth 100000 in
theorem i_y28 : i_lk 0 131 136 10 1008 = true := by decide +kernel
set_option maxRecDepth 100000 in
theorem i_z28 : i_lk 0 134 159 11 1277 = true := by decide +kernel
set_option maxRecDepth 100000 in
theorem i_x29 : i_ci 1 135 138 1003 = true := by decide +kernel
set_option maxRecDepth 100000 in
theorem i_y29 : i_lk 1 135 137 10 1016 = true := by decide +kernel
set_option maxRecDepth 100000 in
theorem i_z29 : i_lk 1 138 226 11 1558 = true := by decide +kernel
set_option maxRecDepth 100000 in
theorem i_x30 : i_ci 3 139 142 1026 = true := by decide +kernel
set_option maxRecDepth 100000 in
theorem i_y30 : i_lk 3 139 138 10 1024 = true := by decide +kernel
set_option maxRecDepth 100000 in
theorem i_z30 : i_lk 3 142 233 11 1563 = true := by decide +kernel
set_option maxRecDepth 100000 in
theorem i_x31 : i_ci 1 143 146 1069 = true := by decide +kernel
set_option maxRecDepth 100000 in
theorem i_y31 : i_lk 1 143 139 10 1052 = true := by decide +kernel
set_option maxRecDepth 100000 in
theorem i_z31 : i_lk 1 146 234 11 1591 = true := by decide +kernel
