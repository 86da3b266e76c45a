/-! ===== the law's code, a call each (printed by wip/whole/genlaw.py) ===== -/
set_option maxRecDepth 100000 in
theorem i_x16 : i_ci 2 82 85 673 = true := by decide +kernel
set_option maxRecDepth 100000 in
theorem i_y16 : i_lk 2 82 124 10 839 = true := by decide +kernel
set_option maxRecDepth 100000 in
theorem i_z16 : i_lk 2 85 196 11 1435 = true := by decide +kernel
set_option maxRecDepth 100000 in
theorem i_x17 : i_ci 3 86 89 706 = true := by decide +kernel
set_option maxRecDepth 100000 in
theorem i_y17 : i_lk 3 86 125 10 864 = true := by decide +kernel
set_option maxRecDepth 100000 in
theorem i_z17 : i_lk 3 89 211 11 1500 = true := by decide +kernel
set_option maxRecDepth 100000 in
theorem i_x18 : i_ci 1 90 93 749 = true := by decide +kernel
set_option maxRecDepth 100000 in
theorem i_y18 : i_lk 1 90 126 10 902 = true := by decide +kernel
set_option maxRecDepth 100000 in
theorem i_z18 : i_lk 1 93 213 11 1508 = true := by decide +kernel
set_option maxRecDepth 100000 in
theorem i_x19 : i_cl 3 94 97 772 = true := by decide +kernel
set_option maxRecDepth 100000 in
theorem i_y19 : i_lk 3 94 127 10 910 = true := by decide +kernel
set_option maxRecDepth 100000 in
theorem i_z19 : i_lk 3 97 214 11 1516 = true := by decide +kernel
set_option maxRecDepth 100000 in
theorem i_x20 : i_ci 0 98 101 816 = true := by decide +kernel
set_option maxRecDepth 100000 in
theorem i_y20 : i_lk 0 98 128 10 919 = true := by decide +kernel
set_option maxRecDepth 100000 in
theorem i_z20 : i_lk 0 101 215 11 1520 = true := by decide +kernel
set_option maxRecDepth 100000 in
theorem i_x21 : i_ci 4 102 106 829 = true := by decide +kernel
set_option maxRecDepth 100000 in
theorem i_y21 : i_lk 4 102 129 10 933 = true := by decide +kernel
set_option maxRecDepth 100000 in
theorem i_z21 : i_lk 4 106 216 11 1524 = true := by decide +kernel
set_option maxRecDepth 100000 in
theorem i_x22 : i_ci 1 107 110 882 = true := by decide +kernel
set_option maxRecDepth 100000 in
theorem i_y22 : i_lk 1 107 130 10 944 = true := by decide +kernel
set_option maxRecDepth 100000 in
theorem i_z22 : i_lk 1 110 219 11 1530 = true := by decide +kernel
set_option maxRecDepth 100000 in
theorem i_x23 : i_ci 1 111 114 905 = true := by decide +kernel
set_option maxRecDepth 100000 in
theorem i_y23 : i_lk 1 111 131 10 957 = true := by decide +kernel
set_option maxRecDepth 100000 in
theorem i_z23 : i_lk 1 114 220 11 1542 = true := by decide +kernel
