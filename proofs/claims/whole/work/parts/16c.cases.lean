/-! ===== the law's code, a call each (printed by wip/whole/genlaw.py) ===== -/
set_option maxRecDepth 100000 in
theorem i_x0 : i_ci 1 13 17 204 = true := by decide +kernel
set_option maxRecDepth 100000 in
theorem i_y0 : i_lk 1 13 108 10 498 = true := by decide +kernel
set_option maxRecDepth 100000 in
theorem i_z0 : i_lk 1 17 161 11 1281 = true := by decide +kernel
set_option maxRecDepth 100000 in
theorem i_x1 : i_ci 3 18 22 227 = true := by decide +kernel
set_option maxRecDepth 100000 in
theorem i_y1 : i_lk 3 18 109 10 509 = true := by decide +kernel
set_option maxRecDepth 100000 in
theorem i_z1 : i_lk 3 22 162 11 1289 = true := by decide +kernel
set_option maxRecDepth 100000 in
theorem i_x2 : i_ci 3 23 26 270 = true := by decide +kernel
set_option maxRecDepth 100000 in
theorem i_y2 : i_lk 3 23 110 10 537 = true := by decide +kernel
set_option maxRecDepth 100000 in
theorem i_z2 : i_lk 3 26 163 11 1298 = true := by decide +kernel
set_option maxRecDepth 100000 in
theorem i_x3 : i_ci 2 27 31 313 = true := by decide +kernel
set_option maxRecDepth 100000 in
theorem i_y3 : i_lk 2 27 111 10 569 = true := by decide +kernel
set_option maxRecDepth 100000 in
theorem i_z3 : i_lk 2 31 165 11 1313 = true := by decide +kernel
set_option maxRecDepth 100000 in
theorem i_x4 : i_ci 2 32 35 346 = true := by decide +kernel
set_option maxRecDepth 100000 in
theorem i_y4 : i_lk 2 32 112 10 622 = true := by decide +kernel
set_option maxRecDepth 100000 in
theorem i_z4 : i_lk 2 35 166 11 1358 = true := by decide +kernel
set_option maxRecDepth 100000 in
theorem i_x5 : i_ci 1 36 39 379 = true := by decide +kernel
set_option maxRecDepth 100000 in
theorem i_y5 : i_lk 1 36 113 10 626 = true := by decide +kernel
set_option maxRecDepth 100000 in
theorem i_z5 : i_lk 1 39 197 11 1448 = true := by decide +kernel
set_option maxRecDepth 100000 in
theorem i_x6 : i_ci 0 40 44 402 = true := by decide +kernel
set_option maxRecDepth 100000 in
theorem i_y6 : i_lk 0 40 114 10 634 = true := by decide +kernel
set_option maxRecDepth 100000 in
theorem i_z6 : i_lk 0 44 209 11 1453 = true := by decide +kernel
set_option maxRecDepth 100000 in
theorem i_x7 : i_ci 2 45 48 415 = true := by decide +kernel
set_option maxRecDepth 100000 in
theorem i_y7 : i_lk 2 45 115 10 709 = true := by decide +kernel
set_option maxRecDepth 100000 in
theorem i_z7 : i_lk 2 48 178 11 1363 = true := by decide +kernel
