/-! ===== the law's code, a call each (printed by wip/whole/genlaw.py) ===== -/
set_option maxRecDepth 100000 in
theorem i_x8 : i_cl 3 49 53 448 = true := by decide +kernel
set_option maxRecDepth 100000 in
theorem i_y8 : i_lk 3 49 116 10 728 = true := by decide +kernel
set_option maxRecDepth 100000 in
theorem i_z8 : i_lk 3 53 183 11 1375 = true := by decide +kernel
set_option maxRecDepth 100000 in
theorem i_x9 : i_ci 1 54 57 492 = true := by decide +kernel
set_option maxRecDepth 100000 in
theorem i_y9 : i_lk 1 54 117 10 750 = true := by decide +kernel
set_option maxRecDepth 100000 in
theorem i_z9 : i_lk 1 57 184 11 1394 = true := by decide +kernel
set_option maxRecDepth 100000 in
theorem i_x10 : i_ci 1 58 61 515 = true := by decide +kernel
set_option maxRecDepth 100000 in
theorem i_y10 : i_lk 1 58 118 10 759 = true := by decide +kernel
set_option maxRecDepth 100000 in
theorem i_z10 : i_lk 1 61 187 11 1398 = true := by decide +kernel
set_option maxRecDepth 100000 in
theorem i_x11 : i_ci 1 62 65 538 = true := by decide +kernel
set_option maxRecDepth 100000 in
theorem i_y11 : i_lk 1 62 119 10 771 = true := by decide +kernel
set_option maxRecDepth 100000 in
theorem i_z11 : i_lk 1 65 189 11 1410 = true := by decide +kernel
set_option maxRecDepth 100000 in
theorem i_x12 : i_ci 1 66 69 561 = true := by decide +kernel
set_option maxRecDepth 100000 in
theorem i_y12 : i_lk 1 66 120 10 797 = true := by decide +kernel
set_option maxRecDepth 100000 in
theorem i_z12 : i_lk 1 69 190 11 1418 = true := by decide +kernel
set_option maxRecDepth 100000 in
theorem i_x13 : i_ci 2 70 73 584 = true := by decide +kernel
set_option maxRecDepth 100000 in
theorem i_y13 : i_lk 2 70 121 10 806 = true := by decide +kernel
set_option maxRecDepth 100000 in
theorem i_z13 : i_lk 2 73 191 11 1422 = true := by decide +kernel
set_option maxRecDepth 100000 in
theorem i_x14 : i_ci 1 74 77 617 = true := by decide +kernel
set_option maxRecDepth 100000 in
theorem i_y14 : i_lk 1 74 122 10 819 = true := by decide +kernel
set_option maxRecDepth 100000 in
theorem i_z14 : i_lk 1 77 192 11 1427 = true := by decide +kernel
set_option maxRecDepth 100000 in
theorem i_x15 : i_ci 2 78 81 640 = true := by decide +kernel
set_option maxRecDepth 100000 in
theorem i_y15 : i_lk 2 78 123 10 827 = true := by decide +kernel
set_option maxRecDepth 100000 in
theorem i_z15 : i_lk 2 81 193 11 1431 = true := by decide +kernel
