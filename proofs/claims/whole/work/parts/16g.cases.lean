/-! ===== the law's code, a call each (printed by wip/whole/genlaw.py) ===== -/
set_option maxRecDepth 100000 in
theorem i_x32 : i_ci 2 147 150 1092 = true := by decide +kernel
set_option maxRecDepth 100000 in
theorem i_y32 : i_lk 2 147 140 10 1060 = true := by decide +kernel
set_option maxRecDepth 100000 in
theorem i_z32 : i_lk 2 150 236 11 1595 = true := by decide +kernel
set_option maxRecDepth 100000 in
theorem i_x33 : i_ci 3 151 154 1125 = true := by decide +kernel
set_option maxRecDepth 100000 in
theorem i_y33 : i_lk 3 151 141 10 1069 = true := by decide +kernel
set_option maxRecDepth 100000 in
theorem i_z33 : i_lk 3 154 237 11 1599 = true := by decide +kernel
set_option maxRecDepth 100000 in
theorem i_x34 : i_cp 157 161 1168 = true := by decide +kernel
set_option maxRecDepth 100000 in
theorem i_y34 : i_lk 3 157 142 10 1080 = true := by decide +kernel
set_option maxRecDepth 100000 in
theorem i_z34 : i_lk 3 161 240 11 1603 = true := by decide +kernel
set_option maxRecDepth 100000 in
theorem i_x35 : i_cl 2 162 166 1241 = true := by decide +kernel
set_option maxRecDepth 100000 in
theorem i_y35 : i_lk 2 162 143 10 1096 = true := by decide +kernel
set_option maxRecDepth 100000 in
theorem i_z35 : i_lk 2 166 241 11 1614 = true := by decide +kernel
set_option maxRecDepth 100000 in
theorem i_x36 : i_ci 5 167 171 1275 = true := by decide +kernel
set_option maxRecDepth 100000 in
theorem i_y36 : i_lk 5 167 144 10 1100 = true := by decide +kernel
set_option maxRecDepth 100000 in
theorem i_z36 : i_lk 5 171 242 11 1618 = true := by decide +kernel
set_option maxRecDepth 100000 in
theorem i_x37 : i_ci 2 172 175 1338 = true := by decide +kernel
set_option maxRecDepth 100000 in
theorem i_y37 : i_lk 2 172 145 10 1110 = true := by decide +kernel
set_option maxRecDepth 100000 in
theorem i_z37 : i_lk 2 175 243 11 1622 = true := by decide +kernel
set_option maxRecDepth 100000 in
theorem i_x38 : i_ci 1 176 179 1371 = true := by decide +kernel
set_option maxRecDepth 100000 in
theorem i_y38 : i_lk 1 176 146 10 1121 = true := by decide +kernel
set_option maxRecDepth 100000 in
theorem i_z38 : i_lk 1 179 244 11 1633 = true := by decide +kernel
