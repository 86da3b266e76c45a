/-! ===== fields of the classes as the tables lay them (printed by wip/whole/genlays.py) ===== -/
def j_lps : List (List Nat) := [[427, 429, 431, 433, 435], [375, 377, 379, 381, 383, 385], [162, 164, 166, 168, 170, 172, 174, 176, 178, 180, 182, 184], [213, 215, 217, 219, 221, 223, 225, 227, 229, 231, 233], [310, 312, 314, 316, 318, 320, 322, 324, 326, 328, 330], [279, 281, 283, 285, 287, 289], [252, 254, 256, 258, 260, 262], [349, 351, 353, 355, 357, 359], [401, 403, 405, 407, 409, 411], [455, 457, 459, 461, 463], [477, 479, 481, 483, 485, 487, 489, 491, 493, 495], [1178, 1180, 1182, 1184, 1186, 1188, 1190, 1192, 1194, 1196, 1198, 1200, 1202, 1204, 1206, 1208, 1210, 1212, 1214, 1216, 1218, 1220, 1222, 1224, 1226, 1228, 1230, 1232, 1234, 1236, 1238, 1240, 1242, 1244, 1246, 1248, 1250, 1252, 1254, 1256, 1258, 1260, 1262, 1264, 1266, 1268, 1270]]
set_option maxRecDepth 100000 in
theorem j_lay_0 : j_wok (j_mp j_lps 0) (u_ws (j_cn 0) (j_T 0) (j_Nf 0)) = true := by decide +kernel
set_option maxRecDepth 100000 in
theorem j_lay_1 : j_wok (j_mp j_lps 1) (u_ws (j_cn 1) (j_T 1) (j_Nf 1)) = true := by decide +kernel
set_option maxRecDepth 100000 in
theorem j_lay_2 : j_wok (j_mp j_lps 2) (u_ws (j_cn 2) (j_T 2) (j_Nf 2)) = true := by decide +kernel
set_option maxRecDepth 100000 in
theorem j_lay_3 : j_wok (j_mp j_lps 3) (u_ws (j_cn 3) (j_T 3) (j_Nf 3)) = true := by decide +kernel
set_option maxRecDepth 100000 in
theorem j_lay_4 : j_wok (j_mp j_lps 4) (u_ws (j_cn 4) (j_T 4) (j_Nf 4)) = true := by decide +kernel
set_option maxRecDepth 100000 in
theorem j_lay_5 : j_wok (j_mp j_lps 5) (u_ws (j_cn 5) (j_T 5) (j_Nf 5)) = true := by decide +kernel
set_option maxRecDepth 100000 in
theorem j_lay_6 : j_wok (j_mp j_lps 6) (u_ws (j_cn 6) (j_T 6) (j_Nf 6)) = true := by decide +kernel
set_option maxRecDepth 100000 in
theorem j_lay_7 : j_wok (j_mp j_lps 7) (u_ws (j_cn 7) (j_T 7) (j_Nf 7)) = true := by decide +kernel
set_option maxRecDepth 100000 in
theorem j_lay_8 : j_wok (j_mp j_lps 8) (u_ws (j_cn 8) (j_T 8) (j_Nf 8)) = true := by decide +kernel
set_option maxRecDepth 100000 in
theorem j_lay_9 : j_wok (j_mp j_lps 9) (u_ws (j_cn 9) (j_T 9) (j_Nf 9)) = true := by decide +kernel
set_option maxRecDepth 100000 in
theorem j_lay_10 : j_wok (j_mp j_lps 10) (u_ws (j_cn 10) (j_T 10) (j_Nf 10)) = true := by decide +kernel
set_option maxRecDepth 100000 in
theorem j_lay_11 : j_wok (j_mp j_lps 11) (u_ws (j_cn 11) (j_T 11) (j_Nf 11)) = true := by decide +kernel
theorem j_12 {P : Nat → Prop} (h0 : P 0) (h1 : P 1) (h2 : P 2) (h3 : P 3) (h4 : P 4) (h5 : P 5) (h6 : P 6) (h7 : P 7) (h8 : P 8) (h9 : P 9) (h10 : P 10) (h11 : P 11) (a : Nat) (h : a < 12) : P a := by
  match a, h with
  | 0, _ => exact h0
  | 1, _ => exact h1
  | 2, _ => exact h2
  | 3, _ => exact h3
  | 4, _ => exact h4
  | 5, _ => exact h5
  | 6, _ => exact h6
  | 7, _ => exact h7
  | 8, _ => exact h8
  | 9, _ => exact h9
  | 10, _ => exact h10
  | 11, _ => exact h11
theorem j_lay (a : Nat) (h : a < 12) : j_wok (j_mp j_lps a) (u_ws (j_cn a) (j_T a) (j_Nf a)) = true := j_12 (P := fun a => j_wok (j_mp j_lps a) (u_ws (j_cn a) (j_T a) (j_Nf a)) = true) j_lay_0 j_lay_1 j_lay_2 j_lay_3 j_lay_4 j_lay_5 j_lay_6 j_lay_7 j_lay_8 j_lay_9 j_lay_10 j_lay_11 a h
theorem j_cl (a : Nat) (h : a < 12) : vwCl[a]? = some (j_cn a, j_T a, j_Nf a) := j_12 (P := fun a => vwCl[a]? = some (j_cn a, j_T a, j_Nf a)) rfl rfl rfl rfl rfl rfl rfl rfl rfl rfl rfl rfl a h
theorem j_tyok (a : Nat) (h : a < 12) : ∀ k, k < j_Nf a → parseFieldDescriptor (j_T a k).2.2.1 = some (j_ty a k) := j_12 (P := fun a => ∀ k, k < j_Nf a → parseFieldDescriptor (j_T a k).2.2.1 = some (j_ty a k)) tyX0_ok tyX1_ok tyX2_ok tyX3_ok tyX4_ok tyX5_ok tyX6_ok tyX7_ok tyX8_ok tyX9_ok tyX10_ok tyX11_ok a h
theorem j_nmok (a : Nat) (h : a < 12) : ∀ x, x < j_Nf a → ∀ y, y < j_Nf a → x ≠ y → (j_T a x).2.1 ≠ (j_T a y).2.1 := j_12 (P := fun a => ∀ x, x < j_Nf a → ∀ y, y < j_Nf a → x ≠ y → (j_T a x).2.1 ≠ (j_T a y).2.1) nmX0 nmX1 nmX2 nmX3 nmX4 nmX5 nmX6 nmX7 nmX8 nmX9 nmX10 nmX11 a h
set_option maxRecDepth 100000 in
theorem j_tys3 : ∀ a, a < 12 → ∀ k, k < j_Nf a → (j_ty a k = .int ∨ j_ty a k = .boolean ∨ j_isref (j_ty a k) = true) := by decide +kernel
def j_ips : List Nat := [415, 363, 109, 189, 293, 266, 237, 334, 389, 440, 101, 1126]
def j_nps : List Nat := [94, 92, 86, 87, 90, 89, 88, 91, 93, 95, 85, 96]
set_option maxRecDepth 100000 in
theorem j_inst : ∀ a, a < 12 → (j_hw (j_ips.getD a 9999) (.instantiable (j_cn a) (j_Nf a)) && j_hw (j_nps.getD a 9999) (.initialized (j_cn a))) = true := by decide +kernel
def j_fix : List Cond := [.arrayClass .int, .arrayClass .long, .native arraycopyName, .static arraycopyName, .initialized "java/lang/System", .static Lib.Math.max.name, .initialized "java/lang/Math", .code Lib.Math.max.name Lib.Math.max.code 2 (some .int), .static Lib.Math.min.name, .code Lib.Math.min.name Lib.Math.min.code 2 (some .int), .static Lib.MathLoose.min_long.x, .code Lib.MathLoose.min_long.x Lib.MathLoose.min_long.code 4 (some .long), .instanceMethod objectInit, .code objectInit ⟨#[0xb1]⟩ 1 none]
set_option maxRecDepth 100000 in
theorem j_fix_ok : j_wok [187, 466, 568, 567, 97, 591, 98, 592, 620, 621, 789, 790, 106, 107] j_fix = true := by decide +kernel
