/-! ===== every instruction is as its table says (printed by wip/whole/gencheck.py) ===== -/
set_option maxRecDepth 100000 in
theorem j_ok_0 : ∀ i, i < 10 → j_okm (0 + i) = true := by decide +kernel
set_option maxRecDepth 100000 in
theorem j_ok_10 : ∀ i, i < 9 → j_okm (10 + i) = true := by decide +kernel
set_option maxRecDepth 100000 in
theorem j_ok_19 : ∀ i, i < 8 → j_okm (19 + i) = true := by decide +kernel
set_option maxRecDepth 100000 in
theorem j_ok_27 : ∀ i, i < 9 → j_okm (27 + i) = true := by decide +kernel
set_option maxRecDepth 100000 in
theorem j_ok_36 : ∀ i, i < 10 → j_okm (36 + i) = true := by decide +kernel
set_option maxRecDepth 100000 in
theorem j_ok_46 : ∀ i, i < 12 → j_okm (46 + i) = true := by decide +kernel
set_option maxRecDepth 100000 in
theorem j_ok_58 : ∀ i, i < 9 → j_okm (58 + i) = true := by decide +kernel
set_option maxRecDepth 100000 in
theorem j_ok_67 : ∀ i, i < 11 → j_okm (67 + i) = true := by decide +kernel
set_option maxRecDepth 100000 in
theorem j_ok_78 : ∀ i, i < 6 → j_okm (78 + i) = true := by decide +kernel
set_option maxRecDepth 100000 in
theorem j_ok_84 : ∀ i, i < 5 → j_okm (84 + i) = true := by decide +kernel
set_option maxRecDepth 100000 in
theorem j_ok_89 : ∀ i, i < 13 → j_okm (89 + i) = true := by decide +kernel
set_option maxRecDepth 100000 in
theorem j_ok_102 : ∀ i, i < 9 → j_okm (102 + i) = true := by decide +kernel
set_option maxRecDepth 100000 in
theorem j_ok_111 : ∀ i, i < 11 → j_okm (111 + i) = true := by decide +kernel
set_option maxRecDepth 100000 in
theorem j_ok_122 : ∀ i, i < 8 → j_okm (122 + i) = true := by decide +kernel
set_option maxRecDepth 100000 in
theorem j_ok_130 : ∀ i, i < 15 → j_okm (130 + i) = true := by decide +kernel
set_option maxRecDepth 100000 in
theorem j_ok_145 : ∀ i, i < 9 → j_okm (145 + i) = true := by decide +kernel
set_option maxRecDepth 100000 in
theorem j_ok_154 : ∀ i, i < 4 → j_okm (154 + i) = true := by decide +kernel
set_option maxRecDepth 100000 in
theorem j_ok_158 : ∀ i, i < 6 → j_okm (158 + i) = true := by decide +kernel
set_option maxRecDepth 100000 in
theorem j_ok_164 : ∀ i, i < 7 → j_okm (164 + i) = true := by decide +kernel
set_option maxRecDepth 100000 in
theorem j_ok_171 : ∀ i, i < 8 → j_okm (171 + i) = true := by decide +kernel
set_option maxRecDepth 100000 in
theorem j_ok_179 : ∀ i, i < 7 → j_okm (179 + i) = true := by decide +kernel
set_option maxRecDepth 100000 in
theorem j_ok_186 : ∀ i, i < 6 → j_okm (186 + i) = true := by decide +kernel
set_option maxRecDepth 100000 in
theorem j_ok_192 : ∀ i, i < 6 → j_okm (192 + i) = true := by decide +kernel
set_option maxRecDepth 100000 in
theorem j_ok_198 : ∀ i, i < 9 → j_okm (198 + i) = true := by decide +kernel
set_option maxRecDepth 100000 in
theorem j_ok_207 : ∀ i, i < 4 → j_okm (207 + i) = true := by decide +kernel
set_option maxRecDepth 100000 in
theorem j_ok_211 : ∀ i, i < 6 → j_okm (211 + i) = true := by decide +kernel
set_option maxRecDepth 100000 in
theorem j_ok_217 : ∀ i, i < 7 → j_okm (217 + i) = true := by decide +kernel
set_option maxRecDepth 100000 in
theorem j_ok_224 : ∀ i, i < 9 → j_okm (224 + i) = true := by decide +kernel
set_option maxRecDepth 100000 in
theorem j_ok_233 : ∀ i, i < 9 → j_okm (233 + i) = true := by decide +kernel
set_option maxRecDepth 100000 in
theorem j_ok_242 : ∀ i, i < 5 → j_okm (242 + i) = true := by decide +kernel
theorem j_ok (i : Nat) (h : i < j_cnt) : j_okm i = true := by
  have h : i < 247 := h
  rcases Nat.lt_or_ge i 10 with h10 | h10
  · have e := j_ok_0 (i - 0) (by omega)
    rwa [show 0 + (i - 0) = i by omega] at e
  rcases Nat.lt_or_ge i 19 with h19 | h19
  · have e := j_ok_10 (i - 10) (by omega)
    rwa [show 10 + (i - 10) = i by omega] at e
  rcases Nat.lt_or_ge i 27 with h27 | h27
  · have e := j_ok_19 (i - 19) (by omega)
    rwa [show 19 + (i - 19) = i by omega] at e
  rcases Nat.lt_or_ge i 36 with h36 | h36
  · have e := j_ok_27 (i - 27) (by omega)
    rwa [show 27 + (i - 27) = i by omega] at e
  rcases Nat.lt_or_ge i 46 with h46 | h46
  · have e := j_ok_36 (i - 36) (by omega)
    rwa [show 36 + (i - 36) = i by omega] at e
  rcases Nat.lt_or_ge i 58 with h58 | h58
  · have e := j_ok_46 (i - 46) (by omega)
    rwa [show 46 + (i - 46) = i by omega] at e
  rcases Nat.lt_or_ge i 67 with h67 | h67
  · have e := j_ok_58 (i - 58) (by omega)
    rwa [show 58 + (i - 58) = i by omega] at e
  rcases Nat.lt_or_ge i 78 with h78 | h78
  · have e := j_ok_67 (i - 67) (by omega)
    rwa [show 67 + (i - 67) = i by omega] at e
  rcases Nat.lt_or_ge i 84 with h84 | h84
  · have e := j_ok_78 (i - 78) (by omega)
    rwa [show 78 + (i - 78) = i by omega] at e
  rcases Nat.lt_or_ge i 89 with h89 | h89
  · have e := j_ok_84 (i - 84) (by omega)
    rwa [show 84 + (i - 84) = i by omega] at e
  rcases Nat.lt_or_ge i 102 with h102 | h102
  · have e := j_ok_89 (i - 89) (by omega)
    rwa [show 89 + (i - 89) = i by omega] at e
  rcases Nat.lt_or_ge i 111 with h111 | h111
  · have e := j_ok_102 (i - 102) (by omega)
    rwa [show 102 + (i - 102) = i by omega] at e
  rcases Nat.lt_or_ge i 122 with h122 | h122
  · have e := j_ok_111 (i - 111) (by omega)
    rwa [show 111 + (i - 111) = i by omega] at e
  rcases Nat.lt_or_ge i 130 with h130 | h130
  · have e := j_ok_122 (i - 122) (by omega)
    rwa [show 122 + (i - 122) = i by omega] at e
  rcases Nat.lt_or_ge i 145 with h145 | h145
  · have e := j_ok_130 (i - 130) (by omega)
    rwa [show 130 + (i - 130) = i by omega] at e
  rcases Nat.lt_or_ge i 154 with h154 | h154
  · have e := j_ok_145 (i - 145) (by omega)
    rwa [show 145 + (i - 145) = i by omega] at e
  rcases Nat.lt_or_ge i 158 with h158 | h158
  · have e := j_ok_154 (i - 154) (by omega)
    rwa [show 154 + (i - 154) = i by omega] at e
  rcases Nat.lt_or_ge i 164 with h164 | h164
  · have e := j_ok_158 (i - 158) (by omega)
    rwa [show 158 + (i - 158) = i by omega] at e
  rcases Nat.lt_or_ge i 171 with h171 | h171
  · have e := j_ok_164 (i - 164) (by omega)
    rwa [show 164 + (i - 164) = i by omega] at e
  rcases Nat.lt_or_ge i 179 with h179 | h179
  · have e := j_ok_171 (i - 171) (by omega)
    rwa [show 171 + (i - 171) = i by omega] at e
  rcases Nat.lt_or_ge i 186 with h186 | h186
  · have e := j_ok_179 (i - 179) (by omega)
    rwa [show 179 + (i - 179) = i by omega] at e
  rcases Nat.lt_or_ge i 192 with h192 | h192
  · have e := j_ok_186 (i - 186) (by omega)
    rwa [show 186 + (i - 186) = i by omega] at e
  rcases Nat.lt_or_ge i 198 with h198 | h198
  · have e := j_ok_192 (i - 192) (by omega)
    rwa [show 192 + (i - 192) = i by omega] at e
  rcases Nat.lt_or_ge i 207 with h207 | h207
  · have e := j_ok_198 (i - 198) (by omega)
    rwa [show 198 + (i - 198) = i by omega] at e
  rcases Nat.lt_or_ge i 211 with h211 | h211
  · have e := j_ok_207 (i - 207) (by omega)
    rwa [show 207 + (i - 207) = i by omega] at e
  rcases Nat.lt_or_ge i 217 with h217 | h217
  · have e := j_ok_211 (i - 211) (by omega)
    rwa [show 211 + (i - 211) = i by omega] at e
  rcases Nat.lt_or_ge i 224 with h224 | h224
  · have e := j_ok_217 (i - 217) (by omega)
    rwa [show 217 + (i - 217) = i by omega] at e
  rcases Nat.lt_or_ge i 233 with h233 | h233
  · have e := j_ok_224 (i - 224) (by omega)
    rwa [show 224 + (i - 224) = i by omega] at e
  rcases Nat.lt_or_ge i 242 with h242 | h242
  · have e := j_ok_233 (i - 233) (by omega)
    rwa [show 233 + (i - 233) = i by omega] at e
  rcases Nat.lt_or_ge i 247 with h247 | h247
  · have e := j_ok_242 (i - 242) (by omega)
    rwa [show 242 + (i - 242) = i by omega] at e
  omega
