set_option maxRecDepth 100000 in
theorem mp_lkX10_409 : mp_LV RX10 409 yX10_ringOf cX10_ringOf 6 (some FieldType.int) 1 10 := mp_lv_ok (j1 := 8118) (j2 := 8120) (j3 := 96) (j4 := 1011) (j5 := 8121) (by decide +kernel)
set_option maxRecDepth 100000 in
theorem mp_lkX10_405 : mp_LV RX10 405 yX10_struckOf cX10_struckOf 9 (some FieldType.int) 4 10 := mp_lv_ok (j1 := 8122) (j2 := 8124) (j3 := 97) (j4 := 1011) (j5 := 8125) (by decide +kernel)
set_option maxRecDepth 100000 in
theorem mp_lkL_174 : mp_LV RL 174 yX10_ringed cX10_ringed 3 (some FieldType.int) 2 10 := mp_lv_ok (j1 := 8126) (j2 := 8127) (j3 := 8128) (j4 := 1011) (j5 := 8129) (by decide +kernel)
set_option maxRecDepth 100000 in
theorem mp_lkL_179 : mp_LV RL 179 yX10_strikes cX10_strikes 5 (some FieldType.int) 4 10 := mp_lv_ok (j1 := 8130) (j2 := 8131) (j3 := 8132) (j4 := 1011) (j5 := 8133) (by decide +kernel)
set_option maxRecDepth 100000 in
theorem mp_lkL_183 : mp_LV RL 183 yX10_weighed cX10_weighed 4 (some FieldType.int) 2 10 := mp_lv_ok (j1 := 8134) (j2 := 8135) (j3 := 8136) (j4 := 1011) (j5 := 8137) (by decide +kernel)
set_option maxRecDepth 100000 in
theorem mp_lkX10_432 : mp_LV RX10 432 yX10_whyNot cX10_whyNot 4 (some FieldType.int) 2 10 := mp_lv_ok (j1 := 8138) (j2 := 8140) (j3 := 98) (j4 := 1011) (j5 := 8141) (by decide +kernel)
set_option maxRecDepth 100000 in
theorem mp_lkX10_435 : mp_LV RX10 435 yX10_laysWays cX10_laysWays 4 none 2 10 := mp_lv_ok (j1 := 8143) (j2 := 8145) (j3 := 99) (j4 := 1011) (j5 := 8146) (by decide +kernel)
set_option maxRecDepth 100000 in
theorem mp_lkX10_429 : mp_LV RX10 429 yX10_isWay cX10_isWay 5 (some FieldType.boolean) 3 10 := mp_lv_ok (j1 := 8147) (j2 := 8149) (j3 := 100) (j4 := 1011) (j5 := 8150) (by decide +kernel)
set_option maxRecDepth 100000 in
theorem mp_lkX10_414 : mp_LV RX10 414 yX10_worthBy cX10_worthBy 5 (some FieldType.int) 3 10 := mp_lv_ok (j1 := 8151) (j2 := 8153) (j3 := 101) (j4 := 1011) (j5 := 8154) (by decide +kernel)
set_option maxRecDepth 100000 in
theorem mp_lkL_187 : mp_LV RL 187 yX10_must cX10_must 5 (some FieldType.int) 3 10 := mp_lv_ok (j1 := 8155) (j2 := 8156) (j3 := 8157) (j4 := 1011) (j5 := 8158) (by decide +kernel)
set_option maxRecDepth 100000 in
theorem mp_lkL_191 : mp_LV RL 191 yX10_times cX10_times 4 (some FieldType.int) 2 10 := mp_lv_ok (j1 := 8159) (j2 := 8160) (j3 := 8161) (j4 := 1011) (j5 := 8162) (by decide +kernel)
set_option maxRecDepth 100000 in
theorem mp_lkL_195 : mp_LV RL 195 yX10_weigh cX10_weigh 8 (some FieldType.int) 2 10 := mp_lv_ok (j1 := 8163) (j2 := 8164) (j3 := 8165) (j4 := 1011) (j5 := 8166) (by decide +kernel)
set_option maxRecDepth 100000 in
theorem mp_lkX10_438 : mp_LV RX10 438 yX10_worstOf cX10_worstOf 9 (some FieldType.int) 3 10 := mp_lv_ok (j1 := 8167) (j2 := 8169) (j3 := 102) (j4 := 1011) (j5 := 8170) (by decide +kernel)
set_option maxRecDepth 100000 in
theorem mp_lkL_199 : mp_LV RL 199 yX10_said cX10_said 9 (some FieldType.int) 2 10 := mp_lv_ok (j1 := 8171) (j2 := 8172) (j3 := 8173) (j4 := 1011) (j5 := 8174) (by decide +kernel)
set_option maxRecDepth 100000 in
theorem mp_lkL_203 : mp_LV RL 203 yX10_span cX10_span 15 (some FieldType.int) 3 10 := mp_lv_ok (j1 := 8175) (j2 := 8176) (j3 := 8177) (j4 := 1011) (j5 := 8178) (by decide +kernel)
set_option maxRecDepth 100000 in
theorem mp_lkL_207 : mp_LV RL 207 yX10_wins cX10_wins 3 (some FieldType.int) 1 10 := mp_lv_ok (j1 := 8179) (j2 := 8180) (j3 := 8181) (j4 := 1011) (j5 := 8182) (by decide +kernel)
set_option maxRecDepth 100000 in
theorem mp_lkX10_444 : mp_LV RX10 444 yX10_whyNoThreat cX10_whyNoThreat 3 (some FieldType.int) 1 10 := mp_lv_ok (j1 := 8183) (j2 := 8185) (j3 := 103) (j4 := 1011) (j5 := 8186) (by decide +kernel)
set_option maxRecDepth 100000 in
theorem mp_lkX10_447 : mp_LV RX10 447 yX10_xorOf cX10_xorOf 4 (some FieldType.int) 1 10 := mp_lv_ok (j1 := 8187) (j2 := 8189) (j3 := 104) (j4 := 1011) (j5 := 8190) (by decide +kernel)
set_option maxRecDepth 100000 in
theorem mp_lkX10_441 : mp_LV RX10 441 yX10_laysNimbers cX10_laysNimbers 5 none 0 10 := mp_lv_ok (j1 := 8191) (j2 := 8193) (j3 := 105) (j4 := 1011) (j5 := 8194) (by decide +kernel)
set_option maxRecDepth 100000 in
theorem mp_lkL_211 : mp_LV RL 211 yX10_turn cX10_turn 7 (some FieldType.int) 1 10 := mp_lv_ok (j1 := 8195) (j2 := 8196) (j3 := 8197) (j4 := 1011) (j5 := 8198) (by decide +kernel)
set_option maxRecDepth 100000 in
theorem mp_lkL_215 : mp_LV RL 215 yX10_drawn cX10_drawn 4 (some FieldType.int) 3 10 := mp_lv_ok (j1 := 8199) (j2 := 8200) (j3 := 8201) (j4 := 1011) (j5 := 8202) (by decide +kernel)
set_option maxRecDepth 100000 in
theorem mp_lkX10_467 : mp_LV RX10 467 yX10_isDraw cX10_isDraw 4 (some FieldType.boolean) 3 10 := mp_lv_ok (j1 := 8203) (j2 := 8205) (j3 := 106) (j4 := 1011) (j5 := 8206) (by decide +kernel)
set_option maxRecDepth 100000 in
theorem mp_lkX10_470 : mp_LV RX10 470 yX10_draws cX10_draws 9 (some FieldType.int) 3 10 := mp_lv_ok (j1 := 8209) (j2 := 8211) (j3 := 107) (j4 := 1011) (j5 := 8212) (by decide +kernel)
set_option maxRecDepth 100000 in
theorem mp_lkL_219 : mp_LV RL 219 yX10_often cX10_often 4 (some FieldType.int) 3 10 := mp_lv_ok (j1 := 8218) (j2 := 8219) (j3 := 8220) (j4 := 1011) (j5 := 8221) (by decide +kernel)
set_option maxRecDepth 100000 in
theorem mp_lkL_223 : mp_LV RL 223 yX10_lucky cX10_lucky 7 (some FieldType.int) 4 10 := mp_lv_ok (j1 := 8222) (j2 := 8223) (j3 := 8224) (j4 := 1011) (j5 := 8225) (by decide +kernel)
set_option maxRecDepth 100000 in
theorem mp_lkL_227 : mp_LV RL 227 yX10_promises cX10_promises 5 (some FieldType.int) 3 10 := mp_lv_ok (j1 := 8226) (j2 := 8227) (j3 := 8228) (j4 := 1011) (j5 := 8229) (by decide +kernel)
set_option maxRecDepth 100000 in
theorem mp_lkL_231 : mp_LV RL 231 yX10_shuts cX10_shuts 5 (some FieldType.int) 3 10 := mp_lv_ok (j1 := 8230) (j2 := 8231) (j3 := 8232) (j4 := 1011) (j5 := 8233) (by decide +kernel)
set_option maxRecDepth 100000 in
theorem mp_lkL_235 : mp_LV RL 235 yX10_tends cX10_tends 4 (some FieldType.int) 2 10 := mp_lv_ok (j1 := 8234) (j2 := 8235) (j3 := 8236) (j4 := 1011) (j5 := 8237) (by decide +kernel)
set_option maxRecDepth 100000 in
theorem mp_lkL_239 : mp_LV RL 239 yX10_count cX10_count 4 (some FieldType.int) 1 10 := mp_lv_ok (j1 := 8238) (j2 := 8239) (j3 := 9000) (j4 := 1011) (j5 := 9001) (by decide +kernel)
set_option maxRecDepth 100000 in
theorem mp_lkL_243 : mp_LV RL 243 yX10_image cX10_image 2 (some FieldType.int) 1 10 := mp_lv_ok (j1 := 9002) (j2 := 9003) (j3 := 9004) (j4 := 1011) (j5 := 9005) (by decide +kernel)
set_option maxRecDepth 100000 in
theorem mp_lkL_247 : mp_LV RL 247 yX10_back cX10_back 2 (some FieldType.int) 1 10 := mp_lv_ok (j1 := 9006) (j2 := 9007) (j3 := 9008) (j4 := 1011) (j5 := 9009) (by decide +kernel)
set_option maxRecDepth 100000 in
theorem mp_lnL_7 : mp_LN RL 7 9 9 [.null, .null, .null, .null, .null, .null, .null, .null, .null] := ⟨_, tyX9, rfl, rfl, mp_gm (j := 1021) (by decide +kernel), mp_gm (j := 1022) (by decide +kernel), mp_gm (j := 1001) (by decide +kernel), tyX9_ok, by decide +kernel⟩
set_option maxRecDepth 100000 in
theorem mp_lnX9_7 : mp_LN RX9 7 3 10 [.null, .int 0, .null, .int 0, .int 0, .int 0, .int 0, .int 0, .int 0, .int 0] := ⟨_, tyX3, rfl, rfl, mp_gm (j := 1029) (by decide +kernel), mp_gm (j := 1030) (by decide +kernel), mp_gm (j := 1002) (by decide +kernel), tyX3_ok, by decide +kernel⟩
set_option maxRecDepth 100000 in
theorem mp_lnX3_15 : mp_LN RX3 15 7 18 [.int 0, .int 0, .int 0, .int 0, .int 0, .int 0, .null, .null, .null, .null, .null, .null, .null, .null, .null, .null, .null, .null] := ⟨_, tyX7, rfl, rfl, mp_gm (j := 1035) (by decide +kernel), mp_gm (j := 1036) (by decide +kernel), mp_gm (j := 1003) (by decide +kernel), tyX7_ok, by decide +kernel⟩
set_option maxRecDepth 100000 in
theorem mp_lnX9_16 : mp_LN RX9 16 0 8 [.null, .int 0, .null, .null, .null, .null, .null, .null] := ⟨_, tyX0, rfl, rfl, mp_gm (j := 1184) (by decide +kernel), mp_gm (j := 1185) (by decide +kernel), mp_gm (j := 1004) (by decide +kernel), tyX0_ok, by decide +kernel⟩
set_option maxRecDepth 100000 in
theorem mp_lnX0_9 : mp_LN RX0 9 7 18 [.int 0, .int 0, .int 0, .int 0, .int 0, .int 0, .null, .null, .null, .null, .null, .null, .null, .null, .null, .null, .null, .null] := ⟨_, tyX7, rfl, rfl, mp_gm (j := 1190) (by decide +kernel), mp_gm (j := 1036) (by decide +kernel), mp_gm (j := 1003) (by decide +kernel), tyX7_ok, by decide +kernel⟩
set_option maxRecDepth 100000 in
theorem mp_lnX9_23 : mp_LN RX9 23 7 18 [.int 0, .int 0, .int 0, .int 0, .int 0, .int 0, .null, .null, .null, .null, .null, .null, .null, .null, .null, .null, .null, .null] := ⟨_, tyX7, rfl, rfl, mp_gm (j := 1227) (by decide +kernel), mp_gm (j := 1036) (by decide +kernel), mp_gm (j := 1003) (by decide +kernel), tyX7_ok, by decide +kernel⟩
set_option maxRecDepth 100000 in
theorem mp_lnX9_29 : mp_LN RX9 29 1 4 [.null, .int 0, .int 0, .null] := ⟨_, tyX1, rfl, rfl, mp_gm (j := 1229) (by decide +kernel), mp_gm (j := 1230) (by decide +kernel), mp_gm (j := 1005) (by decide +kernel), tyX1_ok, by decide +kernel⟩
set_option maxRecDepth 100000 in
theorem mp_lnX9_36 : mp_LN RX9 36 2 11 [.int 0, .int 0, .int 0, .int 0, .null, .null, .null, .null, .null, .int 0, .int 0] := ⟨_, tyX2, rfl, rfl, mp_gm (j := 2010) (by decide +kernel), mp_gm (j := 2011) (by decide +kernel), mp_gm (j := 1006) (by decide +kernel), tyX2_ok, by decide +kernel⟩
set_option maxRecDepth 100000 in
theorem mp_lnX9_43 : mp_LN RX9 43 4 10 [.int 0, .int 0, .int 0, .null, .int 0, .int 0, .int 0, .int 0, .int 0, .null] := ⟨_, tyX4, rfl, rfl, mp_gm (j := 2052) (by decide +kernel), mp_gm (j := 2053) (by decide +kernel), mp_gm (j := 1007) (by decide +kernel), tyX4_ok, by decide +kernel⟩
set_option maxRecDepth 100000 in
theorem mp_lnX9_50 : mp_LN RX9 50 6 3 [.int 0, .null, .null] := ⟨_, tyX6, rfl, rfl, mp_gm (j := 2093) (by decide +kernel), mp_gm (j := 2094) (by decide +kernel), mp_gm (j := 1008) (by decide +kernel), tyX6_ok, by decide +kernel⟩
set_option maxRecDepth 100000 in
theorem mp_lnX9_57 : mp_LN RX9 57 8 3 [.null, .int 0, .int 0] := ⟨_, tyX8, rfl, rfl, mp_gm (j := 2109) (by decide +kernel), mp_gm (j := 2110) (by decide +kernel), mp_gm (j := 1009) (by decide +kernel), tyX8_ok, by decide +kernel⟩
set_option maxRecDepth 100000 in
theorem mp_lnX9_64 : mp_LN RX9 64 5 3 [.null, .null, .null] := ⟨_, tyX5, rfl, rfl, mp_gm (j := 2127) (by decide +kernel), mp_gm (j := 2128) (by decide +kernel), mp_gm (j := 1010) (by decide +kernel), tyX5_ok, by decide +kernel⟩
set_option maxRecDepth 100000 in
theorem mp_lnL_10 : mp_LN RL 10 10 47 [.int 0, .null, .null, .null, .null, .null, .int 0, .int 0, .int 0, .int 0, .int 0, .long 0, .int 0, .int 0, .int 0, .int 0, .null, .null, .null, .null, .null, .null, .null, .null, .int 0, .null, .null, .null, .null, .int 0, .int 0, .int 0, .null, .null, .int 0, .int 0, .null, .null, .null, .int 0, .int 0, .int 0, .int 0, .null, .null, .null, .int 0] := ⟨_, tyX10, rfl, rfl, mp_gm (j := 6005) (by decide +kernel), mp_gm (j := 6006) (by decide +kernel), mp_gm (j := 1011) (by decide +kernel), tyX10_ok, by decide +kernel⟩
theorem mp_bnd (x : Int32) : -2147483648 ≤ x.toInt ∧ x.toInt ≤ 2147483647 := ⟨Int32.le_toInt x, by have := Int32.toInt_lt x; omega⟩
theorem mp_add {z x y : Int32} {a b : Int} (h : z = x + y) (hx : x.toInt = a) (hy : y.toInt = b) (h1 : -2147483648 ≤ a + b) (h2 : a + b ≤ 2147483647) : z.toInt = a + b := by
  rw [h, Int32.toInt_add, hx, hy, Int.bmod_def]; omega
theorem mp_subi {z x y : Int32} {a b : Int} (h : z = x - y) (hx : x.toInt = a) (hy : y.toInt = b) (h1 : -2147483648 ≤ a - b) (h2 : a - b ≤ 2147483647) : z.toInt = a - b := by
  rw [h, Int32.toInt_sub, hx, hy, Int.bmod_def]; omega
theorem mp_mul {z x y : Int32} {a b : Int} (h : z = x * y) (hx : x.toInt = a) (hy : y.toInt = b) (h1 : -2147483648 ≤ a * b) (h2 : a * b ≤ 2147483647) : z.toInt = a * b := by
  rw [h, Int32.toInt_mul, hx, hy, Int.bmod_def]
  generalize a * b = c at *
  omega
theorem mp_div {z x y : Int32} {a b : Int} (h : z = x / y) (hx : x.toInt = a) (hy : y.toInt = b) (h1 : 0 ≤ a) (h2 : 0 < b) : z.toInt = a / b := by
  have hb := mp_bnd x
  rw [h, Int32.toInt_div, hx, hy, Int.tdiv_eq_ediv_of_nonneg h1, Int.bmod_def]
  have h3 : 0 ≤ a / b := Int.ediv_nonneg h1 (Int.le_of_lt h2)
  have h4 : a / b ≤ a := Int.ediv_le_self b h1
  generalize a / b = c at *
  omega
theorem mp_rem {z x y : Int32} {a b : Int} (h : z = x - x / y * y) (hx : x.toInt = a) (hy : y.toInt = b) (h1 : 0 ≤ a) (h2 : 0 < b) : z.toInt = a % b := by
  have hb := mp_bnd x
  have e1 : (x / y).toInt = a / b := mp_div rfl hx hy h1 h2
  have h5 : b * (a / b) + a % b = a := Int.mul_ediv_add_emod a b
  have h6 : 0 ≤ a % b := Int.emod_nonneg a (by omega)
  have h7 : 0 ≤ b * (a / b) := Int.mul_nonneg (Int.le_of_lt h2) (Int.ediv_nonneg h1 (Int.le_of_lt h2))
  have e2 : (x / y * y).toInt = a / b * b := mp_mul rfl e1 hy (by rw [Int.mul_comm]; omega) (by rw [Int.mul_comm]; omega)
  rw [Int.mul_comm] at e2
  have e3 := mp_subi h hx e2 (by omega) (by omega)
  omega
theorem mp_cpy0 {α : Type} {c : α} (sp dp n : Nat) : va_cpy (fun _ => c) (fun _ => c) sp dp n = (fun _ => c) := by
  funext k; simp [va_cpy]

