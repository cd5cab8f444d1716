set_option maxRecDepth 100000 in
theorem mp_lkL_151 : mp_LV RL 151 yX9_love cX9_love 4 (some FieldType.int) 3 9 := mp_lv_ok (j1 := 4192) (j2 := 4193) (j3 := 4194) (j4 := 1001) (j5 := 4195) (by decide +kernel)
set_option maxRecDepth 100000 in
theorem mp_lkX9_250 : mp_LV RX9 250 yX9_canLove cX9_canLove 4 (some FieldType.boolean) 3 9 := mp_lv_ok (j1 := 4196) (j2 := 4198) (j3 := 28) (j4 := 1001) (j5 := 4199) (by decide +kernel)
set_option maxRecDepth 100000 in
theorem mp_lkX9_254 : mp_LV RX9 254 yX2_seekLove cX2_seekLove 11 none 4 2 := mp_lv_ok (j1 := 4200) (j2 := 4201) (j3 := 4202) (j4 := 1006) (j5 := 4203) (by decide +kernel)
set_option maxRecDepth 100000 in
theorem mp_lkX2_130 : mp_LV RX2 130 yX7_worthBy cX7_worthBy 5 (some FieldType.int) 3 7 := mp_lv_ok (j1 := 4204) (j2 := 3195) (j3 := 3196) (j4 := 1003) (j5 := 3197) (by decide +kernel)
set_option maxRecDepth 100000 in
theorem mp_lkX2_134 : mp_LV RX2 134 yX2_layReach cX2_layReach 3 none 0 2 := mp_lv_ok (j1 := 4205) (j2 := 4207) (j3 := 29) (j4 := 1006) (j5 := 4208) (by decide +kernel)
set_option maxRecDepth 100000 in
theorem mp_lkX2_137 : mp_LV RX2 137 yX2_leastTo cX2_leastTo 7 (some FieldType.int) 2 2 := mp_lv_ok (j1 := 4209) (j2 := 4211) (j3 := 30) (j4 := 1006) (j5 := 4212) (by decide +kernel)
set_option maxRecDepth 100000 in
theorem mp_lkL_155 : mp_LV RL 155 yX9_when cX9_when 4 (some FieldType.int) 3 9 := mp_lv_ok (j1 := 4213) (j2 := 4214) (j3 := 4215) (j4 := 1001) (j5 := 4216) (by decide +kernel)
set_option maxRecDepth 100000 in
theorem mp_lkL_159 : mp_LV RL 159 yX9_joins cX9_joins 4 (some FieldType.int) 2 9 := mp_lv_ok (j1 := 4217) (j2 := 4218) (j3 := 4219) (j4 := 1001) (j5 := 4220) (by decide +kernel)
set_option maxRecDepth 100000 in
theorem mp_lkX9_264 : mp_LV RX9 264 yX0_gainByJoin cX0_gainByJoin 6 (some FieldType.int) 2 0 := mp_lv_ok (j1 := 4221) (j2 := 4222) (j3 := 4223) (j4 := 1004) (j5 := 4224) (by decide +kernel)
set_option maxRecDepth 100000 in
theorem mp_lkX0_105 : mp_LV RX0 105 yX0_standsAlone cX0_standsAlone 3 (some FieldType.boolean) 1 0 := mp_lv_ok (j1 := 4225) (j2 := 4227) (j3 := 31) (j4 := 1004) (j5 := 4228) (by decide +kernel)
set_option maxRecDepth 100000 in
theorem mp_lkX0_109 : mp_LV RX0 109 yX7_halvingsBy cX7_halvingsBy 7 (some FieldType.int) 3 7 := mp_lv_ok (j1 := 4229) (j2 := 3183) (j3 := 3184) (j4 := 1003) (j5 := 3185) (by decide +kernel)
set_option maxRecDepth 100000 in
theorem mp_lkX0_115 : mp_LNs RX0 115 yX9_halved cX9_halved 2 (some FieldType.int) 2 := mp_ln_ok (host := RX9) (j1 := 9) (j4 := 1001) (j5 := 3201) (by decide +kernel)
set_option maxRecDepth 100000 in
theorem mp_lkL_163 : mp_LV RL 163 yX9_joined cX9_joined 6 (some FieldType.int) 0 9 := mp_lv_ok (j1 := 4231) (j2 := 4232) (j3 := 4233) (j4 := 1001) (j5 := 4234) (by decide +kernel)
set_option maxRecDepth 100000 in
theorem mp_lkL_167 : mp_LV RL 167 yX9_ring cX9_ring 2 (some FieldType.int) 1 9 := mp_lv_ok (j1 := 4235) (j2 := 4236) (j3 := 4237) (j4 := 1001) (j5 := 4238) (by decide +kernel)
set_option maxRecDepth 100000 in
theorem mp_lkX9_267 : mp_LV RX9 267 yX1_seekRing cX1_seekRing 4 none 0 1 := mp_lv_ok (j1 := 4239) (j2 := 5000) (j3 := 5001) (j4 := 1005) (j5 := 5002) (by decide +kernel)
set_option maxRecDepth 100000 in
theorem mp_lkX1_69 : mp_LV RX1 69 yX1_ringOf cX1_ringOf 4 (some FieldType.int) 3 1 := mp_lv_ok (j1 := 5003) (j2 := 5004) (j3 := 5005) (j4 := 1005) (j5 := 5006) (by decide +kernel)
set_option maxRecDepth 100000 in
theorem mp_lkX1_61 : mp_LS RX1 61 yJ9_min_7cf53 cJ9_min_7cf53 2 (some FieldType.int) 2 := mp_ls_ok (j1 := 5007) (j2 := 2219) (j4 := 1013) (j5 := 2220) (by decide +kernel)
set_option maxRecDepth 100000 in
theorem mp_lkL_171 : mp_LV RL 171 yX9_ringed cX9_ringed 3 (some FieldType.int) 2 9 := mp_lv_ok (j1 := 5008) (j2 := 5009) (j3 := 5010) (j4 := 1001) (j5 := 5011) (by decide +kernel)
set_option maxRecDepth 100000 in
theorem mp_lkL_175 : mp_LV RL 175 yX9_strikes cX9_strikes 5 (some FieldType.int) 4 9 := mp_lv_ok (j1 := 5012) (j2 := 5013) (j3 := 5014) (j4 := 1001) (j5 := 5015) (by decide +kernel)
set_option maxRecDepth 100000 in
theorem mp_lkX9_276 : mp_LV RX9 276 yX1_ringOf cX1_ringOf 4 (some FieldType.int) 3 1 := mp_lv_ok (j1 := 5016) (j2 := 5004) (j3 := 5005) (j4 := 1005) (j5 := 5006) (by decide +kernel)
set_option maxRecDepth 100000 in
theorem mp_lkL_180 : mp_LV RL 180 yX9_weighed cX9_weighed 4 (some FieldType.int) 2 9 := mp_lv_ok (j1 := 5017) (j2 := 5018) (j3 := 5019) (j4 := 1001) (j5 := 5020) (by decide +kernel)
set_option maxRecDepth 100000 in
theorem mp_lkX9_280 : mp_LV RX9 280 yX9_putOnScales cX9_putOnScales 4 (some FieldType.int) 2 9 := mp_lv_ok (j1 := 5021) (j2 := 5023) (j3 := 32) (j4 := 1001) (j5 := 5024) (by decide +kernel)
set_option maxRecDepth 100000 in
theorem mp_lkX9_351 : mp_LV RX9 351 yX5_isSlot cX5_isSlot 2 (some FieldType.boolean) 1 5 := mp_lv_ok (j1 := 5025) (j2 := 5026) (j3 := 5027) (j4 := 1010) (j5 := 5028) (by decide +kernel)
set_option maxRecDepth 100000 in
theorem mp_lkX9_358 : mp_LV RX9 358 yX5_isTaken cX5_isTaken 2 (some FieldType.boolean) 1 5 := mp_lv_ok (j1 := 5029) (j2 := 5030) (j3 := 5031) (j4 := 1010) (j5 := 5032) (by decide +kernel)
set_option maxRecDepth 100000 in
theorem mp_lkX9_379 : mp_LV RX9 379 yX4_load cX4_load 12 (some FieldType.boolean) 4 4 := mp_lv_ok (j1 := 5033) (j2 := 5034) (j3 := 5035) (j4 := 1007) (j5 := 5036) (by decide +kernel)
set_option maxRecDepth 100000 in
theorem mp_lkX4_40 : mp_LS RX4 40 yJ7_fill_53178 cJ7_fill_53178 4 none 2 := mp_ls_ok (j1 := 5037) (j2 := 2200) (j4 := 1012) (j5 := 2201) (by decide +kernel)
set_option maxRecDepth 100000 in
theorem mp_lkX4_51 : mp_LV RX4 51 yX5_at cX5_at 3 (some FieldType.long) 2 5 := mp_lv_ok (j1 := 5038) (j2 := 5039) (j3 := 5040) (j4 := 1010) (j5 := 5041) (by decide +kernel)
set_option maxRecDepth 100000 in
theorem mp_lkX9_283 : mp_LV RX9 283 yX4_survey cX4_survey 3 none 0 4 := mp_lv_ok (j1 := 5043) (j2 := 5044) (j3 := 5045) (j4 := 1007) (j5 := 5046) (by decide +kernel)
set_option maxRecDepth 100000 in
theorem mp_lkX4_69 : mp_LV RX4 69 yX4_fits cX4_fits 4 (some FieldType.boolean) 1 4 := mp_lv_ok (j1 := 5047) (j2 := 5049) (j3 := 33) (j4 := 1007) (j5 := 5050) (by decide +kernel)
set_option maxRecDepth 100000 in
theorem mp_lkX4_89 : mp_LS RX4 89 yX4_halvingsIn cX4_halvingsIn 3 (some FieldType.int) 3 := mp_ls_ok (j1 := 5051) (j2 := 5052) (j4 := 1007) (j5 := 5053) (by decide +kernel)
set_option maxRecDepth 100000 in
theorem mp_lkX4_93 : mp_LNs RX4 93 yX9_halved cX9_halved 2 (some FieldType.int) 2 := mp_ln_ok (host := RX9) (j1 := 10) (j4 := 1001) (j5 := 3201) (by decide +kernel)
set_option maxRecDepth 100000 in
theorem mp_lkX4_73 : mp_LS RX4 73 yJ6_bitCount_0f7a4 cJ6_bitCount_0f7a4 1 (some FieldType.int) 1 := mp_ls_ok (j1 := 5055) (j2 := 4165) (j4 := 1019) (j5 := 4166) (by decide +kernel)
set_option maxRecDepth 100000 in
theorem mp_lkX4_79 : mp_LS RX4 79 yJ9_min_7cf53 cJ9_min_7cf53 2 (some FieldType.int) 2 := mp_ls_ok (j1 := 5056) (j2 := 2219) (j4 := 1013) (j5 := 2220) (by decide +kernel)
set_option maxRecDepth 100000 in
theorem mp_lkX4_85 : mp_LV RX4 85 yX4_addToTally cX4_addToTally 4 none 1 4 := mp_lv_ok (j1 := 5057) (j2 := 5059) (j3 := 34) (j4 := 1007) (j5 := 5060) (by decide +kernel)
set_option maxRecDepth 100000 in
theorem mp_lkL_184 : mp_LV RL 184 yX9_must cX9_must 5 (some FieldType.int) 3 9 := mp_lv_ok (j1 := 5061) (j2 := 5062) (j3 := 5063) (j4 := 1001) (j5 := 5064) (by decide +kernel)
set_option maxRecDepth 100000 in
theorem mp_lkL_188 : mp_LV RL 188 yX9_times cX9_times 4 (some FieldType.int) 2 9 := mp_lv_ok (j1 := 5065) (j2 := 5066) (j3 := 5067) (j4 := 1001) (j5 := 5068) (by decide +kernel)
set_option maxRecDepth 100000 in
theorem mp_lkL_192 : mp_LV RL 192 yX9_weigh cX9_weigh 4 (some FieldType.int) 2 9 := mp_lv_ok (j1 := 5069) (j2 := 5070) (j3 := 5071) (j4 := 1001) (j5 := 5072) (by decide +kernel)
set_option maxRecDepth 100000 in
theorem mp_lkX9_298 : mp_LV RX9 298 yX4_bestMoon cX4_bestMoon 5 (some FieldType.int) 0 4 := mp_lv_ok (j1 := 5073) (j2 := 5074) (j3 := 5075) (j4 := 1007) (j5 := 5076) (by decide +kernel)
set_option maxRecDepth 100000 in
theorem mp_lkX4_96 : mp_LV RX4 96 yX4_worstLeft cX4_worstLeft 5 (some FieldType.int) 1 4 := mp_lv_ok (j1 := 5077) (j2 := 5079) (j3 := 35) (j4 := 1007) (j5 := 5080) (by decide +kernel)
set_option maxRecDepth 100000 in
theorem mp_lkX4_99 : mp_LS RX4 99 yJ9_max_7cf53 cJ9_max_7cf53 2 (some FieldType.int) 2 := mp_ls_ok (j1 := 5081) (j2 := 5082) (j4 := 1013) (j5 := 5083) (by decide +kernel)
set_option maxRecDepth 100000 in
theorem mp_lkL_196 : mp_LV RL 196 yX9_said cX9_said 4 (some FieldType.int) 2 9 := mp_lv_ok (j1 := 5084) (j2 := 5085) (j3 := 5086) (j4 := 1001) (j5 := 5087) (by decide +kernel)
set_option maxRecDepth 100000 in
theorem mp_lkX9_301 : mp_LV RX9 301 yX4_firstMoons cX4_firstMoons 3 (some FieldType.int) 0 4 := mp_lv_ok (j1 := 5088) (j2 := 5089) (j3 := 5090) (j4 := 1007) (j5 := 5091) (by decide +kernel)
set_option maxRecDepth 100000 in
theorem mp_lkX4_102 : mp_LV RX4 102 yX4_fitsFirst cX4_fitsFirst 4 (some FieldType.boolean) 1 4 := mp_lv_ok (j1 := 5092) (j2 := 5094) (j3 := 36) (j4 := 1007) (j5 := 5095) (by decide +kernel)
set_option maxRecDepth 100000 in
theorem mp_lkL_200 : mp_LV RL 200 yX9_span cX9_span 5 (some FieldType.int) 3 9 := mp_lv_ok (j1 := 5096) (j2 := 5097) (j3 := 5098) (j4 := 1001) (j5 := 5099) (by decide +kernel)
set_option maxRecDepth 100000 in
theorem mp_lkX9_304 : mp_LV RX9 304 yX4_fullBound cX4_fullBound 9 (some FieldType.int) 1 4 := mp_lv_ok (j1 := 5100) (j2 := 5101) (j3 := 5102) (j4 := 1007) (j5 := 5103) (by decide +kernel)
set_option maxRecDepth 100000 in
theorem mp_lkX4_105 : mp_LS RX4 105 yJ9_max_f86c9 cJ9_max_f86c9 4 (some FieldType.long) 2 := mp_ls_ok (j1 := 5104) (j2 := 5105) (j4 := 1013) (j5 := 5106) (by decide +kernel)
set_option maxRecDepth 100000 in
theorem mp_lkX4_108 : mp_LS RX4 108 yJ9_min_f86c9 cJ9_min_f86c9 4 (some FieldType.long) 2 := mp_ls_ok (j1 := 5107) (j2 := 5108) (j4 := 1013) (j5 := 5109) (by decide +kernel)
set_option maxRecDepth 100000 in
theorem mp_lkL_204 : mp_LV RL 204 yX9_wins cX9_wins 3 (some FieldType.int) 1 9 := mp_lv_ok (j1 := 5110) (j2 := 5111) (j3 := 5112) (j4 := 1001) (j5 := 5113) (by decide +kernel)
set_option maxRecDepth 100000 in
theorem mp_lkX9_307 : mp_LV RX9 307 yX9_putInThreat cX9_putInThreat 2 (some FieldType.int) 1 9 := mp_lv_ok (j1 := 5114) (j2 := 5116) (j3 := 37) (j4 := 1001) (j5 := 5117) (by decide +kernel)
set_option maxRecDepth 100000 in
theorem mp_lkX9_383 : mp_LV RX9 383 yX6_load cX6_load 6 (some FieldType.boolean) 2 6 := mp_lv_ok (j1 := 5118) (j2 := 5119) (j3 := 5120) (j4 := 1008) (j5 := 5121) (by decide +kernel)
set_option maxRecDepth 100000 in
theorem mp_lkX6_27 : mp_LV RX6 27 yX5_at cX5_at 3 (some FieldType.long) 2 5 := mp_lv_ok (j1 := 5122) (j2 := 5039) (j3 := 5040) (j4 := 1010) (j5 := 5041) (by decide +kernel)
set_option maxRecDepth 100000 in
theorem mp_lkX9_310 : mp_LV RX9 310 yX6_total cX6_total 3 (some FieldType.int) 0 6 := mp_lv_ok (j1 := 5124) (j2 := 5125) (j3 := 5126) (j4 := 1008) (j5 := 5127) (by decide +kernel)
set_option maxRecDepth 100000 in
theorem mp_lkL_208 : mp_LV RL 208 yX9_turn cX9_turn 3 (some FieldType.int) 1 9 := mp_lv_ok (j1 := 5128) (j2 := 5129) (j3 := 5130) (j4 := 1001) (j5 := 5131) (by decide +kernel)
set_option maxRecDepth 100000 in
theorem mp_lkX9_313 : mp_LV RX9 313 yX6_winningTurn cX6_winningTurn 4 (some FieldType.int) 0 6 := mp_lv_ok (j1 := 5132) (j2 := 5133) (j3 := 5134) (j4 := 1008) (j5 := 5135) (by decide +kernel)
set_option maxRecDepth 100000 in
theorem mp_lkX6_33 : mp_LV RX6 33 yX6_total cX6_total 3 (some FieldType.int) 0 6 := mp_lv_ok (j1 := 5136) (j2 := 5125) (j3 := 5126) (j4 := 1008) (j5 := 5127) (by decide +kernel)
set_option maxRecDepth 100000 in
theorem mp_lkL_212 : mp_LV RL 212 yX9_drawn cX9_drawn 4 (some FieldType.int) 3 9 := mp_lv_ok (j1 := 5137) (j2 := 5138) (j3 := 5139) (j4 := 1001) (j5 := 5140) (by decide +kernel)
set_option maxRecDepth 100000 in
theorem mp_lkX9_316 : mp_LV RX9 316 yX9_canDraw cX9_canDraw 4 (some FieldType.boolean) 3 9 := mp_lv_ok (j1 := 5141) (j2 := 5143) (j3 := 38) (j4 := 1001) (j5 := 5144) (by decide +kernel)
set_option maxRecDepth 100000 in
theorem mp_lkX9_319 : mp_LV RX9 319 yX8_pass cX8_pass 10 none 4 8 := mp_lv_ok (j1 := 5146) (j2 := 5147) (j3 := 5148) (j4 := 1009) (j5 := 5149) (by decide +kernel)
set_option maxRecDepth 100000 in
theorem mp_lkX8_25 : mp_LV RX8 25 yX0_lastsAt cX0_lastsAt 3 (some (FieldType.array FieldType.int)) 1 0 := mp_lv_ok (j1 := 5150) (j2 := 3174) (j3 := 3175) (j4 := 1004) (j5 := 3176) (by decide +kernel)
set_option maxRecDepth 100000 in
theorem mp_lkX8_43 : mp_LV RX8 43 yX7_bothLive cX7_bothLive 3 (some FieldType.boolean) 2 7 := mp_lv_ok (j1 := 5152) (j2 := 4073) (j3 := 4074) (j4 := 1003) (j5 := 4075) (by decide +kernel)
set_option maxRecDepth 100000 in
theorem mp_lkX8_61 : mp_LV RX8 61 yX7_worthBy cX7_worthBy 5 (some FieldType.int) 3 7 := mp_lv_ok (j1 := 5157) (j2 := 3195) (j3 := 3196) (j4 := 1003) (j5 := 3197) (by decide +kernel)
set_option maxRecDepth 100000 in
theorem mp_lkL_216 : mp_LV RL 216 yX9_often cX9_often 4 (some FieldType.int) 3 9 := mp_lv_ok (j1 := 5158) (j2 := 5159) (j3 := 5160) (j4 := 1001) (j5 := 5161) (by decide +kernel)
set_option maxRecDepth 100000 in
theorem mp_lkL_220 : mp_LV RL 220 yX9_lucky cX9_lucky 7 (some FieldType.int) 4 9 := mp_lv_ok (j1 := 5162) (j2 := 5163) (j3 := 5164) (j4 := 1001) (j5 := 5165) (by decide +kernel)
set_option maxRecDepth 100000 in
theorem mp_lkL_224 : mp_LV RL 224 yX9_promises cX9_promises 5 (some FieldType.int) 3 9 := mp_lv_ok (j1 := 5166) (j2 := 5167) (j3 := 5168) (j4 := 1001) (j5 := 5169) (by decide +kernel)
