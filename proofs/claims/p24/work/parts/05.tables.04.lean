set_option maxRecDepth 100000 in
theorem mp_lkX9_329 : mp_LV RX9 329 yX7_addPromise cX7_addPromise 5 none 4 7 := mp_lv_ok (j1 := 5171) (j2 := 3087) (j3 := 3088) (j4 := 1003) (j5 := 3089) (by decide +kernel)
set_option maxRecDepth 100000 in
theorem mp_lkL_228 : mp_LV RL 228 yX9_shuts cX9_shuts 6 (some FieldType.int) 3 9 := mp_lv_ok (j1 := 5172) (j2 := 5173) (j3 := 5174) (j4 := 1001) (j5 := 5175) (by decide +kernel)
set_option maxRecDepth 100000 in
theorem mp_lkX9_333 : mp_LV RX9 333 yX7_setShut cX7_setShut 7 none 3 7 := mp_lv_ok (j1 := 5176) (j2 := 3101) (j3 := 3102) (j4 := 1003) (j5 := 3103) (by decide +kernel)
set_option maxRecDepth 100000 in
theorem mp_lkL_232 : mp_LV RL 232 yX9_tends cX9_tends 4 (some FieldType.int) 2 9 := mp_lv_ok (j1 := 5177) (j2 := 5178) (j3 := 5179) (j4 := 1001) (j5 := 5180) (by decide +kernel)
set_option maxRecDepth 100000 in
theorem mp_lkL_236 : mp_LV RL 236 yX9_count cX9_count 3 (some FieldType.int) 1 9 := mp_lv_ok (j1 := 5181) (j2 := 5182) (j3 := 5183) (j4 := 1001) (j5 := 5184) (by decide +kernel)
set_option maxRecDepth 100000 in
theorem mp_lkX9_340 : mp_LV RX9 340 yX7_countSeas cX7_countSeas 3 (some FieldType.int) 0 7 := mp_lv_ok (j1 := 5185) (j2 := 5186) (j3 := 5187) (j4 := 1003) (j5 := 5188) (by decide +kernel)
set_option maxRecDepth 100000 in
theorem mp_lkX9_343 : mp_LV RX9 343 yX7_countShut cX7_countShut 3 (some FieldType.int) 0 7 := mp_lv_ok (j1 := 5189) (j2 := 5190) (j3 := 5191) (j4 := 1003) (j5 := 5192) (by decide +kernel)
set_option maxRecDepth 100000 in
theorem mp_lkX7_85 : mp_LS RX7 85 yJ13_bitCount_95d88 cJ13_bitCount_95d88 2 (some FieldType.int) 1 := mp_ls_ok (j1 := 5193) (j2 := 5194) (j4 := 1020) (j5 := 5195) (by decide +kernel)
set_option maxRecDepth 100000 in
theorem mp_lkX9_347 : mp_LV RX9 347 yX5_countTaken cX5_countTaken 3 (some FieldType.int) 0 5 := mp_lv_ok (j1 := 5199) (j2 := 5200) (j3 := 5201) (j4 := 1010) (j5 := 5202) (by decide +kernel)
set_option maxRecDepth 100000 in
theorem mp_lkX5_22 : mp_LV RX5 22 yX5_isTaken cX5_isTaken 2 (some FieldType.boolean) 1 5 := mp_lv_ok (j1 := 5203) (j2 := 5030) (j3 := 5031) (j4 := 1010) (j5 := 5032) (by decide +kernel)
set_option maxRecDepth 100000 in
theorem mp_lkL_240 : mp_LV RL 240 yX9_image cX9_image 2 (some FieldType.int) 1 9 := mp_lv_ok (j1 := 5204) (j2 := 5205) (j3 := 5206) (j4 := 1001) (j5 := 5207) (by decide +kernel)
set_option maxRecDepth 100000 in
theorem mp_lkX9_350 : mp_LNs RX9 350 yX7_init cX7_init 1 none 0 := mp_ln_ok (host := RX9) (j1 := 11) (j4 := 1003) (j5 := 1039) (by decide +kernel)
set_option maxRecDepth 100000 in
theorem mp_lkL_244 : mp_LV RL 244 yX9_back cX9_back 2 (some FieldType.int) 1 9 := mp_lv_ok (j1 := 5209) (j2 := 5210) (j3 := 5211) (j4 := 1001) (j5 := 5212) (by decide +kernel)
set_option maxRecDepth 100000 in
theorem mp_lkL_248 : mp_LV RL 248 yX9_row cX9_row 4 (some FieldType.int) 3 9 := mp_lv_ok (j1 := 5213) (j2 := 5214) (j3 := 5215) (j4 := 1001) (j5 := 5216) (by decide +kernel)
set_option maxRecDepth 100000 in
theorem mp_lkX9_354 : mp_LV RX9 354 yX5_lay cX5_lay 5 none 3 5 := mp_lv_ok (j1 := 5217) (j2 := 5218) (j3 := 5219) (j4 := 1010) (j5 := 5220) (by decide +kernel)
set_option maxRecDepth 100000 in
theorem mp_lkL_254 : mp_LV RL 254 yX9_write cX9_write 5 (some FieldType.int) 3 9 := mp_lv_ok (j1 := 5221) (j2 := 5222) (j3 := 5223) (j4 := 1001) (j5 := 5224) (by decide +kernel)
set_option maxRecDepth 100000 in
theorem mp_lkX9_364 : mp_LV RX9 364 yX5_put cX5_put 5 none 3 5 := mp_lv_ok (j1 := 5225) (j2 := 5226) (j3 := 5227) (j4 := 1010) (j5 := 5228) (by decide +kernel)
set_option maxRecDepth 100000 in
theorem mp_lkX5_26 : mp_LS RX5 26 yX5_cut cX5_cut 3 (some FieldType.long) 2 := mp_ls_ok (j1 := 5229) (j2 := 5230) (j4 := 1010) (j5 := 5231) (by decide +kernel)
set_option maxRecDepth 100000 in
theorem mp_lkL_259 : mp_LV RL 259 yX9_paste cX9_paste 6 (some FieldType.int) 5 9 := mp_lv_ok (j1 := 5232) (j2 := 5233) (j3 := 5234) (j4 := 1001) (j5 := 5235) (by decide +kernel)
set_option maxRecDepth 100000 in
theorem mp_lkX9_371 : mp_LV RX9 371 yX5_holds cX5_holds 4 (some FieldType.boolean) 3 5 := mp_lv_ok (j1 := 5236) (j2 := 5237) (j3 := 5238) (j4 := 1010) (j5 := 5239) (by decide +kernel)
set_option maxRecDepth 100000 in
theorem mp_lkX9_374 : mp_LV RX9 374 yX5_move cX5_move 6 none 5 5 := mp_lv_ok (j1 := 6000) (j2 := 6001) (j3 := 6002) (j4 := 1010) (j5 := 6003) (by decide +kernel)
set_option maxRecDepth 100000 in
theorem mp_lkL_12 : mp_LI RL 12 yX10_init cX10_init 2 0 := mp_li_ok (j1 := 6007) (j2 := 6008) (j4 := 1011) (j5 := 6009) (by decide +kernel)
set_option maxRecDepth 100000 in
theorem mp_lkL_251 : mp_LV RL 251 yX10_row cX10_row 5 (some FieldType.int) 3 10 := mp_lv_ok (j1 := 6154) (j2 := 6155) (j3 := 6156) (j4 := 1011) (j5 := 6157) (by decide +kernel)
set_option maxRecDepth 100000 in
theorem mp_lkX10_101 : mp_LS RX10 101 yX10_isSlot cX10_isSlot 1 (some FieldType.boolean) 1 := mp_ls_ok (j1 := 6158) (j2 := 6159) (j4 := 1011) (j5 := 6160) (by decide +kernel)
set_option maxRecDepth 100000 in
theorem mp_lkX10_97 : mp_LS RX10 97 yX10_in cX10_in 6 (some FieldType.boolean) 3 := mp_ls_ok (j1 := 6162) (j2 := 6163) (j4 := 1011) (j5 := 6164) (by decide +kernel)
set_option maxRecDepth 100000 in
theorem mp_lkL_258 : mp_LV RL 258 yX10_write cX10_write 5 (some FieldType.int) 3 10 := mp_lv_ok (j1 := 6165) (j2 := 6166) (j3 := 6167) (j4 := 1011) (j5 := 6168) (by decide +kernel)
set_option maxRecDepth 100000 in
theorem mp_lkX10_105 : mp_LS RX10 105 yX10_cut cX10_cut 3 (some FieldType.long) 2 := mp_ls_ok (j1 := 6169) (j2 := 6170) (j4 := 1011) (j5 := 6171) (by decide +kernel)
set_option maxRecDepth 100000 in
theorem mp_lkL_262 : mp_LV RL 262 yX10_paste cX10_paste 7 (some FieldType.int) 5 10 := mp_lv_ok (j1 := 6172) (j2 := 6173) (j3 := 6174) (j4 := 1011) (j5 := 6175) (by decide +kernel)
set_option maxRecDepth 100000 in
theorem mp_lkL_17 : mp_LV RL 17 yX10_feed cX10_feed 6 (some FieldType.int) 5 10 := mp_lv_ok (j1 := 6176) (j2 := 6177) (j3 := 6178) (j4 := 1011) (j5 := 6179) (by decide +kernel)
set_option maxRecDepth 100000 in
theorem mp_lkX10_112 : mp_LV RX10 112 yX10_four cX10_four 3 none 1 10 := mp_lv_ok (j1 := 6180) (j2 := 6182) (j3 := 39) (j4 := 1011) (j5 := 6183) (by decide +kernel)
set_option maxRecDepth 100000 in
theorem mp_lkL_22 : mp_LV RL 22 yX10_end cX10_end 2 (some FieldType.int) 1 10 := mp_lv_ok (j1 := 6184) (j2 := 6185) (j3 := 6186) (j4 := 1011) (j5 := 6187) (by decide +kernel)
set_option maxRecDepth 100000 in
theorem mp_lkL_31 : mp_LV RL 31 yX10_fault cX10_fault 2 (some FieldType.int) 1 10 := mp_lv_ok (j1 := 6188) (j2 := 6189) (j3 := 6190) (j4 := 1011) (j5 := 6191) (by decide +kernel)
set_option maxRecDepth 100000 in
theorem mp_lkL_27 : mp_LV RL 27 yX10_isles cX10_isles 1 (some FieldType.int) 0 10 := mp_lv_ok (j1 := 6192) (j2 := 6193) (j3 := 6194) (j4 := 1011) (j5 := 6195) (by decide +kernel)
set_option maxRecDepth 100000 in
theorem mp_lkX10_228 : mp_LV RX10 228 yX10_clears cX10_clears 2 none 0 10 := mp_lv_ok (j1 := 6196) (j2 := 6198) (j3 := 40) (j4 := 1011) (j5 := 6199) (by decide +kernel)
set_option maxRecDepth 100000 in
theorem mp_lkX10_231 : mp_LV RX10 231 yX10_begins cX10_begins 1 none 0 10 := mp_lv_ok (j1 := 6200) (j2 := 6202) (j3 := 41) (j4 := 1011) (j5 := 6203) (by decide +kernel)
set_option maxRecDepth 100000 in
theorem mp_lkX10_154 : mp_LV RX10 154 yX10_next cX10_next 2 none 0 10 := mp_lv_ok (j1 := 6204) (j2 := 6206) (j3 := 42) (j4 := 1011) (j5 := 6207) (by decide +kernel)
set_option maxRecDepth 100000 in
theorem mp_lkX10_119 : mp_LV RX10 119 yX10_isByte cX10_isByte 4 (some FieldType.boolean) 3 10 := mp_lv_ok (j1 := 6208) (j2 := 6210) (j3 := 43) (j4 := 1011) (j5 := 6211) (by decide +kernel)
set_option maxRecDepth 100000 in
theorem mp_lkX10_189 : mp_LV RX10 189 yX10_isGood cX10_isGood 1 (some FieldType.boolean) 0 10 := mp_lv_ok (j1 := 6217) (j2 := 6219) (j3 := 44) (j4 := 1011) (j5 := 6220) (by decide +kernel)
set_option maxRecDepth 100000 in
theorem mp_lkX10_163 : mp_LV RX10 163 yX10_asks cX10_asks 3 none 1 10 := mp_lv_ok (j1 := 6222) (j2 := 6224) (j3 := 45) (j4 := 1011) (j5 := 6225) (by decide +kernel)
set_option maxRecDepth 100000 in
theorem mp_lkX10_157 : mp_LV RX10 157 yX10_takes cX10_takes 3 (some FieldType.boolean) 1 10 := mp_lv_ok (j1 := 6226) (j2 := 6228) (j3 := 46) (j4 := 1011) (j5 := 6229) (by decide +kernel)
set_option maxRecDepth 100000 in
theorem mp_lkX10_150 : mp_LV RX10 150 yX10_is cX10_is 3 (some FieldType.boolean) 1 10 := mp_lv_ok (j1 := 6230) (j2 := 6232) (j3 := 47) (j4 := 1011) (j5 := 6233) (by decide +kernel)
set_option maxRecDepth 100000 in
theorem mp_lkX10_160 : mp_LV RX10 160 yX10_fails cX10_fails 2 none 1 10 := mp_lv_ok (j1 := 6234) (j2 := 6236) (j3 := 48) (j4 := 1011) (j5 := 6237) (by decide +kernel)
set_option maxRecDepth 100000 in
theorem mp_lkX10_167 : mp_LV RX10 167 yX10_number cX10_number 4 (some FieldType.int) 2 10 := mp_lv_ok (j1 := 6238) (j2 := 7000) (j3 := 49) (j4 := 1011) (j5 := 7001) (by decide +kernel)
set_option maxRecDepth 100000 in
theorem mp_lkX10_197 : mp_LV RX10 197 yX10_moonHere cX10_moonHere 1 (some FieldType.int) 0 10 := mp_lv_ok (j1 := 7003) (j2 := 7005) (j3 := 50) (j4 := 1011) (j5 := 7006) (by decide +kernel)
set_option maxRecDepth 100000 in
theorem mp_lkX10_238 : mp_LV RX10 238 yX10_line cX10_line 5 none 0 10 := mp_lv_ok (j1 := 7007) (j2 := 7009) (j3 := 51) (j4 := 1011) (j5 := 7010) (by decide +kernel)
set_option maxRecDepth 100000 in
theorem mp_lkX10_174 : mp_LV RX10 174 yX10_hasRead cX10_hasRead 2 (some FieldType.int) 1 10 := mp_lv_ok (j1 := 7013) (j2 := 7015) (j3 := 52) (j4 := 1011) (j5 := 7016) (by decide +kernel)
set_option maxRecDepth 100000 in
theorem mp_lkX10_215 : mp_LV RX10 215 yX10_personLine cX10_personLine 4 none 0 10 := mp_lv_ok (j1 := 7017) (j2 := 7019) (j3 := 53) (j4 := 1011) (j5 := 7020) (by decide +kernel)
set_option maxRecDepth 100000 in
theorem mp_lkX10_178 : mp_LV RX10 178 yX10_isleHere cX10_isleHere 1 (some FieldType.int) 0 10 := mp_lv_ok (j1 := 7022) (j2 := 7024) (j3 := 54) (j4 := 1011) (j5 := 7025) (by decide +kernel)
set_option maxRecDepth 100000 in
theorem mp_lkX10_218 : mp_LV RX10 218 yX10_promiseLine cX10_promiseLine 3 none 0 10 := mp_lv_ok (j1 := 7028) (j2 := 7030) (j3 := 55) (j4 := 1011) (j5 := 7031) (by decide +kernel)
set_option maxRecDepth 100000 in
theorem mp_lkX10_200 : mp_LV RX10 200 yX10_personHere cX10_personHere 1 (some FieldType.int) 0 10 := mp_lv_ok (j1 := 7032) (j2 := 7034) (j3 := 56) (j4 := 1011) (j5 := 7035) (by decide +kernel)
set_option maxRecDepth 100000 in
theorem mp_lkX10_184 : mp_LV RX10 184 yX10_number_ cX10_number_ 5 (some FieldType.int) 3 10 := mp_lv_ok (j1 := 7038) (j2 := 7040) (j3 := 57) (j4 := 1011) (j5 := 7041) (by decide +kernel)
set_option maxRecDepth 100000 in
theorem mp_lkX10_223 : mp_LV RX10 223 yX10_seaLine cX10_seaLine 4 none 0 10 := mp_lv_ok (j1 := 7045) (j2 := 7047) (j3 := 58) (j4 := 1011) (j5 := 7048) (by decide +kernel)
set_option maxRecDepth 100000 in
theorem mp_lkX10_241 : mp_LV RX10 241 yX10_ends cX10_ends 1 none 0 10 := mp_lv_ok (j1 := 7051) (j2 := 7053) (j3 := 59) (j4 := 1011) (j5 := 7054) (by decide +kernel)
set_option maxRecDepth 100000 in
theorem mp_lkX10_244 : mp_LV RX10 244 yX10_isOver cX10_isOver 1 none 0 10 := mp_lv_ok (j1 := 7055) (j2 := 7057) (j3 := 60) (j4 := 1011) (j5 := 7058) (by decide +kernel)
set_option maxRecDepth 100000 in
theorem mp_lkX10_247 : mp_LV RX10 247 yX10_copyIsles cX10_copyIsles 4 none 2 10 := mp_lv_ok (j1 := 7059) (j2 := 7061) (j3 := 61) (j4 := 1011) (j5 := 7062) (by decide +kernel)
set_option maxRecDepth 100000 in
theorem mp_lkX10_251 : mp_LS RX10 251 yX10_copyRow cX10_copyRow 5 none 4 := mp_ls_ok (j1 := 7063) (j2 := 7064) (j4 := 1011) (j5 := 7065) (by decide +kernel)
set_option maxRecDepth 100000 in
theorem mp_lkL_36 : mp_LV RL 36 yX10_person cX10_person 3 (some FieldType.int) 2 10 := mp_lv_ok (j1 := 7066) (j2 := 7067) (j3 := 7068) (j4 := 1011) (j5 := 7069) (by decide +kernel)
set_option maxRecDepth 100000 in
theorem mp_lkX10_255 : mp_LV RX10 255 yX10_isPerson cX10_isPerson 2 (some FieldType.boolean) 1 10 := mp_lv_ok (j1 := 7070) (j2 := 7072) (j3 := 62) (j4 := 1011) (j5 := 7073) (by decide +kernel)
set_option maxRecDepth 100000 in
theorem mp_lkL_40 : mp_LV RL 40 yX10_promise cX10_promise 3 (some FieldType.int) 2 10 := mp_lv_ok (j1 := 7075) (j2 := 7076) (j3 := 7077) (j4 := 1011) (j5 := 7078) (by decide +kernel)
set_option maxRecDepth 100000 in
theorem mp_lkX10_262 : mp_LV RX10 262 yX10_isPromise cX10_isPromise 2 (some FieldType.boolean) 1 10 := mp_lv_ok (j1 := 7079) (j2 := 7081) (j3 := 63) (j4 := 1011) (j5 := 7082) (by decide +kernel)
set_option maxRecDepth 100000 in
theorem mp_lkX10_267 : mp_LV RX10 267 yX10_of cX10_of 3 (some FieldType.int) 2 10 := mp_lv_ok (j1 := 7084) (j2 := 7086) (j3 := 64) (j4 := 1011) (j5 := 7087) (by decide +kernel)
set_option maxRecDepth 100000 in
theorem mp_lkL_44 : mp_LV RL 44 yX10_sea cX10_sea 3 (some FieldType.int) 2 10 := mp_lv_ok (j1 := 7088) (j2 := 7089) (j3 := 7090) (j4 := 1011) (j5 := 7091) (by decide +kernel)
set_option maxRecDepth 100000 in
theorem mp_lkX10_270 : mp_LV RX10 270 yX10_isIsle cX10_isIsle 2 (some FieldType.boolean) 1 10 := mp_lv_ok (j1 := 7092) (j2 := 7094) (j3 := 65) (j4 := 1011) (j5 := 7095) (by decide +kernel)
set_option maxRecDepth 100000 in
theorem mp_lkL_48 : mp_LV RL 48 yX10_open cX10_open 3 (some FieldType.int) 2 10 := mp_lv_ok (j1 := 7096) (j2 := 7097) (j3 := 7098) (j4 := 1011) (j5 := 7099) (by decide +kernel)
set_option maxRecDepth 100000 in
theorem mp_lkX10_273 : mp_LS RX10 273 yX10_isMoon cX10_isMoon 1 (some FieldType.boolean) 1 := mp_ls_ok (j1 := 7100) (j2 := 7101) (j4 := 1011) (j5 := 7102) (by decide +kernel)
