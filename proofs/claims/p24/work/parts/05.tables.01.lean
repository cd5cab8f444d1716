set_option maxRecDepth 100000 in
theorem mp_lkX9_18 : mp_LNs RX9 18 yX0_init cX0_init 1 none 0 := mp_ln_ok (host := RX9) (j1 := 2) (j4 := 1004) (j5 := 1188) (by decide +kernel)
set_option maxRecDepth 100000 in
theorem mp_lkX0_11 : mp_LNs RX0 11 yX7_init cX7_init 1 none 0 := mp_ln_ok (host := RX9) (j1 := 3) (j4 := 1003) (j5 := 1039) (by decide +kernel)
set_option maxRecDepth 100000 in
theorem mp_lkX9_31 : mp_LNs RX9 31 yX1_init cX1_init 1 none 0 := mp_ln_ok (host := RX9) (j1 := 4) (j4 := 1005) (j5 := 1233) (by decide +kernel)
set_option maxRecDepth 100000 in
theorem mp_lkX9_38 : mp_LNs RX9 38 yX2_init cX2_init 1 none 0 := mp_ln_ok (host := RX9) (j1 := 5) (j4 := 1006) (j5 := 2014) (by decide +kernel)
set_option maxRecDepth 100000 in
theorem mp_lkX9_45 : mp_LNs RX9 45 yX4_init cX4_init 1 none 0 := mp_ln_ok (host := RX9) (j1 := 6) (j4 := 1007) (j5 := 2056) (by decide +kernel)
set_option maxRecDepth 100000 in
theorem mp_lkX9_52 : mp_LI RX9 52 yX6_init cX6_init 4 0 := mp_li_ok (j1 := 2095) (j2 := 2096) (j4 := 1008) (j5 := 2097) (by decide +kernel)
set_option maxRecDepth 100000 in
theorem mp_lkX9_59 : mp_LNs RX9 59 yX8_init cX8_init 1 none 0 := mp_ln_ok (host := RX9) (j1 := 7) (j4 := 1009) (j5 := 2113) (by decide +kernel)
set_option maxRecDepth 100000 in
theorem mp_lkX9_66 : mp_LI RX9 66 yX5_init cX5_init 2 0 := mp_li_ok (j1 := 2129) (j2 := 2130) (j4 := 1010) (j5 := 2131) (by decide +kernel)
set_option maxRecDepth 100000 in
theorem mp_lkL_13 : mp_LV RL 13 yX9_feed cX9_feed 6 (some FieldType.int) 5 9 := mp_lv_ok (j1 := 2175) (j2 := 2176) (j3 := 2177) (j4 := 1001) (j5 := 2178) (by decide +kernel)
set_option maxRecDepth 100000 in
theorem mp_lkX9_75 : mp_LV RX9 75 yX3_addFour cX3_addFour 3 none 1 3 := mp_lv_ok (j1 := 2179) (j2 := 2180) (j3 := 2181) (j4 := 1002) (j5 := 2182) (by decide +kernel)
set_option maxRecDepth 100000 in
theorem mp_lkL_18 : mp_LV RL 18 yX9_end cX9_end 2 (some FieldType.int) 1 9 := mp_lv_ok (j1 := 2183) (j2 := 2184) (j3 := 2185) (j4 := 1001) (j5 := 2186) (by decide +kernel)
set_option maxRecDepth 100000 in
theorem mp_lkL_23 : mp_LV RL 23 yX9_isles cX9_isles 2 (some FieldType.int) 0 9 := mp_lv_ok (j1 := 2187) (j2 := 2188) (j3 := 2189) (j4 := 1001) (j5 := 2190) (by decide +kernel)
set_option maxRecDepth 100000 in
theorem mp_lkX9_79 : mp_LV RX9 79 yX3_readAll cX3_readAll 2 (some FieldType.boolean) 0 3 := mp_lv_ok (j1 := 2191) (j2 := 2192) (j3 := 2193) (j4 := 1002) (j5 := 2194) (by decide +kernel)
set_option maxRecDepth 100000 in
theorem mp_lkX3_29 : mp_LV RX3 29 yX7_clear cX7_clear 1 none 0 7 := mp_lv_ok (j1 := 2195) (j2 := 2196) (j3 := 2197) (j4 := 1003) (j5 := 2198) (by decide +kernel)
set_option maxRecDepth 100000 in
theorem mp_lkX7_68 : mp_LS RX7 68 yJ7_fill_53178 cJ7_fill_53178 4 none 2 := mp_ls_ok (j1 := 2199) (j2 := 2200) (j4 := 1012) (j5 := 2201) (by decide +kernel)
set_option maxRecDepth 100000 in
theorem mp_lkX7_74 : mp_LS RX7 74 yJ7_fill_d0a16 cJ7_fill_d0a16 5 none 2 := mp_ls_ok (j1 := 2202) (j2 := 2203) (j4 := 1012) (j5 := 2204) (by decide +kernel)
set_option maxRecDepth 100000 in
theorem mp_lkX3_38 : mp_LV RX3 38 yX3_step cX3_step 1 none 0 3 := mp_lv_ok (j1 := 2205) (j2 := 2207) (j3 := 0) (j4 := 1002) (j5 := 2208) (by decide +kernel)
set_option maxRecDepth 100000 in
theorem mp_lkX3_173 : mp_LV RX3 173 yX3_isLetter cX3_isLetter 2 (some FieldType.boolean) 1 3 := mp_lv_ok (j1 := 2209) (j2 := 2211) (j3 := 1) (j4 := 1002) (j5 := 2212) (by decide +kernel)
set_option maxRecDepth 100000 in
theorem mp_lkX3_176 : mp_LV RX3 176 yX3_isDigit cX3_isDigit 2 (some FieldType.boolean) 1 3 := mp_lv_ok (j1 := 2213) (j2 := 2215) (j3 := 2) (j4 := 1002) (j5 := 2216) (by decide +kernel)
set_option maxRecDepth 100000 in
theorem mp_lkX3_180 : mp_LS RX3 180 yJ9_min_7cf53 cJ9_min_7cf53 2 (some FieldType.int) 2 := mp_ls_ok (j1 := 2218) (j2 := 2219) (j4 := 1013) (j5 := 2220) (by decide +kernel)
set_option maxRecDepth 100000 in
theorem mp_lkX3_44 : mp_LV RX3 44 yX3_takeLine cX3_takeLine 2 (some FieldType.boolean) 0 3 := mp_lv_ok (j1 := 2221) (j2 := 2223) (j3 := 3) (j4 := 1002) (j5 := 2224) (by decide +kernel)
set_option maxRecDepth 100000 in
theorem mp_lkX3_56 : mp_LV RX3 56 yX3_isWord cX3_isWord 3 (some FieldType.boolean) 1 3 := mp_lv_ok (j1 := 2226) (j2 := 2228) (j3 := 4) (j4 := 1002) (j5 := 2229) (by decide +kernel)
set_option maxRecDepth 100000 in
theorem mp_lkX3_60 : mp_LV RX3 60 yX3_fail cX3_fail 2 (some FieldType.boolean) 1 3 := mp_lv_ok (j1 := 3038) (j2 := 3040) (j3 := 5) (j4 := 1002) (j5 := 3041) (by decide +kernel)
set_option maxRecDepth 100000 in
theorem mp_lkX3_64 : mp_LV RX3 64 yX3_takeIsles cX3_takeIsles 1 (some FieldType.boolean) 0 3 := mp_lv_ok (j1 := 3042) (j2 := 3044) (j3 := 6) (j4 := 1002) (j5 := 3045) (by decide +kernel)
set_option maxRecDepth 100000 in
theorem mp_lkX3_91 : mp_LV RX3 91 yX3_takeNumber cX3_takeNumber 4 (some FieldType.boolean) 3 3 := mp_lv_ok (j1 := 3046) (j2 := 3048) (j3 := 7) (j4 := 1002) (j5 := 3049) (by decide +kernel)
set_option maxRecDepth 100000 in
theorem mp_lkX3_102 : mp_LV RX3 102 yX3_takeWord cX3_takeWord 2 (some FieldType.boolean) 1 3 := mp_lv_ok (j1 := 3051) (j2 := 3053) (j3 := 8) (j4 := 1002) (j5 := 3054) (by decide +kernel)
set_option maxRecDepth 100000 in
theorem mp_lkX3_69 : mp_LV RX3 69 yX3_takeSea cX3_takeSea 3 (some FieldType.boolean) 0 3 := mp_lv_ok (j1 := 3056) (j2 := 3058) (j3 := 9) (j4 := 1002) (j5 := 3059) (by decide +kernel)
set_option maxRecDepth 100000 in
theorem mp_lkX3_110 : mp_LV RX3 110 yX7_laySea cX7_laySea 4 none 3 7 := mp_lv_ok (j1 := 3061) (j2 := 3062) (j3 := 3063) (j4 := 1003) (j5 := 3064) (by decide +kernel)
set_option maxRecDepth 100000 in
theorem mp_lkX3_74 : mp_LV RX3 74 yX3_takePerson cX3_takePerson 5 (some FieldType.boolean) 0 3 := mp_lv_ok (j1 := 3066) (j2 := 3068) (j3 := 10) (j4 := 1002) (j5 := 3069) (by decide +kernel)
set_option maxRecDepth 100000 in
theorem mp_lkX3_119 : mp_LV RX3 119 yX7_addPerson cX7_addPerson 2 none 1 7 := mp_lv_ok (j1 := 3071) (j2 := 3072) (j3 := 3073) (j4 := 1003) (j5 := 3074) (by decide +kernel)
set_option maxRecDepth 100000 in
theorem mp_lkX3_79 : mp_LV RX3 79 yX3_takePromise cX3_takePromise 4 (some FieldType.boolean) 0 3 := mp_lv_ok (j1 := 3078) (j2 := 3080) (j3 := 11) (j4 := 1002) (j5 := 3081) (by decide +kernel)
set_option maxRecDepth 100000 in
theorem mp_lkX3_141 : mp_LV RX3 141 yX7_addPromise cX7_addPromise 5 none 4 7 := mp_lv_ok (j1 := 3086) (j2 := 3087) (j3 := 3088) (j4 := 1003) (j5 := 3089) (by decide +kernel)
set_option maxRecDepth 100000 in
theorem mp_lkX3_85 : mp_LV RX3 85 yX3_takePromiseMarks cX3_takePromiseMarks 3 (some FieldType.boolean) 1 3 := mp_lv_ok (j1 := 3090) (j2 := 3092) (j3 := 12) (j4 := 1002) (j5 := 3093) (by decide +kernel)
set_option maxRecDepth 100000 in
theorem mp_lkX3_88 : mp_LV RX3 88 yX3_takeShut cX3_takeShut 2 (some FieldType.boolean) 0 3 := mp_lv_ok (j1 := 3095) (j2 := 3097) (j3 := 13) (j4 := 1002) (j5 := 3098) (by decide +kernel)
set_option maxRecDepth 100000 in
theorem mp_lkX3_154 : mp_LV RX3 154 yX7_setShut cX7_setShut 7 none 3 7 := mp_lv_ok (j1 := 3100) (j2 := 3101) (j3 := 3102) (j4 := 1003) (j5 := 3103) (by decide +kernel)
set_option maxRecDepth 100000 in
theorem mp_lkX3_48 : mp_LV RX3 48 yX3_takeSign cX3_takeSign 1 (some FieldType.boolean) 0 3 := mp_lv_ok (j1 := 3105) (j2 := 3107) (j3 := 14) (j4 := 1002) (j5 := 3108) (by decide +kernel)
set_option maxRecDepth 100000 in
theorem mp_lkX9_90 : mp_LV RX9 90 yX7_copyFrom cX7_copyFrom 2 none 1 7 := mp_lv_ok (j1 := 3109) (j2 := 3110) (j3 := 3111) (j4 := 1003) (j5 := 3112) (by decide +kernel)
set_option maxRecDepth 100000 in
theorem mp_lkX9_94 : mp_LV RX9 94 yX0_replay cX0_replay 2 none 0 0 := mp_lv_ok (j1 := 3116) (j2 := 3117) (j3 := 3118) (j4 := 1004) (j5 := 3119) (by decide +kernel)
set_option maxRecDepth 100000 in
theorem mp_lkX0_49 : mp_LS RX0 49 yJ7_fill_d0a16 cJ7_fill_d0a16 5 none 2 := mp_ls_ok (j1 := 3120) (j2 := 2203) (j4 := 1012) (j5 := 2204) (by decide +kernel)
set_option maxRecDepth 100000 in
theorem mp_lkX0_61 : mp_LV RX0 61 yX0_apply cX0_apply 4 none 1 0 := mp_lv_ok (j1 := 3121) (j2 := 3123) (j3 := 15) (j4 := 1004) (j5 := 3124) (by decide +kernel)
set_option maxRecDepth 100000 in
theorem mp_lkX0_65 : mp_LV RX0 65 yX7_oarsBetween cX7_oarsBetween 3 (some FieldType.int) 2 7 := mp_lv_ok (j1 := 3125) (j2 := 3126) (j3 := 3127) (j4 := 1003) (j5 := 3128) (by decide +kernel)
set_option maxRecDepth 100000 in
theorem mp_lkL_28 : mp_LV RL 28 yX9_fault cX9_fault 2 (some FieldType.int) 1 9 := mp_lv_ok (j1 := 3129) (j2 := 3130) (j3 := 3131) (j4 := 1001) (j5 := 3132) (by decide +kernel)
set_option maxRecDepth 100000 in
theorem mp_lkL_32 : mp_LV RL 32 yX9_person cX9_person 4 (some FieldType.int) 2 9 := mp_lv_ok (j1 := 3133) (j2 := 3134) (j3 := 3135) (j4 := 1001) (j5 := 3136) (by decide +kernel)
set_option maxRecDepth 100000 in
theorem mp_lkX9_106 : mp_LV RX9 106 yX7_isPerson cX7_isPerson 2 (some FieldType.boolean) 1 7 := mp_lv_ok (j1 := 3137) (j2 := 3138) (j3 := 3139) (j4 := 1003) (j5 := 3140) (by decide +kernel)
set_option maxRecDepth 100000 in
theorem mp_lkL_37 : mp_LV RL 37 yX9_promise cX9_promise 4 (some FieldType.int) 2 9 := mp_lv_ok (j1 := 3141) (j2 := 3142) (j3 := 3143) (j4 := 1001) (j5 := 3144) (by decide +kernel)
set_option maxRecDepth 100000 in
theorem mp_lkX9_120 : mp_LV RX9 120 yX7_isPromise cX7_isPromise 2 (some FieldType.boolean) 1 7 := mp_lv_ok (j1 := 3145) (j2 := 3146) (j3 := 3147) (j4 := 1003) (j5 := 3148) (by decide +kernel)
set_option maxRecDepth 100000 in
theorem mp_lkL_41 : mp_LV RL 41 yX9_sea cX9_sea 4 (some FieldType.int) 2 9 := mp_lv_ok (j1 := 3149) (j2 := 3150) (j3 := 3151) (j4 := 1001) (j5 := 3152) (by decide +kernel)
set_option maxRecDepth 100000 in
theorem mp_lkX9_141 : mp_LV RX9 141 yX7_isIsle cX7_isIsle 2 (some FieldType.boolean) 1 7 := mp_lv_ok (j1 := 3153) (j2 := 3154) (j3 := 3155) (j4 := 1003) (j5 := 3156) (by decide +kernel)
set_option maxRecDepth 100000 in
theorem mp_lkX9_144 : mp_LV RX9 144 yX7_oarsBetween cX7_oarsBetween 3 (some FieldType.int) 2 7 := mp_lv_ok (j1 := 3157) (j2 := 3126) (j3 := 3127) (j4 := 1003) (j5 := 3128) (by decide +kernel)
set_option maxRecDepth 100000 in
theorem mp_lkL_45 : mp_LV RL 45 yX9_open cX9_open 3 (some FieldType.int) 2 9 := mp_lv_ok (j1 := 3158) (j2 := 3159) (j3 := 3160) (j4 := 1001) (j5 := 3161) (by decide +kernel)
set_option maxRecDepth 100000 in
theorem mp_lkX9_148 : mp_LS RX9 148 yX9_isMoon cX9_isMoon 1 (some FieldType.boolean) 1 := mp_ls_ok (j1 := 3162) (j2 := 3163) (j4 := 1001) (j5 := 3164) (by decide +kernel)
set_option maxRecDepth 100000 in
theorem mp_lkX9_151 : mp_LV RX9 151 yX7_isShut cX7_isShut 3 (some FieldType.boolean) 2 7 := mp_lv_ok (j1 := 3165) (j2 := 3166) (j3 := 3167) (j4 := 1003) (j5 := 3168) (by decide +kernel)
set_option maxRecDepth 100000 in
theorem mp_lkL_49 : mp_LV RL 49 yX9_halvings cX9_halvings 3 (some FieldType.int) 2 9 := mp_lv_ok (j1 := 3169) (j2 := 3170) (j3 := 3171) (j4 := 1001) (j5 := 3172) (by decide +kernel)
set_option maxRecDepth 100000 in
theorem mp_lkX9_155 : mp_LV RX9 155 yX0_lastsAt cX0_lastsAt 3 (some (FieldType.array FieldType.int)) 1 0 := mp_lv_ok (j1 := 3173) (j2 := 3174) (j3 := 3175) (j4 := 1004) (j5 := 3176) (by decide +kernel)
set_option maxRecDepth 100000 in
theorem mp_lkX0_86 : mp_LV RX0 86 yX0_lastSaid cX0_lastSaid 5 (some FieldType.int) 2 0 := mp_lv_ok (j1 := 3177) (j2 := 3179) (j3 := 16) (j4 := 1004) (j5 := 3180) (by decide +kernel)
set_option maxRecDepth 100000 in
theorem mp_lkX0_92 : mp_LS RX0 92 yJ9_min_7cf53 cJ9_min_7cf53 2 (some FieldType.int) 2 := mp_ls_ok (j1 := 3181) (j2 := 2219) (j4 := 1013) (j5 := 2220) (by decide +kernel)
set_option maxRecDepth 100000 in
theorem mp_lkX9_159 : mp_LV RX9 159 yX7_halvingsBy cX7_halvingsBy 7 (some FieldType.int) 3 7 := mp_lv_ok (j1 := 3182) (j2 := 3183) (j3 := 3184) (j4 := 1003) (j5 := 3185) (by decide +kernel)
set_option maxRecDepth 100000 in
theorem mp_lkX7_102 : mp_LV RX7 102 yX7_ownHalvings cX7_ownHalvings 6 (some FieldType.int) 3 7 := mp_lv_ok (j1 := 3186) (j2 := 3187) (j3 := 3188) (j4 := 1003) (j5 := 3189) (by decide +kernel)
set_option maxRecDepth 100000 in
theorem mp_lkL_53 : mp_LV RL 53 yX9_worth cX9_worth 3 (some FieldType.int) 2 9 := mp_lv_ok (j1 := 3190) (j2 := 3191) (j3 := 3192) (j4 := 1001) (j5 := 3193) (by decide +kernel)
set_option maxRecDepth 100000 in
theorem mp_lkX9_163 : mp_LV RX9 163 yX7_worthBy cX7_worthBy 5 (some FieldType.int) 3 7 := mp_lv_ok (j1 := 3194) (j2 := 3195) (j3 := 3196) (j4 := 1003) (j5 := 3197) (by decide +kernel)
set_option maxRecDepth 100000 in
theorem mp_lkX7_106 : mp_LV RX7 106 yX7_halvingsBy cX7_halvingsBy 7 (some FieldType.int) 3 7 := mp_lv_ok (j1 := 3198) (j2 := 3183) (j3 := 3184) (j4 := 1003) (j5 := 3185) (by decide +kernel)
set_option maxRecDepth 100000 in
theorem mp_lkX7_110 : mp_LNs RX7 110 yX9_halved cX9_halved 2 (some FieldType.int) 2 := mp_ln_ok (host := RX9) (j1 := 8) (j4 := 1001) (j5 := 3201) (by decide +kernel)
set_option maxRecDepth 100000 in
theorem mp_lkL_57 : mp_LV RL 57 yX9_falls cX9_falls 5 (some FieldType.int) 2 9 := mp_lv_ok (j1 := 3202) (j2 := 3203) (j3 := 3204) (j4 := 1001) (j5 := 3205) (by decide +kernel)
set_option maxRecDepth 100000 in
theorem mp_lkL_61 : mp_LV RL 61 yX9_owed cX9_owed 4 (some FieldType.int) 3 9 := mp_lv_ok (j1 := 3206) (j2 := 3207) (j3 := 3208) (j4 := 1001) (j5 := 3209) (by decide +kernel)
set_option maxRecDepth 100000 in
theorem mp_lkX9_169 : mp_LV RX9 169 yX9_arePair cX9_arePair 3 (some FieldType.boolean) 2 9 := mp_lv_ok (j1 := 3210) (j2 := 3212) (j3 := 17) (j4 := 1001) (j5 := 3213) (by decide +kernel)
set_option maxRecDepth 100000 in
theorem mp_lkX9_172 : mp_LV RX9 172 yX1_fill cX1_fill 6 none 2 1 := mp_lv_ok (j1 := 3214) (j2 := 3215) (j3 := 3216) (j4 := 1005) (j5 := 3217) (by decide +kernel)
