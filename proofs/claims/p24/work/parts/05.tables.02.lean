set_option maxRecDepth 100000 in
theorem mp_lkX1_24 : mp_LV RX1 24 yX0_worthsAt cX0_worthsAt 3 (some (FieldType.array FieldType.int)) 1 0 := mp_lv_ok (j1 := 3218) (j2 := 3219) (j3 := 3220) (j4 := 1004) (j5 := 3221) (by decide +kernel)
set_option maxRecDepth 100000 in
theorem mp_lkX0_97 : mp_LV RX0 97 yX0_lastsAt cX0_lastsAt 3 (some (FieldType.array FieldType.int)) 1 0 := mp_lv_ok (j1 := 3222) (j2 := 3174) (j3 := 3175) (j4 := 1004) (j5 := 3176) (by decide +kernel)
set_option maxRecDepth 100000 in
theorem mp_lkX0_101 : mp_LV RX0 101 yX7_worthBy cX7_worthBy 5 (some FieldType.int) 3 7 := mp_lv_ok (j1 := 3223) (j2 := 3195) (j3 := 3196) (j4 := 1003) (j5 := 3197) (by decide +kernel)
set_option maxRecDepth 100000 in
theorem mp_lkX1_35 : mp_LS RX1 35 yJ7_fill_53178 cJ7_fill_53178 4 none 2 := mp_ls_ok (j1 := 3224) (j2 := 2200) (j4 := 1012) (j5 := 2201) (by decide +kernel)
set_option maxRecDepth 100000 in
theorem mp_lkX9_176 : mp_LV RX9 176 yX1_debt cX1_debt 3 (some FieldType.int) 2 1 := mp_lv_ok (j1 := 3225) (j2 := 3226) (j3 := 3227) (j4 := 1005) (j5 := 3228) (by decide +kernel)
set_option maxRecDepth 100000 in
theorem mp_lkL_66 : mp_LV RL 66 yX9_sum cX9_sum 4 (some FieldType.int) 3 9 := mp_lv_ok (j1 := 3229) (j2 := 3230) (j3 := 3231) (j4 := 1001) (j5 := 3232) (by decide +kernel)
set_option maxRecDepth 100000 in
theorem mp_lkX9_180 : mp_LV RX9 180 yX1_owing cX1_owing 4 (some FieldType.int) 1 1 := mp_lv_ok (j1 := 3234) (j2 := 3235) (j3 := 3236) (j4 := 1005) (j5 := 3237) (by decide +kernel)
set_option maxRecDepth 100000 in
theorem mp_lkX1_50 : mp_LV RX1 50 yX1_debt cX1_debt 3 (some FieldType.int) 2 1 := mp_lv_ok (j1 := 3238) (j2 := 3226) (j3 := 3227) (j4 := 1005) (j5 := 3228) (by decide +kernel)
set_option maxRecDepth 100000 in
theorem mp_lkX9_184 : mp_LV RX9 184 yX1_due cX1_due 4 (some FieldType.int) 1 1 := mp_lv_ok (j1 := 3239) (j2 := 4000) (j3 := 4001) (j4 := 1005) (j5 := 4002) (by decide +kernel)
set_option maxRecDepth 100000 in
theorem mp_lkL_70 : mp_LV RL 70 yX9_richest cX9_richest 2 (some FieldType.int) 1 9 := mp_lv_ok (j1 := 4003) (j2 := 4004) (j3 := 4005) (j4 := 1001) (j5 := 4006) (by decide +kernel)
set_option maxRecDepth 100000 in
theorem mp_lkX9_187 : mp_LV RX9 187 yX9_isToldMoon cX9_isToldMoon 2 (some FieldType.boolean) 1 9 := mp_lv_ok (j1 := 4007) (j2 := 4009) (j3 := 18) (j4 := 1001) (j5 := 4010) (by decide +kernel)
set_option maxRecDepth 100000 in
theorem mp_lkX9_190 : mp_LV RX9 190 yX1_first cX1_first 5 (some FieldType.int) 0 1 := mp_lv_ok (j1 := 4011) (j2 := 4012) (j3 := 4013) (j4 := 1005) (j5 := 4014) (by decide +kernel)
set_option maxRecDepth 100000 in
theorem mp_lkX1_54 : mp_LV RX1 54 yX1_due cX1_due 4 (some FieldType.int) 1 1 := mp_lv_ok (j1 := 4015) (j2 := 4000) (j3 := 4001) (j4 := 1005) (j5 := 4002) (by decide +kernel)
set_option maxRecDepth 100000 in
theorem mp_lkX1_58 : mp_LV RX1 58 yX1_owing cX1_owing 4 (some FieldType.int) 1 1 := mp_lv_ok (j1 := 4016) (j2 := 3235) (j3 := 3236) (j4 := 1005) (j5 := 3237) (by decide +kernel)
set_option maxRecDepth 100000 in
theorem mp_lkL_74 : mp_LV RL 74 yX9_greatest cX9_greatest 6 (some FieldType.int) 1 9 := mp_lv_ok (j1 := 4017) (j2 := 4018) (j3 := 4019) (j4 := 1001) (j5 := 4020) (by decide +kernel)
set_option maxRecDepth 100000 in
theorem mp_lkX9_193 : mp_LV RX9 193 yX0_worthsAt cX0_worthsAt 3 (some (FieldType.array FieldType.int)) 1 0 := mp_lv_ok (j1 := 4021) (j2 := 3219) (j3 := 3220) (j4 := 1004) (j5 := 3221) (by decide +kernel)
set_option maxRecDepth 100000 in
theorem mp_lkL_78 : mp_LV RL 78 yX9_root cX9_root 4 (some FieldType.int) 1 9 := mp_lv_ok (j1 := 4022) (j2 := 4023) (j3 := 4024) (j4 := 1001) (j5 := 4025) (by decide +kernel)
set_option maxRecDepth 100000 in
theorem mp_lkL_82 : mp_LV RL 82 yX9_upon cX9_upon 5 (some FieldType.int) 1 9 := mp_lv_ok (j1 := 4026) (j2 := 4027) (j3 := 4028) (j4 := 1001) (j5 := 4029) (by decide +kernel)
set_option maxRecDepth 100000 in
theorem mp_lkL_86 : mp_LV RL 86 yX9_now cX9_now 1 (some FieldType.int) 0 9 := mp_lv_ok (j1 := 4030) (j2 := 4031) (j3 := 4032) (j4 := 1001) (j5 := 4033) (by decide +kernel)
set_option maxRecDepth 100000 in
theorem mp_lkL_90 : mp_LV RL 90 yX9_where cX9_where 2 (some FieldType.int) 1 9 := mp_lv_ok (j1 := 4034) (j2 := 4035) (j3 := 4036) (j4 := 1001) (j5 := 4037) (by decide +kernel)
set_option maxRecDepth 100000 in
theorem mp_lkL_94 : mp_LV RL 94 yX9_rowed cX9_rowed 2 (some FieldType.int) 1 9 := mp_lv_ok (j1 := 4038) (j2 := 4039) (j3 := 4040) (j4 := 1001) (j5 := 4041) (by decide +kernel)
set_option maxRecDepth 100000 in
theorem mp_lkL_98 : mp_LV RL 98 yX9_rows cX9_rows 4 (some FieldType.int) 2 9 := mp_lv_ok (j1 := 4042) (j2 := 4043) (j3 := 4044) (j4 := 1001) (j5 := 4045) (by decide +kernel)
set_option maxRecDepth 100000 in
theorem mp_lkX9_205 : mp_LV RX9 205 yX0_canRow cX0_canRow 3 (some FieldType.boolean) 2 0 := mp_lv_ok (j1 := 4046) (j2 := 4047) (j3 := 4048) (j4 := 1004) (j5 := 4049) (by decide +kernel)
set_option maxRecDepth 100000 in
theorem mp_lkX0_69 : mp_LV RX0 69 yX7_oarsOfLeg cX7_oarsOfLeg 6 (some FieldType.int) 4 7 := mp_lv_ok (j1 := 4050) (j2 := 4051) (j3 := 4052) (j4 := 1003) (j5 := 4053) (by decide +kernel)
set_option maxRecDepth 100000 in
theorem mp_lkX7_95 : mp_LV RX7 95 yX7_oarsBetween cX7_oarsBetween 3 (some FieldType.int) 2 7 := mp_lv_ok (j1 := 4054) (j2 := 3126) (j3 := 3127) (j4 := 1003) (j5 := 3128) (by decide +kernel)
set_option maxRecDepth 100000 in
theorem mp_lkX7_91 : mp_LV RX7 91 yX7_lives cX7_lives 3 (some FieldType.boolean) 2 7 := mp_lv_ok (j1 := 4055) (j2 := 4056) (j3 := 4057) (j4 := 1003) (j5 := 4058) (by decide +kernel)
set_option maxRecDepth 100000 in
theorem mp_lkX7_99 : mp_LV RX7 99 yX7_isShut cX7_isShut 3 (some FieldType.boolean) 2 7 := mp_lv_ok (j1 := 4059) (j2 := 3166) (j3 := 3167) (j4 := 1003) (j5 := 3168) (by decide +kernel)
set_option maxRecDepth 100000 in
theorem mp_lkX9_208 : mp_LV RX9 208 yX0_addAct cX0_addAct 2 (some FieldType.boolean) 1 0 := mp_lv_ok (j1 := 4060) (j2 := 4061) (j3 := 4062) (j4 := 1004) (j5 := 4063) (by decide +kernel)
set_option maxRecDepth 100000 in
theorem mp_lkL_102 : mp_LV RL 102 yX9_says cX9_says 2 (some FieldType.int) 1 9 := mp_lv_ok (j1 := 4064) (j2 := 4065) (j3 := 4066) (j4 := 1001) (j5 := 4067) (by decide +kernel)
set_option maxRecDepth 100000 in
theorem mp_lkX9_211 : mp_LV RX9 211 yX0_canSay cX0_canSay 2 (some FieldType.boolean) 1 0 := mp_lv_ok (j1 := 4068) (j2 := 4069) (j3 := 4070) (j4 := 1004) (j5 := 4071) (by decide +kernel)
set_option maxRecDepth 100000 in
theorem mp_lkX0_79 : mp_LV RX0 79 yX7_bothLive cX7_bothLive 3 (some FieldType.boolean) 2 7 := mp_lv_ok (j1 := 4072) (j2 := 4073) (j3 := 4074) (j4 := 1003) (j5 := 4075) (by decide +kernel)
set_option maxRecDepth 100000 in
theorem mp_lkL_106 : mp_LV RL 106 yX9_passes cX9_passes 1 (some FieldType.int) 0 9 := mp_lv_ok (j1 := 4076) (j2 := 4077) (j3 := 4078) (j4 := 1001) (j5 := 4079) (by decide +kernel)
set_option maxRecDepth 100000 in
theorem mp_lkL_110 : mp_LV RL 110 yX9_undo cX9_undo 2 (some FieldType.int) 0 9 := mp_lv_ok (j1 := 4080) (j2 := 4081) (j3 := 4082) (j4 := 1001) (j5 := 4083) (by decide +kernel)
set_option maxRecDepth 100000 in
theorem mp_lkL_114 : mp_LV RL 114 yX9_anew cX9_anew 3 (some FieldType.int) 0 9 := mp_lv_ok (j1 := 4084) (j2 := 4085) (j3 := 4086) (j4 := 1001) (j5 := 4087) (by decide +kernel)
set_option maxRecDepth 100000 in
theorem mp_lkL_118 : mp_LV RL 118 yX9_act cX9_act 3 (some FieldType.int) 1 9 := mp_lv_ok (j1 := 4088) (j2 := 4089) (j3 := 4090) (j4 := 1001) (j5 := 4091) (by decide +kernel)
set_option maxRecDepth 100000 in
theorem mp_lkL_122 : mp_LV RL 122 yX9_can cX9_can 3 (some FieldType.int) 0 9 := mp_lv_ok (j1 := 4092) (j2 := 4093) (j3 := 4094) (j4 := 1001) (j5 := 4095) (by decide +kernel)
set_option maxRecDepth 100000 in
theorem mp_lkL_126 : mp_LV RL 126 yX9_sails cX9_sails 4 (some FieldType.int) 1 9 := mp_lv_ok (j1 := 4096) (j2 := 4097) (j3 := 4098) (j4 := 1001) (j5 := 4099) (by decide +kernel)
set_option maxRecDepth 100000 in
theorem mp_lkL_130 : mp_LV RL 130 yX9_keeps cX9_keeps 3 (some FieldType.int) 2 9 := mp_lv_ok (j1 := 4100) (j2 := 4101) (j3 := 4102) (j4 := 1001) (j5 := 4103) (by decide +kernel)
set_option maxRecDepth 100000 in
theorem mp_lkX9_223 : mp_LV RX9 223 yX9_canPlan cX9_canPlan 3 (some FieldType.boolean) 2 9 := mp_lv_ok (j1 := 4104) (j2 := 4106) (j3 := 19) (j4 := 1001) (j5 := 4107) (by decide +kernel)
set_option maxRecDepth 100000 in
theorem mp_lkX9_226 : mp_LV RX9 226 yX2_prepare cX2_prepare 4 none 3 2 := mp_lv_ok (j1 := 4108) (j2 := 4109) (j3 := 4110) (j4 := 1006) (j5 := 4111) (by decide +kernel)
set_option maxRecDepth 100000 in
theorem mp_lkX2_28 : mp_LV RX2 28 yX2_layLegs cX2_layLegs 7 none 3 2 := mp_lv_ok (j1 := 4112) (j2 := 4114) (j3 := 20) (j4 := 1006) (j5 := 4115) (by decide +kernel)
set_option maxRecDepth 100000 in
theorem mp_lkX2_61 : mp_LS RX2 61 yX2_leg cX2_leg 3 (some FieldType.int) 3 := mp_ls_ok (j1 := 4116) (j2 := 4117) (j4 := 1006) (j5 := 4118) (by decide +kernel)
set_option maxRecDepth 100000 in
theorem mp_lkX2_68 : mp_LV RX2 68 yX7_oarsOfLeg cX7_oarsOfLeg 6 (some FieldType.int) 4 7 := mp_lv_ok (j1 := 4119) (j2 := 4051) (j3 := 4052) (j4 := 1003) (j5 := 4053) (by decide +kernel)
set_option maxRecDepth 100000 in
theorem mp_lkX2_32 : mp_LV RX2 32 yX2_laySpoken cX2_laySpoken 6 none 2 2 := mp_lv_ok (j1 := 4120) (j2 := 4122) (j3 := 21) (j4 := 1006) (j5 := 4123) (by decide +kernel)
set_option maxRecDepth 100000 in
theorem mp_lkX2_72 : mp_LS RX2 72 yJ7_fill_53178 cJ7_fill_53178 4 none 2 := mp_ls_ok (j1 := 4124) (j2 := 2200) (j4 := 1012) (j5 := 2201) (by decide +kernel)
set_option maxRecDepth 100000 in
theorem mp_lkX2_84 : mp_LV RX2 84 yX7_bothLive cX7_bothLive 3 (some FieldType.boolean) 2 7 := mp_lv_ok (j1 := 4125) (j2 := 4073) (j3 := 4074) (j4 := 1003) (j5 := 4075) (by decide +kernel)
set_option maxRecDepth 100000 in
theorem mp_lkX2_36 : mp_LV RX2 36 yX2_layMissed cX2_layMissed 10 none 2 2 := mp_lv_ok (j1 := 4126) (j2 := 4128) (j3 := 22) (j4 := 1006) (j5 := 4129) (by decide +kernel)
set_option maxRecDepth 100000 in
theorem mp_lkX2_91 : mp_LV RX2 91 yX0_lastsAt cX0_lastsAt 3 (some (FieldType.array FieldType.int)) 1 0 := mp_lv_ok (j1 := 4130) (j2 := 3174) (j3 := 3175) (j4 := 1004) (j5 := 3176) (by decide +kernel)
set_option maxRecDepth 100000 in
theorem mp_lkX2_98 : mp_LV RX2 98 yX7_ownHalvings cX7_ownHalvings 6 (some FieldType.int) 3 7 := mp_lv_ok (j1 := 4131) (j2 := 3187) (j3 := 3188) (j4 := 1003) (j5 := 3189) (by decide +kernel)
set_option maxRecDepth 100000 in
theorem mp_lkX9_230 : mp_LV RX9 230 yX2_leastOars cX2_leastOars 3 (some FieldType.int) 0 2 := mp_lv_ok (j1 := 4132) (j2 := 4133) (j3 := 4134) (j4 := 1006) (j5 := 4135) (by decide +kernel)
set_option maxRecDepth 100000 in
theorem mp_lkX2_101 : mp_LV RX2 101 yX2_leastFrom cX2_leastFrom 6 (some FieldType.int) 2 2 := mp_lv_ok (j1 := 4136) (j2 := 4138) (j3 := 23) (j4 := 1006) (j5 := 4139) (by decide +kernel)
set_option maxRecDepth 100000 in
theorem mp_lkX2_105 : mp_LV RX2 105 yX2_oarsBy cX2_oarsBy 6 (some FieldType.int) 3 2 := mp_lv_ok (j1 := 4140) (j2 := 4142) (j3 := 24) (j4 := 1006) (j5 := 4143) (by decide +kernel)
set_option maxRecDepth 100000 in
theorem mp_lkX2_108 : mp_LV RX2 108 yX2_isKeeping cX2_isKeeping 2 (some FieldType.boolean) 1 2 := mp_lv_ok (j1 := 4144) (j2 := 4146) (j3 := 25) (j4 := 1006) (j5 := 4147) (by decide +kernel)
set_option maxRecDepth 100000 in
theorem mp_lkL_134 : mp_LV RL 134 yX9_plan cX9_plan 4 (some FieldType.int) 3 9 := mp_lv_ok (j1 := 4148) (j2 := 4149) (j3 := 4150) (j4 := 1001) (j5 := 4151) (by decide +kernel)
set_option maxRecDepth 100000 in
theorem mp_lkX9_233 : mp_LV RX9 233 yX2_isleOfFirst cX2_isleOfFirst 6 (some FieldType.int) 1 2 := mp_lv_ok (j1 := 4152) (j2 := 4153) (j3 := 4154) (j4 := 1006) (j5 := 4155) (by decide +kernel)
set_option maxRecDepth 100000 in
theorem mp_lkL_138 : mp_LV RL 138 yX9_lets cX9_lets 3 (some FieldType.int) 2 9 := mp_lv_ok (j1 := 4156) (j2 := 4157) (j3 := 4158) (j4 := 1001) (j5 := 4159) (by decide +kernel)
set_option maxRecDepth 100000 in
theorem mp_lkX9_236 : mp_LV RX9 236 yX2_leastFallen cX2_leastFallen 5 (some FieldType.int) 0 2 := mp_lv_ok (j1 := 4160) (j2 := 4161) (j3 := 4162) (j4 := 1006) (j5 := 4163) (by decide +kernel)
set_option maxRecDepth 100000 in
theorem mp_lkX2_112 : mp_LS RX2 112 yJ6_bitCount_0f7a4 cJ6_bitCount_0f7a4 1 (some FieldType.int) 1 := mp_ls_ok (j1 := 4164) (j2 := 4165) (j4 := 1019) (j5 := 4166) (by decide +kernel)
set_option maxRecDepth 100000 in
theorem mp_lkX2_118 : mp_LV RX2 118 yX2_canKeep cX2_canKeep 6 (some FieldType.boolean) 1 2 := mp_lv_ok (j1 := 4170) (j2 := 4172) (j3 := 26) (j4 := 1006) (j5 := 4173) (by decide +kernel)
set_option maxRecDepth 100000 in
theorem mp_lkX2_121 : mp_LV RX2 121 yX2_reached cX2_reached 7 (some FieldType.int) 3 2 := mp_lv_ok (j1 := 4174) (j2 := 4176) (j3 := 27) (j4 := 1006) (j5 := 4177) (by decide +kernel)
set_option maxRecDepth 100000 in
theorem mp_lkX9_239 : mp_LS RX9 239 yJ6_bitCount_0f7a4 cJ6_bitCount_0f7a4 1 (some FieldType.int) 1 := mp_ls_ok (j1 := 4178) (j2 := 4165) (j4 := 1019) (j5 := 4166) (by decide +kernel)
set_option maxRecDepth 100000 in
theorem mp_lkL_142 : mp_LV RL 142 yX9_fallen cX9_fallen 3 (some FieldType.int) 2 9 := mp_lv_ok (j1 := 4179) (j2 := 4180) (j3 := 4181) (j4 := 1001) (j5 := 4182) (by decide +kernel)
set_option maxRecDepth 100000 in
theorem mp_lkL_146 : mp_LV RL 146 yX9_plans cX9_plans 3 (some FieldType.long) 2 9 := mp_lv_ok (j1 := 4183) (j2 := 4184) (j3 := 4185) (j4 := 1001) (j5 := 4186) (by decide +kernel)
set_option maxRecDepth 100000 in
theorem mp_lkX9_246 : mp_LV RX9 246 yX2_countPlans cX2_countPlans 6 (some FieldType.long) 0 2 := mp_lv_ok (j1 := 4188) (j2 := 4189) (j3 := 4190) (j4 := 1006) (j5 := 4191) (by decide +kernel)
