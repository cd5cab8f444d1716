set_option maxRecDepth 100000 in
theorem mp_lkL_52 : mp_LV RL 52 yX10_halvings cX10_halvings 3 (some FieldType.int) 2 10 := mp_lv_ok (j1 := 7104) (j2 := 7105) (j3 := 7106) (j4 := 1011) (j5 := 7107) (by decide +kernel)
set_option maxRecDepth 100000 in
theorem mp_lkX10_288 : mp_LV RX10 288 yX10_lays cX10_lays 4 none 0 10 := mp_lv_ok (j1 := 7108) (j2 := 7110) (j3 := 66) (j4 := 1011) (j5 := 7111) (by decide +kernel)
set_option maxRecDepth 100000 in
theorem mp_lkX10_282 : mp_LV RX10 282 yX10_halvedOf cX10_halvedOf 5 (some FieldType.int) 2 10 := mp_lv_ok (j1 := 7112) (j2 := 7114) (j3 := 67) (j4 := 1011) (j5 := 7115) (by decide +kernel)
set_option maxRecDepth 100000 in
theorem mp_lkX10_279 : mp_LV RX10 279 yX10_ownOf cX10_ownOf 6 (some FieldType.int) 2 10 := mp_lv_ok (j1 := 7116) (j2 := 7118) (j3 := 68) (j4 := 1011) (j5 := 7119) (by decide +kernel)
set_option maxRecDepth 100000 in
theorem mp_lkL_56 : mp_LV RL 56 yX10_worth cX10_worth 3 (some FieldType.int) 2 10 := mp_lv_ok (j1 := 7120) (j2 := 7121) (j3 := 7122) (j4 := 1011) (j5 := 7123) (by decide +kernel)
set_option maxRecDepth 100000 in
theorem mp_lkX10_291 : mp_LV RX10 291 yX10_worthOf cX10_worthOf 4 (some FieldType.int) 2 10 := mp_lv_ok (j1 := 7124) (j2 := 7126) (j3 := 69) (j4 := 1011) (j5 := 7127) (by decide +kernel)
set_option maxRecDepth 100000 in
theorem mp_lkX10_285 : mp_LS RX10 285 yX10_halved cX10_halved 2 (some FieldType.int) 2 := mp_ls_ok (j1 := 7128) (j2 := 7129) (j4 := 1011) (j5 := 7130) (by decide +kernel)
set_option maxRecDepth 100000 in
theorem mp_lkL_60 : mp_LV RL 60 yX10_falls cX10_falls 4 (some FieldType.int) 2 10 := mp_lv_ok (j1 := 7131) (j2 := 7132) (j3 := 7133) (j4 := 1011) (j5 := 7134) (by decide +kernel)
set_option maxRecDepth 100000 in
theorem mp_lkL_65 : mp_LV RL 65 yX10_owed cX10_owed 4 (some FieldType.int) 3 10 := mp_lv_ok (j1 := 7135) (j2 := 7136) (j3 := 7137) (j4 := 1011) (j5 := 7138) (by decide +kernel)
set_option maxRecDepth 100000 in
theorem mp_lkX10_294 : mp_LV RX10 294 yX10_areTwo cX10_areTwo 3 (some FieldType.boolean) 2 10 := mp_lv_ok (j1 := 7139) (j2 := 7141) (j3 := 70) (j4 := 1011) (j5 := 7142) (by decide +kernel)
set_option maxRecDepth 100000 in
theorem mp_lkX10_298 : mp_LV RX10 298 yX10_owedOf cX10_owedOf 6 (some FieldType.int) 3 10 := mp_lv_ok (j1 := 7143) (j2 := 7145) (j3 := 71) (j4 := 1011) (j5 := 7146) (by decide +kernel)
set_option maxRecDepth 100000 in
theorem mp_lkL_69 : mp_LV RL 69 yX10_sum cX10_sum 4 (some FieldType.int) 3 10 := mp_lv_ok (j1 := 7147) (j2 := 7148) (j3 := 7149) (j4 := 1011) (j5 := 7150) (by decide +kernel)
set_option maxRecDepth 100000 in
theorem mp_lkX10_303 : mp_LV RX10 303 yX10_sumOf cX10_sumOf 7 (some FieldType.int) 3 10 := mp_lv_ok (j1 := 7152) (j2 := 7154) (j3 := 72) (j4 := 1011) (j5 := 7155) (by decide +kernel)
set_option maxRecDepth 100000 in
theorem mp_lkL_73 : mp_LV RL 73 yX10_richest cX10_richest 4 (some FieldType.int) 1 10 := mp_lv_ok (j1 := 7156) (j2 := 7157) (j3 := 7158) (j4 := 1011) (j5 := 7159) (by decide +kernel)
set_option maxRecDepth 100000 in
theorem mp_lkX10_306 : mp_LV RX10 306 yX10_areIsles cX10_areIsles 1 (some FieldType.boolean) 0 10 := mp_lv_ok (j1 := 7160) (j2 := 7162) (j3 := 73) (j4 := 1011) (j5 := 7163) (by decide +kernel)
set_option maxRecDepth 100000 in
theorem mp_lkL_77 : mp_LV RL 77 yX10_greatest cX10_greatest 4 (some FieldType.int) 1 10 := mp_lv_ok (j1 := 7164) (j2 := 7165) (j3 := 7166) (j4 := 1011) (j5 := 7167) (by decide +kernel)
set_option maxRecDepth 100000 in
theorem mp_lkL_81 : mp_LV RL 81 yX10_root cX10_root 2 (some FieldType.int) 1 10 := mp_lv_ok (j1 := 7168) (j2 := 7169) (j3 := 7170) (j4 := 1011) (j5 := 7171) (by decide +kernel)
set_option maxRecDepth 100000 in
theorem mp_lkX10_309 : mp_LV RX10 309 yX10_rootOf cX10_rootOf 2 (some FieldType.int) 1 10 := mp_lv_ok (j1 := 7172) (j2 := 7174) (j3 := 74) (j4 := 1011) (j5 := 7175) (by decide +kernel)
set_option maxRecDepth 100000 in
theorem mp_lkL_85 : mp_LV RL 85 yX10_upon cX10_upon 4 (some FieldType.int) 1 10 := mp_lv_ok (j1 := 7176) (j2 := 7177) (j3 := 7178) (j4 := 1011) (j5 := 7179) (by decide +kernel)
set_option maxRecDepth 100000 in
theorem mp_lkX10_312 : mp_LS RX10 312 yX10_isBit cX10_isBit 2 (some FieldType.boolean) 2 := mp_ls_ok (j1 := 7180) (j2 := 7181) (j4 := 1011) (j5 := 7182) (by decide +kernel)
set_option maxRecDepth 100000 in
theorem mp_lkL_89 : mp_LV RL 89 yX10_now cX10_now 1 (some FieldType.int) 0 10 := mp_lv_ok (j1 := 7183) (j2 := 7184) (j3 := 7185) (j4 := 1011) (j5 := 7186) (by decide +kernel)
set_option maxRecDepth 100000 in
theorem mp_lkL_93 : mp_LV RL 93 yX10_where cX10_where 2 (some FieldType.int) 1 10 := mp_lv_ok (j1 := 7187) (j2 := 7188) (j3 := 7189) (j4 := 1011) (j5 := 7190) (by decide +kernel)
set_option maxRecDepth 100000 in
theorem mp_lkL_97 : mp_LV RL 97 yX10_rowed cX10_rowed 2 (some FieldType.int) 1 10 := mp_lv_ok (j1 := 7191) (j2 := 7192) (j3 := 7193) (j4 := 1011) (j5 := 7194) (by decide +kernel)
set_option maxRecDepth 100000 in
theorem mp_lkL_101 : mp_LV RL 101 yX10_rows cX10_rows 3 (some FieldType.int) 2 10 := mp_lv_ok (j1 := 7195) (j2 := 7196) (j3 := 7197) (j4 := 1011) (j5 := 7198) (by decide +kernel)
set_option maxRecDepth 100000 in
theorem mp_lkX10_322 : mp_LV RX10 322 yX10_maySail cX10_maySail 3 (some FieldType.boolean) 2 10 := mp_lv_ok (j1 := 7199) (j2 := 7201) (j3 := 75) (j4 := 1011) (j5 := 7202) (by decide +kernel)
set_option maxRecDepth 100000 in
theorem mp_lkX10_318 : mp_LV RX10 318 yX10_isSea cX10_isSea 5 (some FieldType.boolean) 4 10 := mp_lv_ok (j1 := 7203) (j2 := 7205) (j3 := 76) (j4 := 1011) (j5 := 7206) (by decide +kernel)
set_option maxRecDepth 100000 in
theorem mp_lkX10_315 : mp_LV RX10 315 yX10_isDead cX10_isDead 3 (some FieldType.boolean) 2 10 := mp_lv_ok (j1 := 7207) (j2 := 7209) (j3 := 77) (j4 := 1011) (j5 := 7210) (by decide +kernel)
set_option maxRecDepth 100000 in
theorem mp_lkX10_325 : mp_LV RX10 325 yX10_isFull cX10_isFull 1 (some FieldType.boolean) 0 10 := mp_lv_ok (j1 := 7211) (j2 := 7213) (j3 := 78) (j4 := 1011) (j5 := 7214) (by decide +kernel)
set_option maxRecDepth 100000 in
theorem mp_lkX10_328 : mp_LV RX10 328 yX10_acts cX10_acts 2 none 1 10 := mp_lv_ok (j1 := 7215) (j2 := 7217) (j3 := 79) (j4 := 1011) (j5 := 7218) (by decide +kernel)
set_option maxRecDepth 100000 in
theorem mp_lkL_105 : mp_LV RL 105 yX10_says cX10_says 2 (some FieldType.int) 1 10 := mp_lv_ok (j1 := 7219) (j2 := 7220) (j3 := 7221) (j4 := 1011) (j5 := 7222) (by decide +kernel)
set_option maxRecDepth 100000 in
theorem mp_lkX10_331 : mp_LV RX10 331 yX10_maySay cX10_maySay 2 (some FieldType.boolean) 1 10 := mp_lv_ok (j1 := 7223) (j2 := 7225) (j3 := 80) (j4 := 1011) (j5 := 7226) (by decide +kernel)
set_option maxRecDepth 100000 in
theorem mp_lkL_109 : mp_LV RL 109 yX10_passes cX10_passes 1 (some FieldType.int) 0 10 := mp_lv_ok (j1 := 7227) (j2 := 7228) (j3 := 7229) (j4 := 1011) (j5 := 7230) (by decide +kernel)
set_option maxRecDepth 100000 in
theorem mp_lkL_113 : mp_LV RL 113 yX10_undo cX10_undo 1 (some FieldType.int) 0 10 := mp_lv_ok (j1 := 7231) (j2 := 7232) (j3 := 7233) (j4 := 1011) (j5 := 7234) (by decide +kernel)
set_option maxRecDepth 100000 in
theorem mp_lkL_117 : mp_LV RL 117 yX10_anew cX10_anew 2 (some FieldType.int) 0 10 := mp_lv_ok (j1 := 7235) (j2 := 7236) (j3 := 7237) (j4 := 1011) (j5 := 7238) (by decide +kernel)
set_option maxRecDepth 100000 in
theorem mp_lkL_121 : mp_LV RL 121 yX10_act cX10_act 2 (some FieldType.int) 1 10 := mp_lv_ok (j1 := 7239) (j2 := 8000) (j3 := 8001) (j4 := 1011) (j5 := 8002) (by decide +kernel)
set_option maxRecDepth 100000 in
theorem mp_lkL_125 : mp_LV RL 125 yX10_can cX10_can 3 (some FieldType.int) 0 10 := mp_lv_ok (j1 := 8003) (j2 := 8004) (j3 := 8005) (j4 := 1011) (j5 := 8006) (by decide +kernel)
set_option maxRecDepth 100000 in
theorem mp_lkL_129 : mp_LV RL 129 yX10_sails cX10_sails 4 (some FieldType.int) 1 10 := mp_lv_ok (j1 := 8007) (j2 := 8008) (j3 := 8009) (j4 := 1011) (j5 := 8010) (by decide +kernel)
set_option maxRecDepth 100000 in
theorem mp_lkL_133 : mp_LV RL 133 yX10_keeps cX10_keeps 4 (some FieldType.int) 2 10 := mp_lv_ok (j1 := 8011) (j2 := 8012) (j3 := 8013) (j4 := 1011) (j5 := 8014) (by decide +kernel)
set_option maxRecDepth 100000 in
theorem mp_lkX10_361 : mp_LV RX10 361 yX10_isPlan cX10_isPlan 3 (some FieldType.boolean) 2 10 := mp_lv_ok (j1 := 8015) (j2 := 8017) (j3 := 81) (j4 := 1011) (j5 := 8018) (by decide +kernel)
set_option maxRecDepth 100000 in
theorem mp_lkX10_364 : mp_LV RX10 364 yX10_keptNow cX10_keptNow 4 (some FieldType.int) 1 10 := mp_lv_ok (j1 := 8020) (j2 := 8022) (j3 := 82) (j4 := 1011) (j5 := 8023) (by decide +kernel)
set_option maxRecDepth 100000 in
theorem mp_lkX10_367 : mp_LV RX10 367 yX10_plansFor cX10_plansFor 5 (some FieldType.int) 3 10 := mp_lv_ok (j1 := 8024) (j2 := 8026) (j3 := 83) (j4 := 1011) (j5 := 8027) (by decide +kernel)
set_option maxRecDepth 100000 in
theorem mp_lkX10_356 : mp_LV RX10 356 yX10_onceNow cX10_onceNow 3 (some FieldType.int) 0 10 := mp_lv_ok (j1 := 8028) (j2 := 8030) (j3 := 84) (j4 := 1011) (j5 := 8031) (by decide +kernel)
set_option maxRecDepth 100000 in
theorem mp_lkX10_352 : mp_LV RX10 352 yX10_goesOn cX10_goesOn 9 none 3 10 := mp_lv_ok (j1 := 8032) (j2 := 8034) (j3 := 85) (j4 := 1011) (j5 := 8035) (by decide +kernel)
set_option maxRecDepth 100000 in
theorem mp_lkX10_346 : mp_LV RX10 346 yX10_oarsBy cX10_oarsBy 4 (some FieldType.int) 3 10 := mp_lv_ok (j1 := 8036) (j2 := 8038) (j3 := 86) (j4 := 1011) (j5 := 8039) (by decide +kernel)
set_option maxRecDepth 100000 in
theorem mp_lkX10_349 : mp_LV RX10 349 yX10_onceBehind cX10_onceBehind 7 (some FieldType.int) 3 10 := mp_lv_ok (j1 := 8040) (j2 := 8042) (j3 := 87) (j4 := 1011) (j5 := 8043) (by decide +kernel)
set_option maxRecDepth 100000 in
theorem mp_lkX10_340 : mp_LV RX10 340 yX10_saidOn cX10_saidOn 5 (some FieldType.int) 2 10 := mp_lv_ok (j1 := 8044) (j2 := 8046) (j3 := 88) (j4 := 1011) (j5 := 8047) (by decide +kernel)
set_option maxRecDepth 100000 in
theorem mp_lkL_137 : mp_LV RL 137 yX10_plan cX10_plan 8 (some FieldType.int) 3 10 := mp_lv_ok (j1 := 8048) (j2 := 8049) (j3 := 8050) (j4 := 1011) (j5 := 8051) (by decide +kernel)
set_option maxRecDepth 100000 in
theorem mp_lkX10_370 : mp_LV RX10 370 yX10_isStep cX10_isStep 6 (some FieldType.boolean) 4 10 := mp_lv_ok (j1 := 8052) (j2 := 8054) (j3 := 89) (j4 := 1011) (j5 := 8055) (by decide +kernel)
set_option maxRecDepth 100000 in
theorem mp_lkL_141 : mp_LV RL 141 yX10_lets cX10_lets 3 (some FieldType.int) 2 10 := mp_lv_ok (j1 := 8056) (j2 := 8057) (j3 := 8058) (j4 := 1011) (j5 := 8059) (by decide +kernel)
set_option maxRecDepth 100000 in
theorem mp_lkX10_376 : mp_LV RX10 376 yX10_fallenOf cX10_fallenOf 6 (some FieldType.int) 2 10 := mp_lv_ok (j1 := 8060) (j2 := 8062) (j3 := 90) (j4 := 1011) (j5 := 8063) (by decide +kernel)
set_option maxRecDepth 100000 in
theorem mp_lkX10_373 : mp_LS RX10 373 yX10_sizeOf cX10_sizeOf 3 (some FieldType.int) 1 := mp_ls_ok (j1 := 8064) (j2 := 8065) (j4 := 1011) (j5 := 8066) (by decide +kernel)
set_option maxRecDepth 100000 in
theorem mp_lkL_145 : mp_LV RL 145 yX10_fallen cX10_fallen 3 (some FieldType.int) 2 10 := mp_lv_ok (j1 := 8067) (j2 := 8068) (j3 := 8069) (j4 := 1011) (j5 := 8070) (by decide +kernel)
set_option maxRecDepth 100000 in
theorem mp_lkL_150 : mp_LV RL 150 yX10_plans cX10_plans 3 (some FieldType.long) 2 10 := mp_lv_ok (j1 := 8071) (j2 := 8072) (j3 := 8073) (j4 := 1011) (j5 := 8074) (by decide +kernel)
set_option maxRecDepth 100000 in
theorem mp_lkL_154 : mp_LV RL 154 yX10_love cX10_love 4 (some FieldType.int) 3 10 := mp_lv_ok (j1 := 8076) (j2 := 8077) (j3 := 8078) (j4 := 1011) (j5 := 8079) (by decide +kernel)
set_option maxRecDepth 100000 in
theorem mp_lkX10_390 : mp_LV RX10 390 yX10_isLove cX10_isLove 4 (some FieldType.boolean) 3 10 := mp_lv_ok (j1 := 8080) (j2 := 8082) (j3 := 91) (j4 := 1011) (j5 := 8083) (by decide +kernel)
set_option maxRecDepth 100000 in
theorem mp_lkX10_393 : mp_LV RX10 393 yX10_loves cX10_loves 10 none 3 10 := mp_lv_ok (j1 := 8084) (j2 := 8086) (j3 := 92) (j4 := 1011) (j5 := 8087) (by decide +kernel)
set_option maxRecDepth 100000 in
theorem mp_lkX10_387 : mp_LV RX10 387 yX10_worthSaid cX10_worthSaid 7 (some FieldType.int) 3 10 := mp_lv_ok (j1 := 8088) (j2 := 8090) (j3 := 93) (j4 := 1011) (j5 := 8091) (by decide +kernel)
set_option maxRecDepth 100000 in
theorem mp_lkL_158 : mp_LV RL 158 yX10_when cX10_when 4 (some FieldType.int) 3 10 := mp_lv_ok (j1 := 8092) (j2 := 8093) (j3 := 8094) (j4 := 1011) (j5 := 8095) (by decide +kernel)
set_option maxRecDepth 100000 in
theorem mp_lkL_162 : mp_LV RL 162 yX10_joins cX10_joins 4 (some FieldType.int) 2 10 := mp_lv_ok (j1 := 8096) (j2 := 8097) (j3 := 8098) (j4 := 1011) (j5 := 8099) (by decide +kernel)
set_option maxRecDepth 100000 in
theorem mp_lkX10_402 : mp_LV RX10 402 yX10_joinOf cX10_joinOf 4 (some FieldType.int) 2 10 := mp_lv_ok (j1 := 8100) (j2 := 8102) (j3 := 94) (j4 := 1011) (j5 := 8103) (by decide +kernel)
set_option maxRecDepth 100000 in
theorem mp_lkX10_396 : mp_LV RX10 396 yX10_isUnder cX10_isUnder 3 (some FieldType.boolean) 1 10 := mp_lv_ok (j1 := 8104) (j2 := 8106) (j3 := 95) (j4 := 1011) (j5 := 8107) (by decide +kernel)
set_option maxRecDepth 100000 in
theorem mp_lkL_166 : mp_LV RL 166 yX10_joined cX10_joined 6 (some FieldType.int) 0 10 := mp_lv_ok (j1 := 8110) (j2 := 8111) (j3 := 8112) (j4 := 1011) (j5 := 8113) (by decide +kernel)
set_option maxRecDepth 100000 in
theorem mp_lkL_170 : mp_LV RL 170 yX10_ring cX10_ring 2 (some FieldType.int) 1 10 := mp_lv_ok (j1 := 8114) (j2 := 8115) (j3 := 8116) (j4 := 1011) (j5 := 8117) (by decide +kernel)
