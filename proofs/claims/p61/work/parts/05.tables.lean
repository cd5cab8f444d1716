def mp_tab0 : mp_T := ([], [], [])
theorem mp_tab0_ok {own : String} : mp_Tok own mp_tab0 := ⟨fun _ h => absurd h List.not_mem_nil, fun _ h => absurd h List.not_mem_nil, fun _ h => absurd h List.not_mem_nil⟩
def mp_tabX0 : mp_T := ([(38, 7, 2, false, false, .int), (43, 7, 3, false, false, .int), (83, 7, 4, false, false, .int), (55, 7, 5, false, false, .int), (46, 7, 8, true, false, (.array .int)), (73, 7, 11, true, false, (.array .int)), (76, 7, 12, true, false, (.array .int)), (112, 7, 13, true, false, (.array .int)), (89, 7, 14, true, false, (.array .int)), (118, 7, 16, true, false, (.array .int)), (58, 7, 17, true, false, (.array .int)), (12, 0, 0, true, true, (.object "MoonPromises$Told")), (42, 0, 1, false, true, .int), (18, 0, 2, true, true, (.array .int)), (22, 0, 3, true, true, (.array .int)), (25, 0, 4, true, true, (.array .int)), (28, 0, 5, true, true, (.array .long)), (32, 0, 6, true, true, (.array .int)), (35, 0, 7, true, true, (.array .int))], [], [])
set_option maxRecDepth 100000 in
theorem mp_tabX0_ok : mp_Tok RX0 mp_tabX0 := ⟨mp_lks_ok (js := [1048, 1054, 1062, 1065, 1070, 1083, 1088, 1093, 1097, 1105, 1107, 1192, 1197, 1201, 1204, 1206, 1207, 1208, 1209]) (by decide +kernel), mp_cks_ok (js := []) (by decide +kernel), mp_cls_ok (js := []) (by decide +kernel)⟩
def mp_tabX1 : mp_T := ([(28, 7, 3, false, false, .int), (41, 7, 4, false, false, .int), (44, 7, 11, true, false, (.array .int)), (47, 7, 12, true, false, (.array .int)), (18, 0, 0, true, false, (.object "MoonPromises$Told")), (9, 1, 0, true, true, (.array .int)), (34, 1, 1, false, true, .int), (66, 1, 2, false, true, .int), (15, 1, 3, true, true, (.array .int))], [], [])
set_option maxRecDepth 100000 in
theorem mp_tabX1_ok : mp_Tok RX1 mp_tabX1 := ⟨mp_lks_ok (js := [1052, 1058, 1080, 1086, 1193, 1235, 1236, 1237, 1239]) (by decide +kernel), mp_cks_ok (js := []) (by decide +kernel), mp_cls_ok (js := []) (by decide +kernel)⟩
def mp_tabX2 : mp_T := ([(45, 7, 1, false, false, .int), (78, 7, 4, false, false, .int), (81, 7, 11, true, false, (.array .int)), (88, 7, 12, true, false, (.array .int)), (39, 0, 0, true, false, (.object "MoonPromises$Told")), (65, 0, 1, false, false, .int), (55, 0, 2, true, false, (.array .int)), (51, 2, 0, false, true, .int), (52, 2, 1, false, true, .int), (58, 2, 2, false, true, .int), (95, 2, 3, false, true, .int), (11, 2, 4, true, true, (.array .int)), (15, 2, 5, true, true, (.array .int)), (18, 2, 6, true, true, (.array .int)), (21, 2, 7, true, true, (.array .int)), (24, 2, 8, true, true, (.array .long)), (124, 2, 9, false, true, .int), (127, 2, 10, false, true, .int)], [], [])
set_option maxRecDepth 100000 in
theorem mp_tabX2_ok : mp_Tok RX2 mp_tabX2 := ⟨mp_lks_ok (js := [1045, 1060, 1082, 1087, 1195, 1199, 1202, 2016, 2017, 2018, 2019, 2020, 2021, 2022, 2023, 2024, 2025, 2027]) (by decide +kernel), mp_cks_ok (js := []) (by decide +kernel), mp_cls_ok (js := []) (by decide +kernel)⟩
def mp_tabX3 : mp_T := ([(51, 7, 0, false, false, .int), (98, 7, 1, false, false, .int), (105, 7, 2, false, false, .int), (114, 7, 3, false, false, .int), (82, 7, 4, false, false, .int), (125, 7, 9, true, false, (.array .int)), (131, 7, 10, true, false, (.array .int)), (145, 7, 15, true, false, (.array .int)), (149, 7, 16, true, false, (.array .int)), (9, 3, 0, true, true, (.array .byte)), (26, 3, 1, false, true, .int), (18, 3, 2, true, true, (.object "MoonPromises$Told")), (32, 3, 3, false, true, .int), (22, 3, 4, false, true, .int), (41, 3, 5, false, true, .int), (161, 3, 6, false, true, .int), (35, 3, 7, false, true, .int), (158, 3, 8, false, true, .int), (95, 3, 9, false, true, .int)], [(179, 100000000), (138, 1000000)], [])
set_option maxRecDepth 100000 in
theorem mp_tabX3_ok : mp_Tok RX3 mp_tabX3 := ⟨mp_lks_ok (js := [1042, 1046, 1050, 1055, 1061, 1074, 1078, 1101, 1104, 1149, 1151, 1152, 1154, 1156, 1158, 1159, 1160, 1161, 1162]) (by decide +kernel), mp_cks_ok (js := [2217, 3084]) (by decide +kernel), mp_cls_ok (js := []) (by decide +kernel)⟩
def mp_tabX4 : mp_T := ([(18, 7, 13, true, false, (.array .int)), (26, 7, 14, true, false, (.array .int)), (31, 7, 15, true, false, (.array .int)), (23, 4, 0, false, true, .int), (29, 4, 1, false, true, .int), (34, 4, 2, false, true, .int), (11, 4, 3, true, true, (.array .int)), (36, 4, 4, false, true, .boolean), (57, 4, 5, false, true, .int), (60, 4, 6, false, true, .int), (63, 4, 7, false, true, .int), (66, 4, 8, false, true, .int), (15, 4, 9, true, true, (.array .int)), (46, 5, 2, true, false, (.array .int))], [], [(55, 1000000)])
set_option maxRecDepth 100000 in
theorem mp_tabX4_ok : mp_Tok RX4 mp_tabX4 := ⟨mp_lks_ok (js := [1091, 1095, 1099, 2058, 2059, 2060, 2061, 2062, 2063, 2065, 2067, 2069, 2071, 2138]) (by decide +kernel), mp_cks_ok (js := []) (by decide +kernel), mp_cls_ok (js := [5042]) (by decide +kernel)⟩
def mp_tabX5 : mp_T := ([(9, 5, 0, true, true, (.array .long)), (15, 5, 1, true, true, (.array .int)), (19, 5, 2, true, true, (.array .int))], [], [])
set_option maxRecDepth 100000 in
theorem mp_tabX5_ok : mp_Tok RX5 mp_tabX5 := ⟨mp_lks_ok (js := [2133, 2134, 2136]) (by decide +kernel), mp_cks_ok (js := []) (by decide +kernel), mp_cls_ok (js := []) (by decide +kernel)⟩
def mp_tabX6 : mp_T := ([(23, 6, 0, false, true, .int), (11, 6, 1, true, true, (.array .int)), (15, 6, 2, true, true, (.array .int)), (18, 5, 2, true, false, (.array .int))], [], [(31, 99)])
set_option maxRecDepth 100000 in
theorem mp_tabX6_ok : mp_Tok RX6 mp_tabX6 := ⟨mp_lks_ok (js := [2099, 2100, 2101, 2137]) (by decide +kernel), mp_cks_ok (js := []) (by decide +kernel), mp_cls_ok (js := [5123]) (by decide +kernel)⟩
def mp_tabX7 : mp_T := ([(49, 7, 0, false, true, .int), (53, 7, 1, false, true, .int), (56, 7, 2, false, true, .int), (59, 7, 3, false, true, .int), (62, 7, 4, false, true, .int), (65, 7, 5, false, true, .int), (9, 7, 6, true, true, (.array .int)), (15, 7, 7, true, true, (.array .long)), (19, 7, 8, true, true, (.array .int)), (22, 7, 9, true, true, (.array .int)), (25, 7, 10, true, true, (.array .int)), (28, 7, 11, true, true, (.array .int)), (31, 7, 12, true, true, (.array .int)), (34, 7, 13, true, true, (.array .int)), (37, 7, 14, true, true, (.array .int)), (40, 7, 15, true, true, (.array .int)), (43, 7, 16, true, true, (.array .int)), (46, 7, 17, true, true, (.array .int))], [], [(83, (-1))])
set_option maxRecDepth 100000 in
theorem mp_tabX7_ok : mp_Tok RX7 mp_tabX7 := ⟨mp_lks_ok (js := [1041, 1044, 1049, 1053, 1057, 1064, 1067, 1068, 1069, 1072, 1075, 1079, 1085, 1090, 1094, 1098, 1102, 1106]) (by decide +kernel), mp_cks_ok (js := []) (by decide +kernel), mp_cls_ok (js := [3104]) (by decide +kernel)⟩
def mp_tabX8 : mp_T := ([(38, 7, 4, false, false, .int), (55, 7, 10, true, false, (.array .int)), (58, 7, 11, true, false, (.array .int)), (15, 0, 0, true, false, (.object "MoonPromises$Told")), (21, 0, 1, false, false, .int), (9, 8, 0, true, true, (.array .int)), (65, 8, 1, false, true, .int), (35, 8, 2, false, true, .int)], [], [(47, 1103515245), (49, 12345), (51, 2147483647), (53, 100)])
set_option maxRecDepth 100000 in
theorem mp_tabX8_ok : mp_Tok RX8 mp_tabX8 := ⟨mp_lks_ok (js := [1059, 1076, 1081, 1194, 1198, 2115, 2116, 2118]) (by decide +kernel), mp_cks_ok (js := []) (by decide +kernel), mp_cls_ok (js := [5153, 5154, 5155, 5156]) (by decide +kernel)⟩
def mp_tabX9 : mp_T := ([(97, 7, 0, false, false, .int), (220, 7, 1, false, false, .int), (346, 7, 2, false, false, .int), (337, 7, 3, false, false, .int), (196, 7, 4, false, false, .int), (214, 7, 5, false, false, .int), (110, 7, 8, true, false, (.array .int)), (114, 7, 9, true, false, (.array .int)), (117, 7, 10, true, false, (.array .int)), (123, 7, 11, true, false, (.array .int)), (126, 7, 12, true, false, (.array .int)), (129, 7, 13, true, false, (.array .int)), (132, 7, 14, true, false, (.array .int)), (135, 7, 15, true, false, (.array .int)), (138, 7, 16, true, false, (.array .int)), (217, 7, 17, true, false, (.array .int)), (71, 3, 1, false, false, .int), (87, 3, 2, true, false, (.object "MoonPromises$Told")), (100, 3, 3, false, false, .int), (103, 3, 4, false, false, .int), (83, 0, 0, true, false, (.object "MoonPromises$Told")), (166, 0, 1, false, false, .int), (199, 0, 2, true, false, (.array .int)), (202, 0, 3, true, false, (.array .int)), (270, 1, 2, false, false, .int), (273, 1, 3, true, false, (.array .int)), (258, 2, 9, false, false, .int), (261, 2, 10, false, false, .int), (286, 4, 5, false, false, .int), (289, 4, 6, false, false, .int), (292, 4, 7, false, false, .int), (295, 4, 8, false, false, .int), (322, 8, 1, false, false, .int), (325, 8, 2, false, false, .int), (368, 5, 1, true, false, (.array .int)), (361, 5, 2, true, false, (.array .int)), (10, 9, 0, true, true, (.object "MoonPromises$Reader")), (19, 9, 1, true, true, (.object "MoonPromises$Course")), (25, 9, 2, true, true, (.array (.object "MoonPromises$Told"))), (32, 9, 3, true, true, (.object "MoonPromises$Ledger")), (39, 9, 4, true, true, (.object "MoonPromises$Planner")), (46, 9, 5, true, true, (.object "MoonPromises$Scales")), (53, 9, 6, true, true, (.object "MoonPromises$Threat")), (60, 9, 7, true, true, (.object "MoonPromises$Years")), (67, 9, 8, true, true, (.object "MoonPromises$Slots"))], [(179, (-2000000000)), (378, 2000000000), (328, 1000000)], [(244, (-2))])
set_option maxRecDepth 100000 in
theorem mp_tabX9_ok : mp_Tok RX9 mp_tabX9 := ⟨mp_lks_ok (js := [1043, 1047, 1051, 1056, 1063, 1066, 1071, 1073, 1077, 1084, 1089, 1092, 1096, 1100, 1103, 1108, 1150, 1153, 1155, 1157, 1196, 1200, 1203, 1205, 1238, 2000, 2026, 2028, 2064, 2066, 2068, 2070, 2117, 2119, 2135, 2139, 2147, 2148, 2149, 2150, 2151, 2152, 2153, 2154, 2155]) (by decide +kernel), mp_cks_ok (js := [3233, 5145, 5170]) (by decide +kernel), mp_cls_ok (js := [4187]) (by decide +kernel)⟩
def mp_tabX10 : mp_T := ([(92, 10, 0, false, true, .int), (7, 10, 1, true, true, (.array .int)), (13, 10, 2, true, true, (.array .int)), (16, 10, 3, true, true, (.array .long)), (20, 10, 4, true, true, (.array .long)), (23, 10, 5, true, true, (.array .byte)), (109, 10, 6, false, true, .int), (116, 10, 7, false, true, .int), (133, 10, 8, false, true, .int), (123, 10, 9, false, true, .int), (126, 10, 10, false, true, .int), (129, 10, 11, false, true, .long), (144, 10, 12, false, true, .int), (147, 10, 13, false, true, .int), (171, 10, 14, false, true, .int), (27, 10, 15, false, true, .int), (31, 10, 16, true, true, (.array .int)), (34, 10, 17, true, true, (.array .int)), (37, 10, 18, true, true, (.array .int)), (40, 10, 19, true, true, (.array .boolean)), (44, 10, 20, true, true, (.array .int)), (47, 10, 21, true, true, (.array .int)), (50, 10, 22, true, true, (.array .int)), (53, 10, 23, true, true, (.array .boolean)), (276, 10, 24, false, true, .int), (56, 10, 25, true, true, (.array .int)), (59, 10, 26, true, true, (.array .int)), (62, 10, 27, true, true, (.array .int)), (65, 10, 28, true, true, (.array .boolean)), (337, 10, 29, false, true, .int), (343, 10, 30, false, true, .int), (334, 10, 31, false, true, .int), (68, 10, 32, true, true, (.array .int)), (71, 10, 33, true, true, (.array .long)), (381, 10, 34, false, true, .int), (384, 10, 35, false, true, .int), (74, 10, 36, true, true, (.array .int)), (77, 10, 37, true, true, (.array .int)), (80, 10, 38, true, true, (.array .int)), (417, 10, 39, false, true, .int), (420, 10, 40, false, true, .int), (423, 10, 41, false, true, .int), (426, 10, 42, false, true, .int), (83, 10, 43, true, true, (.array .int)), (86, 10, 44, true, true, (.array .int)), (89, 10, 45, true, true, (.array .int)), (450, 10, 46, false, true, .int)], [(142, 1000000), (143, 10000000), (302, (-2000000000)), (399, (-1000000))], [(95, 3), (136, (-1)), (138, 27), (140, 96), (234, 5165848), (236, 47), (211, 232608281), (213, 6465242723), (187, 419), (193, 85447), (195, 10737568), (203, 555), (205, 12532058), (207, 374953), (209, 2495756), (221, 13987), (182, 296479), (226, 380396), (260, 2), (265, 5), (258, 99), (359, 12), (379, (-2)), (400, 20), (412, 1000000), (463, 2000000000), (465, 40), (453, 1103515245), (455, 12345), (457, 2147483648), (459, 65536), (461, 100)])
set_option maxRecDepth 100000 in
theorem mp_tabX10_ok : mp_Tok RX10 mp_tabX10 := ⟨mp_lks_ok (js := [6011, 6012, 6013, 6014, 6015, 6016, 6017, 6018, 6019, 6020, 6021, 6022, 6023, 6024, 6025, 6026, 6027, 6028, 6029, 6030, 6031, 6032, 6033, 6034, 6035, 6036, 6037, 6038, 6039, 6040, 6041, 6042, 6043, 6044, 6045, 6046, 6047, 6048, 6049, 6050, 6051, 6052, 6053, 6054, 6055, 6056, 6057]) (by decide +kernel), mp_cks_ok (js := [6215, 6216, 7151, 8108]) (by decide +kernel), mp_cls_ok (js := [6161, 6212, 6213, 6214, 6221, 7002, 7011, 7012, 7021, 7026, 7027, 7036, 7037, 7042, 7043, 7044, 7049, 7050, 7074, 7083, 7103, 8019, 8075, 8109, 8142, 8207, 8208, 8213, 8214, 8215, 8216, 8217]) (by decide +kernel)⟩
def mp_tabL : mp_T := ([], [], [(252, 4294967295)])
set_option maxRecDepth 100000 in
theorem mp_tabL_ok : mp_Tok RL mp_tabL := ⟨mp_lks_ok (js := []) (by decide +kernel), mp_cks_ok (js := []) (by decide +kernel), mp_cls_ok (js := [9010]) (by decide +kernel)⟩
set_option maxRecDepth 100000 in
theorem mp_lkL_9 : mp_LI RL 9 yX9_init cX9_init 1 0 := mp_li_ok (j1 := 1023) (j2 := 1024) (j4 := 1001) (j5 := 1025) (by decide +kernel)
set_option maxRecDepth 100000 in
theorem mp_lkX9_9 : mp_LNs RX9 9 yX3_init cX3_init 1 none 0 := mp_ln_ok (host := RX9) (j1 := 0) (j4 := 1002) (j5 := 1033) (by decide +kernel)
set_option maxRecDepth 100000 in
theorem mp_lkX3_17 : mp_LNs RX3 17 yX7_init cX7_init 1 none 0 := mp_ln_ok (host := RX9) (j1 := 1) (j4 := 1003) (j5 := 1039) (by decide +kernel)
set_option maxRecDepth 100000 in
theorem mp_lkX9_18 : mp_LNs RX9 18 yX0_init cX0_init 1 none 0 := mp_ln_ok (host := RX9) (j1 := 2) (j4 := 1004) (j5 := 1188) (by decide +kernel)
set_option maxRecDepth 100000 in
theorem mp_lkX0_11 : mp_LNs RX0 11 yX7_init cX7_init 1 none 0 := mp_ln_ok (host := RX9) (j1 := 3) (j4 := 1003) (j5 := 1039) (by decide +kernel)
set_option maxRecDepth 100000 in
theorem mp_lkX9_31 : mp_LNs RX9 31 yX1_init cX1_init 1 none 0 := mp_ln_ok (host := RX9) (j1 := 4) (j4 := 1005) (j5 := 1233) (by decide +kernel)
set_option maxRecDepth 100000 in
theorem mp_lkX9_38 : mp_LNs RX9 38 yX2_init cX2_init 1 none 0 := mp_ln_ok (host := RX9) (j1 := 5) (j4 := 1006) (j5 := 2014) (by decide +kernel)
set_option maxRecDepth 100000 in
theorem mp_lkX9_45 : mp_LNs RX9 45 yX4_init cX4_init 1 none 0 := mp_ln_ok (host := RX9) (j1 := 6) (j4 := 1007) (j5 := 2056) (by decide +kernel)
set_option maxRecDepth 100000 in
theorem mp_lkX9_52 : mp_LI RX9 52 yX6_init cX6_init 4 0 := mp_li_ok (j1 := 2095) (j2 := 2096) (j4 := 1008) (j5 := 2097) (by decide +kernel)
set_option maxRecDepth 100000 in
theorem mp_lkX9_59 : mp_LNs RX9 59 yX8_init cX8_init 1 none 0 := mp_ln_ok (host := RX9) (j1 := 7) (j4 := 1009) (j5 := 2113) (by decide +kernel)
set_option maxRecDepth 100000 in
theorem mp_lkX9_66 : mp_LI RX9 66 yX5_init cX5_init 2 0 := mp_li_ok (j1 := 2129) (j2 := 2130) (j4 := 1010) (j5 := 2131) (by decide +kernel)
set_option maxRecDepth 100000 in
theorem mp_lkL_13 : mp_LV RL 13 yX9_feed cX9_feed 6 (some FieldType.int) 5 9 := mp_lv_ok (j1 := 2175) (j2 := 2176) (j3 := 2177) (j4 := 1001) (j5 := 2178) (by decide +kernel)
set_option maxRecDepth 100000 in
theorem mp_lkX9_75 : mp_LV RX9 75 yX3_addFour cX3_addFour 3 none 1 3 := mp_lv_ok (j1 := 2179) (j2 := 2180) (j3 := 2181) (j4 := 1002) (j5 := 2182) (by decide +kernel)
set_option maxRecDepth 100000 in
theorem mp_lkL_18 : mp_LV RL 18 yX9_end cX9_end 2 (some FieldType.int) 1 9 := mp_lv_ok (j1 := 2183) (j2 := 2184) (j3 := 2185) (j4 := 1001) (j5 := 2186) (by decide +kernel)
set_option maxRecDepth 100000 in
theorem mp_lkL_23 : mp_LV RL 23 yX9_isles cX9_isles 2 (some FieldType.int) 0 9 := mp_lv_ok (j1 := 2187) (j2 := 2188) (j3 := 2189) (j4 := 1001) (j5 := 2190) (by decide +kernel)
set_option maxRecDepth 100000 in
theorem mp_lkX9_79 : mp_LV RX9 79 yX3_readAll cX3_readAll 2 (some FieldType.boolean) 0 3 := mp_lv_ok (j1 := 2191) (j2 := 2192) (j3 := 2193) (j4 := 1002) (j5 := 2194) (by decide +kernel)
set_option maxRecDepth 100000 in
theorem mp_lkX3_29 : mp_LV RX3 29 yX7_clear cX7_clear 1 none 0 7 := mp_lv_ok (j1 := 2195) (j2 := 2196) (j3 := 2197) (j4 := 1003) (j5 := 2198) (by decide +kernel)
set_option maxRecDepth 100000 in
theorem mp_lkX7_68 : mp_LS RX7 68 yJ7_fill_53178 cJ7_fill_53178 4 none 2 := mp_ls_ok (j1 := 2199) (j2 := 2200) (j4 := 1012) (j5 := 2201) (by decide +kernel)
set_option maxRecDepth 100000 in
theorem mp_lkX7_74 : mp_LS RX7 74 yJ7_fill_d0a16 cJ7_fill_d0a16 5 none 2 := mp_ls_ok (j1 := 2202) (j2 := 2203) (j4 := 1012) (j5 := 2204) (by decide +kernel)
set_option maxRecDepth 100000 in
theorem mp_lkX3_38 : mp_LV RX3 38 yX3_step cX3_step 1 none 0 3 := mp_lv_ok (j1 := 2205) (j2 := 2207) (j3 := 0) (j4 := 1002) (j5 := 2208) (by decide +kernel)
set_option maxRecDepth 100000 in
theorem mp_lkX3_173 : mp_LV RX3 173 yX3_isLetter cX3_isLetter 2 (some FieldType.boolean) 1 3 := mp_lv_ok (j1 := 2209) (j2 := 2211) (j3 := 1) (j4 := 1002) (j5 := 2212) (by decide +kernel)
set_option maxRecDepth 100000 in
theorem mp_lkX3_176 : mp_LV RX3 176 yX3_isDigit cX3_isDigit 2 (some FieldType.boolean) 1 3 := mp_lv_ok (j1 := 2213) (j2 := 2215) (j3 := 2) (j4 := 1002) (j5 := 2216) (by decide +kernel)
set_option maxRecDepth 100000 in
theorem mp_lkX3_180 : mp_LS RX3 180 yJ9_min_7cf53 cJ9_min_7cf53 2 (some FieldType.int) 2 := mp_ls_ok (j1 := 2218) (j2 := 2219) (j4 := 1013) (j5 := 2220) (by decide +kernel)
set_option maxRecDepth 100000 in
theorem mp_lkX3_44 : mp_LV RX3 44 yX3_takeLine cX3_takeLine 2 (some FieldType.boolean) 0 3 := mp_lv_ok (j1 := 2221) (j2 := 2223) (j3 := 3) (j4 := 1002) (j5 := 2224) (by decide +kernel)
set_option maxRecDepth 100000 in
theorem mp_lkX3_56 : mp_LV RX3 56 yX3_isWord cX3_isWord 3 (some FieldType.boolean) 1 3 := mp_lv_ok (j1 := 2226) (j2 := 2228) (j3 := 4) (j4 := 1002) (j5 := 2229) (by decide +kernel)
set_option maxRecDepth 100000 in
theorem mp_lkX3_60 : mp_LV RX3 60 yX3_fail cX3_fail 2 (some FieldType.boolean) 1 3 := mp_lv_ok (j1 := 3038) (j2 := 3040) (j3 := 5) (j4 := 1002) (j5 := 3041) (by decide +kernel)
set_option maxRecDepth 100000 in
theorem mp_lkX3_64 : mp_LV RX3 64 yX3_takeIsles cX3_takeIsles 1 (some FieldType.boolean) 0 3 := mp_lv_ok (j1 := 3042) (j2 := 3044) (j3 := 6) (j4 := 1002) (j5 := 3045) (by decide +kernel)
set_option maxRecDepth 100000 in
theorem mp_lkX3_91 : mp_LV RX3 91 yX3_takeNumber cX3_takeNumber 4 (some FieldType.boolean) 3 3 := mp_lv_ok (j1 := 3046) (j2 := 3048) (j3 := 7) (j4 := 1002) (j5 := 3049) (by decide +kernel)
set_option maxRecDepth 100000 in
theorem mp_lkX3_102 : mp_LV RX3 102 yX3_takeWord cX3_takeWord 2 (some FieldType.boolean) 1 3 := mp_lv_ok (j1 := 3051) (j2 := 3053) (j3 := 8) (j4 := 1002) (j5 := 3054) (by decide +kernel)
set_option maxRecDepth 100000 in
theorem mp_lkX3_69 : mp_LV RX3 69 yX3_takeSea cX3_takeSea 3 (some FieldType.boolean) 0 3 := mp_lv_ok (j1 := 3056) (j2 := 3058) (j3 := 9) (j4 := 1002) (j5 := 3059) (by decide +kernel)
set_option maxRecDepth 100000 in
theorem mp_lkX3_110 : mp_LV RX3 110 yX7_laySea cX7_laySea 4 none 3 7 := mp_lv_ok (j1 := 3061) (j2 := 3062) (j3 := 3063) (j4 := 1003) (j5 := 3064) (by decide +kernel)
set_option maxRecDepth 100000 in
theorem mp_lkX3_74 : mp_LV RX3 74 yX3_takePerson cX3_takePerson 5 (some FieldType.boolean) 0 3 := mp_lv_ok (j1 := 3066) (j2 := 3068) (j3 := 10) (j4 := 1002) (j5 := 3069) (by decide +kernel)
set_option maxRecDepth 100000 in
theorem mp_lkX3_119 : mp_LV RX3 119 yX7_addPerson cX7_addPerson 2 none 1 7 := mp_lv_ok (j1 := 3071) (j2 := 3072) (j3 := 3073) (j4 := 1003) (j5 := 3074) (by decide +kernel)
set_option maxRecDepth 100000 in
theorem mp_lkX3_79 : mp_LV RX3 79 yX3_takePromise cX3_takePromise 4 (some FieldType.boolean) 0 3 := mp_lv_ok (j1 := 3078) (j2 := 3080) (j3 := 11) (j4 := 1002) (j5 := 3081) (by decide +kernel)
set_option maxRecDepth 100000 in
theorem mp_lkX3_141 : mp_LV RX3 141 yX7_addPromise cX7_addPromise 5 none 4 7 := mp_lv_ok (j1 := 3086) (j2 := 3087) (j3 := 3088) (j4 := 1003) (j5 := 3089) (by decide +kernel)
set_option maxRecDepth 100000 in
theorem mp_lkX3_85 : mp_LV RX3 85 yX3_takePromiseMarks cX3_takePromiseMarks 3 (some FieldType.boolean) 1 3 := mp_lv_ok (j1 := 3090) (j2 := 3092) (j3 := 12) (j4 := 1002) (j5 := 3093) (by decide +kernel)
set_option maxRecDepth 100000 in
theorem mp_lkX3_88 : mp_LV RX3 88 yX3_takeShut cX3_takeShut 2 (some FieldType.boolean) 0 3 := mp_lv_ok (j1 := 3095) (j2 := 3097) (j3 := 13) (j4 := 1002) (j5 := 3098) (by decide +kernel)
set_option maxRecDepth 100000 in
theorem mp_lkX3_154 : mp_LV RX3 154 yX7_setShut cX7_setShut 7 none 3 7 := mp_lv_ok (j1 := 3100) (j2 := 3101) (j3 := 3102) (j4 := 1003) (j5 := 3103) (by decide +kernel)
set_option maxRecDepth 100000 in
theorem mp_lkX3_48 : mp_LV RX3 48 yX3_takeSign cX3_takeSign 1 (some FieldType.boolean) 0 3 := mp_lv_ok (j1 := 3105) (j2 := 3107) (j3 := 14) (j4 := 1002) (j5 := 3108) (by decide +kernel)
set_option maxRecDepth 100000 in
theorem mp_lkX9_90 : mp_LV RX9 90 yX7_copyFrom cX7_copyFrom 2 none 1 7 := mp_lv_ok (j1 := 3109) (j2 := 3110) (j3 := 3111) (j4 := 1003) (j5 := 3112) (by decide +kernel)
set_option maxRecDepth 100000 in
theorem mp_lkX9_94 : mp_LV RX9 94 yX0_replay cX0_replay 2 none 0 0 := mp_lv_ok (j1 := 3116) (j2 := 3117) (j3 := 3118) (j4 := 1004) (j5 := 3119) (by decide +kernel)
set_option maxRecDepth 100000 in
theorem mp_lkX0_49 : mp_LS RX0 49 yJ7_fill_d0a16 cJ7_fill_d0a16 5 none 2 := mp_ls_ok (j1 := 3120) (j2 := 2203) (j4 := 1012) (j5 := 2204) (by decide +kernel)
set_option maxRecDepth 100000 in
theorem mp_lkX0_61 : mp_LV RX0 61 yX0_apply cX0_apply 4 none 1 0 := mp_lv_ok (j1 := 3121) (j2 := 3123) (j3 := 15) (j4 := 1004) (j5 := 3124) (by decide +kernel)
set_option maxRecDepth 100000 in
theorem mp_lkX0_65 : mp_LV RX0 65 yX7_oarsBetween cX7_oarsBetween 3 (some FieldType.int) 2 7 := mp_lv_ok (j1 := 3125) (j2 := 3126) (j3 := 3127) (j4 := 1003) (j5 := 3128) (by decide +kernel)
set_option maxRecDepth 100000 in
theorem mp_lkL_28 : mp_LV RL 28 yX9_fault cX9_fault 2 (some FieldType.int) 1 9 := mp_lv_ok (j1 := 3129) (j2 := 3130) (j3 := 3131) (j4 := 1001) (j5 := 3132) (by decide +kernel)
set_option maxRecDepth 100000 in
theorem mp_lkL_32 : mp_LV RL 32 yX9_person cX9_person 4 (some FieldType.int) 2 9 := mp_lv_ok (j1 := 3133) (j2 := 3134) (j3 := 3135) (j4 := 1001) (j5 := 3136) (by decide +kernel)
set_option maxRecDepth 100000 in
theorem mp_lkX9_106 : mp_LV RX9 106 yX7_isPerson cX7_isPerson 2 (some FieldType.boolean) 1 7 := mp_lv_ok (j1 := 3137) (j2 := 3138) (j3 := 3139) (j4 := 1003) (j5 := 3140) (by decide +kernel)
set_option maxRecDepth 100000 in
theorem mp_lkL_37 : mp_LV RL 37 yX9_promise cX9_promise 4 (some FieldType.int) 2 9 := mp_lv_ok (j1 := 3141) (j2 := 3142) (j3 := 3143) (j4 := 1001) (j5 := 3144) (by decide +kernel)
set_option maxRecDepth 100000 in
theorem mp_lkX9_120 : mp_LV RX9 120 yX7_isPromise cX7_isPromise 2 (some FieldType.boolean) 1 7 := mp_lv_ok (j1 := 3145) (j2 := 3146) (j3 := 3147) (j4 := 1003) (j5 := 3148) (by decide +kernel)
set_option maxRecDepth 100000 in
theorem mp_lkL_41 : mp_LV RL 41 yX9_sea cX9_sea 4 (some FieldType.int) 2 9 := mp_lv_ok (j1 := 3149) (j2 := 3150) (j3 := 3151) (j4 := 1001) (j5 := 3152) (by decide +kernel)
set_option maxRecDepth 100000 in
theorem mp_lkX9_141 : mp_LV RX9 141 yX7_isIsle cX7_isIsle 2 (some FieldType.boolean) 1 7 := mp_lv_ok (j1 := 3153) (j2 := 3154) (j3 := 3155) (j4 := 1003) (j5 := 3156) (by decide +kernel)
set_option maxRecDepth 100000 in
theorem mp_lkX9_144 : mp_LV RX9 144 yX7_oarsBetween cX7_oarsBetween 3 (some FieldType.int) 2 7 := mp_lv_ok (j1 := 3157) (j2 := 3126) (j3 := 3127) (j4 := 1003) (j5 := 3128) (by decide +kernel)
set_option maxRecDepth 100000 in
theorem mp_lkL_45 : mp_LV RL 45 yX9_open cX9_open 3 (some FieldType.int) 2 9 := mp_lv_ok (j1 := 3158) (j2 := 3159) (j3 := 3160) (j4 := 1001) (j5 := 3161) (by decide +kernel)
set_option maxRecDepth 100000 in
theorem mp_lkX9_148 : mp_LS RX9 148 yX9_isMoon cX9_isMoon 1 (some FieldType.boolean) 1 := mp_ls_ok (j1 := 3162) (j2 := 3163) (j4 := 1001) (j5 := 3164) (by decide +kernel)
set_option maxRecDepth 100000 in
theorem mp_lkX9_151 : mp_LV RX9 151 yX7_isShut cX7_isShut 3 (some FieldType.boolean) 2 7 := mp_lv_ok (j1 := 3165) (j2 := 3166) (j3 := 3167) (j4 := 1003) (j5 := 3168) (by decide +kernel)
set_option maxRecDepth 100000 in
theorem mp_lkL_49 : mp_LV RL 49 yX9_halvings cX9_halvings 3 (some FieldType.int) 2 9 := mp_lv_ok (j1 := 3169) (j2 := 3170) (j3 := 3171) (j4 := 1001) (j5 := 3172) (by decide +kernel)
set_option maxRecDepth 100000 in
theorem mp_lkX9_155 : mp_LV RX9 155 yX0_lastsAt cX0_lastsAt 3 (some (FieldType.array FieldType.int)) 1 0 := mp_lv_ok (j1 := 3173) (j2 := 3174) (j3 := 3175) (j4 := 1004) (j5 := 3176) (by decide +kernel)
set_option maxRecDepth 100000 in
theorem mp_lkX0_86 : mp_LV RX0 86 yX0_lastSaid cX0_lastSaid 5 (some FieldType.int) 2 0 := mp_lv_ok (j1 := 3177) (j2 := 3179) (j3 := 16) (j4 := 1004) (j5 := 3180) (by decide +kernel)
set_option maxRecDepth 100000 in
theorem mp_lkX0_92 : mp_LS RX0 92 yJ9_min_7cf53 cJ9_min_7cf53 2 (some FieldType.int) 2 := mp_ls_ok (j1 := 3181) (j2 := 2219) (j4 := 1013) (j5 := 2220) (by decide +kernel)
set_option maxRecDepth 100000 in
theorem mp_lkX9_159 : mp_LV RX9 159 yX7_halvingsBy cX7_halvingsBy 7 (some FieldType.int) 3 7 := mp_lv_ok (j1 := 3182) (j2 := 3183) (j3 := 3184) (j4 := 1003) (j5 := 3185) (by decide +kernel)
set_option maxRecDepth 100000 in
theorem mp_lkX7_102 : mp_LV RX7 102 yX7_ownHalvings cX7_ownHalvings 6 (some FieldType.int) 3 7 := mp_lv_ok (j1 := 3186) (j2 := 3187) (j3 := 3188) (j4 := 1003) (j5 := 3189) (by decide +kernel)
set_option maxRecDepth 100000 in
theorem mp_lkL_53 : mp_LV RL 53 yX9_worth cX9_worth 3 (some FieldType.int) 2 9 := mp_lv_ok (j1 := 3190) (j2 := 3191) (j3 := 3192) (j4 := 1001) (j5 := 3193) (by decide +kernel)
set_option maxRecDepth 100000 in
theorem mp_lkX9_163 : mp_LV RX9 163 yX7_worthBy cX7_worthBy 5 (some FieldType.int) 3 7 := mp_lv_ok (j1 := 3194) (j2 := 3195) (j3 := 3196) (j4 := 1003) (j5 := 3197) (by decide +kernel)
set_option maxRecDepth 100000 in
theorem mp_lkX7_106 : mp_LV RX7 106 yX7_halvingsBy cX7_halvingsBy 7 (some FieldType.int) 3 7 := mp_lv_ok (j1 := 3198) (j2 := 3183) (j3 := 3184) (j4 := 1003) (j5 := 3185) (by decide +kernel)
set_option maxRecDepth 100000 in
theorem mp_lkX7_110 : mp_LNs RX7 110 yX9_halved cX9_halved 2 (some FieldType.int) 2 := mp_ln_ok (host := RX9) (j1 := 8) (j4 := 1001) (j5 := 3201) (by decide +kernel)
set_option maxRecDepth 100000 in
theorem mp_lkL_57 : mp_LV RL 57 yX9_falls cX9_falls 5 (some FieldType.int) 2 9 := mp_lv_ok (j1 := 3202) (j2 := 3203) (j3 := 3204) (j4 := 1001) (j5 := 3205) (by decide +kernel)
set_option maxRecDepth 100000 in
theorem mp_lkL_61 : mp_LV RL 61 yX9_owed cX9_owed 4 (some FieldType.int) 3 9 := mp_lv_ok (j1 := 3206) (j2 := 3207) (j3 := 3208) (j4 := 1001) (j5 := 3209) (by decide +kernel)
set_option maxRecDepth 100000 in
theorem mp_lkX9_169 : mp_LV RX9 169 yX9_arePair cX9_arePair 3 (some FieldType.boolean) 2 9 := mp_lv_ok (j1 := 3210) (j2 := 3212) (j3 := 17) (j4 := 1001) (j5 := 3213) (by decide +kernel)
set_option maxRecDepth 100000 in
theorem mp_lkX9_172 : mp_LV RX9 172 yX1_fill cX1_fill 6 none 2 1 := mp_lv_ok (j1 := 3214) (j2 := 3215) (j3 := 3216) (j4 := 1005) (j5 := 3217) (by decide +kernel)
set_option maxRecDepth 100000 in
theorem mp_lkX1_24 : mp_LV RX1 24 yX0_worthsAt cX0_worthsAt 3 (some (FieldType.array FieldType.int)) 1 0 := mp_lv_ok (j1 := 3218) (j2 := 3219) (j3 := 3220) (j4 := 1004) (j5 := 3221) (by decide +kernel)
set_option maxRecDepth 100000 in
theorem mp_lkX0_97 : mp_LV RX0 97 yX0_lastsAt cX0_lastsAt 3 (some (FieldType.array FieldType.int)) 1 0 := mp_lv_ok (j1 := 3222) (j2 := 3174) (j3 := 3175) (j4 := 1004) (j5 := 3176) (by decide +kernel)
set_option maxRecDepth 100000 in
theorem mp_lkX0_101 : mp_LV RX0 101 yX7_worthBy cX7_worthBy 5 (some FieldType.int) 3 7 := mp_lv_ok (j1 := 3223) (j2 := 3195) (j3 := 3196) (j4 := 1003) (j5 := 3197) (by decide +kernel)
set_option maxRecDepth 100000 in
theorem mp_lkX1_35 : mp_LS RX1 35 yJ7_fill_53178 cJ7_fill_53178 4 none 2 := mp_ls_ok (j1 := 3224) (j2 := 2200) (j4 := 1012) (j5 := 2201) (by decide +kernel)
set_option maxRecDepth 100000 in
theorem mp_lkX9_176 : mp_LV RX9 176 yX1_debt cX1_debt 3 (some FieldType.int) 2 1 := mp_lv_ok (j1 := 3225) (j2 := 3226) (j3 := 3227) (j4 := 1005) (j5 := 3228) (by decide +kernel)
set_option maxRecDepth 100000 in
theorem mp_lkL_66 : mp_LV RL 66 yX9_sum cX9_sum 4 (some FieldType.int) 3 9 := mp_lv_ok (j1 := 3229) (j2 := 3230) (j3 := 3231) (j4 := 1001) (j5 := 3232) (by decide +kernel)
set_option maxRecDepth 100000 in
theorem mp_lkX9_180 : mp_LV RX9 180 yX1_owing cX1_owing 4 (some FieldType.int) 1 1 := mp_lv_ok (j1 := 3234) (j2 := 3235) (j3 := 3236) (j4 := 1005) (j5 := 3237) (by decide +kernel)
set_option maxRecDepth 100000 in
theorem mp_lkX1_50 : mp_LV RX1 50 yX1_debt cX1_debt 3 (some FieldType.int) 2 1 := mp_lv_ok (j1 := 3238) (j2 := 3226) (j3 := 3227) (j4 := 1005) (j5 := 3228) (by decide +kernel)
set_option maxRecDepth 100000 in
theorem mp_lkX9_184 : mp_LV RX9 184 yX1_due cX1_due 4 (some FieldType.int) 1 1 := mp_lv_ok (j1 := 3239) (j2 := 4000) (j3 := 4001) (j4 := 1005) (j5 := 4002) (by decide +kernel)
set_option maxRecDepth 100000 in
theorem mp_lkL_70 : mp_LV RL 70 yX9_richest cX9_richest 2 (some FieldType.int) 1 9 := mp_lv_ok (j1 := 4003) (j2 := 4004) (j3 := 4005) (j4 := 1001) (j5 := 4006) (by decide +kernel)
set_option maxRecDepth 100000 in
theorem mp_lkX9_187 : mp_LV RX9 187 yX9_isToldMoon cX9_isToldMoon 2 (some FieldType.boolean) 1 9 := mp_lv_ok (j1 := 4007) (j2 := 4009) (j3 := 18) (j4 := 1001) (j5 := 4010) (by decide +kernel)
set_option maxRecDepth 100000 in
theorem mp_lkX9_190 : mp_LV RX9 190 yX1_first cX1_first 5 (some FieldType.int) 0 1 := mp_lv_ok (j1 := 4011) (j2 := 4012) (j3 := 4013) (j4 := 1005) (j5 := 4014) (by decide +kernel)
set_option maxRecDepth 100000 in
theorem mp_lkX1_54 : mp_LV RX1 54 yX1_due cX1_due 4 (some FieldType.int) 1 1 := mp_lv_ok (j1 := 4015) (j2 := 4000) (j3 := 4001) (j4 := 1005) (j5 := 4002) (by decide +kernel)
set_option maxRecDepth 100000 in
theorem mp_lkX1_58 : mp_LV RX1 58 yX1_owing cX1_owing 4 (some FieldType.int) 1 1 := mp_lv_ok (j1 := 4016) (j2 := 3235) (j3 := 3236) (j4 := 1005) (j5 := 3237) (by decide +kernel)
set_option maxRecDepth 100000 in
theorem mp_lkL_74 : mp_LV RL 74 yX9_greatest cX9_greatest 6 (some FieldType.int) 1 9 := mp_lv_ok (j1 := 4017) (j2 := 4018) (j3 := 4019) (j4 := 1001) (j5 := 4020) (by decide +kernel)
set_option maxRecDepth 100000 in
theorem mp_lkX9_193 : mp_LV RX9 193 yX0_worthsAt cX0_worthsAt 3 (some (FieldType.array FieldType.int)) 1 0 := mp_lv_ok (j1 := 4021) (j2 := 3219) (j3 := 3220) (j4 := 1004) (j5 := 3221) (by decide +kernel)
set_option maxRecDepth 100000 in
theorem mp_lkL_78 : mp_LV RL 78 yX9_root cX9_root 4 (some FieldType.int) 1 9 := mp_lv_ok (j1 := 4022) (j2 := 4023) (j3 := 4024) (j4 := 1001) (j5 := 4025) (by decide +kernel)
set_option maxRecDepth 100000 in
theorem mp_lkL_82 : mp_LV RL 82 yX9_upon cX9_upon 5 (some FieldType.int) 1 9 := mp_lv_ok (j1 := 4026) (j2 := 4027) (j3 := 4028) (j4 := 1001) (j5 := 4029) (by decide +kernel)
set_option maxRecDepth 100000 in
theorem mp_lkL_86 : mp_LV RL 86 yX9_now cX9_now 1 (some FieldType.int) 0 9 := mp_lv_ok (j1 := 4030) (j2 := 4031) (j3 := 4032) (j4 := 1001) (j5 := 4033) (by decide +kernel)
set_option maxRecDepth 100000 in
theorem mp_lkL_90 : mp_LV RL 90 yX9_where cX9_where 2 (some FieldType.int) 1 9 := mp_lv_ok (j1 := 4034) (j2 := 4035) (j3 := 4036) (j4 := 1001) (j5 := 4037) (by decide +kernel)
set_option maxRecDepth 100000 in
theorem mp_lkL_94 : mp_LV RL 94 yX9_rowed cX9_rowed 2 (some FieldType.int) 1 9 := mp_lv_ok (j1 := 4038) (j2 := 4039) (j3 := 4040) (j4 := 1001) (j5 := 4041) (by decide +kernel)
set_option maxRecDepth 100000 in
theorem mp_lkL_98 : mp_LV RL 98 yX9_rows cX9_rows 4 (some FieldType.int) 2 9 := mp_lv_ok (j1 := 4042) (j2 := 4043) (j3 := 4044) (j4 := 1001) (j5 := 4045) (by decide +kernel)
set_option maxRecDepth 100000 in
theorem mp_lkX9_205 : mp_LV RX9 205 yX0_canRow cX0_canRow 3 (some FieldType.boolean) 2 0 := mp_lv_ok (j1 := 4046) (j2 := 4047) (j3 := 4048) (j4 := 1004) (j5 := 4049) (by decide +kernel)
set_option maxRecDepth 100000 in
theorem mp_lkX0_69 : mp_LV RX0 69 yX7_oarsOfLeg cX7_oarsOfLeg 6 (some FieldType.int) 4 7 := mp_lv_ok (j1 := 4050) (j2 := 4051) (j3 := 4052) (j4 := 1003) (j5 := 4053) (by decide +kernel)
set_option maxRecDepth 100000 in
theorem mp_lkX7_95 : mp_LV RX7 95 yX7_oarsBetween cX7_oarsBetween 3 (some FieldType.int) 2 7 := mp_lv_ok (j1 := 4054) (j2 := 3126) (j3 := 3127) (j4 := 1003) (j5 := 3128) (by decide +kernel)
set_option maxRecDepth 100000 in
theorem mp_lkX7_91 : mp_LV RX7 91 yX7_lives cX7_lives 3 (some FieldType.boolean) 2 7 := mp_lv_ok (j1 := 4055) (j2 := 4056) (j3 := 4057) (j4 := 1003) (j5 := 4058) (by decide +kernel)
set_option maxRecDepth 100000 in
theorem mp_lkX7_99 : mp_LV RX7 99 yX7_isShut cX7_isShut 3 (some FieldType.boolean) 2 7 := mp_lv_ok (j1 := 4059) (j2 := 3166) (j3 := 3167) (j4 := 1003) (j5 := 3168) (by decide +kernel)
set_option maxRecDepth 100000 in
theorem mp_lkX9_208 : mp_LV RX9 208 yX0_addAct cX0_addAct 2 (some FieldType.boolean) 1 0 := mp_lv_ok (j1 := 4060) (j2 := 4061) (j3 := 4062) (j4 := 1004) (j5 := 4063) (by decide +kernel)
set_option maxRecDepth 100000 in
theorem mp_lkL_102 : mp_LV RL 102 yX9_says cX9_says 2 (some FieldType.int) 1 9 := mp_lv_ok (j1 := 4064) (j2 := 4065) (j3 := 4066) (j4 := 1001) (j5 := 4067) (by decide +kernel)
set_option maxRecDepth 100000 in
theorem mp_lkX9_211 : mp_LV RX9 211 yX0_canSay cX0_canSay 2 (some FieldType.boolean) 1 0 := mp_lv_ok (j1 := 4068) (j2 := 4069) (j3 := 4070) (j4 := 1004) (j5 := 4071) (by decide +kernel)
set_option maxRecDepth 100000 in
theorem mp_lkX0_79 : mp_LV RX0 79 yX7_bothLive cX7_bothLive 3 (some FieldType.boolean) 2 7 := mp_lv_ok (j1 := 4072) (j2 := 4073) (j3 := 4074) (j4 := 1003) (j5 := 4075) (by decide +kernel)
set_option maxRecDepth 100000 in
theorem mp_lkL_106 : mp_LV RL 106 yX9_passes cX9_passes 1 (some FieldType.int) 0 9 := mp_lv_ok (j1 := 4076) (j2 := 4077) (j3 := 4078) (j4 := 1001) (j5 := 4079) (by decide +kernel)
set_option maxRecDepth 100000 in
theorem mp_lkL_110 : mp_LV RL 110 yX9_undo cX9_undo 2 (some FieldType.int) 0 9 := mp_lv_ok (j1 := 4080) (j2 := 4081) (j3 := 4082) (j4 := 1001) (j5 := 4083) (by decide +kernel)
set_option maxRecDepth 100000 in
theorem mp_lkL_114 : mp_LV RL 114 yX9_anew cX9_anew 3 (some FieldType.int) 0 9 := mp_lv_ok (j1 := 4084) (j2 := 4085) (j3 := 4086) (j4 := 1001) (j5 := 4087) (by decide +kernel)
set_option maxRecDepth 100000 in
theorem mp_lkL_118 : mp_LV RL 118 yX9_act cX9_act 3 (some FieldType.int) 1 9 := mp_lv_ok (j1 := 4088) (j2 := 4089) (j3 := 4090) (j4 := 1001) (j5 := 4091) (by decide +kernel)
set_option maxRecDepth 100000 in
theorem mp_lkL_122 : mp_LV RL 122 yX9_can cX9_can 3 (some FieldType.int) 0 9 := mp_lv_ok (j1 := 4092) (j2 := 4093) (j3 := 4094) (j4 := 1001) (j5 := 4095) (by decide +kernel)
set_option maxRecDepth 100000 in
theorem mp_lkL_126 : mp_LV RL 126 yX9_sails cX9_sails 4 (some FieldType.int) 1 9 := mp_lv_ok (j1 := 4096) (j2 := 4097) (j3 := 4098) (j4 := 1001) (j5 := 4099) (by decide +kernel)
set_option maxRecDepth 100000 in
theorem mp_lkL_130 : mp_LV RL 130 yX9_keeps cX9_keeps 3 (some FieldType.int) 2 9 := mp_lv_ok (j1 := 4100) (j2 := 4101) (j3 := 4102) (j4 := 1001) (j5 := 4103) (by decide +kernel)
set_option maxRecDepth 100000 in
theorem mp_lkX9_223 : mp_LV RX9 223 yX9_canPlan cX9_canPlan 3 (some FieldType.boolean) 2 9 := mp_lv_ok (j1 := 4104) (j2 := 4106) (j3 := 19) (j4 := 1001) (j5 := 4107) (by decide +kernel)
set_option maxRecDepth 100000 in
theorem mp_lkX9_226 : mp_LV RX9 226 yX2_prepare cX2_prepare 4 none 3 2 := mp_lv_ok (j1 := 4108) (j2 := 4109) (j3 := 4110) (j4 := 1006) (j5 := 4111) (by decide +kernel)
set_option maxRecDepth 100000 in
theorem mp_lkX2_28 : mp_LV RX2 28 yX2_layLegs cX2_layLegs 7 none 3 2 := mp_lv_ok (j1 := 4112) (j2 := 4114) (j3 := 20) (j4 := 1006) (j5 := 4115) (by decide +kernel)
set_option maxRecDepth 100000 in
theorem mp_lkX2_61 : mp_LS RX2 61 yX2_leg cX2_leg 3 (some FieldType.int) 3 := mp_ls_ok (j1 := 4116) (j2 := 4117) (j4 := 1006) (j5 := 4118) (by decide +kernel)
set_option maxRecDepth 100000 in
theorem mp_lkX2_68 : mp_LV RX2 68 yX7_oarsOfLeg cX7_oarsOfLeg 6 (some FieldType.int) 4 7 := mp_lv_ok (j1 := 4119) (j2 := 4051) (j3 := 4052) (j4 := 1003) (j5 := 4053) (by decide +kernel)
set_option maxRecDepth 100000 in
theorem mp_lkX2_32 : mp_LV RX2 32 yX2_laySpoken cX2_laySpoken 6 none 2 2 := mp_lv_ok (j1 := 4120) (j2 := 4122) (j3 := 21) (j4 := 1006) (j5 := 4123) (by decide +kernel)
set_option maxRecDepth 100000 in
theorem mp_lkX2_72 : mp_LS RX2 72 yJ7_fill_53178 cJ7_fill_53178 4 none 2 := mp_ls_ok (j1 := 4124) (j2 := 2200) (j4 := 1012) (j5 := 2201) (by decide +kernel)
set_option maxRecDepth 100000 in
theorem mp_lkX2_84 : mp_LV RX2 84 yX7_bothLive cX7_bothLive 3 (some FieldType.boolean) 2 7 := mp_lv_ok (j1 := 4125) (j2 := 4073) (j3 := 4074) (j4 := 1003) (j5 := 4075) (by decide +kernel)
set_option maxRecDepth 100000 in
theorem mp_lkX2_36 : mp_LV RX2 36 yX2_layMissed cX2_layMissed 10 none 2 2 := mp_lv_ok (j1 := 4126) (j2 := 4128) (j3 := 22) (j4 := 1006) (j5 := 4129) (by decide +kernel)
set_option maxRecDepth 100000 in
theorem mp_lkX2_91 : mp_LV RX2 91 yX0_lastsAt cX0_lastsAt 3 (some (FieldType.array FieldType.int)) 1 0 := mp_lv_ok (j1 := 4130) (j2 := 3174) (j3 := 3175) (j4 := 1004) (j5 := 3176) (by decide +kernel)
set_option maxRecDepth 100000 in
theorem mp_lkX2_98 : mp_LV RX2 98 yX7_ownHalvings cX7_ownHalvings 6 (some FieldType.int) 3 7 := mp_lv_ok (j1 := 4131) (j2 := 3187) (j3 := 3188) (j4 := 1003) (j5 := 3189) (by decide +kernel)
set_option maxRecDepth 100000 in
theorem mp_lkX9_230 : mp_LV RX9 230 yX2_leastOars cX2_leastOars 3 (some FieldType.int) 0 2 := mp_lv_ok (j1 := 4132) (j2 := 4133) (j3 := 4134) (j4 := 1006) (j5 := 4135) (by decide +kernel)
set_option maxRecDepth 100000 in
theorem mp_lkX2_101 : mp_LV RX2 101 yX2_leastFrom cX2_leastFrom 6 (some FieldType.int) 2 2 := mp_lv_ok (j1 := 4136) (j2 := 4138) (j3 := 23) (j4 := 1006) (j5 := 4139) (by decide +kernel)
set_option maxRecDepth 100000 in
theorem mp_lkX2_105 : mp_LV RX2 105 yX2_oarsBy cX2_oarsBy 6 (some FieldType.int) 3 2 := mp_lv_ok (j1 := 4140) (j2 := 4142) (j3 := 24) (j4 := 1006) (j5 := 4143) (by decide +kernel)
set_option maxRecDepth 100000 in
theorem mp_lkX2_108 : mp_LV RX2 108 yX2_isKeeping cX2_isKeeping 2 (some FieldType.boolean) 1 2 := mp_lv_ok (j1 := 4144) (j2 := 4146) (j3 := 25) (j4 := 1006) (j5 := 4147) (by decide +kernel)
set_option maxRecDepth 100000 in
theorem mp_lkL_134 : mp_LV RL 134 yX9_plan cX9_plan 4 (some FieldType.int) 3 9 := mp_lv_ok (j1 := 4148) (j2 := 4149) (j3 := 4150) (j4 := 1001) (j5 := 4151) (by decide +kernel)
set_option maxRecDepth 100000 in
theorem mp_lkX9_233 : mp_LV RX9 233 yX2_isleOfFirst cX2_isleOfFirst 6 (some FieldType.int) 1 2 := mp_lv_ok (j1 := 4152) (j2 := 4153) (j3 := 4154) (j4 := 1006) (j5 := 4155) (by decide +kernel)
set_option maxRecDepth 100000 in
theorem mp_lkL_138 : mp_LV RL 138 yX9_lets cX9_lets 3 (some FieldType.int) 2 9 := mp_lv_ok (j1 := 4156) (j2 := 4157) (j3 := 4158) (j4 := 1001) (j5 := 4159) (by decide +kernel)
set_option maxRecDepth 100000 in
theorem mp_lkX9_236 : mp_LV RX9 236 yX2_leastFallen cX2_leastFallen 5 (some FieldType.int) 0 2 := mp_lv_ok (j1 := 4160) (j2 := 4161) (j3 := 4162) (j4 := 1006) (j5 := 4163) (by decide +kernel)
set_option maxRecDepth 100000 in
theorem mp_lkX2_112 : mp_LS RX2 112 yJ6_bitCount_0f7a4 cJ6_bitCount_0f7a4 1 (some FieldType.int) 1 := mp_ls_ok (j1 := 4164) (j2 := 4165) (j4 := 1019) (j5 := 4166) (by decide +kernel)
set_option maxRecDepth 100000 in
theorem mp_lkX2_118 : mp_LV RX2 118 yX2_canKeep cX2_canKeep 6 (some FieldType.boolean) 1 2 := mp_lv_ok (j1 := 4170) (j2 := 4172) (j3 := 26) (j4 := 1006) (j5 := 4173) (by decide +kernel)
set_option maxRecDepth 100000 in
theorem mp_lkX2_121 : mp_LV RX2 121 yX2_reached cX2_reached 7 (some FieldType.int) 3 2 := mp_lv_ok (j1 := 4174) (j2 := 4176) (j3 := 27) (j4 := 1006) (j5 := 4177) (by decide +kernel)
set_option maxRecDepth 100000 in
theorem mp_lkX9_239 : mp_LS RX9 239 yJ6_bitCount_0f7a4 cJ6_bitCount_0f7a4 1 (some FieldType.int) 1 := mp_ls_ok (j1 := 4178) (j2 := 4165) (j4 := 1019) (j5 := 4166) (by decide +kernel)
set_option maxRecDepth 100000 in
theorem mp_lkL_142 : mp_LV RL 142 yX9_fallen cX9_fallen 3 (some FieldType.int) 2 9 := mp_lv_ok (j1 := 4179) (j2 := 4180) (j3 := 4181) (j4 := 1001) (j5 := 4182) (by decide +kernel)
set_option maxRecDepth 100000 in
theorem mp_lkL_146 : mp_LV RL 146 yX9_plans cX9_plans 3 (some FieldType.long) 2 9 := mp_lv_ok (j1 := 4183) (j2 := 4184) (j3 := 4185) (j4 := 1001) (j5 := 4186) (by decide +kernel)
set_option maxRecDepth 100000 in
theorem mp_lkX9_246 : mp_LV RX9 246 yX2_countPlans cX2_countPlans 6 (some FieldType.long) 0 2 := mp_lv_ok (j1 := 4188) (j2 := 4189) (j3 := 4190) (j4 := 1006) (j5 := 4191) (by decide +kernel)
set_option maxRecDepth 100000 in
theorem mp_lkL_151 : mp_LV RL 151 yX9_love cX9_love 4 (some FieldType.int) 3 9 := mp_lv_ok (j1 := 4192) (j2 := 4193) (j3 := 4194) (j4 := 1001) (j5 := 4195) (by decide +kernel)
set_option maxRecDepth 100000 in
theorem mp_lkX9_250 : mp_LV RX9 250 yX9_canLove cX9_canLove 4 (some FieldType.boolean) 3 9 := mp_lv_ok (j1 := 4196) (j2 := 4198) (j3 := 28) (j4 := 1001) (j5 := 4199) (by decide +kernel)
set_option maxRecDepth 100000 in
theorem mp_lkX9_254 : mp_LV RX9 254 yX2_seekLove cX2_seekLove 11 none 4 2 := mp_lv_ok (j1 := 4200) (j2 := 4201) (j3 := 4202) (j4 := 1006) (j5 := 4203) (by decide +kernel)
set_option maxRecDepth 100000 in
theorem mp_lkX2_130 : mp_LV RX2 130 yX7_worthBy cX7_worthBy 5 (some FieldType.int) 3 7 := mp_lv_ok (j1 := 4204) (j2 := 3195) (j3 := 3196) (j4 := 1003) (j5 := 3197) (by decide +kernel)
set_option maxRecDepth 100000 in
theorem mp_lkX2_134 : mp_LV RX2 134 yX2_layReach cX2_layReach 3 none 0 2 := mp_lv_ok (j1 := 4205) (j2 := 4207) (j3 := 29) (j4 := 1006) (j5 := 4208) (by decide +kernel)
set_option maxRecDepth 100000 in
theorem mp_lkX2_137 : mp_LV RX2 137 yX2_leastTo cX2_leastTo 7 (some FieldType.int) 2 2 := mp_lv_ok (j1 := 4209) (j2 := 4211) (j3 := 30) (j4 := 1006) (j5 := 4212) (by decide +kernel)
set_option maxRecDepth 100000 in
theorem mp_lkL_155 : mp_LV RL 155 yX9_when cX9_when 4 (some FieldType.int) 3 9 := mp_lv_ok (j1 := 4213) (j2 := 4214) (j3 := 4215) (j4 := 1001) (j5 := 4216) (by decide +kernel)
set_option maxRecDepth 100000 in
theorem mp_lkL_159 : mp_LV RL 159 yX9_joins cX9_joins 4 (some FieldType.int) 2 9 := mp_lv_ok (j1 := 4217) (j2 := 4218) (j3 := 4219) (j4 := 1001) (j5 := 4220) (by decide +kernel)
set_option maxRecDepth 100000 in
theorem mp_lkX9_264 : mp_LV RX9 264 yX0_gainByJoin cX0_gainByJoin 6 (some FieldType.int) 2 0 := mp_lv_ok (j1 := 4221) (j2 := 4222) (j3 := 4223) (j4 := 1004) (j5 := 4224) (by decide +kernel)
set_option maxRecDepth 100000 in
theorem mp_lkX0_105 : mp_LV RX0 105 yX0_standsAlone cX0_standsAlone 3 (some FieldType.boolean) 1 0 := mp_lv_ok (j1 := 4225) (j2 := 4227) (j3 := 31) (j4 := 1004) (j5 := 4228) (by decide +kernel)
set_option maxRecDepth 100000 in
theorem mp_lkX0_109 : mp_LV RX0 109 yX7_halvingsBy cX7_halvingsBy 7 (some FieldType.int) 3 7 := mp_lv_ok (j1 := 4229) (j2 := 3183) (j3 := 3184) (j4 := 1003) (j5 := 3185) (by decide +kernel)
set_option maxRecDepth 100000 in
theorem mp_lkX0_115 : mp_LNs RX0 115 yX9_halved cX9_halved 2 (some FieldType.int) 2 := mp_ln_ok (host := RX9) (j1 := 9) (j4 := 1001) (j5 := 3201) (by decide +kernel)
set_option maxRecDepth 100000 in
theorem mp_lkL_163 : mp_LV RL 163 yX9_joined cX9_joined 6 (some FieldType.int) 0 9 := mp_lv_ok (j1 := 4231) (j2 := 4232) (j3 := 4233) (j4 := 1001) (j5 := 4234) (by decide +kernel)
set_option maxRecDepth 100000 in
theorem mp_lkL_167 : mp_LV RL 167 yX9_ring cX9_ring 2 (some FieldType.int) 1 9 := mp_lv_ok (j1 := 4235) (j2 := 4236) (j3 := 4237) (j4 := 1001) (j5 := 4238) (by decide +kernel)
set_option maxRecDepth 100000 in
theorem mp_lkX9_267 : mp_LV RX9 267 yX1_seekRing cX1_seekRing 4 none 0 1 := mp_lv_ok (j1 := 4239) (j2 := 5000) (j3 := 5001) (j4 := 1005) (j5 := 5002) (by decide +kernel)
set_option maxRecDepth 100000 in
theorem mp_lkX1_69 : mp_LV RX1 69 yX1_ringOf cX1_ringOf 4 (some FieldType.int) 3 1 := mp_lv_ok (j1 := 5003) (j2 := 5004) (j3 := 5005) (j4 := 1005) (j5 := 5006) (by decide +kernel)
set_option maxRecDepth 100000 in
theorem mp_lkX1_61 : mp_LS RX1 61 yJ9_min_7cf53 cJ9_min_7cf53 2 (some FieldType.int) 2 := mp_ls_ok (j1 := 5007) (j2 := 2219) (j4 := 1013) (j5 := 2220) (by decide +kernel)
set_option maxRecDepth 100000 in
theorem mp_lkL_171 : mp_LV RL 171 yX9_ringed cX9_ringed 3 (some FieldType.int) 2 9 := mp_lv_ok (j1 := 5008) (j2 := 5009) (j3 := 5010) (j4 := 1001) (j5 := 5011) (by decide +kernel)
set_option maxRecDepth 100000 in
theorem mp_lkL_175 : mp_LV RL 175 yX9_strikes cX9_strikes 5 (some FieldType.int) 4 9 := mp_lv_ok (j1 := 5012) (j2 := 5013) (j3 := 5014) (j4 := 1001) (j5 := 5015) (by decide +kernel)
set_option maxRecDepth 100000 in
theorem mp_lkX9_276 : mp_LV RX9 276 yX1_ringOf cX1_ringOf 4 (some FieldType.int) 3 1 := mp_lv_ok (j1 := 5016) (j2 := 5004) (j3 := 5005) (j4 := 1005) (j5 := 5006) (by decide +kernel)
set_option maxRecDepth 100000 in
theorem mp_lkL_180 : mp_LV RL 180 yX9_weighed cX9_weighed 4 (some FieldType.int) 2 9 := mp_lv_ok (j1 := 5017) (j2 := 5018) (j3 := 5019) (j4 := 1001) (j5 := 5020) (by decide +kernel)
set_option maxRecDepth 100000 in
theorem mp_lkX9_280 : mp_LV RX9 280 yX9_putOnScales cX9_putOnScales 4 (some FieldType.int) 2 9 := mp_lv_ok (j1 := 5021) (j2 := 5023) (j3 := 32) (j4 := 1001) (j5 := 5024) (by decide +kernel)
set_option maxRecDepth 100000 in
theorem mp_lkX9_351 : mp_LV RX9 351 yX5_isSlot cX5_isSlot 2 (some FieldType.boolean) 1 5 := mp_lv_ok (j1 := 5025) (j2 := 5026) (j3 := 5027) (j4 := 1010) (j5 := 5028) (by decide +kernel)
set_option maxRecDepth 100000 in
theorem mp_lkX9_358 : mp_LV RX9 358 yX5_isTaken cX5_isTaken 2 (some FieldType.boolean) 1 5 := mp_lv_ok (j1 := 5029) (j2 := 5030) (j3 := 5031) (j4 := 1010) (j5 := 5032) (by decide +kernel)
set_option maxRecDepth 100000 in
theorem mp_lkX9_379 : mp_LV RX9 379 yX4_load cX4_load 12 (some FieldType.boolean) 4 4 := mp_lv_ok (j1 := 5033) (j2 := 5034) (j3 := 5035) (j4 := 1007) (j5 := 5036) (by decide +kernel)
set_option maxRecDepth 100000 in
theorem mp_lkX4_40 : mp_LS RX4 40 yJ7_fill_53178 cJ7_fill_53178 4 none 2 := mp_ls_ok (j1 := 5037) (j2 := 2200) (j4 := 1012) (j5 := 2201) (by decide +kernel)
set_option maxRecDepth 100000 in
theorem mp_lkX4_51 : mp_LV RX4 51 yX5_at cX5_at 3 (some FieldType.long) 2 5 := mp_lv_ok (j1 := 5038) (j2 := 5039) (j3 := 5040) (j4 := 1010) (j5 := 5041) (by decide +kernel)
set_option maxRecDepth 100000 in
theorem mp_lkX9_283 : mp_LV RX9 283 yX4_survey cX4_survey 3 none 0 4 := mp_lv_ok (j1 := 5043) (j2 := 5044) (j3 := 5045) (j4 := 1007) (j5 := 5046) (by decide +kernel)
set_option maxRecDepth 100000 in
theorem mp_lkX4_69 : mp_LV RX4 69 yX4_fits cX4_fits 4 (some FieldType.boolean) 1 4 := mp_lv_ok (j1 := 5047) (j2 := 5049) (j3 := 33) (j4 := 1007) (j5 := 5050) (by decide +kernel)
set_option maxRecDepth 100000 in
theorem mp_lkX4_89 : mp_LS RX4 89 yX4_halvingsIn cX4_halvingsIn 3 (some FieldType.int) 3 := mp_ls_ok (j1 := 5051) (j2 := 5052) (j4 := 1007) (j5 := 5053) (by decide +kernel)
set_option maxRecDepth 100000 in
theorem mp_lkX4_93 : mp_LNs RX4 93 yX9_halved cX9_halved 2 (some FieldType.int) 2 := mp_ln_ok (host := RX9) (j1 := 10) (j4 := 1001) (j5 := 3201) (by decide +kernel)
set_option maxRecDepth 100000 in
theorem mp_lkX4_73 : mp_LS RX4 73 yJ6_bitCount_0f7a4 cJ6_bitCount_0f7a4 1 (some FieldType.int) 1 := mp_ls_ok (j1 := 5055) (j2 := 4165) (j4 := 1019) (j5 := 4166) (by decide +kernel)
set_option maxRecDepth 100000 in
theorem mp_lkX4_79 : mp_LS RX4 79 yJ9_min_7cf53 cJ9_min_7cf53 2 (some FieldType.int) 2 := mp_ls_ok (j1 := 5056) (j2 := 2219) (j4 := 1013) (j5 := 2220) (by decide +kernel)
set_option maxRecDepth 100000 in
theorem mp_lkX4_85 : mp_LV RX4 85 yX4_addToTally cX4_addToTally 4 none 1 4 := mp_lv_ok (j1 := 5057) (j2 := 5059) (j3 := 34) (j4 := 1007) (j5 := 5060) (by decide +kernel)
set_option maxRecDepth 100000 in
theorem mp_lkL_184 : mp_LV RL 184 yX9_must cX9_must 5 (some FieldType.int) 3 9 := mp_lv_ok (j1 := 5061) (j2 := 5062) (j3 := 5063) (j4 := 1001) (j5 := 5064) (by decide +kernel)
set_option maxRecDepth 100000 in
theorem mp_lkL_188 : mp_LV RL 188 yX9_times cX9_times 4 (some FieldType.int) 2 9 := mp_lv_ok (j1 := 5065) (j2 := 5066) (j3 := 5067) (j4 := 1001) (j5 := 5068) (by decide +kernel)
set_option maxRecDepth 100000 in
theorem mp_lkL_192 : mp_LV RL 192 yX9_weigh cX9_weigh 4 (some FieldType.int) 2 9 := mp_lv_ok (j1 := 5069) (j2 := 5070) (j3 := 5071) (j4 := 1001) (j5 := 5072) (by decide +kernel)
set_option maxRecDepth 100000 in
theorem mp_lkX9_298 : mp_LV RX9 298 yX4_bestMoon cX4_bestMoon 5 (some FieldType.int) 0 4 := mp_lv_ok (j1 := 5073) (j2 := 5074) (j3 := 5075) (j4 := 1007) (j5 := 5076) (by decide +kernel)
set_option maxRecDepth 100000 in
theorem mp_lkX4_96 : mp_LV RX4 96 yX4_worstLeft cX4_worstLeft 5 (some FieldType.int) 1 4 := mp_lv_ok (j1 := 5077) (j2 := 5079) (j3 := 35) (j4 := 1007) (j5 := 5080) (by decide +kernel)
set_option maxRecDepth 100000 in
theorem mp_lkX4_99 : mp_LS RX4 99 yJ9_max_7cf53 cJ9_max_7cf53 2 (some FieldType.int) 2 := mp_ls_ok (j1 := 5081) (j2 := 5082) (j4 := 1013) (j5 := 5083) (by decide +kernel)
set_option maxRecDepth 100000 in
theorem mp_lkL_196 : mp_LV RL 196 yX9_said cX9_said 4 (some FieldType.int) 2 9 := mp_lv_ok (j1 := 5084) (j2 := 5085) (j3 := 5086) (j4 := 1001) (j5 := 5087) (by decide +kernel)
set_option maxRecDepth 100000 in
theorem mp_lkX9_301 : mp_LV RX9 301 yX4_firstMoons cX4_firstMoons 3 (some FieldType.int) 0 4 := mp_lv_ok (j1 := 5088) (j2 := 5089) (j3 := 5090) (j4 := 1007) (j5 := 5091) (by decide +kernel)
set_option maxRecDepth 100000 in
theorem mp_lkX4_102 : mp_LV RX4 102 yX4_fitsFirst cX4_fitsFirst 4 (some FieldType.boolean) 1 4 := mp_lv_ok (j1 := 5092) (j2 := 5094) (j3 := 36) (j4 := 1007) (j5 := 5095) (by decide +kernel)
set_option maxRecDepth 100000 in
theorem mp_lkL_200 : mp_LV RL 200 yX9_span cX9_span 5 (some FieldType.int) 3 9 := mp_lv_ok (j1 := 5096) (j2 := 5097) (j3 := 5098) (j4 := 1001) (j5 := 5099) (by decide +kernel)
set_option maxRecDepth 100000 in
theorem mp_lkX9_304 : mp_LV RX9 304 yX4_fullBound cX4_fullBound 9 (some FieldType.int) 1 4 := mp_lv_ok (j1 := 5100) (j2 := 5101) (j3 := 5102) (j4 := 1007) (j5 := 5103) (by decide +kernel)
set_option maxRecDepth 100000 in
theorem mp_lkX4_105 : mp_LS RX4 105 yJ9_max_f86c9 cJ9_max_f86c9 4 (some FieldType.long) 2 := mp_ls_ok (j1 := 5104) (j2 := 5105) (j4 := 1013) (j5 := 5106) (by decide +kernel)
set_option maxRecDepth 100000 in
theorem mp_lkX4_108 : mp_LS RX4 108 yJ9_min_f86c9 cJ9_min_f86c9 4 (some FieldType.long) 2 := mp_ls_ok (j1 := 5107) (j2 := 5108) (j4 := 1013) (j5 := 5109) (by decide +kernel)
set_option maxRecDepth 100000 in
theorem mp_lkL_204 : mp_LV RL 204 yX9_wins cX9_wins 3 (some FieldType.int) 1 9 := mp_lv_ok (j1 := 5110) (j2 := 5111) (j3 := 5112) (j4 := 1001) (j5 := 5113) (by decide +kernel)
set_option maxRecDepth 100000 in
theorem mp_lkX9_307 : mp_LV RX9 307 yX9_putInThreat cX9_putInThreat 2 (some FieldType.int) 1 9 := mp_lv_ok (j1 := 5114) (j2 := 5116) (j3 := 37) (j4 := 1001) (j5 := 5117) (by decide +kernel)
set_option maxRecDepth 100000 in
theorem mp_lkX9_383 : mp_LV RX9 383 yX6_load cX6_load 6 (some FieldType.boolean) 2 6 := mp_lv_ok (j1 := 5118) (j2 := 5119) (j3 := 5120) (j4 := 1008) (j5 := 5121) (by decide +kernel)
set_option maxRecDepth 100000 in
theorem mp_lkX6_27 : mp_LV RX6 27 yX5_at cX5_at 3 (some FieldType.long) 2 5 := mp_lv_ok (j1 := 5122) (j2 := 5039) (j3 := 5040) (j4 := 1010) (j5 := 5041) (by decide +kernel)
set_option maxRecDepth 100000 in
theorem mp_lkX9_310 : mp_LV RX9 310 yX6_total cX6_total 3 (some FieldType.int) 0 6 := mp_lv_ok (j1 := 5124) (j2 := 5125) (j3 := 5126) (j4 := 1008) (j5 := 5127) (by decide +kernel)
set_option maxRecDepth 100000 in
theorem mp_lkL_208 : mp_LV RL 208 yX9_turn cX9_turn 3 (some FieldType.int) 1 9 := mp_lv_ok (j1 := 5128) (j2 := 5129) (j3 := 5130) (j4 := 1001) (j5 := 5131) (by decide +kernel)
set_option maxRecDepth 100000 in
theorem mp_lkX9_313 : mp_LV RX9 313 yX6_winningTurn cX6_winningTurn 4 (some FieldType.int) 0 6 := mp_lv_ok (j1 := 5132) (j2 := 5133) (j3 := 5134) (j4 := 1008) (j5 := 5135) (by decide +kernel)
set_option maxRecDepth 100000 in
theorem mp_lkX6_33 : mp_LV RX6 33 yX6_total cX6_total 3 (some FieldType.int) 0 6 := mp_lv_ok (j1 := 5136) (j2 := 5125) (j3 := 5126) (j4 := 1008) (j5 := 5127) (by decide +kernel)
set_option maxRecDepth 100000 in
theorem mp_lkL_212 : mp_LV RL 212 yX9_drawn cX9_drawn 4 (some FieldType.int) 3 9 := mp_lv_ok (j1 := 5137) (j2 := 5138) (j3 := 5139) (j4 := 1001) (j5 := 5140) (by decide +kernel)
set_option maxRecDepth 100000 in
theorem mp_lkX9_316 : mp_LV RX9 316 yX9_canDraw cX9_canDraw 4 (some FieldType.boolean) 3 9 := mp_lv_ok (j1 := 5141) (j2 := 5143) (j3 := 38) (j4 := 1001) (j5 := 5144) (by decide +kernel)
set_option maxRecDepth 100000 in
theorem mp_lkX9_319 : mp_LV RX9 319 yX8_pass cX8_pass 10 none 4 8 := mp_lv_ok (j1 := 5146) (j2 := 5147) (j3 := 5148) (j4 := 1009) (j5 := 5149) (by decide +kernel)
set_option maxRecDepth 100000 in
theorem mp_lkX8_25 : mp_LV RX8 25 yX0_lastsAt cX0_lastsAt 3 (some (FieldType.array FieldType.int)) 1 0 := mp_lv_ok (j1 := 5150) (j2 := 3174) (j3 := 3175) (j4 := 1004) (j5 := 3176) (by decide +kernel)
set_option maxRecDepth 100000 in
theorem mp_lkX8_43 : mp_LV RX8 43 yX7_bothLive cX7_bothLive 3 (some FieldType.boolean) 2 7 := mp_lv_ok (j1 := 5152) (j2 := 4073) (j3 := 4074) (j4 := 1003) (j5 := 4075) (by decide +kernel)
set_option maxRecDepth 100000 in
theorem mp_lkX8_61 : mp_LV RX8 61 yX7_worthBy cX7_worthBy 5 (some FieldType.int) 3 7 := mp_lv_ok (j1 := 5157) (j2 := 3195) (j3 := 3196) (j4 := 1003) (j5 := 3197) (by decide +kernel)
set_option maxRecDepth 100000 in
theorem mp_lkL_216 : mp_LV RL 216 yX9_often cX9_often 4 (some FieldType.int) 3 9 := mp_lv_ok (j1 := 5158) (j2 := 5159) (j3 := 5160) (j4 := 1001) (j5 := 5161) (by decide +kernel)
set_option maxRecDepth 100000 in
theorem mp_lkL_220 : mp_LV RL 220 yX9_lucky cX9_lucky 7 (some FieldType.int) 4 9 := mp_lv_ok (j1 := 5162) (j2 := 5163) (j3 := 5164) (j4 := 1001) (j5 := 5165) (by decide +kernel)
set_option maxRecDepth 100000 in
theorem mp_lkL_224 : mp_LV RL 224 yX9_promises cX9_promises 5 (some FieldType.int) 3 9 := mp_lv_ok (j1 := 5166) (j2 := 5167) (j3 := 5168) (j4 := 1001) (j5 := 5169) (by decide +kernel)
set_option maxRecDepth 100000 in
theorem mp_lkX9_329 : mp_LV RX9 329 yX7_addPromise cX7_addPromise 5 none 4 7 := mp_lv_ok (j1 := 5171) (j2 := 3087) (j3 := 3088) (j4 := 1003) (j5 := 3089) (by decide +kernel)
set_option maxRecDepth 100000 in
theorem mp_lkL_228 : mp_LV RL 228 yX9_shuts cX9_shuts 6 (some FieldType.int) 3 9 := mp_lv_ok (j1 := 5172) (j2 := 5173) (j3 := 5174) (j4 := 1001) (j5 := 5175) (by decide +kernel)
set_option maxRecDepth 100000 in
theorem mp_lkX9_333 : mp_LV RX9 333 yX7_setShut cX7_setShut 7 none 3 7 := mp_lv_ok (j1 := 5176) (j2 := 3101) (j3 := 3102) (j4 := 1003) (j5 := 3103) (by decide +kernel)
set_option maxRecDepth 100000 in
theorem mp_lkL_232 : mp_LV RL 232 yX9_tends cX9_tends 4 (some FieldType.int) 2 9 := mp_lv_ok (j1 := 5177) (j2 := 5178) (j3 := 5179) (j4 := 1001) (j5 := 5180) (by decide +kernel)
set_option maxRecDepth 100000 in
theorem mp_lkL_236 : mp_LV RL 236 yX9_count cX9_count 3 (some FieldType.int) 1 9 := mp_lv_ok (j1 := 5181) (j2 := 5182) (j3 := 5183) (j4 := 1001) (j5 := 5184) (by decide +kernel)
set_option maxRecDepth 100000 in
theorem mp_lkX9_340 : mp_LV RX9 340 yX7_countSeas cX7_countSeas 3 (some FieldType.int) 0 7 := mp_lv_ok (j1 := 5185) (j2 := 5186) (j3 := 5187) (j4 := 1003) (j5 := 5188) (by decide +kernel)
set_option maxRecDepth 100000 in
theorem mp_lkX9_343 : mp_LV RX9 343 yX7_countShut cX7_countShut 3 (some FieldType.int) 0 7 := mp_lv_ok (j1 := 5189) (j2 := 5190) (j3 := 5191) (j4 := 1003) (j5 := 5192) (by decide +kernel)
set_option maxRecDepth 100000 in
theorem mp_lkX7_85 : mp_LS RX7 85 yJ13_bitCount_95d88 cJ13_bitCount_95d88 2 (some FieldType.int) 1 := mp_ls_ok (j1 := 5193) (j2 := 5194) (j4 := 1020) (j5 := 5195) (by decide +kernel)
set_option maxRecDepth 100000 in
theorem mp_lkX9_347 : mp_LV RX9 347 yX5_countTaken cX5_countTaken 3 (some FieldType.int) 0 5 := mp_lv_ok (j1 := 5199) (j2 := 5200) (j3 := 5201) (j4 := 1010) (j5 := 5202) (by decide +kernel)
set_option maxRecDepth 100000 in
theorem mp_lkX5_22 : mp_LV RX5 22 yX5_isTaken cX5_isTaken 2 (some FieldType.boolean) 1 5 := mp_lv_ok (j1 := 5203) (j2 := 5030) (j3 := 5031) (j4 := 1010) (j5 := 5032) (by decide +kernel)
set_option maxRecDepth 100000 in
theorem mp_lkL_240 : mp_LV RL 240 yX9_image cX9_image 2 (some FieldType.int) 1 9 := mp_lv_ok (j1 := 5204) (j2 := 5205) (j3 := 5206) (j4 := 1001) (j5 := 5207) (by decide +kernel)
set_option maxRecDepth 100000 in
theorem mp_lkX9_350 : mp_LNs RX9 350 yX7_init cX7_init 1 none 0 := mp_ln_ok (host := RX9) (j1 := 11) (j4 := 1003) (j5 := 1039) (by decide +kernel)
set_option maxRecDepth 100000 in
theorem mp_lkL_244 : mp_LV RL 244 yX9_back cX9_back 2 (some FieldType.int) 1 9 := mp_lv_ok (j1 := 5209) (j2 := 5210) (j3 := 5211) (j4 := 1001) (j5 := 5212) (by decide +kernel)
set_option maxRecDepth 100000 in
theorem mp_lkL_248 : mp_LV RL 248 yX9_row cX9_row 4 (some FieldType.int) 3 9 := mp_lv_ok (j1 := 5213) (j2 := 5214) (j3 := 5215) (j4 := 1001) (j5 := 5216) (by decide +kernel)
set_option maxRecDepth 100000 in
theorem mp_lkX9_354 : mp_LV RX9 354 yX5_lay cX5_lay 5 none 3 5 := mp_lv_ok (j1 := 5217) (j2 := 5218) (j3 := 5219) (j4 := 1010) (j5 := 5220) (by decide +kernel)
set_option maxRecDepth 100000 in
theorem mp_lkL_254 : mp_LV RL 254 yX9_write cX9_write 5 (some FieldType.int) 3 9 := mp_lv_ok (j1 := 5221) (j2 := 5222) (j3 := 5223) (j4 := 1001) (j5 := 5224) (by decide +kernel)
set_option maxRecDepth 100000 in
theorem mp_lkX9_364 : mp_LV RX9 364 yX5_put cX5_put 5 none 3 5 := mp_lv_ok (j1 := 5225) (j2 := 5226) (j3 := 5227) (j4 := 1010) (j5 := 5228) (by decide +kernel)
set_option maxRecDepth 100000 in
theorem mp_lkX5_26 : mp_LS RX5 26 yX5_cut cX5_cut 3 (some FieldType.long) 2 := mp_ls_ok (j1 := 5229) (j2 := 5230) (j4 := 1010) (j5 := 5231) (by decide +kernel)
set_option maxRecDepth 100000 in
theorem mp_lkL_259 : mp_LV RL 259 yX9_paste cX9_paste 6 (some FieldType.int) 5 9 := mp_lv_ok (j1 := 5232) (j2 := 5233) (j3 := 5234) (j4 := 1001) (j5 := 5235) (by decide +kernel)
set_option maxRecDepth 100000 in
theorem mp_lkX9_371 : mp_LV RX9 371 yX5_holds cX5_holds 4 (some FieldType.boolean) 3 5 := mp_lv_ok (j1 := 5236) (j2 := 5237) (j3 := 5238) (j4 := 1010) (j5 := 5239) (by decide +kernel)
set_option maxRecDepth 100000 in
theorem mp_lkX9_374 : mp_LV RX9 374 yX5_move cX5_move 6 none 5 5 := mp_lv_ok (j1 := 6000) (j2 := 6001) (j3 := 6002) (j4 := 1010) (j5 := 6003) (by decide +kernel)
set_option maxRecDepth 100000 in
theorem mp_lkL_12 : mp_LI RL 12 yX10_init cX10_init 2 0 := mp_li_ok (j1 := 6007) (j2 := 6008) (j4 := 1011) (j5 := 6009) (by decide +kernel)
set_option maxRecDepth 100000 in
theorem mp_lkL_251 : mp_LV RL 251 yX10_row cX10_row 5 (some FieldType.int) 3 10 := mp_lv_ok (j1 := 6154) (j2 := 6155) (j3 := 6156) (j4 := 1011) (j5 := 6157) (by decide +kernel)
set_option maxRecDepth 100000 in
theorem mp_lkX10_101 : mp_LS RX10 101 yX10_isSlot cX10_isSlot 1 (some FieldType.boolean) 1 := mp_ls_ok (j1 := 6158) (j2 := 6159) (j4 := 1011) (j5 := 6160) (by decide +kernel)
set_option maxRecDepth 100000 in
theorem mp_lkX10_97 : mp_LS RX10 97 yX10_in cX10_in 6 (some FieldType.boolean) 3 := mp_ls_ok (j1 := 6162) (j2 := 6163) (j4 := 1011) (j5 := 6164) (by decide +kernel)
set_option maxRecDepth 100000 in
theorem mp_lkL_258 : mp_LV RL 258 yX10_write cX10_write 5 (some FieldType.int) 3 10 := mp_lv_ok (j1 := 6165) (j2 := 6166) (j3 := 6167) (j4 := 1011) (j5 := 6168) (by decide +kernel)
set_option maxRecDepth 100000 in
theorem mp_lkX10_105 : mp_LS RX10 105 yX10_cut cX10_cut 3 (some FieldType.long) 2 := mp_ls_ok (j1 := 6169) (j2 := 6170) (j4 := 1011) (j5 := 6171) (by decide +kernel)
set_option maxRecDepth 100000 in
theorem mp_lkL_262 : mp_LV RL 262 yX10_paste cX10_paste 7 (some FieldType.int) 5 10 := mp_lv_ok (j1 := 6172) (j2 := 6173) (j3 := 6174) (j4 := 1011) (j5 := 6175) (by decide +kernel)
set_option maxRecDepth 100000 in
theorem mp_lkL_17 : mp_LV RL 17 yX10_feed cX10_feed 6 (some FieldType.int) 5 10 := mp_lv_ok (j1 := 6176) (j2 := 6177) (j3 := 6178) (j4 := 1011) (j5 := 6179) (by decide +kernel)
set_option maxRecDepth 100000 in
theorem mp_lkX10_112 : mp_LV RX10 112 yX10_four cX10_four 3 none 1 10 := mp_lv_ok (j1 := 6180) (j2 := 6182) (j3 := 39) (j4 := 1011) (j5 := 6183) (by decide +kernel)
set_option maxRecDepth 100000 in
theorem mp_lkL_22 : mp_LV RL 22 yX10_end cX10_end 2 (some FieldType.int) 1 10 := mp_lv_ok (j1 := 6184) (j2 := 6185) (j3 := 6186) (j4 := 1011) (j5 := 6187) (by decide +kernel)
set_option maxRecDepth 100000 in
theorem mp_lkL_31 : mp_LV RL 31 yX10_fault cX10_fault 2 (some FieldType.int) 1 10 := mp_lv_ok (j1 := 6188) (j2 := 6189) (j3 := 6190) (j4 := 1011) (j5 := 6191) (by decide +kernel)
set_option maxRecDepth 100000 in
theorem mp_lkL_27 : mp_LV RL 27 yX10_isles cX10_isles 1 (some FieldType.int) 0 10 := mp_lv_ok (j1 := 6192) (j2 := 6193) (j3 := 6194) (j4 := 1011) (j5 := 6195) (by decide +kernel)
set_option maxRecDepth 100000 in
theorem mp_lkX10_228 : mp_LV RX10 228 yX10_clears cX10_clears 2 none 0 10 := mp_lv_ok (j1 := 6196) (j2 := 6198) (j3 := 40) (j4 := 1011) (j5 := 6199) (by decide +kernel)
set_option maxRecDepth 100000 in
theorem mp_lkX10_231 : mp_LV RX10 231 yX10_begins cX10_begins 1 none 0 10 := mp_lv_ok (j1 := 6200) (j2 := 6202) (j3 := 41) (j4 := 1011) (j5 := 6203) (by decide +kernel)
set_option maxRecDepth 100000 in
theorem mp_lkX10_154 : mp_LV RX10 154 yX10_next cX10_next 2 none 0 10 := mp_lv_ok (j1 := 6204) (j2 := 6206) (j3 := 42) (j4 := 1011) (j5 := 6207) (by decide +kernel)
set_option maxRecDepth 100000 in
theorem mp_lkX10_119 : mp_LV RX10 119 yX10_isByte cX10_isByte 4 (some FieldType.boolean) 3 10 := mp_lv_ok (j1 := 6208) (j2 := 6210) (j3 := 43) (j4 := 1011) (j5 := 6211) (by decide +kernel)
set_option maxRecDepth 100000 in
theorem mp_lkX10_189 : mp_LV RX10 189 yX10_isGood cX10_isGood 1 (some FieldType.boolean) 0 10 := mp_lv_ok (j1 := 6217) (j2 := 6219) (j3 := 44) (j4 := 1011) (j5 := 6220) (by decide +kernel)
set_option maxRecDepth 100000 in
theorem mp_lkX10_163 : mp_LV RX10 163 yX10_asks cX10_asks 3 none 1 10 := mp_lv_ok (j1 := 6222) (j2 := 6224) (j3 := 45) (j4 := 1011) (j5 := 6225) (by decide +kernel)
set_option maxRecDepth 100000 in
theorem mp_lkX10_157 : mp_LV RX10 157 yX10_takes cX10_takes 3 (some FieldType.boolean) 1 10 := mp_lv_ok (j1 := 6226) (j2 := 6228) (j3 := 46) (j4 := 1011) (j5 := 6229) (by decide +kernel)
set_option maxRecDepth 100000 in
theorem mp_lkX10_150 : mp_LV RX10 150 yX10_is cX10_is 3 (some FieldType.boolean) 1 10 := mp_lv_ok (j1 := 6230) (j2 := 6232) (j3 := 47) (j4 := 1011) (j5 := 6233) (by decide +kernel)
set_option maxRecDepth 100000 in
theorem mp_lkX10_160 : mp_LV RX10 160 yX10_fails cX10_fails 2 none 1 10 := mp_lv_ok (j1 := 6234) (j2 := 6236) (j3 := 48) (j4 := 1011) (j5 := 6237) (by decide +kernel)
set_option maxRecDepth 100000 in
theorem mp_lkX10_167 : mp_LV RX10 167 yX10_number cX10_number 4 (some FieldType.int) 2 10 := mp_lv_ok (j1 := 6238) (j2 := 7000) (j3 := 49) (j4 := 1011) (j5 := 7001) (by decide +kernel)
set_option maxRecDepth 100000 in
theorem mp_lkX10_197 : mp_LV RX10 197 yX10_moonHere cX10_moonHere 1 (some FieldType.int) 0 10 := mp_lv_ok (j1 := 7003) (j2 := 7005) (j3 := 50) (j4 := 1011) (j5 := 7006) (by decide +kernel)
set_option maxRecDepth 100000 in
theorem mp_lkX10_238 : mp_LV RX10 238 yX10_line cX10_line 5 none 0 10 := mp_lv_ok (j1 := 7007) (j2 := 7009) (j3 := 51) (j4 := 1011) (j5 := 7010) (by decide +kernel)
set_option maxRecDepth 100000 in
theorem mp_lkX10_174 : mp_LV RX10 174 yX10_hasRead cX10_hasRead 2 (some FieldType.int) 1 10 := mp_lv_ok (j1 := 7013) (j2 := 7015) (j3 := 52) (j4 := 1011) (j5 := 7016) (by decide +kernel)
set_option maxRecDepth 100000 in
theorem mp_lkX10_215 : mp_LV RX10 215 yX10_personLine cX10_personLine 4 none 0 10 := mp_lv_ok (j1 := 7017) (j2 := 7019) (j3 := 53) (j4 := 1011) (j5 := 7020) (by decide +kernel)
set_option maxRecDepth 100000 in
theorem mp_lkX10_178 : mp_LV RX10 178 yX10_isleHere cX10_isleHere 1 (some FieldType.int) 0 10 := mp_lv_ok (j1 := 7022) (j2 := 7024) (j3 := 54) (j4 := 1011) (j5 := 7025) (by decide +kernel)
set_option maxRecDepth 100000 in
theorem mp_lkX10_218 : mp_LV RX10 218 yX10_promiseLine cX10_promiseLine 3 none 0 10 := mp_lv_ok (j1 := 7028) (j2 := 7030) (j3 := 55) (j4 := 1011) (j5 := 7031) (by decide +kernel)
set_option maxRecDepth 100000 in
theorem mp_lkX10_200 : mp_LV RX10 200 yX10_personHere cX10_personHere 1 (some FieldType.int) 0 10 := mp_lv_ok (j1 := 7032) (j2 := 7034) (j3 := 56) (j4 := 1011) (j5 := 7035) (by decide +kernel)
set_option maxRecDepth 100000 in
theorem mp_lkX10_184 : mp_LV RX10 184 yX10_number_ cX10_number_ 5 (some FieldType.int) 3 10 := mp_lv_ok (j1 := 7038) (j2 := 7040) (j3 := 57) (j4 := 1011) (j5 := 7041) (by decide +kernel)
set_option maxRecDepth 100000 in
theorem mp_lkX10_223 : mp_LV RX10 223 yX10_seaLine cX10_seaLine 4 none 0 10 := mp_lv_ok (j1 := 7045) (j2 := 7047) (j3 := 58) (j4 := 1011) (j5 := 7048) (by decide +kernel)
set_option maxRecDepth 100000 in
theorem mp_lkX10_241 : mp_LV RX10 241 yX10_ends cX10_ends 1 none 0 10 := mp_lv_ok (j1 := 7051) (j2 := 7053) (j3 := 59) (j4 := 1011) (j5 := 7054) (by decide +kernel)
set_option maxRecDepth 100000 in
theorem mp_lkX10_244 : mp_LV RX10 244 yX10_isOver cX10_isOver 1 none 0 10 := mp_lv_ok (j1 := 7055) (j2 := 7057) (j3 := 60) (j4 := 1011) (j5 := 7058) (by decide +kernel)
set_option maxRecDepth 100000 in
theorem mp_lkX10_247 : mp_LV RX10 247 yX10_copyIsles cX10_copyIsles 4 none 2 10 := mp_lv_ok (j1 := 7059) (j2 := 7061) (j3 := 61) (j4 := 1011) (j5 := 7062) (by decide +kernel)
set_option maxRecDepth 100000 in
theorem mp_lkX10_251 : mp_LS RX10 251 yX10_copyRow cX10_copyRow 5 none 4 := mp_ls_ok (j1 := 7063) (j2 := 7064) (j4 := 1011) (j5 := 7065) (by decide +kernel)
set_option maxRecDepth 100000 in
theorem mp_lkL_36 : mp_LV RL 36 yX10_person cX10_person 3 (some FieldType.int) 2 10 := mp_lv_ok (j1 := 7066) (j2 := 7067) (j3 := 7068) (j4 := 1011) (j5 := 7069) (by decide +kernel)
set_option maxRecDepth 100000 in
theorem mp_lkX10_255 : mp_LV RX10 255 yX10_isPerson cX10_isPerson 2 (some FieldType.boolean) 1 10 := mp_lv_ok (j1 := 7070) (j2 := 7072) (j3 := 62) (j4 := 1011) (j5 := 7073) (by decide +kernel)
set_option maxRecDepth 100000 in
theorem mp_lkL_40 : mp_LV RL 40 yX10_promise cX10_promise 3 (some FieldType.int) 2 10 := mp_lv_ok (j1 := 7075) (j2 := 7076) (j3 := 7077) (j4 := 1011) (j5 := 7078) (by decide +kernel)
set_option maxRecDepth 100000 in
theorem mp_lkX10_262 : mp_LV RX10 262 yX10_isPromise cX10_isPromise 2 (some FieldType.boolean) 1 10 := mp_lv_ok (j1 := 7079) (j2 := 7081) (j3 := 63) (j4 := 1011) (j5 := 7082) (by decide +kernel)
set_option maxRecDepth 100000 in
theorem mp_lkX10_267 : mp_LV RX10 267 yX10_of cX10_of 3 (some FieldType.int) 2 10 := mp_lv_ok (j1 := 7084) (j2 := 7086) (j3 := 64) (j4 := 1011) (j5 := 7087) (by decide +kernel)
set_option maxRecDepth 100000 in
theorem mp_lkL_44 : mp_LV RL 44 yX10_sea cX10_sea 3 (some FieldType.int) 2 10 := mp_lv_ok (j1 := 7088) (j2 := 7089) (j3 := 7090) (j4 := 1011) (j5 := 7091) (by decide +kernel)
set_option maxRecDepth 100000 in
theorem mp_lkX10_270 : mp_LV RX10 270 yX10_isIsle cX10_isIsle 2 (some FieldType.boolean) 1 10 := mp_lv_ok (j1 := 7092) (j2 := 7094) (j3 := 65) (j4 := 1011) (j5 := 7095) (by decide +kernel)
set_option maxRecDepth 100000 in
theorem mp_lkL_48 : mp_LV RL 48 yX10_open cX10_open 3 (some FieldType.int) 2 10 := mp_lv_ok (j1 := 7096) (j2 := 7097) (j3 := 7098) (j4 := 1011) (j5 := 7099) (by decide +kernel)
set_option maxRecDepth 100000 in
theorem mp_lkX10_273 : mp_LS RX10 273 yX10_isMoon cX10_isMoon 1 (some FieldType.boolean) 1 := mp_ls_ok (j1 := 7100) (j2 := 7101) (j4 := 1011) (j5 := 7102) (by decide +kernel)
set_option maxRecDepth 100000 in
theorem mp_lkL_52 : mp_LV RL 52 yX10_halvings cX10_halvings 3 (some FieldType.int) 2 10 := mp_lv_ok (j1 := 7104) (j2 := 7105) (j3 := 7106) (j4 := 1011) (j5 := 7107) (by decide +kernel)
set_option maxRecDepth 100000 in
theorem mp_lkX10_288 : mp_LV RX10 288 yX10_lays cX10_lays 4 none 0 10 := mp_lv_ok (j1 := 7108) (j2 := 7110) (j3 := 66) (j4 := 1011) (j5 := 7111) (by decide +kernel)
set_option maxRecDepth 100000 in
theorem mp_lkX10_282 : mp_LV RX10 282 yX10_halvedOf cX10_halvedOf 5 (some FieldType.int) 2 10 := mp_lv_ok (j1 := 7112) (j2 := 7114) (j3 := 67) (j4 := 1011) (j5 := 7115) (by decide +kernel)
set_option maxRecDepth 100000 in
theorem mp_lkX10_279 : mp_LV RX10 279 yX10_ownOf cX10_ownOf 6 (some FieldType.int) 2 10 := mp_lv_ok (j1 := 7116) (j2 := 7118) (j3 := 68) (j4 := 1011) (j5 := 7119) (by decide +kernel)
set_option maxRecDepth 100000 in
theorem mp_lkL_56 : mp_LV RL 56 yX10_worth cX10_worth 3 (some FieldType.int) 2 10 := mp_lv_ok (j1 := 7120) (j2 := 7121) (j3 := 7122) (j4 := 1011) (j5 := 7123) (by decide +kernel)
set_option maxRecDepth 100000 in
theorem mp_lkX10_291 : mp_LV RX10 291 yX10_worthOf cX10_worthOf 4 (some FieldType.int) 2 10 := mp_lv_ok (j1 := 7124) (j2 := 7126) (j3 := 69) (j4 := 1011) (j5 := 7127) (by decide +kernel)
set_option maxRecDepth 100000 in
theorem mp_lkX10_285 : mp_LS RX10 285 yX10_halved cX10_halved 2 (some FieldType.int) 2 := mp_ls_ok (j1 := 7128) (j2 := 7129) (j4 := 1011) (j5 := 7130) (by decide +kernel)
set_option maxRecDepth 100000 in
theorem mp_lkL_60 : mp_LV RL 60 yX10_falls cX10_falls 4 (some FieldType.int) 2 10 := mp_lv_ok (j1 := 7131) (j2 := 7132) (j3 := 7133) (j4 := 1011) (j5 := 7134) (by decide +kernel)
set_option maxRecDepth 100000 in
theorem mp_lkL_65 : mp_LV RL 65 yX10_owed cX10_owed 4 (some FieldType.int) 3 10 := mp_lv_ok (j1 := 7135) (j2 := 7136) (j3 := 7137) (j4 := 1011) (j5 := 7138) (by decide +kernel)
set_option maxRecDepth 100000 in
theorem mp_lkX10_294 : mp_LV RX10 294 yX10_areTwo cX10_areTwo 3 (some FieldType.boolean) 2 10 := mp_lv_ok (j1 := 7139) (j2 := 7141) (j3 := 70) (j4 := 1011) (j5 := 7142) (by decide +kernel)
set_option maxRecDepth 100000 in
theorem mp_lkX10_298 : mp_LV RX10 298 yX10_owedOf cX10_owedOf 6 (some FieldType.int) 3 10 := mp_lv_ok (j1 := 7143) (j2 := 7145) (j3 := 71) (j4 := 1011) (j5 := 7146) (by decide +kernel)
set_option maxRecDepth 100000 in
theorem mp_lkL_69 : mp_LV RL 69 yX10_sum cX10_sum 4 (some FieldType.int) 3 10 := mp_lv_ok (j1 := 7147) (j2 := 7148) (j3 := 7149) (j4 := 1011) (j5 := 7150) (by decide +kernel)
set_option maxRecDepth 100000 in
theorem mp_lkX10_303 : mp_LV RX10 303 yX10_sumOf cX10_sumOf 7 (some FieldType.int) 3 10 := mp_lv_ok (j1 := 7152) (j2 := 7154) (j3 := 72) (j4 := 1011) (j5 := 7155) (by decide +kernel)
set_option maxRecDepth 100000 in
theorem mp_lkL_73 : mp_LV RL 73 yX10_richest cX10_richest 4 (some FieldType.int) 1 10 := mp_lv_ok (j1 := 7156) (j2 := 7157) (j3 := 7158) (j4 := 1011) (j5 := 7159) (by decide +kernel)
set_option maxRecDepth 100000 in
theorem mp_lkX10_306 : mp_LV RX10 306 yX10_areIsles cX10_areIsles 1 (some FieldType.boolean) 0 10 := mp_lv_ok (j1 := 7160) (j2 := 7162) (j3 := 73) (j4 := 1011) (j5 := 7163) (by decide +kernel)
set_option maxRecDepth 100000 in
theorem mp_lkL_77 : mp_LV RL 77 yX10_greatest cX10_greatest 4 (some FieldType.int) 1 10 := mp_lv_ok (j1 := 7164) (j2 := 7165) (j3 := 7166) (j4 := 1011) (j5 := 7167) (by decide +kernel)
set_option maxRecDepth 100000 in
theorem mp_lkL_81 : mp_LV RL 81 yX10_root cX10_root 2 (some FieldType.int) 1 10 := mp_lv_ok (j1 := 7168) (j2 := 7169) (j3 := 7170) (j4 := 1011) (j5 := 7171) (by decide +kernel)
set_option maxRecDepth 100000 in
theorem mp_lkX10_309 : mp_LV RX10 309 yX10_rootOf cX10_rootOf 2 (some FieldType.int) 1 10 := mp_lv_ok (j1 := 7172) (j2 := 7174) (j3 := 74) (j4 := 1011) (j5 := 7175) (by decide +kernel)
set_option maxRecDepth 100000 in
theorem mp_lkL_85 : mp_LV RL 85 yX10_upon cX10_upon 4 (some FieldType.int) 1 10 := mp_lv_ok (j1 := 7176) (j2 := 7177) (j3 := 7178) (j4 := 1011) (j5 := 7179) (by decide +kernel)
set_option maxRecDepth 100000 in
theorem mp_lkX10_312 : mp_LS RX10 312 yX10_isBit cX10_isBit 2 (some FieldType.boolean) 2 := mp_ls_ok (j1 := 7180) (j2 := 7181) (j4 := 1011) (j5 := 7182) (by decide +kernel)
set_option maxRecDepth 100000 in
theorem mp_lkL_89 : mp_LV RL 89 yX10_now cX10_now 1 (some FieldType.int) 0 10 := mp_lv_ok (j1 := 7183) (j2 := 7184) (j3 := 7185) (j4 := 1011) (j5 := 7186) (by decide +kernel)
set_option maxRecDepth 100000 in
theorem mp_lkL_93 : mp_LV RL 93 yX10_where cX10_where 2 (some FieldType.int) 1 10 := mp_lv_ok (j1 := 7187) (j2 := 7188) (j3 := 7189) (j4 := 1011) (j5 := 7190) (by decide +kernel)
set_option maxRecDepth 100000 in
theorem mp_lkL_97 : mp_LV RL 97 yX10_rowed cX10_rowed 2 (some FieldType.int) 1 10 := mp_lv_ok (j1 := 7191) (j2 := 7192) (j3 := 7193) (j4 := 1011) (j5 := 7194) (by decide +kernel)
set_option maxRecDepth 100000 in
theorem mp_lkL_101 : mp_LV RL 101 yX10_rows cX10_rows 3 (some FieldType.int) 2 10 := mp_lv_ok (j1 := 7195) (j2 := 7196) (j3 := 7197) (j4 := 1011) (j5 := 7198) (by decide +kernel)
set_option maxRecDepth 100000 in
theorem mp_lkX10_322 : mp_LV RX10 322 yX10_maySail cX10_maySail 3 (some FieldType.boolean) 2 10 := mp_lv_ok (j1 := 7199) (j2 := 7201) (j3 := 75) (j4 := 1011) (j5 := 7202) (by decide +kernel)
set_option maxRecDepth 100000 in
theorem mp_lkX10_318 : mp_LV RX10 318 yX10_isSea cX10_isSea 5 (some FieldType.boolean) 4 10 := mp_lv_ok (j1 := 7203) (j2 := 7205) (j3 := 76) (j4 := 1011) (j5 := 7206) (by decide +kernel)
set_option maxRecDepth 100000 in
theorem mp_lkX10_315 : mp_LV RX10 315 yX10_isDead cX10_isDead 3 (some FieldType.boolean) 2 10 := mp_lv_ok (j1 := 7207) (j2 := 7209) (j3 := 77) (j4 := 1011) (j5 := 7210) (by decide +kernel)
set_option maxRecDepth 100000 in
theorem mp_lkX10_325 : mp_LV RX10 325 yX10_isFull cX10_isFull 1 (some FieldType.boolean) 0 10 := mp_lv_ok (j1 := 7211) (j2 := 7213) (j3 := 78) (j4 := 1011) (j5 := 7214) (by decide +kernel)
set_option maxRecDepth 100000 in
theorem mp_lkX10_328 : mp_LV RX10 328 yX10_acts cX10_acts 2 none 1 10 := mp_lv_ok (j1 := 7215) (j2 := 7217) (j3 := 79) (j4 := 1011) (j5 := 7218) (by decide +kernel)
set_option maxRecDepth 100000 in
theorem mp_lkL_105 : mp_LV RL 105 yX10_says cX10_says 2 (some FieldType.int) 1 10 := mp_lv_ok (j1 := 7219) (j2 := 7220) (j3 := 7221) (j4 := 1011) (j5 := 7222) (by decide +kernel)
set_option maxRecDepth 100000 in
theorem mp_lkX10_331 : mp_LV RX10 331 yX10_maySay cX10_maySay 2 (some FieldType.boolean) 1 10 := mp_lv_ok (j1 := 7223) (j2 := 7225) (j3 := 80) (j4 := 1011) (j5 := 7226) (by decide +kernel)
set_option maxRecDepth 100000 in
theorem mp_lkL_109 : mp_LV RL 109 yX10_passes cX10_passes 1 (some FieldType.int) 0 10 := mp_lv_ok (j1 := 7227) (j2 := 7228) (j3 := 7229) (j4 := 1011) (j5 := 7230) (by decide +kernel)
set_option maxRecDepth 100000 in
theorem mp_lkL_113 : mp_LV RL 113 yX10_undo cX10_undo 1 (some FieldType.int) 0 10 := mp_lv_ok (j1 := 7231) (j2 := 7232) (j3 := 7233) (j4 := 1011) (j5 := 7234) (by decide +kernel)
set_option maxRecDepth 100000 in
theorem mp_lkL_117 : mp_LV RL 117 yX10_anew cX10_anew 2 (some FieldType.int) 0 10 := mp_lv_ok (j1 := 7235) (j2 := 7236) (j3 := 7237) (j4 := 1011) (j5 := 7238) (by decide +kernel)
set_option maxRecDepth 100000 in
theorem mp_lkL_121 : mp_LV RL 121 yX10_act cX10_act 2 (some FieldType.int) 1 10 := mp_lv_ok (j1 := 7239) (j2 := 8000) (j3 := 8001) (j4 := 1011) (j5 := 8002) (by decide +kernel)
set_option maxRecDepth 100000 in
theorem mp_lkL_125 : mp_LV RL 125 yX10_can cX10_can 3 (some FieldType.int) 0 10 := mp_lv_ok (j1 := 8003) (j2 := 8004) (j3 := 8005) (j4 := 1011) (j5 := 8006) (by decide +kernel)
set_option maxRecDepth 100000 in
theorem mp_lkL_129 : mp_LV RL 129 yX10_sails cX10_sails 4 (some FieldType.int) 1 10 := mp_lv_ok (j1 := 8007) (j2 := 8008) (j3 := 8009) (j4 := 1011) (j5 := 8010) (by decide +kernel)
set_option maxRecDepth 100000 in
theorem mp_lkL_133 : mp_LV RL 133 yX10_keeps cX10_keeps 4 (some FieldType.int) 2 10 := mp_lv_ok (j1 := 8011) (j2 := 8012) (j3 := 8013) (j4 := 1011) (j5 := 8014) (by decide +kernel)
set_option maxRecDepth 100000 in
theorem mp_lkX10_361 : mp_LV RX10 361 yX10_isPlan cX10_isPlan 3 (some FieldType.boolean) 2 10 := mp_lv_ok (j1 := 8015) (j2 := 8017) (j3 := 81) (j4 := 1011) (j5 := 8018) (by decide +kernel)
set_option maxRecDepth 100000 in
theorem mp_lkX10_364 : mp_LV RX10 364 yX10_keptNow cX10_keptNow 4 (some FieldType.int) 1 10 := mp_lv_ok (j1 := 8020) (j2 := 8022) (j3 := 82) (j4 := 1011) (j5 := 8023) (by decide +kernel)
set_option maxRecDepth 100000 in
theorem mp_lkX10_367 : mp_LV RX10 367 yX10_plansFor cX10_plansFor 5 (some FieldType.int) 3 10 := mp_lv_ok (j1 := 8024) (j2 := 8026) (j3 := 83) (j4 := 1011) (j5 := 8027) (by decide +kernel)
set_option maxRecDepth 100000 in
theorem mp_lkX10_356 : mp_LV RX10 356 yX10_onceNow cX10_onceNow 3 (some FieldType.int) 0 10 := mp_lv_ok (j1 := 8028) (j2 := 8030) (j3 := 84) (j4 := 1011) (j5 := 8031) (by decide +kernel)
set_option maxRecDepth 100000 in
theorem mp_lkX10_352 : mp_LV RX10 352 yX10_goesOn cX10_goesOn 9 none 3 10 := mp_lv_ok (j1 := 8032) (j2 := 8034) (j3 := 85) (j4 := 1011) (j5 := 8035) (by decide +kernel)
set_option maxRecDepth 100000 in
theorem mp_lkX10_346 : mp_LV RX10 346 yX10_oarsBy cX10_oarsBy 4 (some FieldType.int) 3 10 := mp_lv_ok (j1 := 8036) (j2 := 8038) (j3 := 86) (j4 := 1011) (j5 := 8039) (by decide +kernel)
set_option maxRecDepth 100000 in
theorem mp_lkX10_349 : mp_LV RX10 349 yX10_onceBehind cX10_onceBehind 7 (some FieldType.int) 3 10 := mp_lv_ok (j1 := 8040) (j2 := 8042) (j3 := 87) (j4 := 1011) (j5 := 8043) (by decide +kernel)
set_option maxRecDepth 100000 in
theorem mp_lkX10_340 : mp_LV RX10 340 yX10_saidOn cX10_saidOn 5 (some FieldType.int) 2 10 := mp_lv_ok (j1 := 8044) (j2 := 8046) (j3 := 88) (j4 := 1011) (j5 := 8047) (by decide +kernel)
set_option maxRecDepth 100000 in
theorem mp_lkL_137 : mp_LV RL 137 yX10_plan cX10_plan 8 (some FieldType.int) 3 10 := mp_lv_ok (j1 := 8048) (j2 := 8049) (j3 := 8050) (j4 := 1011) (j5 := 8051) (by decide +kernel)
set_option maxRecDepth 100000 in
theorem mp_lkX10_370 : mp_LV RX10 370 yX10_isStep cX10_isStep 6 (some FieldType.boolean) 4 10 := mp_lv_ok (j1 := 8052) (j2 := 8054) (j3 := 89) (j4 := 1011) (j5 := 8055) (by decide +kernel)
set_option maxRecDepth 100000 in
theorem mp_lkL_141 : mp_LV RL 141 yX10_lets cX10_lets 3 (some FieldType.int) 2 10 := mp_lv_ok (j1 := 8056) (j2 := 8057) (j3 := 8058) (j4 := 1011) (j5 := 8059) (by decide +kernel)
set_option maxRecDepth 100000 in
theorem mp_lkX10_376 : mp_LV RX10 376 yX10_fallenOf cX10_fallenOf 6 (some FieldType.int) 2 10 := mp_lv_ok (j1 := 8060) (j2 := 8062) (j3 := 90) (j4 := 1011) (j5 := 8063) (by decide +kernel)
set_option maxRecDepth 100000 in
theorem mp_lkX10_373 : mp_LS RX10 373 yX10_sizeOf cX10_sizeOf 3 (some FieldType.int) 1 := mp_ls_ok (j1 := 8064) (j2 := 8065) (j4 := 1011) (j5 := 8066) (by decide +kernel)
set_option maxRecDepth 100000 in
theorem mp_lkL_145 : mp_LV RL 145 yX10_fallen cX10_fallen 3 (some FieldType.int) 2 10 := mp_lv_ok (j1 := 8067) (j2 := 8068) (j3 := 8069) (j4 := 1011) (j5 := 8070) (by decide +kernel)
set_option maxRecDepth 100000 in
theorem mp_lkL_150 : mp_LV RL 150 yX10_plans cX10_plans 3 (some FieldType.long) 2 10 := mp_lv_ok (j1 := 8071) (j2 := 8072) (j3 := 8073) (j4 := 1011) (j5 := 8074) (by decide +kernel)
set_option maxRecDepth 100000 in
theorem mp_lkL_154 : mp_LV RL 154 yX10_love cX10_love 4 (some FieldType.int) 3 10 := mp_lv_ok (j1 := 8076) (j2 := 8077) (j3 := 8078) (j4 := 1011) (j5 := 8079) (by decide +kernel)
set_option maxRecDepth 100000 in
theorem mp_lkX10_390 : mp_LV RX10 390 yX10_isLove cX10_isLove 4 (some FieldType.boolean) 3 10 := mp_lv_ok (j1 := 8080) (j2 := 8082) (j3 := 91) (j4 := 1011) (j5 := 8083) (by decide +kernel)
set_option maxRecDepth 100000 in
theorem mp_lkX10_393 : mp_LV RX10 393 yX10_loves cX10_loves 10 none 3 10 := mp_lv_ok (j1 := 8084) (j2 := 8086) (j3 := 92) (j4 := 1011) (j5 := 8087) (by decide +kernel)
set_option maxRecDepth 100000 in
theorem mp_lkX10_387 : mp_LV RX10 387 yX10_worthSaid cX10_worthSaid 7 (some FieldType.int) 3 10 := mp_lv_ok (j1 := 8088) (j2 := 8090) (j3 := 93) (j4 := 1011) (j5 := 8091) (by decide +kernel)
set_option maxRecDepth 100000 in
theorem mp_lkL_158 : mp_LV RL 158 yX10_when cX10_when 4 (some FieldType.int) 3 10 := mp_lv_ok (j1 := 8092) (j2 := 8093) (j3 := 8094) (j4 := 1011) (j5 := 8095) (by decide +kernel)
set_option maxRecDepth 100000 in
theorem mp_lkL_162 : mp_LV RL 162 yX10_joins cX10_joins 4 (some FieldType.int) 2 10 := mp_lv_ok (j1 := 8096) (j2 := 8097) (j3 := 8098) (j4 := 1011) (j5 := 8099) (by decide +kernel)
set_option maxRecDepth 100000 in
theorem mp_lkX10_402 : mp_LV RX10 402 yX10_joinOf cX10_joinOf 4 (some FieldType.int) 2 10 := mp_lv_ok (j1 := 8100) (j2 := 8102) (j3 := 94) (j4 := 1011) (j5 := 8103) (by decide +kernel)
set_option maxRecDepth 100000 in
theorem mp_lkX10_396 : mp_LV RX10 396 yX10_isUnder cX10_isUnder 3 (some FieldType.boolean) 1 10 := mp_lv_ok (j1 := 8104) (j2 := 8106) (j3 := 95) (j4 := 1011) (j5 := 8107) (by decide +kernel)
set_option maxRecDepth 100000 in
theorem mp_lkL_166 : mp_LV RL 166 yX10_joined cX10_joined 6 (some FieldType.int) 0 10 := mp_lv_ok (j1 := 8110) (j2 := 8111) (j3 := 8112) (j4 := 1011) (j5 := 8113) (by decide +kernel)
set_option maxRecDepth 100000 in
theorem mp_lkL_170 : mp_LV RL 170 yX10_ring cX10_ring 2 (some FieldType.int) 1 10 := mp_lv_ok (j1 := 8114) (j2 := 8115) (j3 := 8116) (j4 := 1011) (j5 := 8117) (by decide +kernel)
set_option maxRecDepth 100000 in
theorem mp_lkX10_409 : mp_LV RX10 409 yX10_ringOf cX10_ringOf 6 (some FieldType.int) 1 10 := mp_lv_ok (j1 := 8118) (j2 := 8120) (j3 := 96) (j4 := 1011) (j5 := 8121) (by decide +kernel)
set_option maxRecDepth 100000 in
theorem mp_lkX10_405 : mp_LV RX10 405 yX10_struckOf cX10_struckOf 9 (some FieldType.int) 4 10 := mp_lv_ok (j1 := 8122) (j2 := 8124) (j3 := 97) (j4 := 1011) (j5 := 8125) (by decide +kernel)
set_option maxRecDepth 100000 in
theorem mp_lkL_174 : mp_LV RL 174 yX10_ringed cX10_ringed 3 (some FieldType.int) 2 10 := mp_lv_ok (j1 := 8126) (j2 := 8127) (j3 := 8128) (j4 := 1011) (j5 := 8129) (by decide +kernel)
set_option maxRecDepth 100000 in
theorem mp_lkL_179 : mp_LV RL 179 yX10_strikes cX10_strikes 5 (some FieldType.int) 4 10 := mp_lv_ok (j1 := 8130) (j2 := 8131) (j3 := 8132) (j4 := 1011) (j5 := 8133) (by decide +kernel)
set_option maxRecDepth 100000 in
theorem mp_lkL_183 : mp_LV RL 183 yX10_weighed cX10_weighed 4 (some FieldType.int) 2 10 := mp_lv_ok (j1 := 8134) (j2 := 8135) (j3 := 8136) (j4 := 1011) (j5 := 8137) (by decide +kernel)
set_option maxRecDepth 100000 in
theorem mp_lkX10_432 : mp_LV RX10 432 yX10_whyNot cX10_whyNot 4 (some FieldType.int) 2 10 := mp_lv_ok (j1 := 8138) (j2 := 8140) (j3 := 98) (j4 := 1011) (j5 := 8141) (by decide +kernel)
set_option maxRecDepth 100000 in
theorem mp_lkX10_435 : mp_LV RX10 435 yX10_laysWays cX10_laysWays 4 none 2 10 := mp_lv_ok (j1 := 8143) (j2 := 8145) (j3 := 99) (j4 := 1011) (j5 := 8146) (by decide +kernel)
set_option maxRecDepth 100000 in
theorem mp_lkX10_429 : mp_LV RX10 429 yX10_isWay cX10_isWay 5 (some FieldType.boolean) 3 10 := mp_lv_ok (j1 := 8147) (j2 := 8149) (j3 := 100) (j4 := 1011) (j5 := 8150) (by decide +kernel)
set_option maxRecDepth 100000 in
theorem mp_lkX10_414 : mp_LV RX10 414 yX10_worthBy cX10_worthBy 5 (some FieldType.int) 3 10 := mp_lv_ok (j1 := 8151) (j2 := 8153) (j3 := 101) (j4 := 1011) (j5 := 8154) (by decide +kernel)
set_option maxRecDepth 100000 in
theorem mp_lkL_187 : mp_LV RL 187 yX10_must cX10_must 5 (some FieldType.int) 3 10 := mp_lv_ok (j1 := 8155) (j2 := 8156) (j3 := 8157) (j4 := 1011) (j5 := 8158) (by decide +kernel)
set_option maxRecDepth 100000 in
theorem mp_lkL_191 : mp_LV RL 191 yX10_times cX10_times 4 (some FieldType.int) 2 10 := mp_lv_ok (j1 := 8159) (j2 := 8160) (j3 := 8161) (j4 := 1011) (j5 := 8162) (by decide +kernel)
set_option maxRecDepth 100000 in
theorem mp_lkL_195 : mp_LV RL 195 yX10_weigh cX10_weigh 8 (some FieldType.int) 2 10 := mp_lv_ok (j1 := 8163) (j2 := 8164) (j3 := 8165) (j4 := 1011) (j5 := 8166) (by decide +kernel)
set_option maxRecDepth 100000 in
theorem mp_lkX10_438 : mp_LV RX10 438 yX10_worstOf cX10_worstOf 9 (some FieldType.int) 3 10 := mp_lv_ok (j1 := 8167) (j2 := 8169) (j3 := 102) (j4 := 1011) (j5 := 8170) (by decide +kernel)
set_option maxRecDepth 100000 in
theorem mp_lkL_199 : mp_LV RL 199 yX10_said cX10_said 9 (some FieldType.int) 2 10 := mp_lv_ok (j1 := 8171) (j2 := 8172) (j3 := 8173) (j4 := 1011) (j5 := 8174) (by decide +kernel)
set_option maxRecDepth 100000 in
theorem mp_lkL_203 : mp_LV RL 203 yX10_span cX10_span 15 (some FieldType.int) 3 10 := mp_lv_ok (j1 := 8175) (j2 := 8176) (j3 := 8177) (j4 := 1011) (j5 := 8178) (by decide +kernel)
set_option maxRecDepth 100000 in
theorem mp_lkL_207 : mp_LV RL 207 yX10_wins cX10_wins 3 (some FieldType.int) 1 10 := mp_lv_ok (j1 := 8179) (j2 := 8180) (j3 := 8181) (j4 := 1011) (j5 := 8182) (by decide +kernel)
set_option maxRecDepth 100000 in
theorem mp_lkX10_444 : mp_LV RX10 444 yX10_whyNoThreat cX10_whyNoThreat 3 (some FieldType.int) 1 10 := mp_lv_ok (j1 := 8183) (j2 := 8185) (j3 := 103) (j4 := 1011) (j5 := 8186) (by decide +kernel)
set_option maxRecDepth 100000 in
theorem mp_lkX10_447 : mp_LV RX10 447 yX10_xorOf cX10_xorOf 4 (some FieldType.int) 1 10 := mp_lv_ok (j1 := 8187) (j2 := 8189) (j3 := 104) (j4 := 1011) (j5 := 8190) (by decide +kernel)
set_option maxRecDepth 100000 in
theorem mp_lkX10_441 : mp_LV RX10 441 yX10_laysNimbers cX10_laysNimbers 5 none 0 10 := mp_lv_ok (j1 := 8191) (j2 := 8193) (j3 := 105) (j4 := 1011) (j5 := 8194) (by decide +kernel)
set_option maxRecDepth 100000 in
theorem mp_lkL_211 : mp_LV RL 211 yX10_turn cX10_turn 7 (some FieldType.int) 1 10 := mp_lv_ok (j1 := 8195) (j2 := 8196) (j3 := 8197) (j4 := 1011) (j5 := 8198) (by decide +kernel)
set_option maxRecDepth 100000 in
theorem mp_lkL_215 : mp_LV RL 215 yX10_drawn cX10_drawn 4 (some FieldType.int) 3 10 := mp_lv_ok (j1 := 8199) (j2 := 8200) (j3 := 8201) (j4 := 1011) (j5 := 8202) (by decide +kernel)
set_option maxRecDepth 100000 in
theorem mp_lkX10_467 : mp_LV RX10 467 yX10_isDraw cX10_isDraw 4 (some FieldType.boolean) 3 10 := mp_lv_ok (j1 := 8203) (j2 := 8205) (j3 := 106) (j4 := 1011) (j5 := 8206) (by decide +kernel)
set_option maxRecDepth 100000 in
theorem mp_lkX10_470 : mp_LV RX10 470 yX10_draws cX10_draws 9 (some FieldType.int) 3 10 := mp_lv_ok (j1 := 8209) (j2 := 8211) (j3 := 107) (j4 := 1011) (j5 := 8212) (by decide +kernel)
set_option maxRecDepth 100000 in
theorem mp_lkL_219 : mp_LV RL 219 yX10_often cX10_often 4 (some FieldType.int) 3 10 := mp_lv_ok (j1 := 8218) (j2 := 8219) (j3 := 8220) (j4 := 1011) (j5 := 8221) (by decide +kernel)
set_option maxRecDepth 100000 in
theorem mp_lkL_223 : mp_LV RL 223 yX10_lucky cX10_lucky 7 (some FieldType.int) 4 10 := mp_lv_ok (j1 := 8222) (j2 := 8223) (j3 := 8224) (j4 := 1011) (j5 := 8225) (by decide +kernel)
set_option maxRecDepth 100000 in
theorem mp_lkL_227 : mp_LV RL 227 yX10_promises cX10_promises 5 (some FieldType.int) 3 10 := mp_lv_ok (j1 := 8226) (j2 := 8227) (j3 := 8228) (j4 := 1011) (j5 := 8229) (by decide +kernel)
set_option maxRecDepth 100000 in
theorem mp_lkL_231 : mp_LV RL 231 yX10_shuts cX10_shuts 5 (some FieldType.int) 3 10 := mp_lv_ok (j1 := 8230) (j2 := 8231) (j3 := 8232) (j4 := 1011) (j5 := 8233) (by decide +kernel)
set_option maxRecDepth 100000 in
theorem mp_lkL_235 : mp_LV RL 235 yX10_tends cX10_tends 4 (some FieldType.int) 2 10 := mp_lv_ok (j1 := 8234) (j2 := 8235) (j3 := 8236) (j4 := 1011) (j5 := 8237) (by decide +kernel)
set_option maxRecDepth 100000 in
theorem mp_lkL_239 : mp_LV RL 239 yX10_count cX10_count 4 (some FieldType.int) 1 10 := mp_lv_ok (j1 := 8238) (j2 := 8239) (j3 := 9000) (j4 := 1011) (j5 := 9001) (by decide +kernel)
set_option maxRecDepth 100000 in
theorem mp_lkL_243 : mp_LV RL 243 yX10_image cX10_image 2 (some FieldType.int) 1 10 := mp_lv_ok (j1 := 9002) (j2 := 9003) (j3 := 9004) (j4 := 1011) (j5 := 9005) (by decide +kernel)
set_option maxRecDepth 100000 in
theorem mp_lkL_247 : mp_LV RL 247 yX10_back cX10_back 2 (some FieldType.int) 1 10 := mp_lv_ok (j1 := 9006) (j2 := 9007) (j3 := 9008) (j4 := 1011) (j5 := 9009) (by decide +kernel)
set_option maxRecDepth 100000 in
theorem mp_lnL_7 : mp_LN RL 7 9 9 [.null, .null, .null, .null, .null, .null, .null, .null, .null] := ⟨_, tyX9, rfl, rfl, mp_gm (j := 1021) (by decide +kernel), mp_gm (j := 1022) (by decide +kernel), mp_gm (j := 1001) (by decide +kernel), tyX9_ok, by decide +kernel⟩
set_option maxRecDepth 100000 in
theorem mp_lnX9_7 : mp_LN RX9 7 3 10 [.null, .int 0, .null, .int 0, .int 0, .int 0, .int 0, .int 0, .int 0, .int 0] := ⟨_, tyX3, rfl, rfl, mp_gm (j := 1029) (by decide +kernel), mp_gm (j := 1030) (by decide +kernel), mp_gm (j := 1002) (by decide +kernel), tyX3_ok, by decide +kernel⟩
set_option maxRecDepth 100000 in
theorem mp_lnX3_15 : mp_LN RX3 15 7 18 [.int 0, .int 0, .int 0, .int 0, .int 0, .int 0, .null, .null, .null, .null, .null, .null, .null, .null, .null, .null, .null, .null] := ⟨_, tyX7, rfl, rfl, mp_gm (j := 1035) (by decide +kernel), mp_gm (j := 1036) (by decide +kernel), mp_gm (j := 1003) (by decide +kernel), tyX7_ok, by decide +kernel⟩
set_option maxRecDepth 100000 in
theorem mp_lnX9_16 : mp_LN RX9 16 0 8 [.null, .int 0, .null, .null, .null, .null, .null, .null] := ⟨_, tyX0, rfl, rfl, mp_gm (j := 1184) (by decide +kernel), mp_gm (j := 1185) (by decide +kernel), mp_gm (j := 1004) (by decide +kernel), tyX0_ok, by decide +kernel⟩
set_option maxRecDepth 100000 in
theorem mp_lnX0_9 : mp_LN RX0 9 7 18 [.int 0, .int 0, .int 0, .int 0, .int 0, .int 0, .null, .null, .null, .null, .null, .null, .null, .null, .null, .null, .null, .null] := ⟨_, tyX7, rfl, rfl, mp_gm (j := 1190) (by decide +kernel), mp_gm (j := 1036) (by decide +kernel), mp_gm (j := 1003) (by decide +kernel), tyX7_ok, by decide +kernel⟩
set_option maxRecDepth 100000 in
theorem mp_lnX9_23 : mp_LN RX9 23 7 18 [.int 0, .int 0, .int 0, .int 0, .int 0, .int 0, .null, .null, .null, .null, .null, .null, .null, .null, .null, .null, .null, .null] := ⟨_, tyX7, rfl, rfl, mp_gm (j := 1227) (by decide +kernel), mp_gm (j := 1036) (by decide +kernel), mp_gm (j := 1003) (by decide +kernel), tyX7_ok, by decide +kernel⟩
set_option maxRecDepth 100000 in
theorem mp_lnX9_29 : mp_LN RX9 29 1 4 [.null, .int 0, .int 0, .null] := ⟨_, tyX1, rfl, rfl, mp_gm (j := 1229) (by decide +kernel), mp_gm (j := 1230) (by decide +kernel), mp_gm (j := 1005) (by decide +kernel), tyX1_ok, by decide +kernel⟩
set_option maxRecDepth 100000 in
theorem mp_lnX9_36 : mp_LN RX9 36 2 11 [.int 0, .int 0, .int 0, .int 0, .null, .null, .null, .null, .null, .int 0, .int 0] := ⟨_, tyX2, rfl, rfl, mp_gm (j := 2010) (by decide +kernel), mp_gm (j := 2011) (by decide +kernel), mp_gm (j := 1006) (by decide +kernel), tyX2_ok, by decide +kernel⟩
set_option maxRecDepth 100000 in
theorem mp_lnX9_43 : mp_LN RX9 43 4 10 [.int 0, .int 0, .int 0, .null, .int 0, .int 0, .int 0, .int 0, .int 0, .null] := ⟨_, tyX4, rfl, rfl, mp_gm (j := 2052) (by decide +kernel), mp_gm (j := 2053) (by decide +kernel), mp_gm (j := 1007) (by decide +kernel), tyX4_ok, by decide +kernel⟩
set_option maxRecDepth 100000 in
theorem mp_lnX9_50 : mp_LN RX9 50 6 3 [.int 0, .null, .null] := ⟨_, tyX6, rfl, rfl, mp_gm (j := 2093) (by decide +kernel), mp_gm (j := 2094) (by decide +kernel), mp_gm (j := 1008) (by decide +kernel), tyX6_ok, by decide +kernel⟩
set_option maxRecDepth 100000 in
theorem mp_lnX9_57 : mp_LN RX9 57 8 3 [.null, .int 0, .int 0] := ⟨_, tyX8, rfl, rfl, mp_gm (j := 2109) (by decide +kernel), mp_gm (j := 2110) (by decide +kernel), mp_gm (j := 1009) (by decide +kernel), tyX8_ok, by decide +kernel⟩
set_option maxRecDepth 100000 in
theorem mp_lnX9_64 : mp_LN RX9 64 5 3 [.null, .null, .null] := ⟨_, tyX5, rfl, rfl, mp_gm (j := 2127) (by decide +kernel), mp_gm (j := 2128) (by decide +kernel), mp_gm (j := 1010) (by decide +kernel), tyX5_ok, by decide +kernel⟩
set_option maxRecDepth 100000 in
theorem mp_lnL_10 : mp_LN RL 10 10 47 [.int 0, .null, .null, .null, .null, .null, .int 0, .int 0, .int 0, .int 0, .int 0, .long 0, .int 0, .int 0, .int 0, .int 0, .null, .null, .null, .null, .null, .null, .null, .null, .int 0, .null, .null, .null, .null, .int 0, .int 0, .int 0, .null, .null, .int 0, .int 0, .null, .null, .null, .int 0, .int 0, .int 0, .int 0, .null, .null, .null, .int 0] := ⟨_, tyX10, rfl, rfl, mp_gm (j := 6005) (by decide +kernel), mp_gm (j := 6006) (by decide +kernel), mp_gm (j := 1011) (by decide +kernel), tyX10_ok, by decide +kernel⟩
theorem mp_bnd (x : Int32) : -2147483648 ≤ x.toInt ∧ x.toInt ≤ 2147483647 := ⟨Int32.le_toInt x, by have := Int32.toInt_lt x; omega⟩
theorem mp_add {z x y : Int32} {a b : Int} (h : z = x + y) (hx : x.toInt = a) (hy : y.toInt = b) (h1 : -2147483648 ≤ a + b) (h2 : a + b ≤ 2147483647) : z.toInt = a + b := by
  rw [h, Int32.toInt_add, hx, hy, Int.bmod_def]; omega
theorem mp_subi {z x y : Int32} {a b : Int} (h : z = x - y) (hx : x.toInt = a) (hy : y.toInt = b) (h1 : -2147483648 ≤ a - b) (h2 : a - b ≤ 2147483647) : z.toInt = a - b := by
  rw [h, Int32.toInt_sub, hx, hy, Int.bmod_def]; omega
theorem mp_mul {z x y : Int32} {a b : Int} (h : z = x * y) (hx : x.toInt = a) (hy : y.toInt = b) (h1 : -2147483648 ≤ a * b) (h2 : a * b ≤ 2147483647) : z.toInt = a * b := by
  rw [h, Int32.toInt_mul, hx, hy, Int.bmod_def]
  generalize a * b = c at *
  omega
theorem mp_div {z x y : Int32} {a b : Int} (h : z = x / y) (hx : x.toInt = a) (hy : y.toInt = b) (h1 : 0 ≤ a) (h2 : 0 < b) : z.toInt = a / b := by
  have hb := mp_bnd x
  rw [h, Int32.toInt_div, hx, hy, Int.tdiv_eq_ediv_of_nonneg h1, Int.bmod_def]
  have h3 : 0 ≤ a / b := Int.ediv_nonneg h1 (Int.le_of_lt h2)
  have h4 : a / b ≤ a := Int.ediv_le_self b h1
  generalize a / b = c at *
  omega
theorem mp_rem {z x y : Int32} {a b : Int} (h : z = x - x / y * y) (hx : x.toInt = a) (hy : y.toInt = b) (h1 : 0 ≤ a) (h2 : 0 < b) : z.toInt = a % b := by
  have hb := mp_bnd x
  have e1 : (x / y).toInt = a / b := mp_div rfl hx hy h1 h2
  have h5 : b * (a / b) + a % b = a := Int.mul_ediv_add_emod a b
  have h6 : 0 ≤ a % b := Int.emod_nonneg a (by omega)
  have h7 : 0 ≤ b * (a / b) := Int.mul_nonneg (Int.le_of_lt h2) (Int.ediv_nonneg h1 (Int.le_of_lt h2))
  have e2 : (x / y * y).toInt = a / b * b := mp_mul rfl e1 hy (by rw [Int.mul_comm]; omega) (by rw [Int.mul_comm]; omega)
  rw [Int.mul_comm] at e2
  have e3 := mp_subi h hx e2 (by omega) (by omega)
  omega
theorem mp_cpy0 {α : Type} {c : α} (sp dp n : Nat) : va_cpy (fun _ => c) (fun _ => c) sp dp n = (fun _ => c) := by
  funext k; simp [va_cpy]
