set_option maxRecDepth 20000 in
theorem gU_0 : GoodIn wsL_law wsX00 := goodIn_r _ [1117, 1118, 1119, 1120, 1121, 1122, 1123, 1124] (by decide +kernel) (by decide +kernel)
set_option maxRecDepth 20000 in
theorem gU_1 : GoodIn wsL_law wsX10 := goodIn_r _ [1090, 1091, 1092, 1093, 1094] (by decide +kernel) (by decide +kernel)
set_option maxRecDepth 20000 in
theorem gU_2 : GoodIn wsL_law wsX20 := goodIn_r _ [1095, 1096, 1097, 1098, 1099, 1100, 1101, 1102, 1103, 1104] (by decide +kernel) (by decide +kernel)
set_option maxRecDepth 20000 in
theorem gU_3 : GoodIn wsL_law wsX30 := goodIn_r _ [1110, 1111, 1112, 1113, 1114, 1115, 1116] (by decide +kernel) (by decide +kernel)
set_option maxRecDepth 20000 in
theorem gU_4 : GoodIn wsL_law wsX40 := goodIn_r _ [1105, 1106, 1107, 1108, 1109] (by decide +kernel) (by decide +kernel)
set_option maxRecDepth 20000 in
theorem gU_5 : GoodIn wsL_law wsX50 := goodIn_r _ [1075, 1076, 1077, 1078, 1079, 1080, 1081, 1082, 1083, 1084, 1085, 1086, 1087, 1088, 1089] (by decide +kernel) (by decide +kernel)
set_option maxRecDepth 20000 in
theorem gU_6 : GoodIn wsL_law wsX60 := goodIn_r _ [1125, 1126] (by decide +kernel) (by decide +kernel)
set_option maxRecDepth 20000 in
theorem gU_7 : GoodIn wsL_law wsX70 := goodIn_r _ [1015, 1016, 1017, 1018, 1019, 1020, 1021, 1022, 1023, 1024, 1025, 1026, 1027] (by decide +kernel) (by decide +kernel)
set_option maxRecDepth 20000 in
theorem gU_8 : GoodIn wsL_law wsX80 := goodIn_r _ [1028, 1029, 1030, 1031, 1032, 1033, 1034, 1035, 1036, 1037, 1038, 1039, 1040, 1041, 1042, 1043, 1044, 1045, 1046, 1047, 1048, 1049, 1050, 1051, 1052, 1053, 1054, 1055, 1056, 1057, 1058, 1059, 1060, 1061, 1062, 1063, 1064, 1065, 1066, 1067, 1068, 1069, 1070, 1071, 1072, 1073, 1074] (by decide +kernel) (by decide +kernel)
set_option maxRecDepth 20000 in
theorem ggL_law_X7_init : GoodIn wsL_law wsX7_init := goodIn_ca (goodIn_ca (goodIn_ca (goodIn_ca (goodIn_ca (goodIn_ca (goodIn_ca (goodIn_ca (goodIn_r _ [8, 9, 10, 11, 12, 13, 14, 15, 16, 17, 18, 19, 20, 21, 22, 23, 24, 25, 26, 27, 28, 29, 30, 31, 32, 33, 34, 35, 36, 37, 38, 39, 40, 41, 42, 43, 44, 45, 46, 47, 48, 49, 50, 51, 52, 53, 54, 55, 56, 57, 58, 59, 60, 61, 62, 63, 64, 65, 66, 67, 68, 69, 70, 71, 72, 73, 74, 75, 76, 77, 78, 79, 80, 81, 82, 83, 84, 85, 86, 87, 88, 89, 90, 91, 92, 93, 94, 95, 96, 97, 98, 99, 100, 101, 102, 103, 104, 105, 106, 107, 108, 109, 110, 111, 112, 113, 114, 115, 116, 117, 118, 119, 120, 121, 122, 123, 124, 125] (by decide +kernel) (by decide +kernel)) gU_5) gU_7) gU_1) gU_2) gU_4) gU_3) gU_0) gU_6
set_option maxRecDepth 20000 in
theorem gL_law_X7_init : GoodIn wsL_law (wsX7_init) := ggL_law_X7_init
set_option maxRecDepth 20000 in
theorem ggL_law_X8_init : GoodIn wsL_law wsX8_init := goodIn_ca (goodIn_r _ [128, 129, 10, 11, 38, 130, 131, 72, 132, 133, 134, 135, 136, 137, 138, 139, 140, 141, 142, 143, 144, 145, 146, 147, 148, 149, 92, 150, 151, 152, 153, 154, 155, 156, 157, 158, 159, 160, 161, 162, 163, 164, 165] (by decide +kernel) (by decide +kernel)) gU_8
set_option maxRecDepth 20000 in
theorem gL_law_X8_init : GoodIn wsL_law (wsX8_init) := ggL_law_X8_init
set_option maxRecDepth 20000 in
theorem ggL_law_X7_later : GoodIn wsL_law wsX7_later := goodIn_ca (goodIn_r _ [169, 40, 170, 171, 2, 172] (by decide +kernel) (by decide +kernel)) gU_7
set_option maxRecDepth 20000 in
theorem gL_law_X7_later : GoodIn wsL_law (wsV RL 13 RX7 yX7_later wsX7_later) := goodIn_app (goodIn_of _ (by decide +kernel)) ggL_law_X7_later
set_option maxRecDepth 20000 in
theorem ggL_law_X8_later : GoodIn wsL_law wsX8_later := goodIn_ca (goodIn_r _ [176, 177] (by decide +kernel) (by decide +kernel)) gU_8
set_option maxRecDepth 20000 in
theorem gL_law_X8_later : GoodIn wsL_law (wsV RL 17 RX8 yX8_later wsX8_later) := goodIn_app (goodIn_of _ (by decide +kernel)) ggL_law_X8_later
set_option maxRecDepth 20000 in
theorem ggL_law_X7_row : GoodIn wsL_law wsX7_row := goodIn_ca (goodIn_ca (goodIn_r _ [181, 17, 182, 183, 2, 184, 170, 171, 172, 185, 186, 187, 188, 41, 39, 189, 190, 191, 51, 192, 71, 73] (by decide +kernel) (by decide +kernel)) gU_7) gU_6
set_option maxRecDepth 20000 in
theorem gL_law_X7_row : GoodIn wsL_law (wsV RL 18 RX7 yX7_row wsX7_row) := goodIn_app (goodIn_of _ (by decide +kernel)) ggL_law_X7_row
set_option maxRecDepth 20000 in
theorem ggL_law_X8_row : GoodIn wsL_law wsX8_row := goodIn_ca (goodIn_r _ [196, 131, 132, 197, 198, 5, 199, 200, 201, 202, 203, 204, 205, 206, 207, 130] (by decide +kernel) (by decide +kernel)) gU_8
set_option maxRecDepth 20000 in
theorem gL_law_X8_row : GoodIn wsL_law (wsV RL 22 RX8 yX8_row wsX8_row) := goodIn_app (goodIn_of _ (by decide +kernel)) ggL_law_X8_row
set_option maxRecDepth 20000 in
theorem ggL_law_X7_lay : GoodIn wsL_law wsX7_lay := goodIn_ca (goodIn_ca (goodIn_r _ [211, 17, 182, 183, 2, 184, 170, 171, 172, 212, 213, 214, 51, 215, 71, 185, 186, 187, 188, 41, 39, 216, 217, 218, 219, 220, 221, 222, 223, 73] (by decide +kernel) (by decide +kernel)) gU_7) gU_6
set_option maxRecDepth 20000 in
theorem gL_law_X7_lay : GoodIn wsL_law (wsV RL 23 RX7 yX7_lay wsX7_lay) := goodIn_app (goodIn_of _ (by decide +kernel)) ggL_law_X7_lay
set_option maxRecDepth 20000 in
theorem ggL_law_X8_lay : GoodIn wsL_law wsX8_lay := goodIn_ca (goodIn_r _ [227, 131, 132, 197, 198, 5, 199, 200, 201, 202, 203, 204, 205, 206, 207, 130] (by decide +kernel) (by decide +kernel)) gU_8
set_option maxRecDepth 20000 in
theorem gL_law_X8_lay : GoodIn wsL_law (wsV RL 27 RX8 yX8_lay wsX8_lay) := goodIn_app (goodIn_of _ (by decide +kernel)) ggL_law_X8_lay
set_option maxRecDepth 20000 in
theorem ggL_law_X7_tear : GoodIn wsL_law wsX7_tear := goodIn_ca (goodIn_ca (goodIn_r _ [231, 17, 182, 183, 2, 184, 170, 171, 172, 212, 213, 214, 51, 215, 71, 185, 186, 187, 188, 41, 39, 232, 233, 234, 235] (by decide +kernel) (by decide +kernel)) gU_7) gU_6
set_option maxRecDepth 20000 in
theorem gL_law_X7_tear : GoodIn wsL_law (wsV RL 28 RX7 yX7_tear wsX7_tear) := goodIn_app (goodIn_of _ (by decide +kernel)) ggL_law_X7_tear
set_option maxRecDepth 20000 in
theorem ggL_law_X8_tear : GoodIn wsL_law wsX8_tear := goodIn_ca (goodIn_r _ [239, 131, 197, 198, 5, 199, 200, 201, 202, 203, 204, 205, 206, 207, 130] (by decide +kernel) (by decide +kernel)) gU_8
set_option maxRecDepth 20000 in
theorem gL_law_X8_tear : GoodIn wsL_law (wsV RL 31 RX8 yX8_tear wsX8_tear) := goodIn_app (goodIn_of _ (by decide +kernel)) ggL_law_X8_tear
set_option maxRecDepth 20000 in
theorem ggL_law_X7_copy : GoodIn wsL_law wsX7_copy := goodIn_ca (goodIn_ca (goodIn_r _ [243, 17, 182, 183, 2, 184, 170, 171, 172, 212, 213, 214, 51, 215, 71, 185, 186, 187, 188, 41, 39, 216, 217, 218, 219, 244, 245, 246, 247, 73, 248, 249, 250, 251] (by decide +kernel) (by decide +kernel)) gU_7) gU_6
set_option maxRecDepth 20000 in
theorem gL_law_X7_copy : GoodIn wsL_law (wsV RL 32 RX7 yX7_copy wsX7_copy) := goodIn_app (goodIn_of _ (by decide +kernel)) ggL_law_X7_copy
set_option maxRecDepth 20000 in
theorem ggL_law_X8_copy : GoodIn wsL_law wsX8_copy := goodIn_ca (goodIn_r _ [255, 131, 133, 132, 197, 198, 5, 199, 200, 201, 202, 203, 204, 205, 206, 207, 130] (by decide +kernel) (by decide +kernel)) gU_8
set_option maxRecDepth 20000 in
theorem gL_law_X8_copy : GoodIn wsL_law (wsV RL 36 RX8 yX8_copy wsX8_copy) := goodIn_app (goodIn_of _ (by decide +kernel)) ggL_law_X8_copy
set_option maxRecDepth 20000 in
theorem ggL_law_X7_match : GoodIn wsL_law wsX7_match := goodIn_ca (goodIn_ca (goodIn_r _ [259, 17, 42, 260, 261, 2, 262, 182, 183, 184, 170, 171, 172, 212, 213, 214, 51, 215, 71, 185, 186, 187, 188, 41, 39, 263, 264, 265, 266, 267, 268, 269, 270, 271, 272, 273, 274, 73, 275, 276, 277, 278, 279] (by decide +kernel) (by decide +kernel)) gU_7) gU_6
set_option maxRecDepth 20000 in
theorem gL_law_X7_match : GoodIn wsL_law (wsV RL 37 RX7 yX7_match wsX7_match) := goodIn_app (goodIn_of _ (by decide +kernel)) ggL_law_X7_match
set_option maxRecDepth 20000 in
theorem ggL_law_X8_match : GoodIn wsL_law wsX8_match := goodIn_ca (goodIn_r _ [283, 131, 197, 198, 5, 199, 200, 201, 202, 203, 204, 205, 206, 207, 130, 284, 285, 286, 287, 288, 289, 290, 291, 292, 293, 294, 295, 132, 296, 297, 298, 299, 300] (by decide +kernel) (by decide +kernel)) gU_8
set_option maxRecDepth 20000 in
theorem gL_law_X8_match : GoodIn wsL_law (wsV RL 40 RX8 yX8_match wsX8_match) := goodIn_app (goodIn_of _ (by decide +kernel)) ggL_law_X8_match
set_option maxRecDepth 20000 in
theorem ggL_law_X7_sure : GoodIn wsL_law wsX7_sure := goodIn_ca (goodIn_ca (goodIn_r _ [304, 17, 260, 261, 2, 262, 182, 183, 184, 170, 171, 172, 305, 306, 307, 51, 308, 309, 264, 265, 266, 71, 310, 268, 269, 270, 271, 272, 273, 274, 73, 275, 276, 277, 278] (by decide +kernel) (by decide +kernel)) gU_7) gU_6
set_option maxRecDepth 20000 in
theorem gL_law_X7_sure : GoodIn wsL_law (wsV RL 41 RX7 yX7_sure wsX7_sure) := goodIn_app (goodIn_of _ (by decide +kernel)) ggL_law_X7_sure
set_option maxRecDepth 20000 in
theorem ggL_law_X8_sure : GoodIn wsL_law wsX8_sure := goodIn_ca (goodIn_r _ [314, 197, 198, 5, 199, 200, 201, 202, 315, 316, 317, 318, 284, 285, 286, 287, 131, 288, 289, 290, 291, 292, 293, 294, 295, 132] (by decide +kernel) (by decide +kernel)) gU_8
set_option maxRecDepth 20000 in
theorem gL_law_X8_sure : GoodIn wsL_law (wsV RL 44 RX8 yX8_sure wsX8_sure) := goodIn_app (goodIn_of _ (by decide +kernel)) ggL_law_X8_sure
set_option maxRecDepth 20000 in
theorem ggL_law_X7_paint : GoodIn wsL_law wsX7_paint := goodIn_ca (goodIn_ca (goodIn_r _ [322, 15, 170, 171, 2, 172, 323, 324, 325, 326, 327, 328, 14, 329, 53] (by decide +kernel) (by decide +kernel)) gU_7) gU_5
set_option maxRecDepth 20000 in
theorem gL_law_X7_paint : GoodIn wsL_law (wsV RL 45 RX7 yX7_paint wsX7_paint) := goodIn_app (goodIn_of _ (by decide +kernel)) ggL_law_X7_paint
set_option maxRecDepth 20000 in
theorem ggL_law_X8_paint : GoodIn wsL_law wsX8_paint := goodIn_ca (goodIn_r _ [333, 134, 200, 201, 5, 202, 334, 335, 336] (by decide +kernel) (by decide +kernel)) gU_8
set_option maxRecDepth 20000 in
theorem gL_law_X8_paint : GoodIn wsL_law (wsV RL 48 RX8 yX8_paint wsX8_paint) := goodIn_app (goodIn_of _ (by decide +kernel)) ggL_law_X8_paint
set_option maxRecDepth 20000 in
theorem ggL_law_X7_sap : GoodIn wsL_law wsX7_sap := goodIn_ca (goodIn_ca (goodIn_r _ [340, 15, 170, 171, 2, 172, 341, 342, 343, 14, 344, 62, 63, 64] (by decide +kernel) (by decide +kernel)) gU_7) gU_5
