/-! LAW: callees 0 -/
set_option maxRecDepth 20000 in
theorem ggL_law_X3_init : GoodIn wsL_law wsX3_init := goodIn_r _ [9, 10, 11, 12, 13, 14, 15, 16, 17, 18, 19, 20, 21, 22, 23, 24, 25, 26, 27, 28, 29, 30, 31, 32, 33, 34, 35, 36, 37, 38, 39, 40, 41, 42, 43, 44, 45, 46, 47, 48, 49, 50, 51, 52, 53, 54, 55, 56, 57, 58, 1233, 1234, 1235, 1236, 1237, 1238, 1239, 1240, 1241, 1242, 1243, 1198, 1199, 1200, 1201, 1202, 1203, 1204, 1205, 1244, 1245, 1246, 1247, 1248, 1249, 1250, 1251] (by decide +kernel) (by decide +kernel)
set_option maxRecDepth 20000 in
theorem gL_law_X3_init : GoodIn wsL_law (wsX3_init) := ggL_law_X3_init
set_option maxRecDepth 20000 in
theorem ggL_law_X4_init : GoodIn wsL_law wsX4_init := goodIn_r _ [61, 62, 11, 12, 25, 63, 64, 57, 65, 66, 67, 68, 69, 70, 71, 72, 73, 74, 75, 76, 77, 78, 79, 5, 80, 81, 82, 1206, 1207, 1208, 1209, 1210, 1211, 1212, 1213, 1214, 1215, 1216, 1217, 1218, 1219, 1220, 1221, 1222, 1223, 1224, 1225, 1226, 1227, 1228, 1229, 1230, 1231, 1232] (by decide +kernel) (by decide +kernel)
set_option maxRecDepth 20000 in
theorem gL_law_X4_init : GoodIn wsL_law (wsX4_init) := ggL_law_X4_init
set_option maxRecDepth 20000 in
theorem ggL_law_X3_row : GoodIn wsL_law wsX3_row := goodIn_r _ [86, 24, 87, 88, 2, 89, 90, 91, 92, 93, 94, 95, 96, 26, 97, 98, 99, 29, 100, 56, 101, 58, 1198, 1199, 1200, 1201, 1202, 1203, 1204, 1205, 1249, 1250, 1251] (by decide +kernel) (by decide +kernel)
set_option maxRecDepth 20000 in
theorem gL_law_X3_row : GoodIn wsL_law (wsV RL 13 RX3 yX3_row wsX3_row) := goodIn_app (goodIn_of _ (by decide +kernel)) ggL_law_X3_row
set_option maxRecDepth 20000 in
theorem ggL_law_X4_row : GoodIn wsL_law wsX4_row := goodIn_r _ [105, 63, 64, 65, 106, 107, 5, 108, 109, 110, 111, 112, 70, 1206, 1207, 1208, 1209, 1210, 1211, 1212, 1213, 1214, 1215, 1216, 1217, 1218, 1219, 1220, 1221, 1222, 1223, 1224, 1225, 1226, 1227, 1228, 1229, 1230, 1231, 1232] (by decide +kernel) (by decide +kernel)
set_option maxRecDepth 20000 in
theorem gL_law_X4_row : GoodIn wsL_law (wsV RL 17 RX4 yX4_row wsX4_row) := goodIn_app (goodIn_of _ (by decide +kernel)) ggL_law_X4_row
set_option maxRecDepth 20000 in
theorem ggL_law_X3_set : GoodIn wsL_law wsX3_set := goodIn_r _ [116, 24, 117, 118, 119, 2, 120, 87, 88, 89, 90, 91, 92, 121, 122, 123, 29, 124, 56, 125, 126, 127, 128, 93, 94, 95, 96, 26, 129, 130, 131, 132, 101, 133, 134, 135, 136, 58, 137, 138, 139, 140, 141, 1198, 1199, 1200, 1201, 1202, 1203, 1204, 1205, 1249, 1250, 1251] (by decide +kernel) (by decide +kernel)
set_option maxRecDepth 20000 in
theorem gL_law_X3_set : GoodIn wsL_law (wsV RL 20 RX3 yX3_set wsX3_set) := goodIn_app (goodIn_of _ (by decide +kernel)) ggL_law_X3_set
set_option maxRecDepth 20000 in
theorem ggL_law_X4_set : GoodIn wsL_law wsX4_set := goodIn_r _ [145, 64, 63, 65, 146, 147, 148, 5, 149, 106, 107, 108, 109, 110, 111, 112, 70, 1206, 1207, 1208, 1209, 1210, 1211, 1212, 1213, 1214, 1215, 1216, 1217, 1218, 1219, 1220, 1221, 1222, 1223, 1224, 1225, 1226, 1227, 1228, 1229, 1230, 1231, 1232] (by decide +kernel) (by decide +kernel)
set_option maxRecDepth 20000 in
theorem gL_law_X4_set : GoodIn wsL_law (wsV RL 24 RX4 yX4_set wsX4_set) := goodIn_app (goodIn_of _ (by decide +kernel)) ggL_law_X4_set
set_option maxRecDepth 20000 in
theorem ggL_law_X3_copy : GoodIn wsL_law wsX3_copy := goodIn_r _ [153, 24, 154, 155, 156, 157, 158, 159, 87, 88, 2, 89, 90, 91, 92, 93, 94, 95, 96, 26, 121, 122, 123, 29, 124, 56, 125, 126, 127, 128, 160, 161, 162, 163, 101, 1198, 1199, 1200, 1201, 1202, 1203, 1204, 1205, 1249, 1250, 1251] (by decide +kernel) (by decide +kernel)
set_option maxRecDepth 20000 in
theorem gL_law_X3_copy : GoodIn wsL_law (wsV RL 25 RX3 yX3_copy wsX3_copy) := goodIn_app (goodIn_of _ (by decide +kernel)) ggL_law_X3_copy
set_option maxRecDepth 20000 in
theorem ggL_law_X4_copy : GoodIn wsL_law wsX4_copy := goodIn_r _ [167, 63, 64, 65, 106, 107, 5, 108, 109, 110, 111, 112, 70, 168, 169, 170, 171, 1206, 1207, 1208, 1209, 1210, 1211, 1212, 1213, 1214, 1215, 1216, 1217, 1218, 1219, 1220, 1221, 1222, 1223, 1224, 1225, 1226, 1227, 1228, 1229, 1230, 1231, 1232] (by decide +kernel) (by decide +kernel)
set_option maxRecDepth 20000 in
theorem gL_law_X4_copy : GoodIn wsL_law (wsV RL 29 RX4 yX4_copy wsX4_copy) := goodIn_app (goodIn_of _ (by decide +kernel)) ggL_law_X4_copy
set_option maxRecDepth 20000 in
theorem ggL_law_X3_element : GoodIn wsL_law wsX3_element := goodIn_r _ [175, 24, 155, 87, 88, 2, 89, 90, 91, 92, 125, 126, 127, 29, 128, 56, 129, 130, 131, 132, 101, 1198, 1199, 1200, 1201, 1202, 1203, 1204, 1205, 1249, 1250, 1251] (by decide +kernel) (by decide +kernel)
set_option maxRecDepth 20000 in
theorem gL_law_X3_element : GoodIn wsL_law (wsV RL 30 RX3 yX3_element wsX3_element) := goodIn_app (goodIn_of _ (by decide +kernel)) ggL_law_X3_element
set_option maxRecDepth 20000 in
theorem ggL_law_X4_element : GoodIn wsL_law wsX4_element := goodIn_r _ [179, 64, 65, 106, 107, 5, 108, 168, 169, 170, 171, 63, 1206, 1207, 1208, 1209, 1210, 1211, 1212, 1213, 1214, 1215, 1216, 1217, 1218, 1219, 1220, 1221, 1222, 1223, 1224, 1225, 1226, 1227, 1228, 1229, 1230, 1231, 1232] (by decide +kernel) (by decide +kernel)
set_option maxRecDepth 20000 in
theorem gL_law_X4_element : GoodIn wsL_law (wsV RL 34 RX4 yX4_element wsX4_element) := goodIn_app (goodIn_of _ (by decide +kernel)) ggL_law_X4_element
set_option maxRecDepth 20000 in
theorem ggL_law_X3_holds : GoodIn wsL_law wsX3_holds := goodIn_r _ [183, 24, 154, 87, 88, 2, 89, 90, 91, 92, 1198, 1199, 1200, 1201, 1202, 1203, 1204, 1205, 1249, 1250, 1251] (by decide +kernel) (by decide +kernel)
set_option maxRecDepth 20000 in
theorem gL_law_X3_holds : GoodIn wsL_law (wsV RL 35 RX3 yX3_holds wsX3_holds) := goodIn_app (goodIn_of _ (by decide +kernel)) ggL_law_X3_holds
set_option maxRecDepth 20000 in
theorem ggL_law_X4_holds : GoodIn wsL_law wsX4_holds := goodIn_r _ [187, 63, 106, 107, 5, 108, 1206, 1207, 1208, 1209, 1210, 1211, 1212, 1213, 1214, 1215, 1216, 1217, 1218, 1219, 1220, 1221, 1222, 1223, 1224, 1225, 1226, 1227, 1228, 1229, 1230, 1231, 1232] (by decide +kernel) (by decide +kernel)
set_option maxRecDepth 20000 in
theorem gL_law_X4_holds : GoodIn wsL_law (wsV RL 39 RX4 yX4_holds wsX4_holds) := goodIn_app (goodIn_of _ (by decide +kernel)) ggL_law_X4_holds
set_option maxRecDepth 20000 in
theorem ggL_law_X3_show : GoodIn wsL_law wsX3_show := goodIn_r _ [191, 16, 24, 87, 88, 2, 89, 90, 91, 92, 192, 193, 194, 15, 195, 196, 93, 94, 95, 96, 26, 197, 198, 199, 29, 200, 56, 101, 201, 202, 203, 204, 1198, 1199, 1200, 1201, 1202, 1203, 1204, 1205, 1233, 1234, 1235, 1236, 1237, 1238, 1239, 1240, 1241, 1242, 1243, 1249, 1250, 1251] (by decide +kernel) (by decide +kernel)
set_option maxRecDepth 20000 in
theorem gL_law_X3_show : GoodIn wsL_law (wsV RL 40 RX3 yX3_show wsX3_show) := goodIn_app (goodIn_of _ (by decide +kernel)) ggL_law_X3_show
set_option maxRecDepth 20000 in
theorem ggL_law_X4_show : GoodIn wsL_law wsX4_show := goodIn_r _ [208, 63, 106, 107, 5, 108, 209, 210, 211, 212, 213, 109, 110, 111, 112, 70, 1206, 1207, 1208, 1209, 1210, 1211, 1212, 1213, 1214, 1215, 1216, 1217, 1218, 1219, 1220, 1221, 1222, 1223, 1224, 1225, 1226, 1227, 1228, 1229, 1230, 1231, 1232] (by decide +kernel) (by decide +kernel)
set_option maxRecDepth 20000 in
theorem gL_law_X4_show : GoodIn wsL_law (wsV RL 44 RX4 yX4_show wsX4_show) := goodIn_app (goodIn_of _ (by decide +kernel)) ggL_law_X4_show
set_option maxRecDepth 20000 in
theorem ggL_law_X3_says : GoodIn wsL_law wsX3_says := goodIn_r _ [217, 24, 154, 16, 218, 87, 88, 2, 89, 90, 91, 92, 219, 220, 221, 93, 94, 95, 96, 26, 125, 126, 127, 29, 128, 56, 121, 122, 123, 124, 192, 193, 194, 15, 195, 196, 222, 223, 224, 225, 226, 227, 228, 229, 230, 231, 232, 233, 234, 235, 236, 237, 238, 36, 239, 240, 241, 242, 243, 244, 245, 246, 35, 247, 248, 249, 250, 251, 252, 253, 37, 254, 255, 256, 257, 44, 258, 259, 260, 261, 262, 263, 264, 265, 266, 267, 268, 269, 270, 43, 271, 272, 273, 274, 34, 275, 276, 277, 278, 279, 280, 281, 282, 283, 284, 285, 286, 287, 288, 289, 290, 291, 292, 293, 294, 1198, 1199, 1200, 1201, 1202, 1203, 1204, 1205, 1249, 1250, 1251, 1233, 1234, 1235, 1236, 1237, 1238, 1239, 1240, 1241, 1242, 1243] (by decide +kernel) (by decide +kernel)
set_option maxRecDepth 20000 in
theorem gL_law_X3_says : GoodIn wsL_law (wsV RL 45 RX3 yX3_says wsX3_says) := goodIn_app (goodIn_of _ (by decide +kernel)) ggL_law_X3_says
set_option maxRecDepth 20000 in
theorem ggL_law_X4_says : GoodIn wsL_law wsX4_says := goodIn_r _ [298, 63, 67, 81, 106, 107, 5, 108, 109, 110, 111, 112, 70, 168, 169, 170, 171, 299, 300, 301, 302, 303, 304, 305, 306, 307, 308, 309, 310, 311, 312, 313, 82, 66, 68, 314, 315, 316, 317, 318, 319, 320, 321, 322, 323, 324, 325, 326, 327, 328, 329, 330, 331, 332, 74, 333, 248, 245, 249, 213, 76, 334, 244, 246, 335, 336, 288, 337, 338, 339, 340, 341, 342, 343, 344, 345, 346, 347, 348, 349, 350, 287, 289, 290, 291, 292, 351, 352, 353, 354, 355, 356, 357, 358, 1206, 1207, 1208, 1209, 1210, 1211, 1212, 1213, 1214, 1215, 1216, 1217, 1218, 1219, 1220, 1221, 1222, 1223, 1224, 1225, 1226, 1227, 1228, 1229, 1230, 1231, 1232] (by decide +kernel) (by decide +kernel)
