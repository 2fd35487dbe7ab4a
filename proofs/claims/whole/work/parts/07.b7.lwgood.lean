/-! LAW: callees 7 -/
set_option maxRecDepth 20000 in
theorem gL_law_X3_unlike : GoodIn wsL_law (wsV RL 235 RX3 yX3_unlike wsX3_unlike) := goodIn_app (goodIn_of _ (by decide +kernel)) ggL_law_X3_unlike
set_option maxRecDepth 20000 in
theorem ggL_law_X4_unlike : GoodIn wsL_law wsX4_unlike := goodIn_r _ [1110, 81, 1095, 1096, 1097, 5, 1098, 64, 146, 147, 148, 149, 63, 106, 107, 108, 109, 110, 111, 112, 70, 1099, 1100, 1101, 1102, 65, 213, 688, 689, 690, 691, 76, 310, 311, 312, 313, 67, 82, 66, 68, 314, 315, 316, 317, 318, 319, 320, 321, 322, 323, 324, 325, 326, 327, 328, 329, 330, 331, 332, 74, 333, 248, 245, 249, 334, 244, 246, 335, 336, 288, 337, 338, 339, 340, 341, 342, 343, 344, 345, 346, 350, 287, 289, 290, 291, 292, 1206, 1207, 1208, 1209, 1210, 1211, 1212, 1213, 1214, 1215, 1216, 1217, 1218, 1219, 1220, 1221, 1222, 1223, 1224, 1225, 1226, 1227, 1228, 1229, 1230, 1231, 1232] (by decide +kernel) (by decide +kernel)
set_option maxRecDepth 20000 in
theorem gL_law_X4_unlike : GoodIn wsL_law (wsV RL 238 RX4 yX4_unlike wsX4_unlike) := goodIn_app (goodIn_of _ (by decide +kernel)) ggL_law_X4_unlike
set_option maxRecDepth 20000 in
theorem ggL_law_X3_ring : GoodIn wsL_law wsX3_ring := goodIn_r _ [1114, 16, 230, 647, 648, 649, 15, 650, 43, 34, 261, 2, 262, 93, 94, 95, 96, 26, 90, 91, 92, 1115, 1116, 1117, 1118, 472, 196, 473, 471, 1119, 1120, 1121, 1122, 44, 757, 1123, 1124, 1125, 1126, 38, 1127, 271, 272, 273, 274, 275, 276, 277, 278, 1128, 680, 681, 682, 683, 232, 233, 234, 235, 236, 237, 238, 36, 239, 240, 241, 242, 243, 244, 245, 246, 35, 247, 248, 249, 250, 251, 252, 253, 37, 254, 255, 256, 257, 258, 259, 260, 263, 264, 265, 266, 223, 224, 225, 267, 268, 269, 270, 1129, 287, 288, 289, 290, 291, 292, 1198, 1199, 1200, 1201, 1202, 1203, 1204, 1205, 1233, 1234, 1235, 1236, 1237, 1238, 1239, 1240, 1241, 1242, 1243] (by decide +kernel) (by decide +kernel)
set_option maxRecDepth 20000 in
theorem gL_law_X3_ring : GoodIn wsL_law (wsV RL 239 RX3 yX3_ring wsX3_ring) := goodIn_app (goodIn_of _ (by decide +kernel)) ggL_law_X3_ring
set_option maxRecDepth 20000 in
theorem ggL_law_X4_ring : GoodIn wsL_law wsX4_ring := goodIn_r _ [1133, 82, 66, 599, 213, 600, 598, 321, 322, 323, 5, 324, 81, 314, 315, 316, 109, 110, 111, 112, 70, 1134, 1135, 1136, 1137, 75, 1138, 688, 689, 690, 691, 76, 310, 311, 312, 313, 67, 68, 317, 318, 319, 320, 325, 326, 327, 328, 329, 330, 331, 332, 74, 333, 248, 245, 249, 334, 244, 246, 335, 336, 288, 337, 338, 339, 340, 341, 342, 343, 344, 345, 346, 350, 287, 289, 290, 291, 292, 1206, 1207, 1208, 1209, 1210, 1211, 1212, 1213, 1214, 1215, 1216, 1217, 1218, 1219, 1220, 1221, 1222, 1223, 1224, 1225, 1226, 1227, 1228, 1229, 1230, 1231, 1232] (by decide +kernel) (by decide +kernel)
set_option maxRecDepth 20000 in
theorem gL_law_X4_ring : GoodIn wsL_law (wsV RL 242 RX4 yX4_ring wsX4_ring) := goodIn_app (goodIn_of _ (by decide +kernel)) ggL_law_X4_ring
set_option maxRecDepth 20000 in
theorem ggL_law_X3_rings : GoodIn wsL_law wsX3_rings := goodIn_r _ [1142, 16, 230, 1143, 90, 91, 2, 92, 93, 94, 95, 96, 26, 647, 648, 649, 15, 650, 43, 34, 261, 262, 1115, 1116, 1117, 1118, 472, 196, 473, 471, 1119, 1120, 1121, 1122, 44, 757, 1123, 1124, 1125, 1126, 38, 1127, 271, 272, 273, 274, 275, 276, 277, 278, 1128, 680, 681, 682, 683, 232, 233, 234, 235, 236, 237, 238, 36, 239, 240, 241, 242, 243, 244, 245, 246, 35, 247, 248, 249, 250, 251, 252, 253, 37, 254, 255, 256, 257, 258, 259, 260, 263, 264, 265, 266, 223, 224, 225, 267, 268, 269, 270, 1129, 287, 288, 289, 290, 291, 292, 1198, 1199, 1200, 1201, 1202, 1203, 1204, 1205, 1233, 1234, 1235, 1236, 1237, 1238, 1239, 1240, 1241, 1242, 1243] (by decide +kernel) (by decide +kernel)
set_option maxRecDepth 20000 in
theorem gL_law_X3_rings : GoodIn wsL_law (wsV RL 243 RX3 yX3_rings wsX3_rings) := goodIn_app (goodIn_of _ (by decide +kernel)) ggL_law_X3_rings
set_option maxRecDepth 20000 in
theorem ggL_law_X4_rings : GoodIn wsL_law wsX4_rings := goodIn_r _ [1147, 82, 600, 106, 107, 5, 108, 109, 110, 111, 112, 70, 321, 322, 323, 324, 81, 66, 314, 315, 316, 1148, 1131, 1132, 1133, 599, 213, 598, 1134, 1135, 1136, 1137, 75, 1138, 688, 689, 690, 691, 76, 310, 311, 312, 313, 67, 68, 317, 318, 319, 320, 325, 326, 327, 328, 329, 330, 331, 332, 74, 333, 248, 245, 249, 334, 244, 246, 335, 336, 288, 337, 338, 339, 340, 341, 342, 343, 344, 345, 346, 350, 287, 289, 290, 291, 292, 1206, 1207, 1208, 1209, 1210, 1211, 1212, 1213, 1214, 1215, 1216, 1217, 1218, 1219, 1220, 1221, 1222, 1223, 1224, 1225, 1226, 1227, 1228, 1229, 1230, 1231, 1232] (by decide +kernel) (by decide +kernel)
set_option maxRecDepth 20000 in
theorem gL_law_X4_rings : GoodIn wsL_law (wsV RL 246 RX4 yX4_rings wsX4_rings) := goodIn_app (goodIn_of _ (by decide +kernel)) ggL_law_X4_rings
set_option maxRecDepth 20000 in
theorem ggL_law_X3_learn : GoodIn wsL_law wsX3_learn := goodIn_r _ [1152, 16, 634, 192, 193, 194, 15, 195, 196, 91, 2, 92, 90, 93, 94, 95, 96, 26, 1198, 1199, 1200, 1201, 1202, 1203, 1204, 1205, 1233, 1234, 1235, 1236, 1237, 1238, 1239, 1240, 1241, 1242, 1243] (by decide +kernel) (by decide +kernel)
set_option maxRecDepth 20000 in
theorem gL_law_X3_learn : GoodIn wsL_law (wsV RL 247 RX3 yX3_learn wsX3_learn) := goodIn_app (goodIn_of _ (by decide +kernel)) ggL_law_X3_learn
set_option maxRecDepth 20000 in
theorem ggL_law_X4_learn : GoodIn wsL_law wsX4_learn := goodIn_r _ [1156, 68, 209, 210, 211, 5, 212, 213, 106, 107, 108, 109, 110, 111, 112, 70, 1206, 1207, 1208, 1209, 1210, 1211, 1212, 1213, 1214, 1215, 1216, 1217, 1218, 1219, 1220, 1221, 1222, 1223, 1224, 1225, 1226, 1227, 1228, 1229, 1230, 1231, 1232] (by decide +kernel) (by decide +kernel)
set_option maxRecDepth 20000 in
theorem gL_law_X4_learn : GoodIn wsL_law (wsV RL 250 RX4 yX4_learn wsX4_learn) := goodIn_app (goodIn_of _ (by decide +kernel)) ggL_law_X4_learn
set_option maxRecDepth 20000 in
theorem ggL_law_X3_seed : GoodIn wsL_law wsX3_seed := goodIn_r _ [1160, 16, 1161, 1198, 1199, 1200, 1201, 1202, 1203, 1204, 1205, 1233, 1234, 1235, 1236, 1237, 1238, 1239, 1240, 1241, 1242, 1243] (by decide +kernel) (by decide +kernel)
set_option maxRecDepth 20000 in
theorem gL_law_X3_seed : GoodIn wsL_law (wsV RL 251 RX3 yX3_seed wsX3_seed) := goodIn_app (goodIn_of _ (by decide +kernel)) ggL_law_X3_seed
set_option maxRecDepth 20000 in
theorem ggL_law_X4_seed : GoodIn wsL_law wsX4_seed := goodIn_r _ [1165, 75, 1206, 1207, 1208, 1209, 1210, 1211, 1212, 1213, 1214, 1215, 1216, 1217, 1218, 1219, 1220, 1221, 1222, 1223, 1224, 1225, 1226, 1227, 1228, 1229, 1230, 1231, 1232] (by decide +kernel) (by decide +kernel)
set_option maxRecDepth 20000 in
theorem gL_law_X4_seed : GoodIn wsL_law (wsV RL 254 RX4 yX4_seed wsX4_seed) := goodIn_app (goodIn_of _ (by decide +kernel)) ggL_law_X4_seed
set_option maxRecDepth 20000 in
theorem ggL_law_X3_image : GoodIn wsL_law wsX3_image := goodIn_r _ [1169, 18, 16, 1170, 466, 467, 468, 15, 469, 43, 44, 34, 470, 157, 158, 159, 35, 196, 36, 37, 38, 471, 472, 473, 1198, 1199, 1200, 1201, 1202, 1203, 1204, 1205, 1233, 1234, 1235, 1236, 1237, 1238, 1239, 1240, 1241, 1242, 1243] (by decide +kernel) (by decide +kernel)
set_option maxRecDepth 20000 in
theorem gL_law_X3_image : GoodIn wsL_law (wsV RL 255 RX3 yX3_image wsX3_image) := goodIn_app (goodIn_of _ (by decide +kernel)) ggL_law_X3_image
set_option maxRecDepth 20000 in
theorem ggL_law_X4_image : GoodIn wsL_law wsX4_image := goodIn_r _ [1174, 1175, 71, 594, 595, 596, 5, 597, 66, 67, 68, 81, 82, 213, 74, 598, 599, 600, 75, 1206, 1207, 1208, 1209, 1210, 1211, 1212, 1213, 1214, 1215, 1216, 1217, 1218, 1219, 1220, 1221, 1222, 1223, 1224, 1225, 1226, 1227, 1228, 1229, 1230, 1231, 1232] (by decide +kernel) (by decide +kernel)
set_option maxRecDepth 20000 in
theorem gL_law_X4_image : GoodIn wsL_law (wsV RL 258 RX4 yX4_image wsX4_image) := goodIn_app (goodIn_of _ (by decide +kernel)) ggL_law_X4_image
set_option maxRecDepth 20000 in
theorem ggL_law_X3_back : GoodIn wsL_law wsX3_back := goodIn_r _ [1179, 1170, 16, 18, 93, 94, 95, 2, 96, 26, 90, 91, 92, 466, 467, 468, 15, 469, 43, 44, 34, 470, 157, 158, 159, 35, 196, 36, 37, 38, 471, 472, 473, 984, 985, 986, 987, 24, 154, 373, 197, 198, 199, 29, 200, 56, 101, 1198, 1199, 1200, 1201, 1202, 1203, 1204, 1205, 1233, 1234, 1235, 1236, 1237, 1238, 1239, 1240, 1241, 1242, 1243, 1249, 1250, 1251] (by decide +kernel) (by decide +kernel)
set_option maxRecDepth 20000 in
theorem gL_law_X3_back : GoodIn wsL_law (wsV RL 259 RX3 yX3_back wsX3_back) := goodIn_app (goodIn_of _ (by decide +kernel)) ggL_law_X3_back
set_option maxRecDepth 20000 in
theorem ggL_law_X4_back : GoodIn wsL_law wsX4_back := goodIn_r _ [1183, 1175, 71, 63, 213, 109, 110, 111, 5, 112, 70, 626, 627, 628, 629, 66, 67, 68, 81, 82, 74, 598, 599, 600, 75, 1206, 1207, 1208, 1209, 1210, 1211, 1212, 1213, 1214, 1215, 1216, 1217, 1218, 1219, 1220, 1221, 1222, 1223, 1224, 1225, 1226, 1227, 1228, 1229, 1230, 1231, 1232] (by decide +kernel) (by decide +kernel)
set_option maxRecDepth 20000 in
theorem gL_law_X4_back : GoodIn wsL_law (wsV RL 262 RX4 yX4_back wsX4_back) := goodIn_app (goodIn_of _ (by decide +kernel)) ggL_law_X4_back
set_option maxRecDepth 20000 in
theorem ggL_law_X3_status : GoodIn wsL_law wsX3_status := goodIn_r _ [1187, 16, 363, 373, 416, 230, 1188, 1189, 1143, 22, 442, 1161, 26, 647, 648, 649, 15, 650, 43, 34, 261, 2, 262, 1190, 1191, 1192, 1193, 24, 154, 728, 729, 730, 731, 44, 732, 733, 734, 735, 196, 235, 236, 237, 238, 36, 239, 240, 241, 242, 243, 244, 245, 246, 35, 247, 248, 249, 250, 251, 252, 253, 37, 254, 255, 256, 257, 258, 259, 260, 263, 264, 265, 266, 223, 224, 225, 736, 737, 738, 739, 267, 268, 269, 270, 271, 272, 273, 274, 275, 276, 277, 278, 90, 91, 92, 1198, 1199, 1200, 1201, 1202, 1203, 1204, 1205, 1233, 1234, 1235, 1236, 1237, 1238, 1239, 1240, 1241, 1242, 1243, 1244, 1245, 1246, 1247, 1248, 1249, 1250, 1251] (by decide +kernel) (by decide +kernel)
set_option maxRecDepth 20000 in
theorem gL_law_X3_status : GoodIn wsL_law (wsV RL 263 RX3 yX3_status wsX3_status) := goodIn_app (goodIn_of _ (by decide +kernel)) ggL_law_X3_status
set_option maxRecDepth 20000 in
theorem ggL_law_X4_status : GoodIn wsL_law wsX4_status := goodIn_r _ [1197, 81, 213, 74, 82, 598, 599, 600, 452, 75, 63, 70, 321, 322, 323, 5, 324, 66, 314, 315, 316, 744, 745, 746, 747, 688, 689, 690, 691, 76, 310, 311, 312, 313, 67, 68, 317, 318, 319, 320, 325, 326, 327, 328, 329, 330, 331, 332, 333, 248, 245, 249, 334, 244, 246, 335, 336, 288, 337, 338, 339, 340, 341, 342, 343, 344, 345, 346, 106, 107, 108, 1206, 1207, 1208, 1209, 1210, 1211, 1212, 1213, 1214, 1215, 1216, 1217, 1218, 1219, 1220, 1221, 1222, 1223, 1224, 1225, 1226, 1227, 1228, 1229, 1230, 1231, 1232] (by decide +kernel) (by decide +kernel)
set_option maxRecDepth 20000 in
theorem gL_law_X4_status : GoodIn wsL_law (wsV RL 266 RX4 yX4_status wsX4_status) := goodIn_app (goodIn_of _ (by decide +kernel)) ggL_law_X4_status
