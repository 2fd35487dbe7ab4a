/-! LAW: callees 3 -/
set_option maxRecDepth 20000 in
theorem gL_law_X3_first : GoodIn wsL_law (wsV RL 111 RX3 yX3_first wsX3_first) := goodIn_app (goodIn_of _ (by decide +kernel)) ggL_law_X3_first
set_option maxRecDepth 20000 in
theorem ggL_law_X4_first : GoodIn wsL_law wsX4_first := goodIn_r _ [699, 209, 210, 211, 5, 212, 213, 106, 107, 108, 302, 303, 304, 305, 306, 307, 308, 309, 81, 310, 311, 312, 313, 67, 82, 66, 68, 314, 315, 316, 317, 318, 319, 320, 321, 322, 323, 324, 325, 326, 327, 328, 329, 330, 331, 332, 74, 333, 248, 245, 249, 76, 334, 244, 246, 335, 336, 288, 337, 338, 339, 340, 341, 342, 343, 344, 345, 346, 347, 348, 349, 109, 110, 111, 112, 70, 1206, 1207, 1208, 1209, 1210, 1211, 1212, 1213, 1214, 1215, 1216, 1217, 1218, 1219, 1220, 1221, 1222, 1223, 1224, 1225, 1226, 1227, 1228, 1229, 1230, 1231, 1232] (by decide +kernel) (by decide +kernel)
set_option maxRecDepth 20000 in
theorem gL_law_X4_first : GoodIn wsL_law (wsV RL 114 RX4 yX4_first wsX4_first) := goodIn_app (goodIn_of _ (by decide +kernel)) ggL_law_X4_first
set_option maxRecDepth 20000 in
theorem ggL_law_X3_lasts : GoodIn wsL_law wsX3_lasts := goodIn_r _ [703, 16, 192, 193, 194, 15, 195, 196, 91, 2, 92, 659, 660, 661, 662, 239, 240, 241, 242, 36, 243, 244, 245, 246, 35, 247, 248, 249, 250, 251, 252, 253, 37, 254, 255, 256, 257, 44, 258, 259, 260, 261, 262, 293, 93, 94, 95, 96, 26, 90, 1198, 1199, 1200, 1201, 1202, 1203, 1204, 1205, 1233, 1234, 1235, 1236, 1237, 1238, 1239, 1240, 1241, 1242, 1243] (by decide +kernel) (by decide +kernel)
set_option maxRecDepth 20000 in
theorem gL_law_X3_lasts : GoodIn wsL_law (wsV RL 115 RX3 yX3_lasts wsX3_lasts) := goodIn_app (goodIn_of _ (by decide +kernel)) ggL_law_X3_lasts
set_option maxRecDepth 20000 in
theorem ggL_law_X4_lasts : GoodIn wsL_law wsX4_lasts := goodIn_r _ [707, 209, 210, 211, 5, 212, 213, 106, 107, 108, 325, 326, 327, 328, 82, 329, 330, 331, 332, 68, 74, 333, 248, 245, 249, 67, 76, 334, 244, 246, 335, 336, 288, 337, 338, 339, 340, 341, 342, 355, 356, 357, 358, 109, 110, 111, 112, 70, 1206, 1207, 1208, 1209, 1210, 1211, 1212, 1213, 1214, 1215, 1216, 1217, 1218, 1219, 1220, 1221, 1222, 1223, 1224, 1225, 1226, 1227, 1228, 1229, 1230, 1231, 1232] (by decide +kernel) (by decide +kernel)
set_option maxRecDepth 20000 in
theorem gL_law_X4_lasts : GoodIn wsL_law (wsV RL 118 RX4 yX4_lasts wsX4_lasts) := goodIn_app (goodIn_of _ (by decide +kernel)) ggL_law_X4_lasts
set_option maxRecDepth 20000 in
theorem ggL_law_X3_ends : GoodIn wsL_law wsX3_ends := goodIn_r _ [711, 16, 230, 293, 258, 2, 259, 260, 261, 262, 1198, 1199, 1200, 1201, 1202, 1203, 1204, 1205, 1233, 1234, 1235, 1236, 1237, 1238, 1239, 1240, 1241, 1242, 1243] (by decide +kernel) (by decide +kernel)
set_option maxRecDepth 20000 in
theorem gL_law_X3_ends : GoodIn wsL_law (wsV RL 119 RX3 yX3_ends wsX3_ends) := goodIn_app (goodIn_of _ (by decide +kernel)) ggL_law_X3_ends
set_option maxRecDepth 20000 in
theorem ggL_law_X4_ends : GoodIn wsL_law wsX4_ends := goodIn_r _ [715, 351, 352, 353, 5, 354, 82, 355, 356, 357, 358, 340, 288, 341, 342, 1206, 1207, 1208, 1209, 1210, 1211, 1212, 1213, 1214, 1215, 1216, 1217, 1218, 1219, 1220, 1221, 1222, 1223, 1224, 1225, 1226, 1227, 1228, 1229, 1230, 1231, 1232] (by decide +kernel) (by decide +kernel)
set_option maxRecDepth 20000 in
theorem gL_law_X4_ends : GoodIn wsL_law (wsV RL 122 RX4 yX4_ends wsX4_ends) := goodIn_app (goodIn_of _ (by decide +kernel)) ggL_law_X4_ends
set_option maxRecDepth 20000 in
theorem ggL_law_X3_agree : GoodIn wsL_law wsX3_agree := goodIn_r _ [719, 16, 373, 390, 391, 392, 15, 393, 43, 91, 2, 92, 93, 94, 95, 96, 26, 90, 659, 660, 661, 662, 239, 240, 241, 242, 36, 196, 243, 244, 245, 246, 35, 247, 248, 249, 250, 251, 252, 253, 37, 254, 255, 256, 257, 44, 258, 259, 260, 261, 262, 1198, 1199, 1200, 1201, 1202, 1203, 1204, 1205, 1233, 1234, 1235, 1236, 1237, 1238, 1239, 1240, 1241, 1242, 1243] (by decide +kernel) (by decide +kernel)
set_option maxRecDepth 20000 in
theorem gL_law_X3_agree : GoodIn wsL_law (wsV RL 123 RX3 yX3_agree wsX3_agree) := goodIn_app (goodIn_of _ (by decide +kernel)) ggL_law_X3_agree
set_option maxRecDepth 20000 in
theorem ggL_law_X4_agree : GoodIn wsL_law wsX4_agree := goodIn_r _ [723, 213, 399, 400, 401, 5, 402, 81, 106, 107, 108, 109, 110, 111, 112, 70, 325, 326, 327, 328, 82, 329, 330, 331, 332, 68, 74, 333, 248, 245, 249, 67, 76, 334, 244, 246, 335, 336, 288, 337, 338, 339, 340, 341, 342, 1206, 1207, 1208, 1209, 1210, 1211, 1212, 1213, 1214, 1215, 1216, 1217, 1218, 1219, 1220, 1221, 1222, 1223, 1224, 1225, 1226, 1227, 1228, 1229, 1230, 1231, 1232] (by decide +kernel) (by decide +kernel)
set_option maxRecDepth 20000 in
theorem gL_law_X4_agree : GoodIn wsL_law (wsV RL 126 RX4 yX4_agree wsX4_agree) := goodIn_app (goodIn_of _ (by decide +kernel)) ggL_law_X4_agree
set_option maxRecDepth 20000 in
theorem ggL_law_X3_surprises : GoodIn wsL_law wsX3_surprises := goodIn_r _ [727, 16, 728, 729, 730, 15, 731, 44, 732, 733, 734, 735, 196, 235, 236, 237, 238, 36, 239, 240, 241, 242, 243, 244, 245, 246, 35, 247, 248, 249, 250, 251, 252, 253, 37, 254, 255, 256, 257, 258, 2, 259, 260, 261, 262, 263, 264, 265, 266, 223, 224, 225, 736, 737, 738, 739, 267, 268, 269, 270, 43, 271, 272, 273, 274, 34, 275, 276, 277, 278, 1198, 1199, 1200, 1201, 1202, 1203, 1204, 1205, 1233, 1234, 1235, 1236, 1237, 1238, 1239, 1240, 1241, 1242, 1243] (by decide +kernel) (by decide +kernel)
set_option maxRecDepth 20000 in
theorem gL_law_X3_surprises : GoodIn wsL_law (wsV RL 127 RX3 yX3_surprises wsX3_surprises) := goodIn_app (goodIn_of _ (by decide +kernel)) ggL_law_X3_surprises
set_option maxRecDepth 20000 in
theorem ggL_law_X4_surprises : GoodIn wsL_law wsX4_surprises := goodIn_r _ [743, 744, 745, 746, 5, 747, 81, 82, 314, 315, 316, 688, 689, 690, 691, 213, 76, 310, 311, 312, 313, 67, 66, 68, 317, 318, 319, 320, 321, 322, 323, 324, 325, 326, 327, 328, 329, 330, 331, 332, 74, 333, 248, 245, 249, 334, 244, 246, 335, 336, 288, 337, 338, 339, 340, 341, 342, 343, 344, 345, 346, 1206, 1207, 1208, 1209, 1210, 1211, 1212, 1213, 1214, 1215, 1216, 1217, 1218, 1219, 1220, 1221, 1222, 1223, 1224, 1225, 1226, 1227, 1228, 1229, 1230, 1231, 1232] (by decide +kernel) (by decide +kernel)
set_option maxRecDepth 20000 in
theorem gL_law_X4_surprises : GoodIn wsL_law (wsV RL 130 RX4 yX4_surprises wsX4_surprises) := goodIn_app (goodIn_of _ (by decide +kernel)) ggL_law_X4_surprises
set_option maxRecDepth 20000 in
theorem ggL_law_X3_odds : GoodIn wsL_law wsX3_odds := goodIn_r _ [751, 16, 390, 391, 392, 15, 393, 43, 91, 2, 92, 93, 94, 95, 96, 26, 90, 643, 644, 645, 646, 44, 647, 648, 649, 650, 34, 261, 262, 752, 753, 754, 755, 271, 272, 273, 274, 275, 276, 277, 278, 756, 757, 758, 759, 760, 1198, 1199, 1200, 1201, 1202, 1203, 1204, 1205, 1233, 1234, 1235, 1236, 1237, 1238, 1239, 1240, 1241, 1242, 1243] (by decide +kernel) (by decide +kernel)
set_option maxRecDepth 20000 in
theorem gL_law_X3_odds : GoodIn wsL_law (wsV RL 131 RX3 yX3_odds wsX3_odds) := goodIn_app (goodIn_of _ (by decide +kernel)) ggL_law_X3_odds
set_option maxRecDepth 20000 in
theorem ggL_law_X4_odds : GoodIn wsL_law wsX4_odds := goodIn_r _ [764, 399, 400, 401, 5, 402, 81, 106, 107, 108, 109, 110, 111, 112, 70, 317, 318, 319, 320, 82, 321, 322, 323, 324, 66, 314, 315, 316, 765, 766, 767, 768, 769, 1206, 1207, 1208, 1209, 1210, 1211, 1212, 1213, 1214, 1215, 1216, 1217, 1218, 1219, 1220, 1221, 1222, 1223, 1224, 1225, 1226, 1227, 1228, 1229, 1230, 1231, 1232] (by decide +kernel) (by decide +kernel)
set_option maxRecDepth 20000 in
theorem gL_law_X4_odds : GoodIn wsL_law (wsV RL 134 RX4 yX4_odds wsX4_odds) := goodIn_app (goodIn_of _ (by decide +kernel)) ggL_law_X4_odds
set_option maxRecDepth 20000 in
theorem ggL_law_X3_likeliest : GoodIn wsL_law wsX3_likeliest := goodIn_r _ [773, 16, 363, 752, 753, 754, 15, 755, 271, 272, 273, 274, 34, 275, 276, 277, 278, 44, 261, 2, 262, 756, 644, 645, 646, 757, 648, 649, 650, 43, 758, 759, 760, 93, 94, 95, 96, 26, 90, 91, 92, 1198, 1199, 1200, 1201, 1202, 1203, 1204, 1205, 1233, 1234, 1235, 1236, 1237, 1238, 1239, 1240, 1241, 1242, 1243] (by decide +kernel) (by decide +kernel)
set_option maxRecDepth 20000 in
theorem gL_law_X3_likeliest : GoodIn wsL_law (wsV RL 135 RX3 yX3_likeliest wsX3_likeliest) := goodIn_app (goodIn_of _ (by decide +kernel)) ggL_law_X3_likeliest
set_option maxRecDepth 20000 in
theorem ggL_law_X4_likeliest : GoodIn wsL_law wsX4_likeliest := goodIn_r _ [777, 81, 317, 318, 319, 5, 320, 82, 321, 322, 323, 324, 66, 314, 315, 316, 765, 766, 767, 768, 769, 109, 110, 111, 112, 70, 1206, 1207, 1208, 1209, 1210, 1211, 1212, 1213, 1214, 1215, 1216, 1217, 1218, 1219, 1220, 1221, 1222, 1223, 1224, 1225, 1226, 1227, 1228, 1229, 1230, 1231, 1232] (by decide +kernel) (by decide +kernel)
set_option maxRecDepth 20000 in
theorem gL_law_X4_likeliest : GoodIn wsL_law (wsV RL 138 RX4 yX4_likeliest wsX4_likeliest) := goodIn_app (goodIn_of _ (by decide +kernel)) ggL_law_X4_likeliest
set_option maxRecDepth 20000 in
theorem ggL_law_X3_caught : GoodIn wsL_law wsX3_caught := goodIn_r _ [781, 16, 230, 647, 648, 649, 15, 650, 43, 34, 261, 2, 262, 93, 94, 95, 96, 26, 90, 91, 92, 728, 729, 730, 731, 44, 732, 733, 734, 735, 196, 235, 236, 237, 238, 36, 239, 240, 241, 242, 243, 244, 245, 246, 35, 247, 248, 249, 250, 251, 252, 253, 37, 254, 255, 256, 257, 258, 259, 260, 263, 264, 265, 266, 223, 224, 225, 736, 737, 738, 739, 267, 268, 269, 270, 271, 272, 273, 274, 275, 276, 277, 278, 782, 758, 759, 760, 1198, 1199, 1200, 1201, 1202, 1203, 1204, 1205, 1233, 1234, 1235, 1236, 1237, 1238, 1239, 1240, 1241, 1242, 1243] (by decide +kernel) (by decide +kernel)
set_option maxRecDepth 20000 in
theorem gL_law_X3_caught : GoodIn wsL_law (wsV RL 139 RX3 yX3_caught wsX3_caught) := goodIn_app (goodIn_of _ (by decide +kernel)) ggL_law_X3_caught
set_option maxRecDepth 20000 in
theorem ggL_law_X4_caught : GoodIn wsL_law wsX4_caught := goodIn_r _ [786, 82, 769, 321, 322, 323, 5, 324, 81, 66, 314, 315, 316, 109, 110, 111, 112, 70, 744, 745, 746, 747, 688, 689, 690, 691, 213, 76, 310, 311, 312, 313, 67, 68, 317, 318, 319, 320, 325, 326, 327, 328, 329, 330, 331, 332, 74, 333, 248, 245, 249, 334, 244, 246, 335, 336, 288, 337, 338, 339, 340, 341, 342, 343, 344, 345, 346, 1206, 1207, 1208, 1209, 1210, 1211, 1212, 1213, 1214, 1215, 1216, 1217, 1218, 1219, 1220, 1221, 1222, 1223, 1224, 1225, 1226, 1227, 1228, 1229, 1230, 1231, 1232] (by decide +kernel) (by decide +kernel)
set_option maxRecDepth 20000 in
theorem gL_law_X4_caught : GoodIn wsL_law (wsV RL 142 RX4 yX4_caught wsX4_caught) := goodIn_app (goodIn_of _ (by decide +kernel)) ggL_law_X4_caught
