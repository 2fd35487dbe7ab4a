/-! LAW: callees 5 -/
set_option maxRecDepth 20000 in
theorem gL_law_X4_foresees : GoodIn wsL_law (wsV RL 174 RX4 yX4_foresees wsX4_foresees) := goodIn_app (goodIn_of _ (by decide +kernel)) ggL_law_X4_foresees
set_option maxRecDepth 20000 in
theorem ggL_law_X3_foreseen : GoodIn wsL_law wsX3_foreseen := goodIn_r _ [933, 16, 373, 192, 193, 194, 15, 195, 196, 91, 2, 92, 93, 94, 95, 96, 26, 90, 918, 919, 920, 921, 36, 223, 224, 225, 239, 240, 241, 242, 243, 244, 245, 246, 35, 247, 248, 249, 250, 251, 252, 253, 37, 1198, 1199, 1200, 1201, 1202, 1203, 1204, 1205, 1233, 1234, 1235, 1236, 1237, 1238, 1239, 1240, 1241, 1242, 1243] (by decide +kernel) (by decide +kernel)
set_option maxRecDepth 20000 in
theorem gL_law_X3_foreseen : GoodIn wsL_law (wsV RL 175 RX3 yX3_foreseen wsX3_foreseen) := goodIn_app (goodIn_of _ (by decide +kernel)) ggL_law_X3_foreseen
set_option maxRecDepth 20000 in
theorem ggL_law_X4_foreseen : GoodIn wsL_law wsX4_foreseen := goodIn_r _ [937, 213, 209, 210, 211, 5, 212, 106, 107, 108, 109, 110, 111, 112, 70, 926, 927, 928, 929, 67, 329, 330, 331, 332, 68, 74, 333, 248, 245, 249, 76, 334, 244, 246, 1206, 1207, 1208, 1209, 1210, 1211, 1212, 1213, 1214, 1215, 1216, 1217, 1218, 1219, 1220, 1221, 1222, 1223, 1224, 1225, 1226, 1227, 1228, 1229, 1230, 1231, 1232] (by decide +kernel) (by decide +kernel)
set_option maxRecDepth 20000 in
theorem gL_law_X4_foreseen : GoodIn wsL_law (wsV RL 178 RX4 yX4_foreseen wsX4_foreseen) := goodIn_app (goodIn_of _ (by decide +kernel)) ggL_law_X4_foreseen
set_option maxRecDepth 20000 in
theorem ggL_law_X3_deepest : GoodIn wsL_law wsX3_deepest := goodIn_r _ [941, 16, 373, 93, 94, 95, 2, 96, 26, 90, 91, 92, 294, 240, 241, 15, 242, 36, 196, 243, 244, 245, 246, 35, 247, 248, 249, 250, 251, 252, 253, 37, 1198, 1199, 1200, 1201, 1202, 1203, 1204, 1205, 1233, 1234, 1235, 1236, 1237, 1238, 1239, 1240, 1241, 1242, 1243] (by decide +kernel) (by decide +kernel)
set_option maxRecDepth 20000 in
theorem gL_law_X3_deepest : GoodIn wsL_law (wsV RL 179 RX3 yX3_deepest wsX3_deepest) := goodIn_app (goodIn_of _ (by decide +kernel)) ggL_law_X3_deepest
set_option maxRecDepth 20000 in
theorem ggL_law_X4_deepest : GoodIn wsL_law wsX4_deepest := goodIn_r _ [945, 213, 109, 110, 111, 5, 112, 70, 329, 330, 331, 332, 68, 74, 333, 248, 245, 249, 67, 76, 334, 244, 246, 1206, 1207, 1208, 1209, 1210, 1211, 1212, 1213, 1214, 1215, 1216, 1217, 1218, 1219, 1220, 1221, 1222, 1223, 1224, 1225, 1226, 1227, 1228, 1229, 1230, 1231, 1232] (by decide +kernel) (by decide +kernel)
set_option maxRecDepth 20000 in
theorem gL_law_X4_deepest : GoodIn wsL_law (wsV RL 182 RX4 yX4_deepest wsX4_deepest) := goodIn_app (goodIn_of _ (by decide +kernel)) ggL_law_X4_deepest
set_option maxRecDepth 20000 in
theorem ggL_law_X3_asleep : GoodIn wsL_law wsX3_asleep := goodIn_r _ [949, 16, 373, 390, 391, 392, 15, 393, 43, 91, 2, 92, 93, 94, 95, 96, 26, 90, 950, 264, 265, 266, 36, 37, 223, 224, 225, 1198, 1199, 1200, 1201, 1202, 1203, 1204, 1205, 1233, 1234, 1235, 1236, 1237, 1238, 1239, 1240, 1241, 1242, 1243] (by decide +kernel) (by decide +kernel)
set_option maxRecDepth 20000 in
theorem gL_law_X3_asleep : GoodIn wsL_law (wsV RL 183 RX3 yX3_asleep wsX3_asleep) := goodIn_app (goodIn_of _ (by decide +kernel)) ggL_law_X3_asleep
set_option maxRecDepth 20000 in
theorem ggL_law_X4_asleep : GoodIn wsL_law wsX4_asleep := goodIn_r _ [954, 213, 399, 400, 401, 5, 402, 81, 106, 107, 108, 109, 110, 111, 112, 70, 343, 344, 345, 346, 67, 68, 1206, 1207, 1208, 1209, 1210, 1211, 1212, 1213, 1214, 1215, 1216, 1217, 1218, 1219, 1220, 1221, 1222, 1223, 1224, 1225, 1226, 1227, 1228, 1229, 1230, 1231, 1232] (by decide +kernel) (by decide +kernel)
set_option maxRecDepth 20000 in
theorem gL_law_X4_asleep : GoodIn wsL_law (wsV RL 186 RX4 yX4_asleep wsX4_asleep) := goodIn_app (goodIn_of _ (by decide +kernel)) ggL_law_X4_asleep
set_option maxRecDepth 20000 in
theorem ggL_law_X3_crowd : GoodIn wsL_law wsX3_crowd := goodIn_r _ [958, 17, 16, 373, 218, 219, 220, 2, 221, 90, 91, 92, 93, 94, 95, 96, 26, 466, 467, 468, 15, 469, 43, 44, 34, 470, 157, 158, 159, 35, 196, 36, 37, 38, 471, 472, 473, 728, 729, 730, 731, 732, 733, 734, 735, 235, 236, 237, 238, 239, 240, 241, 242, 243, 244, 245, 246, 247, 248, 249, 250, 251, 252, 253, 254, 255, 256, 257, 258, 259, 260, 261, 262, 263, 264, 265, 266, 223, 224, 225, 736, 737, 738, 739, 267, 268, 269, 270, 271, 272, 273, 274, 275, 276, 277, 278, 1198, 1199, 1200, 1201, 1202, 1203, 1204, 1205, 1233, 1234, 1235, 1236, 1237, 1238, 1239, 1240, 1241, 1242, 1243] (by decide +kernel) (by decide +kernel)
set_option maxRecDepth 20000 in
theorem gL_law_X3_crowd : GoodIn wsL_law (wsV RL 187 RX3 yX3_crowd wsX3_crowd) := goodIn_app (goodIn_of _ (by decide +kernel)) ggL_law_X3_crowd
set_option maxRecDepth 20000 in
theorem ggL_law_X4_crowd : GoodIn wsL_law wsX4_crowd := goodIn_r _ [962, 72, 213, 67, 106, 107, 5, 108, 109, 110, 111, 112, 70, 594, 595, 596, 597, 66, 68, 81, 82, 74, 598, 599, 600, 75, 744, 745, 746, 747, 314, 315, 316, 688, 689, 690, 691, 76, 310, 311, 312, 313, 317, 318, 319, 320, 321, 322, 323, 324, 325, 326, 327, 328, 329, 330, 331, 332, 333, 248, 245, 249, 334, 244, 246, 335, 336, 288, 337, 338, 339, 340, 341, 342, 343, 344, 345, 346, 626, 627, 628, 629, 1206, 1207, 1208, 1209, 1210, 1211, 1212, 1213, 1214, 1215, 1216, 1217, 1218, 1219, 1220, 1221, 1222, 1223, 1224, 1225, 1226, 1227, 1228, 1229, 1230, 1231, 1232] (by decide +kernel) (by decide +kernel)
set_option maxRecDepth 20000 in
theorem gL_law_X4_crowd : GoodIn wsL_law (wsV RL 190 RX4 yX4_crowd wsX4_crowd) := goodIn_app (goodIn_of _ (by decide +kernel)) ggL_law_X4_crowd
set_option maxRecDepth 20000 in
theorem ggL_law_X3_level : GoodIn wsL_law wsX3_level := goodIn_r _ [966, 16, 390, 391, 392, 15, 393, 43, 91, 2, 92, 865, 866, 867, 868, 17, 416, 466, 467, 468, 469, 44, 34, 470, 157, 158, 159, 35, 196, 36, 37, 38, 471, 472, 473, 728, 729, 730, 731, 732, 733, 734, 735, 235, 236, 237, 238, 239, 240, 241, 242, 243, 244, 245, 246, 247, 248, 249, 250, 251, 252, 253, 254, 255, 256, 257, 258, 259, 260, 261, 262, 263, 264, 265, 266, 223, 224, 225, 736, 737, 738, 739, 267, 268, 269, 270, 271, 272, 273, 274, 275, 276, 277, 278, 93, 94, 95, 96, 26, 90, 1198, 1199, 1200, 1201, 1202, 1203, 1204, 1205, 1233, 1234, 1235, 1236, 1237, 1238, 1239, 1240, 1241, 1242, 1243] (by decide +kernel) (by decide +kernel)
set_option maxRecDepth 20000 in
theorem gL_law_X3_level : GoodIn wsL_law (wsV RL 191 RX3 yX3_level wsX3_level) := goodIn_app (goodIn_of _ (by decide +kernel)) ggL_law_X3_level
set_option maxRecDepth 20000 in
theorem ggL_law_X4_level : GoodIn wsL_law wsX4_level := goodIn_r _ [970, 399, 400, 401, 5, 402, 81, 106, 107, 108, 873, 874, 875, 876, 74, 744, 745, 746, 747, 82, 314, 315, 316, 688, 689, 690, 691, 213, 76, 310, 311, 312, 313, 67, 66, 68, 317, 318, 319, 320, 321, 322, 323, 324, 325, 326, 327, 328, 329, 330, 331, 332, 333, 248, 245, 249, 334, 244, 246, 335, 336, 288, 337, 338, 339, 340, 341, 342, 343, 344, 345, 346, 109, 110, 111, 112, 70, 1206, 1207, 1208, 1209, 1210, 1211, 1212, 1213, 1214, 1215, 1216, 1217, 1218, 1219, 1220, 1221, 1222, 1223, 1224, 1225, 1226, 1227, 1228, 1229, 1230, 1231, 1232] (by decide +kernel) (by decide +kernel)
set_option maxRecDepth 20000 in
theorem gL_law_X4_level : GoodIn wsL_law (wsV RL 194 RX4 yX4_level wsX4_level) := goodIn_app (goodIn_of _ (by decide +kernel)) ggL_law_X4_level
set_option maxRecDepth 20000 in
theorem ggL_law_X3_longest : GoodIn wsL_law wsX3_longest := goodIn_r _ [974, 16, 363, 975, 244, 245, 246, 728, 729, 730, 15, 731, 44, 732, 733, 734, 735, 196, 235, 236, 237, 238, 36, 239, 240, 241, 242, 243, 35, 247, 248, 249, 250, 251, 252, 253, 37, 254, 255, 256, 257, 258, 2, 259, 260, 261, 262, 263, 264, 265, 266, 223, 224, 225, 736, 737, 738, 739, 267, 268, 269, 270, 43, 271, 272, 273, 274, 34, 275, 276, 277, 278, 1198, 1199, 1200, 1201, 1202, 1203, 1204, 1205, 1233, 1234, 1235, 1236, 1237, 1238, 1239, 1240, 1241, 1242, 1243] (by decide +kernel) (by decide +kernel)
set_option maxRecDepth 20000 in
theorem gL_law_X3_longest : GoodIn wsL_law (wsV RL 195 RX3 yX3_longest wsX3_longest) := goodIn_app (goodIn_of _ (by decide +kernel)) ggL_law_X3_longest
set_option maxRecDepth 20000 in
theorem ggL_law_X4_longest : GoodIn wsL_law wsX4_longest := goodIn_r _ [979, 744, 745, 746, 5, 747, 81, 82, 314, 315, 316, 688, 689, 690, 691, 213, 76, 310, 311, 312, 313, 67, 66, 68, 317, 318, 319, 320, 321, 322, 323, 324, 325, 326, 327, 328, 329, 330, 331, 332, 74, 333, 248, 245, 249, 334, 244, 246, 335, 336, 288, 337, 338, 339, 340, 341, 342, 343, 344, 345, 346, 1206, 1207, 1208, 1209, 1210, 1211, 1212, 1213, 1214, 1215, 1216, 1217, 1218, 1219, 1220, 1221, 1222, 1223, 1224, 1225, 1226, 1227, 1228, 1229, 1230, 1231, 1232] (by decide +kernel) (by decide +kernel)
set_option maxRecDepth 20000 in
theorem gL_law_X4_longest : GoodIn wsL_law (wsV RL 198 RX4 yX4_longest wsX4_longest) := goodIn_app (goodIn_of _ (by decide +kernel)) ggL_law_X4_longest
set_option maxRecDepth 20000 in
theorem ggL_law_X3_leave : GoodIn wsL_law wsX3_leave := goodIn_r _ [983, 16, 373, 93, 94, 95, 2, 96, 26, 90, 91, 92, 885, 886, 887, 15, 888, 196, 36, 37, 889, 193, 194, 195, 984, 985, 986, 987, 24, 154, 197, 198, 199, 29, 200, 56, 101, 1198, 1199, 1200, 1201, 1202, 1203, 1204, 1205, 1233, 1234, 1235, 1236, 1237, 1238, 1239, 1240, 1241, 1242, 1243, 1249, 1250, 1251] (by decide +kernel) (by decide +kernel)
set_option maxRecDepth 20000 in
theorem gL_law_X3_leave : GoodIn wsL_law (wsV RL 199 RX3 yX3_leave wsX3_leave) := goodIn_app (goodIn_of _ (by decide +kernel)) ggL_law_X3_leave
set_option maxRecDepth 20000 in
theorem ggL_law_X4_leave : GoodIn wsL_law wsX4_leave := goodIn_r _ [991, 213, 63, 109, 110, 111, 5, 112, 70, 1206, 1207, 1208, 1209, 1210, 1211, 1212, 1213, 1214, 1215, 1216, 1217, 1218, 1219, 1220, 1221, 1222, 1223, 1224, 1225, 1226, 1227, 1228, 1229, 1230, 1231, 1232] (by decide +kernel) (by decide +kernel)
set_option maxRecDepth 20000 in
theorem gL_law_X4_leave : GoodIn wsL_law (wsV RL 202 RX4 yX4_leave wsX4_leave) := goodIn_app (goodIn_of _ (by decide +kernel)) ggL_law_X4_leave
set_option maxRecDepth 20000 in
theorem ggL_law_X3_by : GoodIn wsL_law wsX3_by := goodIn_r _ [995, 16, 230, 390, 391, 392, 15, 393, 43, 91, 2, 92, 93, 94, 95, 96, 26, 90, 647, 648, 649, 650, 34, 261, 262, 643, 644, 645, 646, 44, 782, 758, 759, 760, 1198, 1199, 1200, 1201, 1202, 1203, 1204, 1205, 1233, 1234, 1235, 1236, 1237, 1238, 1239, 1240, 1241, 1242, 1243] (by decide +kernel) (by decide +kernel)
set_option maxRecDepth 20000 in
theorem gL_law_X3_by : GoodIn wsL_law (wsV RL 203 RX3 yX3_by wsX3_by) := goodIn_app (goodIn_of _ (by decide +kernel)) ggL_law_X3_by
