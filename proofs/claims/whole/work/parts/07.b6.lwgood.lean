/-! LAW: callees 6 -/
set_option maxRecDepth 20000 in
theorem ggL_law_X4_by : GoodIn wsL_law wsX4_by := goodIn_r _ [999, 82, 769, 399, 400, 401, 5, 402, 81, 106, 107, 108, 109, 110, 111, 112, 70, 321, 322, 323, 324, 66, 314, 315, 316, 1206, 1207, 1208, 1209, 1210, 1211, 1212, 1213, 1214, 1215, 1216, 1217, 1218, 1219, 1220, 1221, 1222, 1223, 1224, 1225, 1226, 1227, 1228, 1229, 1230, 1231, 1232] (by decide +kernel) (by decide +kernel)
set_option maxRecDepth 20000 in
theorem gL_law_X4_by : GoodIn wsL_law (wsV RL 206 RX4 yX4_by wsX4_by) := goodIn_app (goodIn_of _ (by decide +kernel)) ggL_law_X4_by
set_option maxRecDepth 20000 in
theorem ggL_law_X3_mean : GoodIn wsL_law wsX3_mean := goodIn_r _ [1003, 16, 230, 363, 647, 648, 649, 15, 650, 43, 34, 261, 2, 262, 93, 94, 95, 96, 26, 90, 91, 92, 831, 272, 273, 274, 275, 276, 277, 278, 44, 1198, 1199, 1200, 1201, 1202, 1203, 1204, 1205, 1233, 1234, 1235, 1236, 1237, 1238, 1239, 1240, 1241, 1242, 1243] (by decide +kernel) (by decide +kernel)
set_option maxRecDepth 20000 in
theorem gL_law_X3_mean : GoodIn wsL_law (wsV RL 207 RX3 yX3_mean wsX3_mean) := goodIn_app (goodIn_of _ (by decide +kernel)) ggL_law_X3_mean
set_option maxRecDepth 20000 in
theorem ggL_law_X4_mean : GoodIn wsL_law wsX4_mean := goodIn_r _ [1007, 82, 81, 66, 321, 322, 323, 5, 324, 314, 315, 316, 109, 110, 111, 112, 70, 1206, 1207, 1208, 1209, 1210, 1211, 1212, 1213, 1214, 1215, 1216, 1217, 1218, 1219, 1220, 1221, 1222, 1223, 1224, 1225, 1226, 1227, 1228, 1229, 1230, 1231, 1232] (by decide +kernel) (by decide +kernel)
set_option maxRecDepth 20000 in
theorem gL_law_X4_mean : GoodIn wsL_law (wsV RL 210 RX4 yX4_mean wsX4_mean) := goodIn_app (goodIn_of _ (by decide +kernel)) ggL_law_X4_mean
set_option maxRecDepth 20000 in
theorem ggL_law_X3_fair : GoodIn wsL_law wsX3_fair := goodIn_r _ [1011, 16, 390, 391, 392, 15, 393, 43, 91, 2, 92, 93, 94, 95, 96, 26, 90, 853, 854, 855, 856, 643, 644, 645, 646, 44, 647, 648, 649, 650, 34, 261, 262, 831, 272, 273, 274, 275, 276, 277, 278, 832, 833, 834, 760, 782, 758, 759, 1198, 1199, 1200, 1201, 1202, 1203, 1204, 1205, 1233, 1234, 1235, 1236, 1237, 1238, 1239, 1240, 1241, 1242, 1243] (by decide +kernel) (by decide +kernel)
set_option maxRecDepth 20000 in
theorem gL_law_X3_fair : GoodIn wsL_law (wsV RL 211 RX3 yX3_fair wsX3_fair) := goodIn_app (goodIn_of _ (by decide +kernel)) ggL_law_X3_fair
set_option maxRecDepth 20000 in
theorem ggL_law_X4_fair : GoodIn wsL_law wsX4_fair := goodIn_r _ [1015, 399, 400, 401, 5, 402, 81, 106, 107, 108, 109, 110, 111, 112, 70, 317, 318, 319, 320, 82, 321, 322, 323, 324, 66, 314, 315, 316, 844, 845, 846, 847, 848, 769, 1206, 1207, 1208, 1209, 1210, 1211, 1212, 1213, 1214, 1215, 1216, 1217, 1218, 1219, 1220, 1221, 1222, 1223, 1224, 1225, 1226, 1227, 1228, 1229, 1230, 1231, 1232] (by decide +kernel) (by decide +kernel)
set_option maxRecDepth 20000 in
theorem gL_law_X4_fair : GoodIn wsL_law (wsV RL 214 RX4 yX4_fair wsX4_fair) := goodIn_app (goodIn_of _ (by decide +kernel)) ggL_law_X4_fair
set_option maxRecDepth 20000 in
theorem ggL_law_X3_book : GoodIn wsL_law wsX3_book := goodIn_r _ [1019, 24, 16, 230, 155, 90, 91, 2, 92, 826, 827, 828, 829, 830, 93, 94, 95, 96, 26, 117, 118, 119, 120, 87, 88, 89, 121, 122, 123, 29, 124, 56, 125, 126, 127, 128, 1020, 1021, 1022, 1023, 1024, 363, 160, 161, 162, 163, 101, 823, 824, 825, 647, 648, 649, 15, 650, 43, 34, 261, 262, 831, 272, 273, 274, 275, 276, 277, 278, 44, 832, 833, 834, 760, 782, 758, 759, 1198, 1199, 1200, 1201, 1202, 1203, 1204, 1205, 1233, 1234, 1235, 1236, 1237, 1238, 1239, 1240, 1241, 1242, 1243, 1249, 1250, 1251] (by decide +kernel) (by decide +kernel)
set_option maxRecDepth 20000 in
theorem gL_law_X3_book : GoodIn wsL_law (wsV RL 215 RX3 yX3_book wsX3_book) := goodIn_app (goodIn_of _ (by decide +kernel)) ggL_law_X3_book
set_option maxRecDepth 20000 in
theorem ggL_law_X4_book : GoodIn wsL_law wsX4_book := goodIn_r _ [1028, 64, 65, 1029, 81, 1030, 82, 848, 66, 769, 106, 107, 5, 108, 839, 840, 841, 842, 70, 843, 146, 147, 148, 149, 63, 321, 322, 323, 324, 314, 315, 316, 1206, 1207, 1208, 1209, 1210, 1211, 1212, 1213, 1214, 1215, 1216, 1217, 1218, 1219, 1220, 1221, 1222, 1223, 1224, 1225, 1226, 1227, 1228, 1229, 1230, 1231, 1232] (by decide +kernel) (by decide +kernel)
set_option maxRecDepth 20000 in
theorem gL_law_X4_book : GoodIn wsL_law (wsV RL 218 RX4 yX4_book wsX4_book) := goodIn_app (goodIn_of _ (by decide +kernel)) ggL_law_X4_book
set_option maxRecDepth 20000 in
theorem ggL_law_X3_second : GoodIn wsL_law wsX3_second := goodIn_r _ [1034, 16, 363, 390, 391, 392, 15, 393, 43, 91, 2, 92, 90, 93, 94, 95, 96, 26, 394, 276, 277, 278, 44, 261, 262, 1198, 1199, 1200, 1201, 1202, 1203, 1204, 1205, 1233, 1234, 1235, 1236, 1237, 1238, 1239, 1240, 1241, 1242, 1243] (by decide +kernel) (by decide +kernel)
set_option maxRecDepth 20000 in
theorem gL_law_X3_second : GoodIn wsL_law (wsV RL 219 RX3 yX3_second wsX3_second) := goodIn_app (goodIn_of _ (by decide +kernel)) ggL_law_X3_second
set_option maxRecDepth 20000 in
theorem ggL_law_X4_second : GoodIn wsL_law wsX4_second := goodIn_r _ [1038, 81, 82, 399, 400, 401, 5, 402, 106, 107, 108, 109, 110, 111, 112, 70, 314, 315, 316, 1206, 1207, 1208, 1209, 1210, 1211, 1212, 1213, 1214, 1215, 1216, 1217, 1218, 1219, 1220, 1221, 1222, 1223, 1224, 1225, 1226, 1227, 1228, 1229, 1230, 1231, 1232] (by decide +kernel) (by decide +kernel)
set_option maxRecDepth 20000 in
theorem gL_law_X4_second : GoodIn wsL_law (wsV RL 222 RX4 yX4_second wsX4_second) := goodIn_app (goodIn_of _ (by decide +kernel)) ggL_law_X4_second
set_option maxRecDepth 20000 in
theorem ggL_law_X3_hints : GoodIn wsL_law wsX3_hints := goodIn_r _ [1042, 90, 91, 2, 92, 93, 94, 95, 96, 26, 1043, 1044, 1045, 1046, 17, 16, 230, 466, 467, 468, 15, 469, 43, 44, 34, 470, 157, 158, 159, 35, 196, 36, 37, 38, 471, 472, 473, 728, 729, 730, 731, 732, 733, 734, 735, 235, 236, 237, 238, 239, 240, 241, 242, 243, 244, 245, 246, 247, 248, 249, 250, 251, 252, 253, 254, 255, 256, 257, 258, 259, 260, 261, 262, 263, 264, 265, 266, 223, 224, 225, 736, 737, 738, 739, 267, 268, 269, 270, 271, 272, 273, 274, 275, 276, 277, 278, 286, 287, 288, 289, 290, 291, 292, 1047, 1048, 1049, 1050, 1198, 1199, 1200, 1201, 1202, 1203, 1204, 1205, 1233, 1234, 1235, 1236, 1237, 1238, 1239, 1240, 1241, 1242, 1243] (by decide +kernel) (by decide +kernel)
set_option maxRecDepth 20000 in
theorem gL_law_X3_hints : GoodIn wsL_law (wsV RL 223 RX3 yX3_hints wsX3_hints) := goodIn_app (goodIn_of _ (by decide +kernel)) ggL_law_X3_hints
set_option maxRecDepth 20000 in
theorem ggL_law_X4_hints : GoodIn wsL_law wsX4_hints := goodIn_r _ [1054, 82, 106, 107, 5, 108, 109, 110, 111, 112, 70, 744, 745, 746, 747, 81, 314, 315, 316, 688, 689, 690, 691, 213, 76, 310, 311, 312, 313, 67, 66, 68, 317, 318, 319, 320, 321, 322, 323, 324, 325, 326, 327, 328, 329, 330, 331, 332, 74, 333, 248, 245, 249, 334, 244, 246, 335, 336, 288, 337, 338, 339, 340, 341, 342, 343, 344, 345, 346, 350, 287, 289, 290, 291, 292, 1206, 1207, 1208, 1209, 1210, 1211, 1212, 1213, 1214, 1215, 1216, 1217, 1218, 1219, 1220, 1221, 1222, 1223, 1224, 1225, 1226, 1227, 1228, 1229, 1230, 1231, 1232] (by decide +kernel) (by decide +kernel)
set_option maxRecDepth 20000 in
theorem gL_law_X4_hints : GoodIn wsL_law (wsV RL 226 RX4 yX4_hints wsX4_hints) := goodIn_app (goodIn_of _ (by decide +kernel)) ggL_law_X4_hints
set_option maxRecDepth 20000 in
theorem ggL_law_X3_rules : GoodIn wsL_law wsX3_rules := goodIn_r _ [1058, 24, 16, 363, 90, 91, 2, 92, 93, 94, 95, 96, 26, 117, 118, 119, 120, 87, 88, 89, 121, 122, 123, 29, 124, 56, 125, 126, 127, 128, 1059, 1060, 1061, 1062, 155, 160, 161, 162, 163, 101, 1063, 1064, 1065, 1066, 1067, 1068, 1069, 15, 1070, 43, 1198, 1199, 1200, 1201, 1202, 1203, 1204, 1205, 1233, 1234, 1235, 1236, 1237, 1238, 1239, 1240, 1241, 1242, 1243, 1249, 1250, 1251] (by decide +kernel) (by decide +kernel)
set_option maxRecDepth 20000 in
theorem gL_law_X3_rules : GoodIn wsL_law (wsV RL 227 RX3 yX3_rules wsX3_rules) := goodIn_app (goodIn_of _ (by decide +kernel)) ggL_law_X3_rules
set_option maxRecDepth 20000 in
theorem ggL_law_X4_rules : GoodIn wsL_law wsX4_rules := goodIn_r _ [1074, 64, 65, 81, 106, 107, 5, 108, 109, 110, 111, 112, 70, 146, 147, 148, 149, 63, 1206, 1207, 1208, 1209, 1210, 1211, 1212, 1213, 1214, 1215, 1216, 1217, 1218, 1219, 1220, 1221, 1222, 1223, 1224, 1225, 1226, 1227, 1228, 1229, 1230, 1231, 1232] (by decide +kernel) (by decide +kernel)
set_option maxRecDepth 20000 in
theorem gL_law_X4_rules : GoodIn wsL_law (wsV RL 230 RX4 yX4_rules wsX4_rules) := goodIn_app (goodIn_of _ (by decide +kernel)) ggL_law_X4_rules
set_option maxRecDepth 20000 in
theorem ggL_law_X3_judge : GoodIn wsL_law wsX3_judge := goodIn_r _ [1078, 16, 363, 1079, 1080, 1081, 2, 1082, 24, 117, 118, 119, 120, 87, 88, 89, 90, 91, 92, 121, 122, 123, 29, 124, 56, 125, 126, 127, 128, 160, 161, 162, 163, 101, 93, 94, 95, 96, 26, 1083, 1084, 1085, 1086, 155, 1087, 1088, 1089, 15, 1090, 196, 679, 680, 681, 682, 683, 232, 233, 234, 235, 236, 237, 238, 36, 239, 240, 241, 242, 243, 244, 245, 246, 35, 247, 248, 249, 250, 251, 252, 253, 37, 254, 255, 256, 257, 44, 258, 259, 260, 261, 262, 263, 264, 265, 266, 223, 224, 225, 267, 268, 269, 270, 43, 271, 272, 273, 274, 34, 275, 276, 277, 278, 1198, 1199, 1200, 1201, 1202, 1203, 1204, 1205, 1233, 1234, 1235, 1236, 1237, 1238, 1239, 1240, 1241, 1242, 1243, 1249, 1250, 1251] (by decide +kernel) (by decide +kernel)
set_option maxRecDepth 20000 in
theorem gL_law_X3_judge : GoodIn wsL_law (wsV RL 231 RX3 yX3_judge wsX3_judge) := goodIn_app (goodIn_of _ (by decide +kernel)) ggL_law_X3_judge
set_option maxRecDepth 20000 in
theorem ggL_law_X4_judge : GoodIn wsL_law wsX4_judge := goodIn_r _ [1094, 81, 1095, 1096, 1097, 5, 1098, 64, 146, 147, 148, 149, 63, 106, 107, 108, 109, 110, 111, 112, 70, 1099, 1100, 1101, 1102, 65, 213, 688, 689, 690, 691, 76, 310, 311, 312, 313, 67, 82, 66, 68, 314, 315, 316, 317, 318, 319, 320, 321, 322, 323, 324, 325, 326, 327, 328, 329, 330, 331, 332, 74, 333, 248, 245, 249, 334, 244, 246, 335, 336, 288, 337, 338, 339, 340, 341, 342, 343, 344, 345, 346, 1206, 1207, 1208, 1209, 1210, 1211, 1212, 1213, 1214, 1215, 1216, 1217, 1218, 1219, 1220, 1221, 1222, 1223, 1224, 1225, 1226, 1227, 1228, 1229, 1230, 1231, 1232] (by decide +kernel) (by decide +kernel)
set_option maxRecDepth 20000 in
theorem gL_law_X4_judge : GoodIn wsL_law (wsV RL 234 RX4 yX4_judge wsX4_judge) := goodIn_app (goodIn_of _ (by decide +kernel)) ggL_law_X4_judge
set_option maxRecDepth 20000 in
theorem ggL_law_X3_unlike : GoodIn wsL_law wsX3_unlike := goodIn_r _ [1106, 16, 363, 1079, 1080, 1081, 2, 1082, 24, 117, 118, 119, 120, 87, 88, 89, 90, 91, 92, 121, 122, 123, 29, 124, 56, 125, 126, 127, 128, 160, 161, 162, 163, 101, 93, 94, 95, 96, 26, 1083, 1084, 1085, 1086, 155, 1087, 1088, 1089, 15, 1090, 196, 679, 680, 681, 682, 683, 232, 233, 234, 235, 236, 237, 238, 36, 239, 240, 241, 242, 243, 244, 245, 246, 35, 247, 248, 249, 250, 251, 252, 253, 37, 254, 255, 256, 257, 44, 258, 259, 260, 261, 262, 263, 264, 265, 266, 223, 224, 225, 267, 268, 269, 270, 43, 271, 272, 273, 274, 34, 275, 276, 277, 278, 286, 287, 288, 289, 290, 291, 292, 1198, 1199, 1200, 1201, 1202, 1203, 1204, 1205, 1233, 1234, 1235, 1236, 1237, 1238, 1239, 1240, 1241, 1242, 1243, 1249, 1250, 1251] (by decide +kernel) (by decide +kernel)
