/-! LAW: callees 2 -/
set_option maxRecDepth 20000 in
theorem ggL_law_X4_feed : GoodIn wsL_law wsX4_feed := goodIn_r _ [451, 452, 69, 106, 107, 5, 108, 109, 110, 111, 112, 70, 1206, 1207, 1208, 1209, 1210, 1211, 1212, 1213, 1214, 1215, 1216, 1217, 1218, 1219, 1220, 1221, 1222, 1223, 1224, 1225, 1226, 1227, 1228, 1229, 1230, 1231, 1232] (by decide +kernel) (by decide +kernel)
set_option maxRecDepth 20000 in
theorem gL_law_X4_feed : GoodIn wsL_law (wsV RL 82 RX4 yX4_feed wsX4_feed) := goodIn_app (goodIn_of _ (by decide +kernel)) ggL_law_X4_feed
set_option maxRecDepth 20000 in
theorem ggL_law_X3_wipe : GoodIn wsL_law wsX3_wipe := goodIn_r _ [456, 22, 442, 1198, 1199, 1200, 1201, 1202, 1203, 1204, 1205, 1244, 1245, 1246, 1247, 1248] (by decide +kernel) (by decide +kernel)
set_option maxRecDepth 20000 in
theorem gL_law_X3_wipe : GoodIn wsL_law (wsV RL 83 RX3 yX3_wipe wsX3_wipe) := goodIn_app (goodIn_of _ (by decide +kernel)) ggL_law_X3_wipe
set_option maxRecDepth 20000 in
theorem ggL_law_X4_wipe : GoodIn wsL_law wsX4_wipe := goodIn_r _ [460, 452, 1206, 1207, 1208, 1209, 1210, 1211, 1212, 1213, 1214, 1215, 1216, 1217, 1218, 1219, 1220, 1221, 1222, 1223, 1224, 1225, 1226, 1227, 1228, 1229, 1230, 1231, 1232] (by decide +kernel) (by decide +kernel)
set_option maxRecDepth 20000 in
theorem gL_law_X4_wipe : GoodIn wsL_law (wsV RL 86 RX4 yX4_wipe wsX4_wipe) := goodIn_app (goodIn_of _ (by decide +kernel)) ggL_law_X4_wipe
set_option maxRecDepth 20000 in
theorem ggL_law_X3_school : GoodIn wsL_law wsX3_school := goodIn_r _ [464, 17, 16, 22, 442, 465, 466, 467, 468, 15, 469, 43, 44, 34, 470, 157, 158, 159, 35, 196, 36, 37, 38, 471, 472, 473, 474, 475, 476, 21, 477, 478, 479, 480, 481, 482, 483, 447, 52, 484, 485, 486, 487, 488, 489, 490, 491, 492, 493, 494, 495, 496, 497, 498, 499, 500, 501, 502, 503, 504, 505, 506, 507, 508, 509, 510, 511, 512, 513, 514, 515, 516, 517, 518, 519, 520, 521, 522, 523, 524, 525, 526, 527, 528, 529, 530, 531, 532, 533, 534, 535, 536, 537, 538, 539, 540, 541, 542, 543, 544, 545, 546, 547, 548, 549, 550, 551, 552, 553, 554, 555, 556, 557, 558, 559, 91, 2, 92, 560, 40, 41, 42, 45, 46, 47, 48, 561, 562, 563, 564, 565, 566, 567, 568, 569, 570, 571, 572, 573, 574, 575, 576, 577, 578, 579, 580, 581, 582, 375, 376, 377, 583, 584, 585, 586, 261, 262, 93, 94, 95, 96, 26, 90, 1198, 1199, 1200, 1201, 1202, 1203, 1204, 1205, 1244, 1245, 1246, 1247, 1248, 1233, 1234, 1235, 1236, 1237, 1238, 1239, 1240, 1241, 1242, 1243] (by decide +kernel) (by decide +kernel)
set_option maxRecDepth 20000 in
theorem gL_law_X3_school : GoodIn wsL_law (wsV RL 87 RX3 yX3_school wsX3_school) := goodIn_app (goodIn_of _ (by decide +kernel)) ggL_law_X3_school
set_option maxRecDepth 20000 in
theorem ggL_law_X4_school : GoodIn wsL_law wsX4_school := goodIn_r _ [590, 72, 591, 592, 452, 593, 594, 595, 596, 5, 597, 66, 67, 68, 81, 82, 213, 74, 598, 599, 600, 75, 601, 602, 603, 604, 69, 605, 606, 607, 608, 609, 610, 611, 612, 613, 614, 615, 616, 617, 618, 619, 620, 500, 501, 502, 503, 504, 505, 506, 507, 508, 509, 510, 621, 512, 513, 514, 515, 516, 517, 518, 519, 520, 521, 522, 523, 524, 525, 526, 527, 528, 529, 530, 531, 532, 533, 534, 535, 536, 537, 538, 539, 540, 541, 542, 543, 544, 545, 546, 547, 622, 623, 624, 625, 106, 107, 108, 77, 78, 79, 80, 382, 383, 384, 385, 314, 315, 316, 626, 627, 628, 629, 109, 110, 111, 112, 70, 1206, 1207, 1208, 1209, 1210, 1211, 1212, 1213, 1214, 1215, 1216, 1217, 1218, 1219, 1220, 1221, 1222, 1223, 1224, 1225, 1226, 1227, 1228, 1229, 1230, 1231, 1232] (by decide +kernel) (by decide +kernel)
set_option maxRecDepth 20000 in
theorem gL_law_X4_school : GoodIn wsL_law (wsV RL 90 RX4 yX4_school wsX4_school) := goodIn_app (goodIn_of _ (by decide +kernel)) ggL_law_X4_school
set_option maxRecDepth 20000 in
theorem ggL_law_X3_personOf : GoodIn wsL_law wsX3_personOf := goodIn_r _ [633, 16, 218, 634, 192, 193, 194, 15, 195, 196, 91, 2, 92, 93, 94, 95, 96, 26, 90, 294, 240, 241, 242, 36, 243, 244, 245, 246, 35, 247, 248, 249, 250, 251, 252, 253, 37, 231, 232, 233, 234, 235, 236, 237, 238, 239, 254, 255, 256, 257, 44, 258, 259, 260, 261, 262, 263, 264, 265, 266, 223, 224, 225, 267, 268, 269, 270, 43, 271, 272, 273, 274, 34, 275, 276, 277, 278, 1198, 1199, 1200, 1201, 1202, 1203, 1204, 1205, 1233, 1234, 1235, 1236, 1237, 1238, 1239, 1240, 1241, 1242, 1243] (by decide +kernel) (by decide +kernel)
set_option maxRecDepth 20000 in
theorem gL_law_X3_personOf : GoodIn wsL_law (wsV RL 91 RX3 yX3_personOf wsX3_personOf) := goodIn_app (goodIn_of _ (by decide +kernel)) ggL_law_X3_personOf
set_option maxRecDepth 20000 in
theorem ggL_law_X4_personOf : GoodIn wsL_law wsX4_personOf := goodIn_r _ [638, 67, 68, 209, 210, 211, 5, 212, 213, 106, 107, 108, 109, 110, 111, 112, 70, 329, 330, 331, 332, 74, 333, 248, 245, 249, 76, 334, 244, 246, 306, 307, 308, 309, 81, 310, 311, 312, 313, 82, 66, 314, 315, 316, 317, 318, 319, 320, 321, 322, 323, 324, 325, 326, 327, 328, 335, 336, 288, 337, 338, 339, 340, 341, 342, 343, 344, 345, 346, 1206, 1207, 1208, 1209, 1210, 1211, 1212, 1213, 1214, 1215, 1216, 1217, 1218, 1219, 1220, 1221, 1222, 1223, 1224, 1225, 1226, 1227, 1228, 1229, 1230, 1231, 1232] (by decide +kernel) (by decide +kernel)
set_option maxRecDepth 20000 in
theorem gL_law_X4_personOf : GoodIn wsL_law (wsV RL 94 RX4 yX4_personOf wsX4_personOf) := goodIn_app (goodIn_of _ (by decide +kernel)) ggL_law_X4_personOf
set_option maxRecDepth 20000 in
theorem ggL_law_X3_morningOf : GoodIn wsL_law wsX3_morningOf := goodIn_r _ [642, 16, 407, 390, 391, 392, 15, 393, 43, 91, 2, 92, 93, 94, 95, 96, 26, 90, 394, 276, 277, 278, 44, 261, 262, 643, 644, 645, 646, 647, 648, 649, 650, 34, 1198, 1199, 1200, 1201, 1202, 1203, 1204, 1205, 1233, 1234, 1235, 1236, 1237, 1238, 1239, 1240, 1241, 1242, 1243] (by decide +kernel) (by decide +kernel)
set_option maxRecDepth 20000 in
theorem gL_law_X3_morningOf : GoodIn wsL_law (wsV RL 95 RX3 yX3_morningOf wsX3_morningOf) := goodIn_app (goodIn_of _ (by decide +kernel)) ggL_law_X3_morningOf
set_option maxRecDepth 20000 in
theorem ggL_law_X4_morningOf : GoodIn wsL_law wsX4_morningOf := goodIn_r _ [654, 82, 66, 399, 400, 401, 5, 402, 81, 106, 107, 108, 109, 110, 111, 112, 70, 317, 318, 319, 320, 321, 322, 323, 324, 314, 315, 316, 1206, 1207, 1208, 1209, 1210, 1211, 1212, 1213, 1214, 1215, 1216, 1217, 1218, 1219, 1220, 1221, 1222, 1223, 1224, 1225, 1226, 1227, 1228, 1229, 1230, 1231, 1232] (by decide +kernel) (by decide +kernel)
set_option maxRecDepth 20000 in
theorem gL_law_X4_morningOf : GoodIn wsL_law (wsV RL 98 RX4 yX4_morningOf wsX4_morningOf) := goodIn_app (goodIn_of _ (by decide +kernel)) ggL_law_X4_morningOf
set_option maxRecDepth 20000 in
theorem ggL_law_X3_can : GoodIn wsL_law wsX3_can := goodIn_r _ [658, 16, 192, 193, 194, 15, 195, 196, 91, 2, 92, 390, 391, 392, 393, 43, 93, 94, 95, 96, 26, 90, 659, 660, 661, 662, 239, 240, 241, 242, 36, 243, 244, 245, 246, 35, 247, 248, 249, 250, 251, 252, 253, 37, 254, 255, 256, 257, 44, 258, 259, 260, 261, 262, 1198, 1199, 1200, 1201, 1202, 1203, 1204, 1205, 1233, 1234, 1235, 1236, 1237, 1238, 1239, 1240, 1241, 1242, 1243] (by decide +kernel) (by decide +kernel)
set_option maxRecDepth 20000 in
theorem gL_law_X3_can : GoodIn wsL_law (wsV RL 99 RX3 yX3_can wsX3_can) := goodIn_app (goodIn_of _ (by decide +kernel)) ggL_law_X3_can
set_option maxRecDepth 20000 in
theorem ggL_law_X4_can : GoodIn wsL_law wsX4_can := goodIn_r _ [666, 209, 210, 211, 5, 212, 213, 106, 107, 108, 399, 400, 401, 402, 81, 325, 326, 327, 328, 82, 329, 330, 331, 332, 68, 74, 333, 248, 245, 249, 67, 76, 334, 244, 246, 335, 336, 288, 337, 338, 339, 340, 341, 342, 109, 110, 111, 112, 70, 1206, 1207, 1208, 1209, 1210, 1211, 1212, 1213, 1214, 1215, 1216, 1217, 1218, 1219, 1220, 1221, 1222, 1223, 1224, 1225, 1226, 1227, 1228, 1229, 1230, 1231, 1232] (by decide +kernel) (by decide +kernel)
set_option maxRecDepth 20000 in
theorem gL_law_X4_can : GoodIn wsL_law (wsV RL 102 RX4 yX4_can wsX4_can) := goodIn_app (goodIn_of _ (by decide +kernel)) ggL_law_X4_can
set_option maxRecDepth 20000 in
theorem ggL_law_X3_expects : GoodIn wsL_law wsX3_expects := goodIn_r _ [670, 16, 192, 193, 194, 15, 195, 196, 91, 2, 92, 390, 391, 392, 393, 43, 93, 94, 95, 96, 26, 90, 231, 232, 233, 234, 235, 236, 237, 238, 36, 239, 240, 241, 242, 243, 244, 245, 246, 35, 247, 248, 249, 250, 251, 252, 253, 37, 254, 255, 256, 257, 44, 258, 259, 260, 261, 262, 263, 264, 265, 266, 223, 224, 225, 267, 268, 269, 270, 271, 272, 273, 274, 34, 275, 276, 277, 278, 1198, 1199, 1200, 1201, 1202, 1203, 1204, 1205, 1233, 1234, 1235, 1236, 1237, 1238, 1239, 1240, 1241, 1242, 1243] (by decide +kernel) (by decide +kernel)
set_option maxRecDepth 20000 in
theorem gL_law_X3_expects : GoodIn wsL_law (wsV RL 103 RX3 yX3_expects wsX3_expects) := goodIn_app (goodIn_of _ (by decide +kernel)) ggL_law_X3_expects
set_option maxRecDepth 20000 in
theorem ggL_law_X4_expects : GoodIn wsL_law wsX4_expects := goodIn_r _ [674, 209, 210, 211, 5, 212, 213, 106, 107, 108, 399, 400, 401, 402, 81, 109, 110, 111, 112, 70, 310, 311, 312, 313, 67, 82, 66, 68, 314, 315, 316, 317, 318, 319, 320, 321, 322, 323, 324, 325, 326, 327, 328, 329, 330, 331, 332, 74, 333, 248, 245, 249, 76, 334, 244, 246, 335, 336, 288, 337, 338, 339, 340, 341, 342, 343, 344, 345, 346, 1206, 1207, 1208, 1209, 1210, 1211, 1212, 1213, 1214, 1215, 1216, 1217, 1218, 1219, 1220, 1221, 1222, 1223, 1224, 1225, 1226, 1227, 1228, 1229, 1230, 1231, 1232] (by decide +kernel) (by decide +kernel)
set_option maxRecDepth 20000 in
theorem gL_law_X4_expects : GoodIn wsL_law (wsV RL 106 RX4 yX4_expects wsX4_expects) := goodIn_app (goodIn_of _ (by decide +kernel)) ggL_law_X4_expects
set_option maxRecDepth 20000 in
theorem ggL_law_X3_who : GoodIn wsL_law wsX3_who := goodIn_r _ [678, 16, 390, 391, 392, 15, 393, 43, 91, 2, 92, 679, 680, 681, 682, 196, 683, 232, 233, 234, 235, 236, 237, 238, 36, 239, 240, 241, 242, 243, 244, 245, 246, 35, 247, 248, 249, 250, 251, 252, 253, 37, 254, 255, 256, 257, 44, 258, 259, 260, 261, 262, 263, 264, 265, 266, 223, 224, 225, 267, 268, 269, 270, 271, 272, 273, 274, 34, 275, 276, 277, 278, 93, 94, 95, 96, 26, 90, 1198, 1199, 1200, 1201, 1202, 1203, 1204, 1205, 1233, 1234, 1235, 1236, 1237, 1238, 1239, 1240, 1241, 1242, 1243] (by decide +kernel) (by decide +kernel)
set_option maxRecDepth 20000 in
theorem gL_law_X3_who : GoodIn wsL_law (wsV RL 107 RX3 yX3_who wsX3_who) := goodIn_app (goodIn_of _ (by decide +kernel)) ggL_law_X3_who
set_option maxRecDepth 20000 in
theorem ggL_law_X4_who : GoodIn wsL_law wsX4_who := goodIn_r _ [687, 399, 400, 401, 5, 402, 81, 106, 107, 108, 688, 689, 690, 691, 213, 76, 310, 311, 312, 313, 67, 82, 66, 68, 314, 315, 316, 317, 318, 319, 320, 321, 322, 323, 324, 325, 326, 327, 328, 329, 330, 331, 332, 74, 333, 248, 245, 249, 334, 244, 246, 335, 336, 288, 337, 338, 339, 340, 341, 342, 343, 344, 345, 346, 109, 110, 111, 112, 70, 1206, 1207, 1208, 1209, 1210, 1211, 1212, 1213, 1214, 1215, 1216, 1217, 1218, 1219, 1220, 1221, 1222, 1223, 1224, 1225, 1226, 1227, 1228, 1229, 1230, 1231, 1232] (by decide +kernel) (by decide +kernel)
set_option maxRecDepth 20000 in
theorem gL_law_X4_who : GoodIn wsL_law (wsV RL 110 RX4 yX4_who wsX4_who) := goodIn_app (goodIn_of _ (by decide +kernel)) ggL_law_X4_who
set_option maxRecDepth 20000 in
theorem ggL_law_X3_first : GoodIn wsL_law wsX3_first := goodIn_r _ [695, 16, 192, 193, 194, 15, 195, 196, 91, 2, 92, 231, 232, 233, 234, 235, 236, 237, 238, 36, 239, 240, 241, 242, 243, 244, 245, 246, 35, 247, 248, 249, 250, 251, 252, 253, 37, 254, 255, 256, 257, 44, 258, 259, 260, 261, 262, 263, 264, 265, 266, 223, 224, 225, 267, 268, 269, 270, 43, 271, 272, 273, 274, 34, 275, 276, 277, 278, 279, 280, 281, 93, 94, 95, 96, 26, 90, 1198, 1199, 1200, 1201, 1202, 1203, 1204, 1205, 1233, 1234, 1235, 1236, 1237, 1238, 1239, 1240, 1241, 1242, 1243] (by decide +kernel) (by decide +kernel)
