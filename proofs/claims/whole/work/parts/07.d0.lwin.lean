/-! LAW: its words -/
theorem wr_of {ws : List Cond} (ps : List Nat) (h : ps.map (fun i => lw_tbl[i]?) = ws.map some) : ∀ w ∈ ws, w ∈ lw_tbl := fun w hw => by
  have h1 : some w ∈ ws.map some := List.mem_map.mpr ⟨w, hw, rfl⟩
  rw [← h] at h1
  obtain ⟨i, _, hi⟩ := List.mem_map.mp h1
  exact List.mem_of_getElem? hi
set_option maxRecDepth 20000 in
theorem wr_w_r1 : ∀ w ∈ wsL_law_r1, w ∈ lw_tbl := wr_of [81, 82, 69, 891, 892, 73, 1407, 83, 84, 85, 86, 87, 88, 89, 90, 70, 198, 199, 200, 154, 155, 71, 202, 178] (by decide +kernel)
set_option maxRecDepth 20000 in
theorem wr_w_r2 : ∀ w ∈ wsL_law_r2, w ∈ lw_tbl := wr_of [203, 153, 204, 205, 180, 72, 91, 92, 93, 94, 109, 112, 118, 120, 122, 95, 96, 97, 98, 103, 106, 99, 100, 101] (by decide +kernel)
set_option maxRecDepth 20000 in
theorem wr_w_r3 : ∀ w ∈ wsL_law_r3, w ∈ lw_tbl := wr_of [102, 157, 158, 159, 160, 182, 183, 184, 185, 197, 188, 893, 894, 895, 896, 901, 902, 903, 906, 909, 910, 917, 922, 924] (by decide +kernel)
set_option maxRecDepth 20000 in
theorem wr_w_r4 : ∀ w ∈ wsL_law_r4, w ∈ lw_tbl := wr_of [925, 927, 907, 914, 915, 897, 899, 34, 900, 904, 905, 223, 224, 225, 226, 227, 228, 229, 230, 231, 232, 233, 235, 0] (by decide +kernel)
set_option maxRecDepth 20000 in
theorem wr_w_r5 : ∀ w ∈ wsL_law_r5, w ∈ lw_tbl := wr_of [236, 237, 238, 239, 240, 187, 983, 984, 985, 986, 987, 988, 989, 990, 992, 35, 993, 241, 242, 243, 244, 245, 247, 1] (by decide +kernel)
set_option maxRecDepth 20000 in
theorem wr_w_r6 : ∀ w ∈ wsL_law_r6, w ∈ lw_tbl := wr_of [248, 249, 250, 251, 252, 253, 254, 255, 256, 258, 259, 260, 261, 262, 263, 264, 265, 266, 267, 269, 2, 270, 994, 995] (by decide +kernel)
set_option maxRecDepth 20000 in
theorem wr_w_r7 : ∀ w ∈ wsL_law_r7, w ∈ lw_tbl := wr_of [996, 997, 998, 1000, 36, 1001, 271, 272, 273, 274, 186, 189, 279, 281, 280, 74, 275, 276, 277, 278, 1002, 1003, 1004, 1005] (by decide +kernel)
set_option maxRecDepth 20000 in
theorem wr_w_r8 : ∀ w ∈ wsL_law_r8, w ∈ lw_tbl := wr_of [1006, 1008, 37, 1009, 282, 283, 284, 285, 1010, 1011, 1012, 1013, 286, 287, 288, 289, 1014, 1015, 1016, 1017, 290, 291, 292, 293] (by decide +kernel)
set_option maxRecDepth 20000 in
theorem wr_w_r9 : ∀ w ∈ wsL_law_r9, w ∈ lw_tbl := wr_of [294, 295, 296, 297, 115, 299, 300, 301, 302, 303, 304, 305, 306, 1018, 1019, 1020, 1021, 1022, 1024, 38, 1025, 908, 307, 308] (by decide +kernel)
set_option maxRecDepth 20000 in
theorem wr_w_r10 : ∀ w ∈ wsL_law_r10, w ∈ lw_tbl := wr_of [309, 310, 119, 311, 312, 313, 314, 315, 316, 317, 319, 321, 3, 322, 108, 323, 324, 325, 326, 327, 328, 329, 330, 331] (by decide +kernel)
set_option maxRecDepth 20000 in
theorem wr_w_r11 : ∀ w ∈ wsL_law_r11, w ∈ lw_tbl := wr_of [332, 333, 334, 342, 343, 75, 344, 339, 340, 341, 335, 337, 4, 338, 345, 347, 5, 348, 350, 351, 352, 353, 354, 355] (by decide +kernel)
set_option maxRecDepth 20000 in
theorem wr_w_r12 : ∀ w ∈ wsL_law_r12, w ∈ lw_tbl := wr_of [356, 357, 358, 360, 361, 362, 363, 364, 365, 366, 367, 368, 369, 370, 371, 373, 374, 375, 376, 377, 378, 379, 380, 381] (by decide +kernel)
set_option maxRecDepth 20000 in
theorem wr_w_r13 : ∀ w ∈ wsL_law_r13, w ∈ lw_tbl := wr_of [76, 382, 383, 384, 385, 386, 387, 1026, 1027, 1028, 1029, 1030, 1031, 1032, 1033, 1035, 39, 1036, 1037, 1039, 40, 1040, 1041, 1043] (by decide +kernel)
set_option maxRecDepth 20000 in
theorem wr_w_r14 : ∀ w ∈ wsL_law_r14, w ∈ lw_tbl := wr_of [41, 1044, 1045, 1046, 1047, 1048, 1050, 42, 1051, 1052, 1054, 43, 1055, 1056, 1058, 44, 1059, 1060, 1062, 45, 1063, 1064, 1065, 1066] (by decide +kernel)
set_option maxRecDepth 20000 in
theorem wr_w_r15 : ∀ w ∈ wsL_law_r15, w ∈ lw_tbl := wr_of [1067, 1068, 1069, 1070, 1071, 1072, 1073, 1074, 1076, 46, 1077, 1078, 1079, 1080, 1081, 1082, 1084, 47, 1085, 1086, 1087, 1088, 1089, 388] (by decide +kernel)
set_option maxRecDepth 20000 in
theorem wr_w_r16 : ∀ w ∈ wsL_law_r16, w ∈ lw_tbl := wr_of [389, 390, 391, 105, 392, 1090, 1091, 1092, 1093, 393, 394, 395, 396, 117, 397, 398, 399, 400, 1094, 1095, 1096, 1097, 1098, 1100] (by decide +kernel)
set_option maxRecDepth 20000 in
theorem wr_w_r17 : ∀ w ∈ wsL_law_r17, w ∈ lw_tbl := wr_of [48, 1101, 401, 402, 403, 404, 405, 406, 407, 408, 409, 1102, 1103, 1104, 1105, 1106, 1108, 49, 1109, 410, 411, 412, 413, 111] (by decide +kernel)
set_option maxRecDepth 20000 in
theorem wr_w_r18 : ∀ w ∈ wsL_law_r18, w ∈ lw_tbl := wr_of [1110, 1111, 1112, 1113, 414, 415, 416, 417, 114, 1114, 1115, 1116, 1117, 418, 419, 420, 421, 1118, 1119, 1120, 1121, 422, 423, 424] (by decide +kernel)
set_option maxRecDepth 20000 in
theorem wr_w_r19 : ∀ w ∈ wsL_law_r19, w ∈ lw_tbl := wr_of [425, 426, 1122, 1123, 1124, 1125, 461, 462, 463, 464, 162, 465, 466, 467, 468, 161, 1126, 1127, 1128, 1129, 916, 469, 470, 471] (by decide +kernel)
set_option maxRecDepth 20000 in
theorem wr_w_r20 : ∀ w ∈ wsL_law_r20, w ∈ lw_tbl := wr_of [472, 1130, 1131, 1132, 1133, 473, 474, 475, 476, 164, 452, 453, 454, 455, 456, 124, 126, 128, 477, 478, 479, 480, 165, 166] (by decide +kernel)
set_option maxRecDepth 20000 in
theorem wr_w_r21 : ∀ w ∈ wsL_law_r21, w ∈ lw_tbl := wr_of [481, 483, 7, 484, 163, 485, 486, 487, 488, 489, 490, 491, 493, 8, 494, 496, 498, 9, 499, 500, 501, 502, 77, 503] (by decide +kernel)
set_option maxRecDepth 20000 in
theorem wr_w_r22 : ∀ w ∈ wsL_law_r22, w ∈ lw_tbl := wr_of [1408, 504, 505, 506, 507, 508, 1409, 510, 511, 512, 513, 514, 515, 516, 517, 518, 519, 78, 520, 521, 522, 523, 524, 526] (by decide +kernel)
set_option maxRecDepth 20000 in
theorem wr_w_r23 : ∀ w ∈ wsL_law_r23, w ∈ lw_tbl := wr_of [527, 79, 528, 529, 530, 80, 531, 532, 533, 534, 535, 536, 537, 538, 539, 540, 541, 542, 544, 546, 548, 550, 10, 551] (by decide +kernel)
set_option maxRecDepth 20000 in
theorem wr_w_r24 : ∀ w ∈ wsL_law_r24, w ∈ lw_tbl := wr_of [552, 554, 11, 555, 556, 558, 12, 559, 561, 563, 565, 13, 566, 104, 107, 568, 570, 14, 571, 110, 573, 575, 15, 576] (by decide +kernel)
set_option maxRecDepth 20000 in
theorem wr_w_r25 : ∀ w ∈ wsL_law_r25, w ∈ lw_tbl := wr_of [113, 578, 580, 16, 581, 116, 582, 584, 586, 17, 587, 1134, 1135, 1136, 1137, 918, 920, 919, 1138, 1140, 50, 1141, 911, 912] (by decide +kernel)
set_option maxRecDepth 20000 in
theorem wr_w_r26 : ∀ w ∈ wsL_law_r26, w ∈ lw_tbl := wr_of [913, 1142, 1144, 51, 1145, 921, 1146, 1147, 1148, 1149, 1150, 1151, 1152, 1154, 52, 1155, 1157, 1159, 53, 1160, 1161, 1162, 1163, 1165] (by decide +kernel)
set_option maxRecDepth 20000 in
theorem wr_w_r27 : ∀ w ∈ wsL_law_r27, w ∈ lw_tbl := wr_of [54, 1166, 1172, 1174, 55, 1175, 590, 591, 592, 593, 121, 1176, 1177, 1178, 1179, 594, 595, 596, 597, 598, 599, 600, 601, 602] (by decide +kernel)
set_option maxRecDepth 20000 in
theorem wr_w_r28 : ∀ w ∈ wsL_law_r28, w ∈ lw_tbl := wr_of [603, 604, 605, 1180, 1181, 1182, 1183, 606, 607, 608, 609, 610, 611, 612, 613, 1184, 1185, 1186, 1187, 614, 615, 616, 617, 1188] (by decide +kernel)
set_option maxRecDepth 20000 in
theorem wr_w_r29 : ∀ w ∈ wsL_law_r29, w ∈ lw_tbl := wr_of [1189, 1190, 1191, 618, 619, 620, 621, 622, 623, 624, 625, 626, 1192, 1193, 1194, 1195, 1196, 1198, 56, 1199, 627, 628, 629, 630] (by decide +kernel)
set_option maxRecDepth 20000 in
theorem wr_w_r30 : ∀ w ∈ wsL_law_r30, w ∈ lw_tbl := wr_of [1200, 1201, 1202, 1203, 631, 632, 633, 634, 1204, 1205, 1206, 1207, 635, 636, 637, 638, 1208, 1209, 1210, 1211, 639, 640, 641, 642] (by decide +kernel)
set_option maxRecDepth 20000 in
theorem wr_w_r31 : ∀ w ∈ wsL_law_r31, w ∈ lw_tbl := wr_of [1212, 1213, 1214, 1215, 664, 665, 666, 667, 668, 669, 670, 671, 672, 673, 674, 675, 676, 677, 678, 679, 1216, 1217, 1218, 1219] (by decide +kernel)
set_option maxRecDepth 20000 in
theorem wr_w_r32 : ∀ w ∈ wsL_law_r32, w ∈ lw_tbl := wr_of [1220, 1222, 57, 1223, 685, 686, 687, 688, 689, 690, 691, 692, 693, 694, 696, 697, 698, 1224, 1225, 1226, 1227, 1228, 1230, 58] (by decide +kernel)
set_option maxRecDepth 20000 in
theorem wr_w_r33 : ∀ w ∈ wsL_law_r33, w ∈ lw_tbl := wr_of [1231, 1232, 699, 700, 701, 702, 1233, 1234, 1235, 1236, 703, 704, 705, 706, 707, 1237, 1238, 1239, 1240, 753, 754, 755, 756, 757] (by decide +kernel)
set_option maxRecDepth 20000 in
theorem wr_w_r34 : ∀ w ∈ wsL_law_r34, w ∈ lw_tbl := wr_of [759, 21, 760, 766, 761, 762, 763, 764, 765, 767, 768, 769, 770, 771, 772, 774, 22, 775, 1241, 1242, 1243, 1244, 926, 1245] (by decide +kernel)
set_option maxRecDepth 20000 in
theorem wr_w_r35 : ∀ w ∈ wsL_law_r35, w ∈ lw_tbl := wr_of [1247, 59, 1248, 717, 718, 719, 720, 721, 722, 723, 724, 726, 18, 727, 728, 716, 729, 730, 731, 1249, 1250, 1251, 1252, 1253] (by decide +kernel)
set_option maxRecDepth 20000 in
theorem wr_w_r36 : ∀ w ∈ wsL_law_r36, w ∈ lw_tbl := wr_of [1255, 60, 1256, 1257, 1258, 1260, 61, 1261, 1262, 732, 733, 734, 735, 736, 738, 19, 739, 1263, 1264, 1265, 1266, 776, 777, 778] (by decide +kernel)
set_option maxRecDepth 20000 in
theorem wr_w_r37 : ∀ w ∈ wsL_law_r37, w ∈ lw_tbl := wr_of [779, 780, 782, 23, 783, 1267, 1268, 1269, 1270, 1271, 1273, 62, 1274, 788, 789, 790, 791, 792, 794, 24, 795, 435, 436, 437] (by decide +kernel)
set_option maxRecDepth 20000 in
theorem wr_w_r38 : ∀ w ∈ wsL_law_r38, w ∈ lw_tbl := wr_of [438, 439, 1279, 1280, 1281, 1282, 1283, 1285, 63, 1286, 796, 797, 798, 799, 1287, 1288, 1289, 1290, 800, 801, 802, 803, 1291, 1292] (by decide +kernel)
set_option maxRecDepth 20000 in
theorem wr_w_r39 : ∀ w ∈ wsL_law_r39, w ∈ lw_tbl := wr_of [1293, 1294, 643, 644, 645, 646, 647, 648, 649, 650, 1295, 1296, 1297, 1298, 1299, 1301, 64, 1302, 651, 652, 653, 654, 1303, 1304] (by decide +kernel)
set_option maxRecDepth 20000 in
theorem wr_w_r40 : ∀ w ∈ wsL_law_r40, w ∈ lw_tbl := wr_of [1305, 1306, 655, 656, 657, 658, 1307, 1308, 1309, 1310, 659, 660, 661, 662, 663, 1311, 1312, 1313, 1314, 804, 805, 806, 807, 1315] (by decide +kernel)
set_option maxRecDepth 20000 in
theorem wr_w_r41 : ∀ w ∈ wsL_law_r41, w ∈ lw_tbl := wr_of [1316, 1317, 1318, 784, 785, 786, 787, 1275, 1276, 1277, 1278, 680, 681, 682, 683, 684, 1319, 1320, 1321, 1322, 431, 432, 433, 434] (by decide +kernel)
set_option maxRecDepth 20000 in
theorem wr_w_r42 : ∀ w ∈ wsL_law_r42, w ∈ lw_tbl := wr_of [440, 442, 6, 443, 1323, 1324, 1325, 1326, 708, 709, 710, 711, 1327, 1328, 1329, 1330, 712, 713, 714, 715, 1331, 1332, 1333, 1334] (by decide +kernel)
set_option maxRecDepth 20000 in
theorem wr_w_r43 : ∀ w ∈ wsL_law_r43, w ∈ lw_tbl := wr_of [740, 741, 742, 743, 1335, 1336, 1337, 1338, 744, 745, 746, 747, 748, 750, 20, 751, 752, 1339, 1340, 1341, 1342, 1343, 1344, 808] (by decide +kernel)
set_option maxRecDepth 20000 in
theorem wr_w_r44 : ∀ w ∈ wsL_law_r44, w ∈ lw_tbl := wr_of [809, 810, 811, 1345, 1346, 1347, 1348, 812, 813, 814, 815, 816, 818, 25, 819, 820, 822, 26, 823, 1349, 1350, 1351, 1352, 824] (by decide +kernel)
set_option maxRecDepth 20000 in
theorem wr_w_r45 : ∀ w ∈ wsL_law_r45, w ∈ lw_tbl := wr_of [825, 826, 827, 828, 830, 27, 831, 832, 834, 28, 835, 836, 837, 838, 839, 1353, 1354, 1355, 1356, 840, 841, 842, 843, 844] (by decide +kernel)
set_option maxRecDepth 20000 in
theorem wr_w_r46 : ∀ w ∈ wsL_law_r46, w ∈ lw_tbl := wr_of [846, 29, 847, 848, 850, 30, 851, 852, 853, 854, 855, 1357, 1358, 1359, 1360, 1361, 1363, 65, 1364, 1365, 1367, 66, 1368, 856] (by decide +kernel)
set_option maxRecDepth 20000 in
theorem wr_w_r47 : ∀ w ∈ wsL_law_r47, w ∈ lw_tbl := wr_of [857, 858, 859, 1369, 1370, 1371, 1372, 860, 861, 862, 863, 864, 865, 866, 867, 868, 870, 31, 871, 872, 874, 32, 875, 876] (by decide +kernel)
set_option maxRecDepth 20000 in
theorem wr_w_r48 : ∀ w ∈ wsL_law_r48, w ∈ lw_tbl := wr_of [877, 878, 1373, 1374, 1375, 1376, 1377, 1379, 67, 1380, 1381, 879, 880, 881, 882, 129, 1382, 1383, 1384, 1385, 1386, 427, 428, 429] (by decide +kernel)
set_option maxRecDepth 20000 in
theorem wr_w_r49 : ∀ w ∈ wsL_law_r49, w ∈ lw_tbl := wr_of [430, 1387, 1388, 1389, 1390, 444, 445, 446, 447, 123, 1391, 1392, 1393, 1394, 448, 449, 450, 451, 201, 1395, 1396, 1397, 1398, 923] (by decide +kernel)
set_option maxRecDepth 20000 in
theorem wr_w_r50 : ∀ w ∈ wsL_law_r50, w ∈ lw_tbl := wr_of [457, 458, 459, 460, 1399, 1400, 1401, 1402, 883, 884, 885, 886, 125, 127, 887, 889, 33, 890, 1403, 1404, 1405, 1406] (by decide +kernel)
set_option maxRecDepth 20000 in
theorem inX0 : ∀ w ∈ wsX00, w ∈ lw_tbl := by decide +kernel
set_option maxRecDepth 20000 in
theorem inX1 : ∀ w ∈ wsX10, w ∈ lw_tbl := by decide +kernel
set_option maxRecDepth 20000 in
theorem inX2 : ∀ w ∈ wsX20, w ∈ lw_tbl := by decide +kernel
set_option maxRecDepth 20000 in
theorem inX3 : ∀ w ∈ wsX30, w ∈ lw_tbl := by decide +kernel
set_option maxRecDepth 20000 in
theorem inX4 : ∀ w ∈ wsX40, w ∈ lw_tbl := by decide +kernel
theorem wsL_law_in : ∀ w ∈ wsL_law, w ∈ lw_tbl := (List.forall_mem_append.mpr ⟨(List.forall_mem_append.mpr ⟨(List.forall_mem_append.mpr ⟨(List.forall_mem_append.mpr ⟨(List.forall_mem_append.mpr ⟨(List.forall_mem_append.mpr ⟨(List.forall_mem_append.mpr ⟨wr_w_r1, (List.forall_mem_append.mpr ⟨wr_w_r2, (List.forall_mem_append.mpr ⟨wr_w_r3, (List.forall_mem_append.mpr ⟨wr_w_r4, (List.forall_mem_append.mpr ⟨wr_w_r5, (List.forall_mem_append.mpr ⟨wr_w_r6, (List.forall_mem_append.mpr ⟨wr_w_r7, (List.forall_mem_append.mpr ⟨wr_w_r8, (List.forall_mem_append.mpr ⟨wr_w_r9, (List.forall_mem_append.mpr ⟨wr_w_r10, (List.forall_mem_append.mpr ⟨wr_w_r11, (List.forall_mem_append.mpr ⟨wr_w_r12, (List.forall_mem_append.mpr ⟨wr_w_r13, (List.forall_mem_append.mpr ⟨wr_w_r14, (List.forall_mem_append.mpr ⟨wr_w_r15, (List.forall_mem_append.mpr ⟨wr_w_r16, (List.forall_mem_append.mpr ⟨wr_w_r17, (List.forall_mem_append.mpr ⟨wr_w_r18, (List.forall_mem_append.mpr ⟨wr_w_r19, (List.forall_mem_append.mpr ⟨wr_w_r20, (List.forall_mem_append.mpr ⟨wr_w_r21, (List.forall_mem_append.mpr ⟨wr_w_r22, (List.forall_mem_append.mpr ⟨wr_w_r23, (List.forall_mem_append.mpr ⟨wr_w_r24, (List.forall_mem_append.mpr ⟨wr_w_r25, (List.forall_mem_append.mpr ⟨wr_w_r26, (List.forall_mem_append.mpr ⟨wr_w_r27, (List.forall_mem_append.mpr ⟨wr_w_r28, (List.forall_mem_append.mpr ⟨wr_w_r29, (List.forall_mem_append.mpr ⟨wr_w_r30, (List.forall_mem_append.mpr ⟨wr_w_r31, (List.forall_mem_append.mpr ⟨wr_w_r32, (List.forall_mem_append.mpr ⟨wr_w_r33, (List.forall_mem_append.mpr ⟨wr_w_r34, (List.forall_mem_append.mpr ⟨wr_w_r35, (List.forall_mem_append.mpr ⟨wr_w_r36, (List.forall_mem_append.mpr ⟨wr_w_r37, (List.forall_mem_append.mpr ⟨wr_w_r38, (List.forall_mem_append.mpr ⟨wr_w_r39, (List.forall_mem_append.mpr ⟨wr_w_r40, (List.forall_mem_append.mpr ⟨wr_w_r41, (List.forall_mem_append.mpr ⟨wr_w_r42, (List.forall_mem_append.mpr ⟨wr_w_r43, (List.forall_mem_append.mpr ⟨wr_w_r44, (List.forall_mem_append.mpr ⟨wr_w_r45, (List.forall_mem_append.mpr ⟨wr_w_r46, (List.forall_mem_append.mpr ⟨wr_w_r47, (List.forall_mem_append.mpr ⟨wr_w_r48, (List.forall_mem_append.mpr ⟨wr_w_r49, wr_w_r50⟩)⟩)⟩)⟩)⟩)⟩)⟩)⟩)⟩)⟩)⟩)⟩)⟩)⟩)⟩)⟩)⟩)⟩)⟩)⟩)⟩)⟩)⟩)⟩)⟩)⟩)⟩)⟩)⟩)⟩)⟩)⟩)⟩)⟩)⟩)⟩)⟩)⟩)⟩)⟩)⟩)⟩)⟩)⟩)⟩)⟩)⟩)⟩)⟩), inX3⟩), inX4⟩), inX0⟩), inX2⟩), inX1⟩), (fun _ h => absurd h List.not_mem_nil)⟩)
