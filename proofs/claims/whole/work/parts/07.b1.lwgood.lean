/-! LAW: callees 1 -/
set_option maxRecDepth 20000 in
theorem gL_law_X4_says : GoodIn wsL_law (wsV RL 48 RX4 yX4_says wsX4_says) := goodIn_app (goodIn_of _ (by decide +kernel)) ggL_law_X4_says
set_option maxRecDepth 20000 in
theorem ggL_law_X3_term : GoodIn wsL_law wsX3_term := goodIn_r _ [362, 16, 363, 90, 91, 2, 92, 93, 94, 95, 96, 26, 364, 40, 41, 15, 42, 43, 44, 34, 45, 46, 47, 48, 1198, 1199, 1200, 1201, 1202, 1203, 1204, 1205, 1233, 1234, 1235, 1236, 1237, 1238, 1239, 1240, 1241, 1242, 1243] (by decide +kernel) (by decide +kernel)
set_option maxRecDepth 20000 in
theorem gL_law_X3_term : GoodIn wsL_law (wsV RL 49 RX3 yX3_term wsX3_term) := goodIn_app (goodIn_of _ (by decide +kernel)) ggL_law_X3_term
set_option maxRecDepth 20000 in
theorem ggL_law_X4_term : GoodIn wsL_law wsX4_term := goodIn_r _ [368, 81, 106, 107, 5, 108, 109, 110, 111, 112, 70, 77, 78, 79, 80, 82, 66, 1206, 1207, 1208, 1209, 1210, 1211, 1212, 1213, 1214, 1215, 1216, 1217, 1218, 1219, 1220, 1221, 1222, 1223, 1224, 1225, 1226, 1227, 1228, 1229, 1230, 1231, 1232] (by decide +kernel) (by decide +kernel)
set_option maxRecDepth 20000 in
theorem gL_law_X4_term : GoodIn wsL_law (wsV RL 52 RX4 yX4_term wsX4_term) := goodIn_app (goodIn_of _ (by decide +kernel)) ggL_law_X4_term
set_option maxRecDepth 20000 in
theorem ggL_law_X3_person : GoodIn wsL_law wsX3_person := goodIn_r _ [372, 16, 373, 219, 220, 2, 221, 90, 91, 92, 93, 94, 95, 96, 26, 374, 375, 376, 15, 377, 196, 36, 37, 1198, 1199, 1200, 1201, 1202, 1203, 1204, 1205, 1233, 1234, 1235, 1236, 1237, 1238, 1239, 1240, 1241, 1242, 1243] (by decide +kernel) (by decide +kernel)
set_option maxRecDepth 20000 in
theorem gL_law_X3_person : GoodIn wsL_law (wsV RL 53 RX3 yX3_person wsX3_person) := goodIn_app (goodIn_of _ (by decide +kernel)) ggL_law_X3_person
set_option maxRecDepth 20000 in
theorem ggL_law_X4_person : GoodIn wsL_law wsX4_person := goodIn_r _ [381, 213, 106, 107, 5, 108, 109, 110, 111, 112, 70, 382, 383, 384, 385, 67, 68, 1206, 1207, 1208, 1209, 1210, 1211, 1212, 1213, 1214, 1215, 1216, 1217, 1218, 1219, 1220, 1221, 1222, 1223, 1224, 1225, 1226, 1227, 1228, 1229, 1230, 1231, 1232] (by decide +kernel) (by decide +kernel)
set_option maxRecDepth 20000 in
theorem gL_law_X4_person : GoodIn wsL_law (wsV RL 56 RX4 yX4_person wsX4_person) := goodIn_app (goodIn_of _ (by decide +kernel)) ggL_law_X4_person
set_option maxRecDepth 20000 in
theorem ggL_law_X3_allow : GoodIn wsL_law wsX3_allow := goodIn_r _ [389, 16, 230, 390, 391, 392, 15, 393, 43, 91, 2, 92, 93, 94, 95, 96, 26, 90, 394, 276, 277, 278, 44, 261, 262, 1198, 1199, 1200, 1201, 1202, 1203, 1204, 1205, 1233, 1234, 1235, 1236, 1237, 1238, 1239, 1240, 1241, 1242, 1243] (by decide +kernel) (by decide +kernel)
set_option maxRecDepth 20000 in
theorem gL_law_X3_allow : GoodIn wsL_law (wsV RL 57 RX3 yX3_allow wsX3_allow) := goodIn_app (goodIn_of _ (by decide +kernel)) ggL_law_X3_allow
set_option maxRecDepth 20000 in
theorem ggL_law_X4_allow : GoodIn wsL_law wsX4_allow := goodIn_r _ [398, 82, 399, 400, 401, 5, 402, 81, 106, 107, 108, 109, 110, 111, 112, 70, 314, 315, 316, 1206, 1207, 1208, 1209, 1210, 1211, 1212, 1213, 1214, 1215, 1216, 1217, 1218, 1219, 1220, 1221, 1222, 1223, 1224, 1225, 1226, 1227, 1228, 1229, 1230, 1231, 1232] (by decide +kernel) (by decide +kernel)
set_option maxRecDepth 20000 in
theorem gL_law_X4_allow : GoodIn wsL_law (wsV RL 61 RX4 yX4_allow wsX4_allow) := goodIn_app (goodIn_of _ (by decide +kernel)) ggL_law_X4_allow
set_option maxRecDepth 20000 in
theorem ggL_law_X3_weight : GoodIn wsL_law wsX3_weight := goodIn_r _ [406, 16, 407, 390, 391, 392, 15, 393, 43, 91, 2, 92, 90, 93, 94, 95, 96, 26, 1198, 1199, 1200, 1201, 1202, 1203, 1204, 1205, 1233, 1234, 1235, 1236, 1237, 1238, 1239, 1240, 1241, 1242, 1243] (by decide +kernel) (by decide +kernel)
set_option maxRecDepth 20000 in
theorem gL_law_X3_weight : GoodIn wsL_law (wsV RL 62 RX3 yX3_weight wsX3_weight) := goodIn_app (goodIn_of _ (by decide +kernel)) ggL_law_X3_weight
set_option maxRecDepth 20000 in
theorem ggL_law_X4_weight : GoodIn wsL_law wsX4_weight := goodIn_r _ [411, 66, 399, 400, 401, 5, 402, 81, 106, 107, 108, 109, 110, 111, 112, 70, 1206, 1207, 1208, 1209, 1210, 1211, 1212, 1213, 1214, 1215, 1216, 1217, 1218, 1219, 1220, 1221, 1222, 1223, 1224, 1225, 1226, 1227, 1228, 1229, 1230, 1231, 1232] (by decide +kernel) (by decide +kernel)
set_option maxRecDepth 20000 in
theorem gL_law_X4_weight : GoodIn wsL_law (wsV RL 65 RX4 yX4_weight wsX4_weight) := goodIn_app (goodIn_of _ (by decide +kernel)) ggL_law_X4_weight
set_option maxRecDepth 20000 in
theorem ggL_law_X3_say : GoodIn wsL_law wsX3_say := goodIn_r _ [415, 16, 416, 93, 94, 95, 2, 96, 26, 90, 91, 92, 1198, 1199, 1200, 1201, 1202, 1203, 1204, 1205, 1233, 1234, 1235, 1236, 1237, 1238, 1239, 1240, 1241, 1242, 1243] (by decide +kernel) (by decide +kernel)
set_option maxRecDepth 20000 in
theorem gL_law_X3_say : GoodIn wsL_law (wsV RL 66 RX3 yX3_say wsX3_say) := goodIn_app (goodIn_of _ (by decide +kernel)) ggL_law_X3_say
set_option maxRecDepth 20000 in
theorem ggL_law_X4_say : GoodIn wsL_law wsX4_say := goodIn_r _ [420, 74, 109, 110, 111, 5, 112, 70, 1206, 1207, 1208, 1209, 1210, 1211, 1212, 1213, 1214, 1215, 1216, 1217, 1218, 1219, 1220, 1221, 1222, 1223, 1224, 1225, 1226, 1227, 1228, 1229, 1230, 1231, 1232] (by decide +kernel) (by decide +kernel)
set_option maxRecDepth 20000 in
theorem gL_law_X4_say : GoodIn wsL_law (wsV RL 70 RX4 yX4_say wsX4_say) := goodIn_app (goodIn_of _ (by decide +kernel)) ggL_law_X4_say
set_option maxRecDepth 20000 in
theorem ggL_law_X3_unsay : GoodIn wsL_law wsX3_unsay := goodIn_r _ [424, 16, 416, 90, 91, 2, 92, 93, 94, 95, 96, 26, 1198, 1199, 1200, 1201, 1202, 1203, 1204, 1205, 1233, 1234, 1235, 1236, 1237, 1238, 1239, 1240, 1241, 1242, 1243] (by decide +kernel) (by decide +kernel)
set_option maxRecDepth 20000 in
theorem gL_law_X3_unsay : GoodIn wsL_law (wsV RL 71 RX3 yX3_unsay wsX3_unsay) := goodIn_app (goodIn_of _ (by decide +kernel)) ggL_law_X3_unsay
set_option maxRecDepth 20000 in
theorem ggL_law_X4_unsay : GoodIn wsL_law wsX4_unsay := goodIn_r _ [428, 74, 106, 107, 5, 108, 109, 110, 111, 112, 70, 1206, 1207, 1208, 1209, 1210, 1211, 1212, 1213, 1214, 1215, 1216, 1217, 1218, 1219, 1220, 1221, 1222, 1223, 1224, 1225, 1226, 1227, 1228, 1229, 1230, 1231, 1232] (by decide +kernel) (by decide +kernel)
set_option maxRecDepth 20000 in
theorem gL_law_X4_unsay : GoodIn wsL_law (wsV RL 74 RX4 yX4_unsay wsX4_unsay) := goodIn_app (goodIn_of _ (by decide +kernel)) ggL_law_X4_unsay
set_option maxRecDepth 20000 in
theorem ggL_law_X3_hint : GoodIn wsL_law wsX3_hint := goodIn_r _ [432, 16, 230, 433, 46, 47, 15, 48, 43, 93, 94, 95, 2, 96, 26, 90, 91, 92, 286, 287, 288, 289, 290, 291, 292, 1198, 1199, 1200, 1201, 1202, 1203, 1204, 1205, 1233, 1234, 1235, 1236, 1237, 1238, 1239, 1240, 1241, 1242, 1243] (by decide +kernel) (by decide +kernel)
set_option maxRecDepth 20000 in
theorem gL_law_X3_hint : GoodIn wsL_law (wsV RL 75 RX3 yX3_hint wsX3_hint) := goodIn_app (goodIn_of _ (by decide +kernel)) ggL_law_X3_hint
set_option maxRecDepth 20000 in
theorem ggL_law_X4_hint : GoodIn wsL_law wsX4_hint := goodIn_r _ [437, 81, 82, 106, 107, 5, 108, 109, 110, 111, 112, 70, 350, 287, 288, 289, 290, 291, 292, 1206, 1207, 1208, 1209, 1210, 1211, 1212, 1213, 1214, 1215, 1216, 1217, 1218, 1219, 1220, 1221, 1222, 1223, 1224, 1225, 1226, 1227, 1228, 1229, 1230, 1231, 1232] (by decide +kernel) (by decide +kernel)
set_option maxRecDepth 20000 in
theorem gL_law_X4_hint : GoodIn wsL_law (wsV RL 78 RX4 yX4_hint wsX4_hint) := goodIn_app (goodIn_of _ (by decide +kernel)) ggL_law_X4_hint
set_option maxRecDepth 20000 in
theorem ggL_law_X3_feed : GoodIn wsL_law wsX3_feed := goodIn_r _ [441, 22, 442, 90, 91, 2, 92, 93, 94, 95, 96, 26, 443, 444, 445, 21, 446, 447, 52, 1198, 1199, 1200, 1201, 1202, 1203, 1204, 1205, 1244, 1245, 1246, 1247, 1248] (by decide +kernel) (by decide +kernel)
set_option maxRecDepth 20000 in
theorem gL_law_X3_feed : GoodIn wsL_law (wsV RL 79 RX3 yX3_feed wsX3_feed) := goodIn_app (goodIn_of _ (by decide +kernel)) ggL_law_X3_feed
