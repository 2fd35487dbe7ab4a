set_option maxRecDepth 20000 in
theorem ggX0_init_X0_beginTerm : GoodIn wsX0_init wsX0_beginTerm := goodIn_r _ [14, 15, 16, 5, 17, 18, 19, 13, 20, 21, 22, 23, 24, 25, 26, 27, 28, 29, 30, 31] (by decide +kernel) (by decide +kernel)
set_option maxRecDepth 20000 in
theorem gX0_init_X0_beginTerm : GoodIn wsX0_init (wsV RX0 28 RX0 yX0_beginTerm wsX0_beginTerm) := goodIn_app (goodIn_of _ (by decide +kernel)) ggX0_init_X0_beginTerm
set_option maxRecDepth 20000 in
theorem ggX0_beginTerm_X0_allMornings : GoodIn wsX0_beginTerm wsX0_allMornings := goodIn_r _ [8, 1, 9, 10, 11, 12, 13, 14, 15, 16, 17, 18, 19] (by decide +kernel) (by decide +kernel)
set_option maxRecDepth 20000 in
theorem gX0_beginTerm_X0_allMornings : GoodIn wsX0_beginTerm (wsV RX0 56 RX0 yX0_allMornings wsX0_allMornings) := goodIn_app (goodIn_of _ (by decide +kernel)) ggX0_beginTerm_X0_allMornings
set_option maxRecDepth 20000 in
theorem ggX0_removeSomebody_X0_isSomebody : GoodIn wsX0_removeSomebody wsX0_isSomebody := goodIn_r _ [8, 1, 9, 10, 11, 12, 13, 14, 15, 16, 17, 18, 19, 20, 21, 22] (by decide +kernel) (by decide +kernel)
set_option maxRecDepth 20000 in
theorem gX0_removeSomebody_X0_isSomebody : GoodIn wsX0_removeSomebody (wsV RX0 60 RX0 yX0_isSomebody wsX0_isSomebody) := goodIn_app (goodIn_of _ (by decide +kernel)) ggX0_removeSomebody_X0_isSomebody
set_option maxRecDepth 20000 in
theorem ggX0_isMorning_X3_isWithin : GoodIn wsX0_isMorning wsX3_isWithin := goodIn_r _ [4] (by decide +kernel) (by decide +kernel)
set_option maxRecDepth 20000 in
theorem gX0_isMorning_X3_isWithin_n64 : GoodIn wsX0_isMorning (wsX3_isWithin) := ggX0_isMorning_X3_isWithin
set_option maxRecDepth 20000 in
theorem ggX0_isSomebody_X3_isWithin : GoodIn wsX0_isSomebody wsX3_isWithin := goodIn_r _ [4] (by decide +kernel) (by decide +kernel)
set_option maxRecDepth 20000 in
theorem gX0_isSomebody_X3_isWithin_n64 : GoodIn wsX0_isSomebody (wsX3_isWithin) := ggX0_isSomebody_X3_isWithin
set_option maxRecDepth 20000 in
theorem ggX0_isAllowed_X3_isIn : GoodIn wsX0_isAllowed wsX3_isIn := goodIn_r _ [4] (by decide +kernel) (by decide +kernel)
set_option maxRecDepth 20000 in
theorem gX0_isAllowed_X3_isIn_n68 : GoodIn wsX0_isAllowed (wsX3_isIn) := ggX0_isAllowed_X3_isIn
set_option maxRecDepth 20000 in
theorem ggX0_lotsOf_X0_isAllowed : GoodIn wsX0_lotsOf wsX0_isAllowed := goodIn_r _ [6, 7, 8, 9, 10, 11, 12, 13, 14, 15, 16, 17, 18, 19, 20, 21] (by decide +kernel) (by decide +kernel)
set_option maxRecDepth 20000 in
theorem gX0_lotsOf_X0_isAllowed : GoodIn wsX0_lotsOf (wsV RX0 72 RX0 yX0_isAllowed wsX0_isAllowed) := goodIn_app (goodIn_of _ (by decide +kernel)) ggX0_lotsOf_X0_isAllowed
set_option maxRecDepth 20000 in
theorem ggX0_weightsOf_X3_isIn : GoodIn wsX0_weightsOf wsX3_isIn := goodIn_r _ [5] (by decide +kernel) (by decide +kernel)
set_option maxRecDepth 20000 in
theorem gX0_weightsOf_X3_isIn_n68 : GoodIn wsX0_weightsOf (wsX3_isIn) := ggX0_weightsOf_X3_isIn
set_option maxRecDepth 20000 in
theorem ggX0_oddsOn_X0_lotsOf : GoodIn wsX0_oddsOn wsX0_lotsOf := goodIn_r _ [5, 6, 7, 8, 9, 4, 10, 11, 12, 13, 14, 27, 28, 29, 30, 31, 32, 33, 34, 35, 36, 37] (by decide +kernel) (by decide +kernel)
set_option maxRecDepth 20000 in
theorem gX0_oddsOn_X0_lotsOf : GoodIn wsX0_oddsOn (wsV RX0 75 RX0 yX0_lotsOf wsX0_lotsOf) := goodIn_app (goodIn_of _ (by decide +kernel)) ggX0_oddsOn_X0_lotsOf
set_option maxRecDepth 20000 in
theorem ggX0_oddsOn_X0_stillOn : GoodIn wsX0_oddsOn wsX0_stillOn := goodIn_r _ [18, 11, 27, 28, 29, 30, 31, 32, 33, 34, 35, 36, 37] (by decide +kernel) (by decide +kernel)
set_option maxRecDepth 20000 in
theorem gX0_oddsOn_X0_stillOn : GoodIn wsX0_oddsOn (wsV RX0 79 RX0 yX0_stillOn wsX0_stillOn) := goodIn_app (goodIn_of _ (by decide +kernel)) ggX0_oddsOn_X0_stillOn
set_option maxRecDepth 20000 in
theorem ggX0_oddsOn_X0_weightsOf : GoodIn wsX0_oddsOn wsX0_weightsOf := goodIn_r _ [22, 23, 6, 12, 13, 14, 27, 28, 29, 30, 31, 32, 33, 34, 35, 36, 37] (by decide +kernel) (by decide +kernel)
set_option maxRecDepth 20000 in
theorem gX0_oddsOn_X0_weightsOf : GoodIn wsX0_oddsOn (wsV RX0 82 RX0 yX0_weightsOf wsX0_weightsOf) := goodIn_app (goodIn_of _ (by decide +kernel)) ggX0_oddsOn_X0_weightsOf
set_option maxRecDepth 20000 in
theorem ggX0_oddsOn_X3_shareOf : GoodIn wsX0_oddsOn wsX3_shareOf := goodIn_r _ [25, 26] (by decide +kernel) (by decide +kernel)
set_option maxRecDepth 20000 in
theorem gX0_oddsOn_X3_shareOf_n85 : GoodIn wsX0_oddsOn (wsX3_shareOf) := ggX0_oddsOn_X3_shareOf
set_option maxRecDepth 20000 in
theorem ggX0_depthOf_X0_ownDepthOf : GoodIn wsX0_depthOf wsX0_ownDepthOf := goodIn_r _ [15, 16, 7, 8, 9, 5, 10, 1, 17, 18, 19, 20, 21, 22, 23, 24, 25, 26, 27] (by decide +kernel) (by decide +kernel)
set_option maxRecDepth 20000 in
theorem gX0_depthOf_X0_ownDepthOf : GoodIn wsX0_depthOf (wsV RX0 89 RX0 yX0_ownDepthOf wsX0_ownDepthOf) := goodIn_app (goodIn_of _ (by decide +kernel)) ggX0_depthOf_X0_ownDepthOf
set_option maxRecDepth 20000 in
theorem ggX0_canThink_X0_depthOf : GoodIn wsX0_canThink wsX0_depthOf := goodIn_r _ [5, 6, 7, 8, 9, 10, 11, 12, 13, 14, 15, 16, 17, 18, 4, 19, 20, 32, 33, 34, 35, 36, 37, 38, 39, 40, 41, 42] (by decide +kernel) (by decide +kernel)
set_option maxRecDepth 20000 in
theorem gX0_canThink_X0_depthOf : GoodIn wsX0_canThink (wsV RX0 100 RX0 yX0_depthOf wsX0_depthOf) := goodIn_app (goodIn_of _ (by decide +kernel)) ggX0_canThink_X0_depthOf
set_option maxRecDepth 20000 in
theorem ggX0_canThink_X0_allowedWithoutLast : GoodIn wsX0_canThink wsX0_allowedWithoutLast := goodIn_r _ [24, 25, 26, 27, 28, 29, 30, 31, 32, 33, 34, 35, 36, 37, 38, 39, 40, 41, 42] (by decide +kernel) (by decide +kernel)
set_option maxRecDepth 20000 in
theorem gX0_canThink_X0_allowedWithoutLast : GoodIn wsX0_canThink (wsV RX0 103 RX0 yX0_allowedWithoutLast wsX0_allowedWithoutLast) := goodIn_app (goodIn_of _ (by decide +kernel)) ggX0_canThink_X0_allowedWithoutLast
set_option maxRecDepth 20000 in
theorem ggX0_allowedWithoutLast_X3_lastOf : GoodIn wsX0_allowedWithoutLast wsX3_lastOf := goodIn_r _ [4, 5, 6, 3, 7] (by decide +kernel) (by decide +kernel)
set_option maxRecDepth 20000 in
theorem gX0_allowedWithoutLast_X3_lastOf_n106 : GoodIn wsX0_allowedWithoutLast (wsX3_lastOf) := ggX0_allowedWithoutLast_X3_lastOf
set_option maxRecDepth 20000 in
theorem ggX0_sleepsOn_X3_isOfKind : GoodIn wsX0_sleepsOn wsX3_isOfKind := goodIn_r _ [5, 6] (by decide +kernel) (by decide +kernel)
set_option maxRecDepth 20000 in
theorem gX0_sleepsOn_X3_isOfKind_n109 : GoodIn wsX0_sleepsOn (wsX3_isOfKind) := ggX0_sleepsOn_X3_isOfKind
set_option maxRecDepth 20000 in
theorem ggX0_morningsAsleep_X0_sleepsOn : GoodIn wsX0_morningsAsleep wsX0_sleepsOn := goodIn_r _ [6, 7, 8, 9, 10, 11, 12, 13, 14, 15, 16, 17, 18, 19, 20, 21, 22, 23] (by decide +kernel) (by decide +kernel)
set_option maxRecDepth 20000 in
theorem gX0_morningsAsleep_X0_sleepsOn : GoodIn wsX0_morningsAsleep (wsV RX0 112 RX0 yX0_sleepsOn wsX0_sleepsOn) := goodIn_app (goodIn_of _ (by decide +kernel)) ggX0_morningsAsleep_X0_sleepsOn
set_option maxRecDepth 20000 in
theorem ggX0_expectedBy_X0_reasonedBy : GoodIn wsX0_expectedBy wsX0_reasonedBy := goodIn_r _ [5, 6, 7, 8, 9, 4, 10, 11, 12, 13, 14, 15, 16, 17, 18, 19, 20, 21, 22, 23, 24, 25, 26, 27, 28, 29, 30, 31, 32, 33, 34, 35, 36, 37, 38, 39, 40, 41, 42, 57, 58, 59, 60, 61, 62, 63, 64, 65, 66, 67] (by decide +kernel) (by decide +kernel)
set_option maxRecDepth 20000 in
theorem gX0_expectedBy_X0_reasonedBy : GoodIn wsX0_expectedBy (wsV RX0 115 RX0 yX0_reasonedBy wsX0_reasonedBy) := goodIn_app (goodIn_of _ (by decide +kernel)) ggX0_expectedBy_X0_reasonedBy
set_option maxRecDepth 20000 in
theorem ggX0_expectedBy_X0_betBy : GoodIn wsX0_expectedBy wsX0_betBy := goodIn_r _ [46, 6, 47, 24, 40, 31, 41, 42, 48, 49, 50, 4, 51, 52, 53, 54, 55, 56, 29, 34, 35, 57, 58, 59, 60, 61, 62, 63, 64, 65, 66, 67] (by decide +kernel) (by decide +kernel)
set_option maxRecDepth 20000 in
theorem gX0_expectedBy_X0_betBy : GoodIn wsX0_expectedBy (wsV RX0 118 RX0 yX0_betBy wsX0_betBy) := goodIn_app (goodIn_of _ (by decide +kernel)) ggX0_expectedBy_X0_betBy
set_option maxRecDepth 20000 in
theorem ggX0_reasonedBy_X0_depthOf : GoodIn wsX0_reasonedBy wsX0_depthOf := goodIn_r _ [6, 1, 7, 8, 9, 10, 11, 12, 13, 14, 15, 16, 17, 18, 5, 19, 20, 39, 40, 41, 42, 43, 44, 45, 46, 47, 48, 49] (by decide +kernel) (by decide +kernel)
set_option maxRecDepth 20000 in
theorem gX0_reasonedBy_X0_depthOf : GoodIn wsX0_reasonedBy (wsV RX0 100 RX0 yX0_depthOf wsX0_depthOf) := goodIn_app (goodIn_of _ (by decide +kernel)) ggX0_reasonedBy_X0_depthOf
set_option maxRecDepth 20000 in
theorem ggX0_reasonedBy_X0_allowedWithoutLast : GoodIn wsX0_reasonedBy wsX0_allowedWithoutLast := goodIn_r _ [24, 25, 26, 27, 28, 29, 30, 31, 39, 40, 41, 42, 43, 44, 45, 46, 47, 48, 49] (by decide +kernel) (by decide +kernel)
set_option maxRecDepth 20000 in
theorem gX0_reasonedBy_X0_allowedWithoutLast : GoodIn wsX0_reasonedBy (wsV RX0 103 RX0 yX0_allowedWithoutLast wsX0_allowedWithoutLast) := goodIn_app (goodIn_of _ (by decide +kernel)) ggX0_reasonedBy_X0_allowedWithoutLast
set_option maxRecDepth 20000 in
theorem ggX0_reasonedBy_X3_lastOf : GoodIn wsX0_reasonedBy wsX3_lastOf := goodIn_r _ [28, 29, 30, 27, 31] (by decide +kernel) (by decide +kernel)
set_option maxRecDepth 20000 in
theorem gX0_reasonedBy_X3_lastOf_n106 : GoodIn wsX0_reasonedBy (wsX3_lastOf) := ggX0_reasonedBy_X3_lastOf
set_option maxRecDepth 20000 in
theorem ggX0_reasonedBy_X0_sleepsOn : GoodIn wsX0_reasonedBy wsX0_sleepsOn := goodIn_r _ [35, 1, 20, 36, 27, 37, 38, 39, 40, 41, 42, 43, 44, 45, 46, 47, 48, 49] (by decide +kernel) (by decide +kernel)
set_option maxRecDepth 20000 in
theorem gX0_reasonedBy_X0_sleepsOn : GoodIn wsX0_reasonedBy (wsV RX0 112 RX0 yX0_sleepsOn wsX0_sleepsOn) := goodIn_app (goodIn_of _ (by decide +kernel)) ggX0_reasonedBy_X0_sleepsOn
set_option maxRecDepth 20000 in
theorem ggX0_betBy_X3_isOfKind : GoodIn wsX0_betBy wsX3_isOfKind := goodIn_r _ [6, 7] (by decide +kernel) (by decide +kernel)
set_option maxRecDepth 20000 in
theorem gX0_betBy_X3_isOfKind_n109 : GoodIn wsX0_betBy (wsX3_isOfKind) := ggX0_betBy_X3_isOfKind
set_option maxRecDepth 20000 in
theorem ggX0_betBy_X0_lotsOf : GoodIn wsX0_betBy wsX0_lotsOf := goodIn_r _ [12, 13, 14, 15, 16, 11, 17, 18, 19, 5, 20, 21, 22, 23, 24, 25, 26, 27, 28, 29, 30, 31] (by decide +kernel) (by decide +kernel)
set_option maxRecDepth 20000 in
theorem gX0_betBy_X0_lotsOf : GoodIn wsX0_betBy (wsV RX0 75 RX0 yX0_lotsOf wsX0_lotsOf) := goodIn_app (goodIn_of _ (by decide +kernel)) ggX0_betBy_X0_lotsOf
set_option maxRecDepth 20000 in
theorem ggX0_reasonedByAll_X0_reasonedBy : GoodIn wsX0_reasonedByAll wsX0_reasonedBy := goodIn_r _ [6, 7, 8, 9, 10, 5, 11, 1, 12, 13, 14, 15, 16, 17, 18, 19, 20, 21, 22, 23, 24, 25, 26, 27, 28, 29, 30, 31, 32, 33, 34, 35, 36, 37, 38, 39, 40, 41, 42, 43, 44, 45, 46, 47, 48, 49, 50, 51, 52, 53] (by decide +kernel) (by decide +kernel)
set_option maxRecDepth 20000 in
theorem gX0_reasonedByAll_X0_reasonedBy : GoodIn wsX0_reasonedByAll (wsV RX0 115 RX0 yX0_reasonedBy wsX0_reasonedBy) := goodIn_app (goodIn_of _ (by decide +kernel)) ggX0_reasonedByAll_X0_reasonedBy
set_option maxRecDepth 20000 in
theorem ggX0_betByAll_X0_betBy : GoodIn wsX0_betByAll wsX0_betBy := goodIn_r _ [6, 7, 8, 9, 10, 11, 12, 13, 14, 15, 16, 5, 17, 18, 19, 20, 21, 22, 23, 24, 25, 26, 27, 28, 29, 30, 31, 32, 33, 34, 35, 36] (by decide +kernel) (by decide +kernel)
set_option maxRecDepth 20000 in
theorem gX0_betByAll_X0_betBy : GoodIn wsX0_betByAll (wsV RX0 118 RX0 yX0_betBy wsX0_betBy) := goodIn_app (goodIn_of _ (by decide +kernel)) ggX0_betByAll_X0_betBy
set_option maxRecDepth 20000 in
theorem ggX0_bySurprise_X0_reasonedByAll : GoodIn wsX0_bySurprise wsX0_reasonedByAll := goodIn_r _ [6, 7, 8, 9, 10, 5, 11, 12, 13, 14, 15, 16, 17, 18, 19, 20, 21, 22, 23, 24, 25, 26, 27, 28, 29, 30, 31, 32, 33, 1, 34, 35, 36, 37, 38, 39, 40, 41, 42, 43, 44, 45, 46, 65, 66, 67, 68, 69, 70, 71, 72, 73, 74, 75] (by decide +kernel) (by decide +kernel)
set_option maxRecDepth 20000 in
theorem gX0_bySurprise_X0_reasonedByAll : GoodIn wsX0_bySurprise (wsV RX0 121 RX0 yX0_reasonedByAll wsX0_reasonedByAll) := goodIn_app (goodIn_of _ (by decide +kernel)) ggX0_bySurprise_X0_reasonedByAll
set_option maxRecDepth 20000 in
theorem ggX0_bySurprise_X0_betByAll : GoodIn wsX0_bySurprise wsX0_betByAll := goodIn_r _ [50, 7, 51, 52, 53, 5, 54, 12, 55, 29, 44, 35, 45, 46, 56, 57, 58, 59, 60, 61, 62, 63, 64, 1, 38, 39, 65, 66, 67, 68, 69, 70, 71, 72, 73, 74, 75] (by decide +kernel) (by decide +kernel)
set_option maxRecDepth 20000 in
theorem gX0_bySurprise_X0_betByAll : GoodIn wsX0_bySurprise (wsV RX0 124 RX0 yX0_betByAll wsX0_betByAll) := goodIn_app (goodIn_of _ (by decide +kernel)) ggX0_bySurprise_X0_betByAll
set_option maxRecDepth 20000 in
theorem ggX0_expectingOn_X0_expectedBy : GoodIn wsX0_expectingOn wsX0_expectedBy := goodIn_r _ [6, 7, 8, 9, 5, 10, 11, 12, 13, 14, 15, 1, 16, 17, 18, 19, 20, 21, 22, 23, 24, 25, 26, 27, 28, 29, 30, 31, 32, 33, 34, 35, 36, 37, 38, 39, 40, 41, 42, 43, 44, 45, 46, 47, 48, 49, 50, 51, 52, 53, 54, 55, 56, 57, 58, 59, 60, 61, 62, 63, 64, 65, 66, 67, 68, 69, 70, 71] (by decide +kernel) (by decide +kernel)
set_option maxRecDepth 20000 in
theorem gX0_expectingOn_X0_expectedBy : GoodIn wsX0_expectingOn (wsV RX0 127 RX0 yX0_expectedBy wsX0_expectedBy) := goodIn_app (goodIn_of _ (by decide +kernel)) ggX0_expectingOn_X0_expectedBy
set_option maxRecDepth 20000 in
theorem ggX0_expectingOn_X3_isIn : GoodIn wsX0_expectingOn wsX3_isIn := goodIn_r _ [39] (by decide +kernel) (by decide +kernel)
set_option maxRecDepth 20000 in
theorem gX0_expectingOn_X3_isIn_n68 : GoodIn wsX0_expectingOn (wsX3_isIn) := ggX0_expectingOn_X3_isIn
set_option maxRecDepth 20000 in
theorem ggX0_canForesee_X3_isOfKind : GoodIn wsX0_canForesee wsX3_isOfKind := goodIn_r _ [4, 5] (by decide +kernel) (by decide +kernel)
set_option maxRecDepth 20000 in
theorem gX0_canForesee_X3_isOfKind_n109 : GoodIn wsX0_canForesee (wsX3_isOfKind) := ggX0_canForesee_X3_isOfKind
set_option maxRecDepth 20000 in
theorem ggX0_canForesee_X0_depthOf : GoodIn wsX0_canForesee wsX0_depthOf := goodIn_r _ [10, 1, 11, 12, 13, 14, 15, 16, 17, 18, 19, 20, 21, 22, 9, 23, 24, 25, 26, 27, 28, 29, 30, 31, 32, 33, 34, 35] (by decide +kernel) (by decide +kernel)
set_option maxRecDepth 20000 in
theorem gX0_canForesee_X0_depthOf : GoodIn wsX0_canForesee (wsV RX0 100 RX0 yX0_depthOf wsX0_depthOf) := goodIn_app (goodIn_of _ (by decide +kernel)) ggX0_canForesee_X0_depthOf
set_option maxRecDepth 20000 in
theorem ggX0_putAllOnLast_X3_lastOf : GoodIn wsX0_putAllOnLast wsX3_lastOf := goodIn_r _ [5, 6, 7, 4, 8] (by decide +kernel) (by decide +kernel)
set_option maxRecDepth 20000 in
theorem gX0_putAllOnLast_X3_lastOf_n106 : GoodIn wsX0_putAllOnLast (wsX3_lastOf) := ggX0_putAllOnLast_X3_lastOf
set_option maxRecDepth 20000 in
theorem ggX0_moveToNextRow_X0_lastWeighed : GoodIn wsX0_moveToNextRow wsX0_lastWeighed := goodIn_r _ [7, 8, 2, 15, 16, 17, 18, 19, 20, 21, 22, 23, 24, 25] (by decide +kernel) (by decide +kernel)
set_option maxRecDepth 20000 in
theorem gX0_moveToNextRow_X0_lastWeighed : GoodIn wsX0_moveToNextRow (wsV RX0 130 RX0 yX0_lastWeighed wsX0_lastWeighed) := goodIn_app (goodIn_of _ (by decide +kernel)) ggX0_moveToNextRow_X0_lastWeighed
set_option maxRecDepth 20000 in
theorem ggX0_moveToNextRow_X3_lastOf : GoodIn wsX0_moveToNextRow wsX3_lastOf := goodIn_r _ [11, 12, 13, 10, 14] (by decide +kernel) (by decide +kernel)
set_option maxRecDepth 20000 in
theorem gX0_moveToNextRow_X3_lastOf_n106 : GoodIn wsX0_moveToNextRow (wsX3_lastOf) := ggX0_moveToNextRow_X3_lastOf
set_option maxRecDepth 20000 in
theorem ggX0_goThroughTerm_X0_drawMorning : GoodIn wsX0_goThroughTerm wsX0_drawMorning := goodIn_r _ [9, 10, 11, 12, 13, 14, 8, 15, 16, 17, 18, 19, 20, 21, 22, 23, 24, 25, 26, 27, 28, 29, 30, 31, 32, 33, 89, 90, 91, 92, 93, 94, 95, 96, 97, 98, 99] (by decide +kernel) (by decide +kernel)
set_option maxRecDepth 20000 in
theorem gX0_goThroughTerm_X0_drawMorning : GoodIn wsX0_goThroughTerm (wsV RX0 133 RX0 yX0_drawMorning wsX0_drawMorning) := goodIn_app (goodIn_of _ (by decide +kernel)) ggX0_goThroughTerm_X0_drawMorning
set_option maxRecDepth 20000 in
theorem ggX0_goThroughTerm_X0_expectingOn : GoodIn wsX0_goThroughTerm wsX0_expectingOn := goodIn_r _ [37, 2, 38, 39, 40, 8, 41, 42, 43, 44, 45, 46, 47, 48, 49, 50, 51, 52, 53, 54, 55, 56, 57, 58, 59, 60, 61, 62, 63, 64, 65, 66, 67, 10, 68, 18, 69, 70, 17, 19, 71, 72, 73, 74, 75, 76, 77, 78, 79, 80, 81, 11, 26, 27, 28, 29, 16, 30, 31, 32, 33, 89, 90, 91, 92, 93, 94, 95, 96, 97, 98, 99] (by decide +kernel) (by decide +kernel)
set_option maxRecDepth 20000 in
theorem gX0_goThroughTerm_X0_expectingOn : GoodIn wsX0_goThroughTerm (wsV RX0 136 RX0 yX0_expectingOn wsX0_expectingOn) := goodIn_app (goodIn_of _ (by decide +kernel)) ggX0_goThroughTerm_X0_expectingOn
set_option maxRecDepth 20000 in
theorem ggX0_goThroughTerm_J6_bitCount_0f7a4 : GoodIn wsX0_goThroughTerm wsJ6_bitCount_0f7a4 := goodIn_r _ [85, 86, 87, 88] (by decide +kernel) (by decide +kernel)
set_option maxRecDepth 20000 in
theorem gX0_goThroughTerm_J6_bitCount_0f7a4 : GoodIn wsX0_goThroughTerm (va_wsS RX0 139 yJ6_bitCount_0f7a4 wsJ6_bitCount_0f7a4) := goodIn_app (goodIn_of _ (by decide +kernel)) ggX0_goThroughTerm_J6_bitCount_0f7a4
set_option maxRecDepth 20000 in
theorem ggX0_drawMorning_X0_weightsOf : GoodIn wsX0_drawMorning wsX0_weightsOf := goodIn_r _ [7, 2, 8, 9, 10, 11, 26, 27, 28, 29, 30, 31, 32, 33, 34, 35, 36] (by decide +kernel) (by decide +kernel)
set_option maxRecDepth 20000 in
theorem gX0_drawMorning_X0_weightsOf : GoodIn wsX0_drawMorning (wsV RX0 82 RX0 yX0_weightsOf wsX0_weightsOf) := goodIn_app (goodIn_of _ (by decide +kernel)) ggX0_drawMorning_X0_weightsOf
set_option maxRecDepth 20000 in
theorem ggX0_drawMorning_X0_drawBelow : GoodIn wsX0_drawMorning wsX0_drawBelow := goodIn_r _ [15, 16, 17, 26, 27, 28, 29, 30, 31, 32, 33, 34, 35, 36] (by decide +kernel) (by decide +kernel)
set_option maxRecDepth 20000 in
theorem gX0_drawMorning_X0_drawBelow : GoodIn wsX0_drawMorning (wsV RX0 144 RX0 yX0_drawBelow wsX0_drawBelow) := goodIn_app (goodIn_of _ (by decide +kernel)) ggX0_drawMorning_X0_drawBelow
set_option maxRecDepth 20000 in
theorem ggX0_drawMorning_X0_lotsOf : GoodIn wsX0_drawMorning wsX0_lotsOf := goodIn_r _ [21, 8, 22, 23, 24, 6, 25, 1, 9, 10, 11, 26, 27, 28, 29, 30, 31, 32, 33, 34, 35, 36] (by decide +kernel) (by decide +kernel)
set_option maxRecDepth 20000 in
theorem gX0_drawMorning_X0_lotsOf : GoodIn wsX0_drawMorning (wsV RX0 75 RX0 yX0_lotsOf wsX0_lotsOf) := goodIn_app (goodIn_of _ (by decide +kernel)) ggX0_drawMorning_X0_lotsOf
set_option maxRecDepth 20000 in
theorem ggX1_holdsRow_X3_isWithin : GoodIn wsX1_holdsRow wsX3_isWithin := goodIn_r _ [4] (by decide +kernel) (by decide +kernel)
set_option maxRecDepth 20000 in
theorem gX1_holdsRow_X3_isWithin_n22 : GoodIn wsX1_holdsRow (wsX3_isWithin) := ggX1_holdsRow_X3_isWithin
set_option maxRecDepth 20000 in
theorem ggX1_hasElement_X3_isWithin : GoodIn wsX1_hasElement wsX3_isWithin := goodIn_r _ [4] (by decide +kernel) (by decide +kernel)
set_option maxRecDepth 20000 in
theorem gX1_hasElement_X3_isWithin_n22 : GoodIn wsX1_hasElement (wsX3_isWithin) := ggX1_hasElement_X3_isWithin
set_option maxRecDepth 20000 in
theorem ggX1_put_X1_hasElement : GoodIn wsX1_put wsX1_hasElement := goodIn_r _ [6, 7, 8, 9, 10, 16, 17, 18] (by decide +kernel) (by decide +kernel)
set_option maxRecDepth 20000 in
theorem gX1_put_X1_hasElement : GoodIn wsX1_put (wsV RX1 26 RX1 yX1_hasElement wsX1_hasElement) := goodIn_app (goodIn_of _ (by decide +kernel)) ggX1_put_X1_hasElement
set_option maxRecDepth 20000 in
theorem ggX1_put_X1_cutToSort : GoodIn wsX1_put wsX1_cutToSort := goodIn_r _ [14, 15, 16, 17, 18] (by decide +kernel) (by decide +kernel)
set_option maxRecDepth 20000 in
theorem gX1_put_X1_cutToSort : GoodIn wsX1_put (wsV RX1 30 RX1 yX1_cutToSort wsX1_cutToSort) := goodIn_app (goodIn_of _ (by decide +kernel)) ggX1_put_X1_cutToSort
set_option maxRecDepth 20000 in
theorem ggX2_readInto_X2_step : GoodIn wsX2_readInto wsX2_step := goodIn_r _ [7, 1, 8, 9, 10, 2, 11, 12, 6, 13, 14, 15, 16, 135, 136, 137, 138, 139] (by decide +kernel) (by decide +kernel)
set_option maxRecDepth 20000 in
theorem gX2_readInto_X2_step : GoodIn wsX2_readInto (wsV RX2 22 RX2 yX2_step wsX2_step) := goodIn_app (goodIn_of _ (by decide +kernel)) ggX2_readInto_X2_step
set_option maxRecDepth 20000 in
theorem ggX2_readInto_X2_readStatement : GoodIn wsX2_readInto wsX2_readStatement := goodIn_r _ [20, 21, 22, 23, 6, 24, 2, 1, 10, 9, 25, 26, 27, 28, 29, 30, 31, 32, 33, 34, 35, 36, 37, 38, 39, 40, 41, 42, 43, 44, 45, 46, 47, 48, 49, 50, 51, 52, 53, 54, 55, 56, 57, 58, 59, 60, 61, 62, 63, 64, 65, 66, 67, 68, 69, 70, 71, 72, 73, 74, 75, 76, 77, 3, 4, 5, 7, 8, 11, 12, 13, 14, 15, 16, 78, 79, 80, 81, 82, 83, 84, 85, 86, 87, 88, 89, 90, 91, 92, 93, 94, 95, 96, 97, 98, 99, 100, 101, 102, 103, 104, 105, 106, 107, 108, 109, 110, 111, 112, 113, 114, 115, 116, 117, 118, 119, 120, 121, 122, 123, 124, 125, 126, 127, 128, 129, 130, 131, 132, 133, 134, 135, 136, 137, 138, 139, 140, 141, 142, 143, 144, 145, 146, 147, 148, 149, 150] (by decide +kernel) (by decide +kernel)
set_option maxRecDepth 20000 in
theorem gX2_readInto_X2_readStatement : GoodIn wsX2_readInto (wsV RX2 25 RX2 yX2_readStatement wsX2_readStatement) := goodIn_app (goodIn_of _ (by decide +kernel)) ggX2_readInto_X2_readStatement
set_option maxRecDepth 20000 in
theorem ggX2_readStatement_X2_isWord : GoodIn wsX2_readStatement wsX2_isWord := goodIn_r _ [5, 6, 7, 8, 9, 10, 11, 12, 13, 14, 15, 16, 17, 18, 19, 20, 21, 22, 23, 24, 25, 26, 27, 28, 29, 30, 31, 32, 33, 34, 35, 36, 37, 38, 39, 40, 41, 42, 43, 44, 45, 46, 47, 48, 49, 50, 51, 52, 53, 54, 55, 56, 57, 58, 131, 132, 133, 134, 135] (by decide +kernel) (by decide +kernel)
set_option maxRecDepth 20000 in
theorem gX2_readStatement_X2_isWord : GoodIn wsX2_readStatement (wsV RX2 34 RX2 yX2_isWord wsX2_isWord) := goodIn_app (goodIn_of _ (by decide +kernel)) ggX2_readStatement_X2_isWord
set_option maxRecDepth 20000 in
theorem ggX2_readStatement_X2_readTerm : GoodIn wsX2_readStatement wsX2_readTerm := goodIn_r _ [62, 63, 64, 65, 4, 66, 7, 67, 9, 8, 6, 68, 69, 70, 71, 72, 73, 74, 75, 76, 77, 78, 79, 80, 81, 82, 83, 84, 85, 86, 87, 88, 89, 90, 91, 92, 93, 94, 95, 96, 131, 132, 133, 134, 135, 136, 137, 138, 139, 140, 141, 142, 143, 144, 145, 146] (by decide +kernel) (by decide +kernel)
set_option maxRecDepth 20000 in
theorem gX2_readStatement_X2_readTerm : GoodIn wsX2_readStatement (wsV RX2 38 RX2 yX2_readTerm wsX2_readTerm) := goodIn_app (goodIn_of _ (by decide +kernel)) ggX2_readStatement_X2_readTerm
set_option maxRecDepth 20000 in
theorem ggX2_readStatement_X2_readNever : GoodIn wsX2_readStatement wsX2_readNever := goodIn_r _ [100, 101, 102, 63, 64, 65, 4, 66, 7, 67, 9, 8, 6, 68, 69, 70, 71, 72, 73, 74, 75, 76, 77, 78, 79, 80, 81, 82, 83, 84, 136, 137, 138, 139, 140, 141, 142, 143, 144, 145, 146, 131, 132, 133, 134, 135] (by decide +kernel) (by decide +kernel)
set_option maxRecDepth 20000 in
theorem gX2_readStatement_X2_readNever : GoodIn wsX2_readStatement (wsV RX2 43 RX2 yX2_readNever wsX2_readNever) := goodIn_app (goodIn_of _ (by decide +kernel)) ggX2_readStatement_X2_readNever
set_option maxRecDepth 20000 in
theorem ggX2_readStatement_X2_readWeight : GoodIn wsX2_readStatement wsX2_readWeight := goodIn_r _ [106, 101, 107, 63, 64, 65, 4, 66, 7, 67, 9, 8, 6, 68, 69, 70, 71, 72, 73, 74, 75, 76, 77, 78, 79, 80, 81, 82, 83, 84, 136, 137, 138, 139, 140, 141, 142, 143, 144, 145, 146, 131, 132, 133, 134, 135] (by decide +kernel) (by decide +kernel)
set_option maxRecDepth 20000 in
theorem gX2_readStatement_X2_readWeight : GoodIn wsX2_readStatement (wsV RX2 48 RX2 yX2_readWeight wsX2_readWeight) := goodIn_app (goodIn_of _ (by decide +kernel)) ggX2_readStatement_X2_readWeight
set_option maxRecDepth 20000 in
theorem ggX2_readStatement_X2_readSaid : GoodIn wsX2_readStatement wsX2_readSaid := goodIn_r _ [111, 112, 63, 64, 65, 4, 66, 7, 67, 9, 8, 6, 68, 69, 70, 71, 72, 73, 74, 75, 76, 77, 78, 79, 80, 81, 82, 83, 84, 136, 137, 138, 139, 140, 141, 142, 143, 144, 145, 146, 131, 132, 133, 134, 135] (by decide +kernel) (by decide +kernel)
set_option maxRecDepth 20000 in
theorem gX2_readStatement_X2_readSaid : GoodIn wsX2_readStatement (wsV RX2 53 RX2 yX2_readSaid wsX2_readSaid) := goodIn_app (goodIn_of _ (by decide +kernel)) ggX2_readStatement_X2_readSaid
set_option maxRecDepth 20000 in
theorem ggX2_readStatement_X2_readPerson : GoodIn wsX2_readStatement wsX2_readPerson := goodIn_r _ [116, 117, 63, 64, 65, 4, 66, 7, 67, 9, 8, 6, 68, 69, 70, 71, 72, 73, 74, 75, 76, 77, 78, 79, 80, 81, 82, 83, 84, 118, 119, 120, 88, 121, 122, 123, 124, 136, 137, 138, 139, 140, 141, 142, 143, 144, 145, 146, 131, 132, 133, 134, 135] (by decide +kernel) (by decide +kernel)
set_option maxRecDepth 20000 in
theorem gX2_readStatement_X2_readPerson : GoodIn wsX2_readStatement (wsV RX2 58 RX2 yX2_readPerson wsX2_readPerson) := goodIn_app (goodIn_of _ (by decide +kernel)) ggX2_readStatement_X2_readPerson
set_option maxRecDepth 20000 in
theorem ggX2_readStatement_X2_readHint : GoodIn wsX2_readStatement wsX2_readHint := goodIn_r _ [128, 101, 6, 102, 63, 64, 65, 4, 66, 7, 67, 9, 8, 68, 69, 70, 71, 72, 73, 78, 79, 80, 81, 82, 83, 84, 129, 130, 136, 137, 138, 139, 140, 141, 142, 143, 144, 145, 146, 131, 132, 133, 134, 135] (by decide +kernel) (by decide +kernel)
set_option maxRecDepth 20000 in
theorem gX2_readStatement_X2_readHint : GoodIn wsX2_readStatement (wsV RX2 63 RX2 yX2_readHint wsX2_readHint) := goodIn_app (goodIn_of _ (by decide +kernel)) ggX2_readStatement_X2_readHint
set_option maxRecDepth 20000 in
theorem ggX2_readTerm_X2_step : GoodIn wsX2_readTerm wsX2_step := goodIn_r _ [5, 6, 7, 8, 9, 10, 11, 12, 4, 13, 14, 15, 16, 40, 41, 42, 43, 44] (by decide +kernel) (by decide +kernel)
set_option maxRecDepth 20000 in
theorem gX2_readTerm_X2_step : GoodIn wsX2_readTerm (wsV RX2 22 RX2 yX2_step wsX2_step) := goodIn_app (goodIn_of _ (by decide +kernel)) ggX2_readTerm_X2_step
set_option maxRecDepth 20000 in
theorem ggX2_readTerm_X2_takeNumber : GoodIn wsX2_readTerm wsX2_takeNumber := goodIn_r _ [20, 21, 22, 23, 4, 24, 10, 6, 9, 8, 25, 26, 27, 1, 2, 3, 5, 7, 11, 12, 13, 14, 15, 16, 40, 41, 42, 43, 44] (by decide +kernel) (by decide +kernel)
set_option maxRecDepth 20000 in
theorem gX2_readTerm_X2_takeNumber : GoodIn wsX2_readTerm (wsV RX2 66 RX2 yX2_takeNumber wsX2_takeNumber) := goodIn_app (goodIn_of _ (by decide +kernel)) ggX2_readTerm_X2_takeNumber
set_option maxRecDepth 20000 in
theorem ggX2_readTerm_X0_beginTerm : GoodIn wsX2_readTerm wsX0_beginTerm := goodIn_r _ [32, 33, 34, 35, 36, 37, 38, 31, 39, 45, 46, 47, 48, 49, 50, 51, 52, 53, 54, 55] (by decide +kernel) (by decide +kernel)
set_option maxRecDepth 20000 in
theorem gX2_readTerm_X0_beginTerm : GoodIn wsX2_readTerm (wsV RX2 70 RX0 yX0_beginTerm wsX0_beginTerm) := goodIn_app (goodIn_of _ (by decide +kernel)) ggX2_readTerm_X0_beginTerm
set_option maxRecDepth 20000 in
theorem ggX2_readNever_X2_step : GoodIn wsX2_readNever wsX2_step := goodIn_r _ [7, 8, 9, 10, 11, 12, 13, 14, 6, 15, 16, 17, 18, 41, 42, 43, 44, 45] (by decide +kernel) (by decide +kernel)
set_option maxRecDepth 20000 in
theorem gX2_readNever_X2_step : GoodIn wsX2_readNever (wsV RX2 22 RX2 yX2_step wsX2_step) := goodIn_app (goodIn_of _ (by decide +kernel)) ggX2_readNever_X2_step
set_option maxRecDepth 20000 in
theorem ggX2_readNever_X2_takeNumber : GoodIn wsX2_readNever wsX2_takeNumber := goodIn_r _ [22, 23, 24, 25, 6, 26, 12, 8, 11, 10, 27, 28, 29, 3, 4, 5, 7, 9, 13, 14, 15, 16, 17, 18, 41, 42, 43, 44, 45] (by decide +kernel) (by decide +kernel)
set_option maxRecDepth 20000 in
theorem gX2_readNever_X2_takeNumber : GoodIn wsX2_readNever (wsV RX2 66 RX2 yX2_takeNumber wsX2_takeNumber) := goodIn_app (goodIn_of _ (by decide +kernel)) ggX2_readNever_X2_takeNumber
set_option maxRecDepth 20000 in
theorem ggX2_readWeight_X2_step : GoodIn wsX2_readWeight wsX2_step := goodIn_r _ [7, 8, 9, 10, 11, 12, 13, 14, 6, 15, 16, 17, 18, 41, 42, 43, 44, 45] (by decide +kernel) (by decide +kernel)
set_option maxRecDepth 20000 in
theorem gX2_readWeight_X2_step : GoodIn wsX2_readWeight (wsV RX2 22 RX2 yX2_step wsX2_step) := goodIn_app (goodIn_of _ (by decide +kernel)) ggX2_readWeight_X2_step
set_option maxRecDepth 20000 in
theorem ggX2_readWeight_X2_takeNumber : GoodIn wsX2_readWeight wsX2_takeNumber := goodIn_r _ [22, 23, 24, 25, 6, 26, 12, 8, 11, 10, 27, 28, 29, 3, 4, 5, 7, 9, 13, 14, 15, 16, 17, 18, 41, 42, 43, 44, 45] (by decide +kernel) (by decide +kernel)
set_option maxRecDepth 20000 in
theorem gX2_readWeight_X2_takeNumber : GoodIn wsX2_readWeight (wsV RX2 66 RX2 yX2_takeNumber wsX2_takeNumber) := goodIn_app (goodIn_of _ (by decide +kernel)) ggX2_readWeight_X2_takeNumber
set_option maxRecDepth 20000 in
theorem ggX2_readSaid_X2_step : GoodIn wsX2_readSaid wsX2_step := goodIn_r _ [6, 7, 8, 9, 10, 11, 12, 13, 5, 14, 15, 16, 17, 40, 41, 42, 43, 44] (by decide +kernel) (by decide +kernel)
set_option maxRecDepth 20000 in
theorem gX2_readSaid_X2_step : GoodIn wsX2_readSaid (wsV RX2 22 RX2 yX2_step wsX2_step) := goodIn_app (goodIn_of _ (by decide +kernel)) ggX2_readSaid_X2_step
set_option maxRecDepth 20000 in
theorem ggX2_readSaid_X2_takeNumber : GoodIn wsX2_readSaid wsX2_takeNumber := goodIn_r _ [21, 22, 23, 24, 5, 25, 11, 7, 10, 9, 26, 27, 28, 2, 3, 4, 6, 8, 12, 13, 14, 15, 16, 17, 40, 41, 42, 43, 44] (by decide +kernel) (by decide +kernel)
set_option maxRecDepth 20000 in
theorem gX2_readSaid_X2_takeNumber : GoodIn wsX2_readSaid (wsV RX2 66 RX2 yX2_takeNumber wsX2_takeNumber) := goodIn_app (goodIn_of _ (by decide +kernel)) ggX2_readSaid_X2_takeNumber
set_option maxRecDepth 20000 in
theorem ggX2_readPerson_X2_step : GoodIn wsX2_readPerson wsX2_step := goodIn_r _ [6, 7, 8, 9, 10, 11, 12, 13, 5, 14, 15, 16, 17, 48, 49, 50, 51, 52] (by decide +kernel) (by decide +kernel)
set_option maxRecDepth 20000 in
theorem gX2_readPerson_X2_step : GoodIn wsX2_readPerson (wsV RX2 22 RX2 yX2_step wsX2_step) := goodIn_app (goodIn_of _ (by decide +kernel)) ggX2_readPerson_X2_step
set_option maxRecDepth 20000 in
theorem ggX2_readPerson_X2_takeNumber : GoodIn wsX2_readPerson wsX2_takeNumber := goodIn_r _ [21, 22, 23, 24, 5, 25, 11, 7, 10, 9, 26, 27, 28, 2, 3, 4, 6, 8, 12, 13, 14, 15, 16, 17, 48, 49, 50, 51, 52] (by decide +kernel) (by decide +kernel)
set_option maxRecDepth 20000 in
theorem gX2_readPerson_X2_takeNumber : GoodIn wsX2_readPerson (wsV RX2 66 RX2 yX2_takeNumber wsX2_takeNumber) := goodIn_app (goodIn_of _ (by decide +kernel)) ggX2_readPerson_X2_takeNumber
set_option maxRecDepth 20000 in
theorem ggX2_readPerson_X0_addSomebody : GoodIn wsX2_readPerson wsX0_addSomebody := goodIn_r _ [33, 34, 35, 36, 37, 38, 39, 40, 41, 42, 43, 44, 45, 46, 47] (by decide +kernel) (by decide +kernel)
set_option maxRecDepth 20000 in
theorem gX2_readPerson_X0_addSomebody : GoodIn wsX2_readPerson (wsV RX2 90 RX0 yX0_addSomebody wsX0_addSomebody) := goodIn_app (goodIn_of _ (by decide +kernel)) ggX2_readPerson_X0_addSomebody
set_option maxRecDepth 20000 in
theorem ggX2_readHint_X2_step : GoodIn wsX2_readHint wsX2_step := goodIn_r _ [8, 9, 10, 11, 12, 2, 13, 14, 7, 15, 16, 17, 18, 39, 40, 41, 42, 43] (by decide +kernel) (by decide +kernel)
set_option maxRecDepth 20000 in
theorem gX2_readHint_X2_step : GoodIn wsX2_readHint (wsV RX2 22 RX2 yX2_step wsX2_step) := goodIn_app (goodIn_of _ (by decide +kernel)) ggX2_readHint_X2_step
set_option maxRecDepth 20000 in
theorem ggX2_readHint_X2_numberAtHand : GoodIn wsX2_readHint wsX2_numberAtHand := goodIn_r _ [22, 2, 9, 12, 11, 23, 24, 25, 39, 40, 41, 42, 43] (by decide +kernel) (by decide +kernel)
set_option maxRecDepth 20000 in
theorem gX2_readHint_X2_numberAtHand : GoodIn wsX2_readHint (wsV RX2 94 RX2 yX2_numberAtHand wsX2_numberAtHand) := goodIn_app (goodIn_of _ (by decide +kernel)) ggX2_readHint_X2_numberAtHand
set_option maxRecDepth 20000 in
theorem ggX2_readHint_X3_isIn : GoodIn wsX2_readHint wsX3_isIn := goodIn_r _ [27] (by decide +kernel) (by decide +kernel)
set_option maxRecDepth 20000 in
theorem gX2_readHint_X3_isIn_n97 : GoodIn wsX2_readHint (wsX3_isIn) := ggX2_readHint_X3_isIn
set_option maxRecDepth 20000 in
theorem ggX2_takeNumber_X2_numberAtHand : GoodIn wsX2_takeNumber wsX2_numberAtHand := goodIn_r _ [5, 6, 7, 8, 9, 10, 11, 12, 24, 25, 26, 27, 28] (by decide +kernel) (by decide +kernel)
set_option maxRecDepth 20000 in
theorem gX2_takeNumber_X2_numberAtHand : GoodIn wsX2_takeNumber (wsV RX2 94 RX2 yX2_numberAtHand wsX2_numberAtHand) := goodIn_app (goodIn_of _ (by decide +kernel)) ggX2_takeNumber_X2_numberAtHand
set_option maxRecDepth 20000 in
theorem ggX2_takeNumber_X2_step : GoodIn wsX2_takeNumber wsX2_step := goodIn_r _ [16, 7, 17, 9, 8, 6, 18, 19, 4, 20, 21, 22, 23, 24, 25, 26, 27, 28] (by decide +kernel) (by decide +kernel)
set_option maxRecDepth 20000 in
theorem gX2_takeNumber_X2_step : GoodIn wsX2_takeNumber (wsV RX2 22 RX2 yX2_step wsX2_step) := goodIn_app (goodIn_of _ (by decide +kernel)) ggX2_takeNumber_X2_step
set_option maxRecDepth 20000 in
theorem ggX2_numberAtHand_X3_isWithin : GoodIn wsX2_numberAtHand wsX3_isWithin := goodIn_r _ [7] (by decide +kernel) (by decide +kernel)
set_option maxRecDepth 20000 in
theorem gX2_numberAtHand_X3_isWithin_n104 : GoodIn wsX2_numberAtHand (wsX3_isWithin) := ggX2_numberAtHand_X3_isWithin
set_option maxRecDepth 20000 in
theorem ggX2_isWord_J0_length_8abf5 : GoodIn wsX2_isWord wsJ0_length_8abf5 := goodIn_r _ [9, 10, 11, 12, 13, 8, 14, 15, 16] (by decide +kernel) (by decide +kernel)
set_option maxRecDepth 20000 in
theorem gX2_isWord_J0_length_8abf5 : GoodIn wsX2_isWord (wsV RX2 108 RJ0 yJ0_length_8abf5 wsJ0_length_8abf5) := goodIn_app (goodIn_of _ (by decide +kernel)) ggX2_isWord_J0_length_8abf5
set_option maxRecDepth 20000 in
theorem ggX2_isWord_J0_charAt_5068e : GoodIn wsX2_isWord wsJ0_charAt_5068e := goodIn_r _ [20, 10, 21, 22, 23, 8, 24, 15, 16, 25, 26, 27, 28, 29, 30, 31, 32, 33, 34, 35, 36, 37, 38, 39, 40, 41, 42, 43, 44, 45, 46, 47, 48, 49, 50, 51, 52, 53] (by decide +kernel) (by decide +kernel)
set_option maxRecDepth 20000 in
theorem gX2_isWord_J0_charAt_5068e : GoodIn wsX2_isWord (wsV RX2 114 RJ0 yJ0_charAt_5068e wsJ0_charAt_5068e) := goodIn_app (goodIn_of _ (by decide +kernel)) ggX2_isWord_J0_charAt_5068e
set_option maxRecDepth 20000 in
theorem ggX2_step_X2_tokenOf : GoodIn wsX2_step wsX2_tokenOf := goodIn_r _ [9] (by decide +kernel) (by decide +kernel)
set_option maxRecDepth 20000 in
theorem gX2_step_X2_tokenOf : GoodIn wsX2_step (va_wsS RX2 118 yX2_tokenOf wsX2_tokenOf) := goodIn_app (goodIn_of _ (by decide +kernel)) ggX2_step_X2_tokenOf
set_option maxRecDepth 20000 in
theorem ggX2_step_X2_isLong : GoodIn wsX2_step wsX2_isLong := goodIn_r _ [12] (by decide +kernel) (by decide +kernel)
set_option maxRecDepth 20000 in
theorem gX2_step_X2_isLong : GoodIn wsX2_step (va_wsS RX2 122 yX2_isLong wsX2_isLong) := goodIn_app (goodIn_of _ (by decide +kernel)) ggX2_step_X2_isLong
set_option maxRecDepth 20000 in
theorem ggX3_init_X0_init : GoodIn wsX3_init wsX0_init := goodIn_r _ [23, 24, 2, 3, 16, 25, 26, 27, 28, 29, 30, 31, 32, 6, 33, 34, 35, 36, 37, 38, 39, 50, 51, 52, 53, 54, 55, 56, 57, 58, 59, 60] (by decide +kernel) (by decide +kernel)
set_option maxRecDepth 20000 in
theorem gX3_init_X0_init : GoodIn wsX3_init (wsX0_init) := ggX3_init_X0_init
set_option maxRecDepth 20000 in
theorem ggX3_init_X2_init : GoodIn wsX3_init wsX2_init := goodIn_r _ [41, 42, 2, 3, 16, 43, 69, 70, 71, 72, 73] (by decide +kernel) (by decide +kernel)
set_option maxRecDepth 20000 in
theorem gX3_init_X2_init_n24 : GoodIn wsX3_init (wsX2_init) := ggX3_init_X2_init
set_option maxRecDepth 20000 in
theorem ggX3_init_X1_init : GoodIn wsX3_init wsX1_init := goodIn_r _ [45, 46, 2, 3, 47, 48, 49, 74, 75, 76] (by decide +kernel) (by decide +kernel)
set_option maxRecDepth 20000 in
theorem gX3_init_X1_init_n42 : GoodIn wsX3_init (wsX1_init) := ggX3_init_X1_init
set_option maxRecDepth 20000 in
theorem ggX3_row_X3_isShelf : GoodIn wsX3_row wsX3_isShelf := goodIn_r _ [5, 6, 7, 4, 8] (by decide +kernel) (by decide +kernel)
set_option maxRecDepth 20000 in
theorem gX3_row_X3_isShelf : GoodIn wsX3_row (va_wsS RX3 43 yX3_isShelf wsX3_isShelf) := goodIn_app (goodIn_of _ (by decide +kernel)) ggX3_row_X3_isShelf
set_option maxRecDepth 20000 in
theorem ggX3_row_X3_isWithin : GoodIn wsX3_row wsX3_isWithin := goodIn_r _ [8] (by decide +kernel) (by decide +kernel)
set_option maxRecDepth 20000 in
theorem gX3_row_X3_isWithin : GoodIn wsX3_row (va_wsS RX3 47 yX3_isWithin wsX3_isWithin) := goodIn_app (goodIn_of _ (by decide +kernel)) ggX3_row_X3_isWithin
set_option maxRecDepth 20000 in
theorem ggX3_row_X3_refuse : GoodIn wsX3_row wsX3_refuse := goodIn_r _ [12, 13, 6, 7, 4, 8, 22, 23, 24, 25, 26, 27, 28, 29] (by decide +kernel) (by decide +kernel)
set_option maxRecDepth 20000 in
theorem gX3_row_X3_refuse : GoodIn wsX3_row (wsV RX3 51 RX3 yX3_refuse wsX3_refuse) := goodIn_app (goodIn_of _ (by decide +kernel)) ggX3_row_X3_refuse
set_option maxRecDepth 20000 in
theorem ggX3_row_X1_holdRow : GoodIn wsX3_row wsX1_holdRow := goodIn_r _ [18, 19, 20, 21, 30, 31, 32] (by decide +kernel) (by decide +kernel)
set_option maxRecDepth 20000 in
theorem gX3_row_X1_holdRow : GoodIn wsX3_row (wsV RX3 55 RX1 yX1_holdRow wsX1_holdRow) := goodIn_app (goodIn_of _ (by decide +kernel)) ggX3_row_X1_holdRow
set_option maxRecDepth 20000 in
theorem ggX3_set_X3_rowRefusal : GoodIn wsX3_set wsX3_rowRefusal := goodIn_r _ [6, 1, 7, 8, 5, 9, 10, 11, 12, 13, 14, 15, 16, 17, 18, 19, 20, 21, 22, 43, 44, 45, 46, 47, 48, 49, 50, 51, 52, 53] (by decide +kernel) (by decide +kernel)
set_option maxRecDepth 20000 in
theorem gX3_set_X3_rowRefusal : GoodIn wsX3_set (wsV RX3 59 RX3 yX3_rowRefusal wsX3_rowRefusal) := goodIn_app (goodIn_of _ (by decide +kernel)) ggX3_set_X3_rowRefusal
set_option maxRecDepth 20000 in
theorem ggX3_set_X3_refuse : GoodIn wsX3_set wsX3_refuse := goodIn_r _ [26, 27, 10, 11, 5, 12, 43, 44, 45, 46, 47, 48, 49, 50] (by decide +kernel) (by decide +kernel)
set_option maxRecDepth 20000 in
theorem gX3_set_X3_refuse : GoodIn wsX3_set (wsV RX3 51 RX3 yX3_refuse wsX3_refuse) := goodIn_app (goodIn_of _ (by decide +kernel)) ggX3_set_X3_refuse
set_option maxRecDepth 20000 in
theorem ggX3_set_X1_hasElement : GoodIn wsX3_set wsX1_hasElement := goodIn_r _ [31, 32, 11, 5, 12, 51, 52, 53] (by decide +kernel) (by decide +kernel)
set_option maxRecDepth 20000 in
theorem gX3_set_X1_hasElement : GoodIn wsX3_set (wsV RX3 62 RX1 yX1_hasElement wsX1_hasElement) := goodIn_app (goodIn_of _ (by decide +kernel)) ggX3_set_X1_hasElement
set_option maxRecDepth 20000 in
theorem ggX3_set_X1_put : GoodIn wsX3_set wsX1_put := goodIn_r _ [36, 37, 38, 29, 30, 16, 31, 32, 11, 5, 12, 39, 40, 41, 42, 18, 51, 52, 53] (by decide +kernel) (by decide +kernel)
set_option maxRecDepth 20000 in
theorem gX3_set_X1_put : GoodIn wsX3_set (wsV RX3 65 RX1 yX1_put wsX1_put) := goodIn_app (goodIn_of _ (by decide +kernel)) ggX3_set_X1_put
set_option maxRecDepth 20000 in
theorem ggX3_copy_X3_isShelf : GoodIn wsX3_copy wsX3_isShelf := goodIn_r _ [11, 12, 13, 10, 14] (by decide +kernel) (by decide +kernel)
set_option maxRecDepth 20000 in
theorem gX3_copy_X3_isShelf : GoodIn wsX3_copy (va_wsS RX3 43 yX3_isShelf wsX3_isShelf) := goodIn_app (goodIn_of _ (by decide +kernel)) ggX3_copy_X3_isShelf
set_option maxRecDepth 20000 in
theorem ggX3_copy_X3_refuse : GoodIn wsX3_copy wsX3_refuse := goodIn_r _ [18, 19, 12, 13, 10, 14, 35, 36, 37, 38, 39, 40, 41, 42] (by decide +kernel) (by decide +kernel)
set_option maxRecDepth 20000 in
theorem gX3_copy_X3_refuse : GoodIn wsX3_copy (wsV RX3 51 RX3 yX3_refuse wsX3_refuse) := goodIn_app (goodIn_of _ (by decide +kernel)) ggX3_copy_X3_refuse
set_option maxRecDepth 20000 in
theorem ggX3_copy_X1_holdsSomebody : GoodIn wsX3_copy wsX1_holdsSomebody := goodIn_r _ [24, 25, 43, 44, 45] (by decide +kernel) (by decide +kernel)
set_option maxRecDepth 20000 in
theorem gX3_copy_X1_holdsSomebody : GoodIn wsX3_copy (wsV RX3 69 RX1 yX1_holdsSomebody wsX1_holdsSomebody) := goodIn_app (goodIn_of _ (by decide +kernel)) ggX3_copy_X1_holdsSomebody
set_option maxRecDepth 20000 in
theorem ggX3_copy_X1_holdsRow : GoodIn wsX3_copy wsX1_holdsRow := goodIn_r _ [29, 25, 13, 10, 14, 43, 44, 45] (by decide +kernel) (by decide +kernel)
set_option maxRecDepth 20000 in
theorem gX3_copy_X1_holdsRow : GoodIn wsX3_copy (wsV RX3 73 RX1 yX1_holdsRow wsX1_holdsRow) := goodIn_app (goodIn_of _ (by decide +kernel)) ggX3_copy_X1_holdsRow
set_option maxRecDepth 20000 in
theorem ggX3_copy_X1_hasElements : GoodIn wsX3_copy wsX1_hasElements := goodIn_r _ [33, 34, 43, 44, 45] (by decide +kernel) (by decide +kernel)
set_option maxRecDepth 20000 in
theorem gX3_copy_X1_hasElements : GoodIn wsX3_copy (wsV RX3 80 RX1 yX1_hasElements wsX1_hasElements) := goodIn_app (goodIn_of _ (by decide +kernel)) ggX3_copy_X1_hasElements
set_option maxRecDepth 20000 in
theorem ggX3_element_X3_isShelf : GoodIn wsX3_element wsX3_isShelf := goodIn_r _ [6, 7, 8, 5, 9] (by decide +kernel) (by decide +kernel)
set_option maxRecDepth 20000 in
theorem gX3_element_X3_isShelf : GoodIn wsX3_element (va_wsS RX3 43 yX3_isShelf wsX3_isShelf) := goodIn_app (goodIn_of _ (by decide +kernel)) ggX3_element_X3_isShelf
set_option maxRecDepth 20000 in
theorem ggX3_element_X1_holdsRow : GoodIn wsX3_element wsX1_holdsRow := goodIn_r _ [14, 15, 8, 5, 9, 29, 30, 31] (by decide +kernel) (by decide +kernel)
set_option maxRecDepth 20000 in
theorem gX3_element_X1_holdsRow : GoodIn wsX3_element (wsV RX3 73 RX1 yX1_holdsRow wsX1_holdsRow) := goodIn_app (goodIn_of _ (by decide +kernel)) ggX3_element_X1_holdsRow
set_option maxRecDepth 20000 in
theorem ggX3_element_X1_hasElement : GoodIn wsX3_element wsX1_hasElement := goodIn_r _ [19, 20, 8, 5, 9, 29, 30, 31] (by decide +kernel) (by decide +kernel)
set_option maxRecDepth 20000 in
theorem gX3_element_X1_hasElement : GoodIn wsX3_element (wsV RX3 62 RX1 yX1_hasElement wsX1_hasElement) := goodIn_app (goodIn_of _ (by decide +kernel)) ggX3_element_X1_hasElement
set_option maxRecDepth 20000 in
theorem ggX3_holds_X3_isShelf : GoodIn wsX3_holds wsX3_isShelf := goodIn_r _ [6, 7, 8, 5, 9] (by decide +kernel) (by decide +kernel)
set_option maxRecDepth 20000 in
theorem gX3_holds_X3_isShelf : GoodIn wsX3_holds (va_wsS RX3 43 yX3_isShelf wsX3_isShelf) := goodIn_app (goodIn_of _ (by decide +kernel)) ggX3_holds_X3_isShelf
set_option maxRecDepth 20000 in
theorem ggX3_show_X3_isShelf : GoodIn wsX3_show wsX3_isShelf := goodIn_r _ [6, 7, 8, 5, 9] (by decide +kernel) (by decide +kernel)
set_option maxRecDepth 20000 in
theorem gX3_show_X3_isShelf : GoodIn wsX3_show (va_wsS RX3 43 yX3_isShelf wsX3_isShelf) := goodIn_app (goodIn_of _ (by decide +kernel)) ggX3_show_X3_isShelf
set_option maxRecDepth 20000 in
theorem ggX3_show_X0_isSomebody : GoodIn wsX3_show wsX0_isSomebody := goodIn_r _ [14, 15, 8, 5, 9, 40, 41, 42, 43, 44, 45, 46, 47, 48, 49, 50] (by decide +kernel) (by decide +kernel)
set_option maxRecDepth 20000 in
theorem gX3_show_X0_isSomebody : GoodIn wsX3_show (wsV RX3 94 RX0 yX0_isSomebody wsX0_isSomebody) := goodIn_app (goodIn_of _ (by decide +kernel)) ggX3_show_X0_isSomebody
set_option maxRecDepth 20000 in
theorem ggX3_show_X3_refuse : GoodIn wsX3_show wsX3_refuse := goodIn_r _ [19, 20, 7, 8, 5, 9, 32, 33, 34, 35, 36, 37, 38, 39] (by decide +kernel) (by decide +kernel)
set_option maxRecDepth 20000 in
theorem gX3_show_X3_refuse : GoodIn wsX3_show (wsV RX3 51 RX3 yX3_refuse wsX3_refuse) := goodIn_app (goodIn_of _ (by decide +kernel)) ggX3_show_X3_refuse
set_option maxRecDepth 20000 in
theorem ggX3_show_X1_holdNothing : GoodIn wsX3_show wsX1_holdNothing := goodIn_r _ [25, 26, 27, 51, 52, 53] (by decide +kernel) (by decide +kernel)
set_option maxRecDepth 20000 in
theorem gX3_show_X1_holdNothing : GoodIn wsX3_show (wsV RX3 97 RX1 yX1_holdNothing wsX1_holdNothing) := goodIn_app (goodIn_of _ (by decide +kernel)) ggX3_show_X1_holdNothing
set_option maxRecDepth 20000 in
theorem ggX3_show_X1_holdSomebody : GoodIn wsX3_show wsX1_holdSomebody := goodIn_r _ [31, 26, 27, 51, 52, 53] (by decide +kernel) (by decide +kernel)
set_option maxRecDepth 20000 in
theorem gX3_show_X1_holdSomebody : GoodIn wsX3_show (wsV RX3 100 RX1 yX1_holdSomebody wsX1_holdSomebody) := goodIn_app (goodIn_of _ (by decide +kernel)) ggX3_show_X1_holdSomebody
set_option maxRecDepth 20000 in
theorem ggX3_says_X3_isShelf : GoodIn wsX3_says wsX3_isShelf := goodIn_r _ [8, 9, 10, 7, 11] (by decide +kernel) (by decide +kernel)
set_option maxRecDepth 20000 in
theorem gX3_says_X3_isShelf : GoodIn wsX3_says (va_wsS RX3 43 yX3_isShelf wsX3_isShelf) := goodIn_app (goodIn_of _ (by decide +kernel)) ggX3_says_X3_isShelf
set_option maxRecDepth 20000 in
theorem ggX3_says_X3_isKind : GoodIn wsX3_says wsX3_isKind := goodIn_r _ [14, 9, 10, 7, 11] (by decide +kernel) (by decide +kernel)
set_option maxRecDepth 20000 in
theorem gX3_says_X3_isKind : GoodIn wsX3_says (va_wsS RX3 104 yX3_isKind wsX3_isKind) := goodIn_app (goodIn_of _ (by decide +kernel)) ggX3_says_X3_isKind
set_option maxRecDepth 20000 in
theorem ggX3_says_X3_refuse : GoodIn wsX3_says wsX3_refuse := goodIn_r _ [18, 19, 9, 10, 7, 11, 115, 116, 117, 118, 119, 120, 121, 122] (by decide +kernel) (by decide +kernel)
set_option maxRecDepth 20000 in
theorem gX3_says_X3_refuse : GoodIn wsX3_says (wsV RX3 51 RX3 yX3_refuse wsX3_refuse) := goodIn_app (goodIn_of _ (by decide +kernel)) ggX3_says_X3_refuse
set_option maxRecDepth 20000 in
theorem ggX3_says_X1_holdsRow : GoodIn wsX3_says wsX1_holdsRow := goodIn_r _ [24, 25, 10, 7, 11, 123, 124, 125] (by decide +kernel) (by decide +kernel)
set_option maxRecDepth 20000 in
theorem gX3_says_X1_holdsRow : GoodIn wsX3_says (wsV RX3 73 RX1 yX1_holdsRow wsX1_holdsRow) := goodIn_app (goodIn_of _ (by decide +kernel)) ggX3_says_X1_holdsRow
set_option maxRecDepth 20000 in
theorem ggX3_says_X1_holdsSomebody : GoodIn wsX3_says wsX1_holdsSomebody := goodIn_r _ [29, 25, 123, 124, 125] (by decide +kernel) (by decide +kernel)
set_option maxRecDepth 20000 in
theorem gX3_says_X1_holdsSomebody : GoodIn wsX3_says (wsV RX3 69 RX1 yX1_holdsSomebody wsX1_holdsSomebody) := goodIn_app (goodIn_of _ (by decide +kernel)) ggX3_says_X1_holdsSomebody
set_option maxRecDepth 20000 in
theorem ggX3_says_X0_isSomebody : GoodIn wsX3_says wsX0_isSomebody := goodIn_r _ [34, 35, 10, 7, 11, 126, 127, 128, 129, 130, 131, 132, 133, 134, 135, 136] (by decide +kernel) (by decide +kernel)
set_option maxRecDepth 20000 in
theorem gX3_says_X0_isSomebody : GoodIn wsX3_says (wsV RX3 94 RX0 yX0_isSomebody wsX0_isSomebody) := goodIn_app (goodIn_of _ (by decide +kernel)) ggX3_says_X0_isSomebody
set_option maxRecDepth 20000 in
theorem ggX3_says_X3_isOfKind : GoodIn wsX3_says wsX3_isOfKind := goodIn_r _ [38, 39] (by decide +kernel) (by decide +kernel)
set_option maxRecDepth 20000 in
theorem gX3_says_X3_isOfKind : GoodIn wsX3_says (va_wsS RX3 110 yX3_isOfKind wsX3_isOfKind) := goodIn_app (goodIn_of _ (by decide +kernel)) ggX3_says_X3_isOfKind
set_option maxRecDepth 20000 in
theorem ggX3_says_X3_saidAs : GoodIn wsX3_says wsX3_saidAs := goodIn_r _ [43, 3, 44, 45, 46, 47, 33, 48, 49, 50, 51, 52, 53, 54, 55, 56, 57, 35, 58, 59, 60, 61, 62, 63, 64, 65, 66, 67, 68, 69, 70, 71, 72, 73, 74, 75, 76, 7, 77, 78, 79, 80, 81, 82, 83, 84, 37, 38, 39, 85, 86, 87, 88, 89, 90, 91, 92, 93, 94, 95, 96, 97, 98, 99, 100, 101, 102, 103, 104, 105, 106, 107, 108, 109, 110, 111, 112, 113, 114, 115, 116, 117, 118, 119, 120, 121, 122, 126, 127, 128, 129, 130, 131, 132, 133, 134, 135, 136] (by decide +kernel) (by decide +kernel)
set_option maxRecDepth 20000 in
theorem gX3_says_X3_saidAs : GoodIn wsX3_says (wsV RX3 113 RX3 yX3_saidAs wsX3_saidAs) := goodIn_app (goodIn_of _ (by decide +kernel)) ggX3_says_X3_saidAs
set_option maxRecDepth 20000 in
theorem ggX3_term_X3_isWithin : GoodIn wsX3_term wsX3_isWithin := goodIn_r _ [6] (by decide +kernel) (by decide +kernel)
set_option maxRecDepth 20000 in
theorem gX3_term_X3_isWithin : GoodIn wsX3_term (va_wsS RX3 47 yX3_isWithin wsX3_isWithin) := goodIn_app (goodIn_of _ (by decide +kernel)) ggX3_term_X3_isWithin
set_option maxRecDepth 20000 in
theorem ggX3_term_X3_refuse : GoodIn wsX3_term wsX3_refuse := goodIn_r _ [10, 11, 3, 4, 5, 6, 24, 25, 26, 27, 28, 29, 30, 31] (by decide +kernel) (by decide +kernel)
set_option maxRecDepth 20000 in
theorem gX3_term_X3_refuse : GoodIn wsX3_term (wsV RX3 51 RX3 yX3_refuse wsX3_refuse) := goodIn_app (goodIn_of _ (by decide +kernel)) ggX3_term_X3_refuse
set_option maxRecDepth 20000 in
theorem ggX3_term_X0_beginTerm : GoodIn wsX3_term wsX0_beginTerm := goodIn_r _ [16, 17, 18, 19, 20, 21, 22, 15, 23, 32, 33, 34, 35, 36, 37, 38, 39, 40, 41, 42] (by decide +kernel) (by decide +kernel)
set_option maxRecDepth 20000 in
theorem gX3_term_X0_beginTerm : GoodIn wsX3_term (wsV RX3 120 RX0 yX0_beginTerm wsX0_beginTerm) := goodIn_app (goodIn_of _ (by decide +kernel)) ggX3_term_X0_beginTerm
set_option maxRecDepth 20000 in
theorem ggX3_person_X3_isKind : GoodIn wsX3_person wsX3_isKind := goodIn_r _ [6, 7, 8, 5, 9] (by decide +kernel) (by decide +kernel)
set_option maxRecDepth 20000 in
theorem gX3_person_X3_isKind : GoodIn wsX3_person (va_wsS RX3 104 yX3_isKind wsX3_isKind) := goodIn_app (goodIn_of _ (by decide +kernel)) ggX3_person_X3_isKind
set_option maxRecDepth 20000 in
theorem ggX3_person_X3_isWithin : GoodIn wsX3_person wsX3_isWithin := goodIn_r _ [9] (by decide +kernel) (by decide +kernel)
set_option maxRecDepth 20000 in
theorem gX3_person_X3_isWithin : GoodIn wsX3_person (va_wsS RX3 47 yX3_isWithin wsX3_isWithin) := goodIn_app (goodIn_of _ (by decide +kernel)) ggX3_person_X3_isWithin
set_option maxRecDepth 20000 in
theorem ggX3_person_X3_refuse : GoodIn wsX3_person wsX3_refuse := goodIn_r _ [13, 14, 7, 8, 5, 9, 23, 24, 25, 26, 27, 28, 29, 30] (by decide +kernel) (by decide +kernel)
set_option maxRecDepth 20000 in
theorem gX3_person_X3_refuse : GoodIn wsX3_person (wsV RX3 51 RX3 yX3_refuse wsX3_refuse) := goodIn_app (goodIn_of _ (by decide +kernel)) ggX3_person_X3_refuse
set_option maxRecDepth 20000 in
theorem ggX3_person_X0_addSomebody : GoodIn wsX3_person wsX0_addSomebody := goodIn_r _ [19, 20, 21, 22, 31, 32, 33, 34, 35, 36, 37, 38, 39, 40, 41] (by decide +kernel) (by decide +kernel)
set_option maxRecDepth 20000 in
theorem gX3_person_X0_addSomebody : GoodIn wsX3_person (wsV RX3 126 RX0 yX0_addSomebody wsX0_addSomebody) := goodIn_app (goodIn_of _ (by decide +kernel)) ggX3_person_X0_addSomebody
set_option maxRecDepth 20000 in
theorem ggX3_allow_X0_isMorning : GoodIn wsX3_allow wsX0_isMorning := goodIn_r _ [7, 8, 9, 10, 11, 33, 34, 35, 36, 37, 38, 39, 40, 41, 42, 43] (by decide +kernel) (by decide +kernel)
set_option maxRecDepth 20000 in
theorem gX3_allow_X0_isMorning : GoodIn wsX3_allow (wsV RX3 129 RX0 yX0_isMorning wsX0_isMorning) := goodIn_app (goodIn_of _ (by decide +kernel)) ggX3_allow_X0_isMorning
set_option maxRecDepth 20000 in
theorem ggX3_allow_X3_refuse : GoodIn wsX3_allow wsX3_refuse := goodIn_r _ [15, 16, 17, 9, 10, 11, 25, 26, 27, 28, 29, 30, 31, 32] (by decide +kernel) (by decide +kernel)
set_option maxRecDepth 20000 in
theorem gX3_allow_X3_refuse : GoodIn wsX3_allow (wsV RX3 51 RX3 yX3_refuse wsX3_refuse) := goodIn_app (goodIn_of _ (by decide +kernel)) ggX3_allow_X3_refuse
set_option maxRecDepth 20000 in
theorem ggX3_allow_X0_isAllowed : GoodIn wsX3_allow wsX0_isAllowed := goodIn_r _ [21, 22, 23, 10, 24, 33, 34, 35, 36, 37, 38, 39, 40, 41, 42, 43] (by decide +kernel) (by decide +kernel)
set_option maxRecDepth 20000 in
theorem gX3_allow_X0_isAllowed : GoodIn wsX3_allow (wsV RX3 132 RX0 yX0_isAllowed wsX0_isAllowed) := goodIn_app (goodIn_of _ (by decide +kernel)) ggX3_allow_X0_isAllowed
set_option maxRecDepth 20000 in
theorem ggX3_weight_X0_isMorning : GoodIn wsX3_weight wsX0_isMorning := goodIn_r _ [7, 8, 9, 10, 11, 26, 27, 28, 29, 30, 31, 32, 33, 34, 35, 36] (by decide +kernel) (by decide +kernel)
set_option maxRecDepth 20000 in
theorem gX3_weight_X0_isMorning : GoodIn wsX3_weight (wsV RX3 129 RX0 yX0_isMorning wsX0_isMorning) := goodIn_app (goodIn_of _ (by decide +kernel)) ggX3_weight_X0_isMorning
set_option maxRecDepth 20000 in
theorem ggX3_weight_X3_isWithin : GoodIn wsX3_weight wsX3_isWithin := goodIn_r _ [11] (by decide +kernel) (by decide +kernel)
set_option maxRecDepth 20000 in
theorem gX3_weight_X3_isWithin : GoodIn wsX3_weight (va_wsS RX3 47 yX3_isWithin wsX3_isWithin) := goodIn_app (goodIn_of _ (by decide +kernel)) ggX3_weight_X3_isWithin
set_option maxRecDepth 20000 in
theorem ggX3_weight_X3_refuse : GoodIn wsX3_weight wsX3_refuse := goodIn_r _ [16, 17, 12, 9, 10, 11, 18, 19, 20, 21, 22, 23, 24, 25] (by decide +kernel) (by decide +kernel)
set_option maxRecDepth 20000 in
theorem gX3_weight_X3_refuse : GoodIn wsX3_weight (wsV RX3 51 RX3 yX3_refuse wsX3_refuse) := goodIn_app (goodIn_of _ (by decide +kernel)) ggX3_weight_X3_refuse
set_option maxRecDepth 20000 in
theorem ggX3_say_X3_refuse : GoodIn wsX3_say wsX3_refuse := goodIn_r _ [7, 8, 9, 10, 6, 11, 12, 13, 14, 15, 16, 17, 18, 19] (by decide +kernel) (by decide +kernel)
set_option maxRecDepth 20000 in
theorem gX3_say_X3_refuse : GoodIn wsX3_say (wsV RX3 51 RX3 yX3_refuse wsX3_refuse) := goodIn_app (goodIn_of _ (by decide +kernel)) ggX3_say_X3_refuse
set_option maxRecDepth 20000 in
theorem ggX3_unsay_X3_isWithin : GoodIn wsX3_unsay wsX3_isWithin := goodIn_r _ [6] (by decide +kernel) (by decide +kernel)
set_option maxRecDepth 20000 in
theorem gX3_unsay_X3_isWithin : GoodIn wsX3_unsay (va_wsS RX3 47 yX3_isWithin wsX3_isWithin) := goodIn_app (goodIn_of _ (by decide +kernel)) ggX3_unsay_X3_isWithin
set_option maxRecDepth 20000 in
theorem ggX3_unsay_X3_refuse : GoodIn wsX3_unsay wsX3_refuse := goodIn_r _ [10, 11, 3, 4, 5, 6, 12, 13, 14, 15, 16, 17, 18, 19] (by decide +kernel) (by decide +kernel)
set_option maxRecDepth 20000 in
theorem gX3_unsay_X3_refuse : GoodIn wsX3_unsay (wsV RX3 51 RX3 yX3_refuse wsX3_refuse) := goodIn_app (goodIn_of _ (by decide +kernel)) ggX3_unsay_X3_refuse
set_option maxRecDepth 20000 in
theorem ggX3_hint_X0_allMornings : GoodIn wsX3_hint wsX0_allMornings := goodIn_r _ [7, 8, 33, 34, 35, 36, 37, 38, 39, 40, 41, 42, 43] (by decide +kernel) (by decide +kernel)
set_option maxRecDepth 20000 in
theorem gX3_hint_X0_allMornings : GoodIn wsX3_hint (wsV RX3 144 RX0 yX0_allMornings wsX0_allMornings) := goodIn_app (goodIn_of _ (by decide +kernel)) ggX3_hint_X0_allMornings
set_option maxRecDepth 20000 in
theorem ggX3_hint_X3_refuse : GoodIn wsX3_hint wsX3_refuse := goodIn_r _ [13, 14, 15, 16, 12, 17, 25, 26, 27, 28, 29, 30, 31, 32] (by decide +kernel) (by decide +kernel)
set_option maxRecDepth 20000 in
theorem gX3_hint_X3_refuse : GoodIn wsX3_hint (wsV RX3 51 RX3 yX3_refuse wsX3_refuse) := goodIn_app (goodIn_of _ (by decide +kernel)) ggX3_hint_X3_refuse
set_option maxRecDepth 20000 in
theorem ggX3_hint_J6_bitCount_0f7a4 : GoodIn wsX3_hint wsJ6_bitCount_0f7a4 := goodIn_r _ [21, 22, 23, 24] (by decide +kernel) (by decide +kernel)
set_option maxRecDepth 20000 in
theorem gX3_hint_J6_bitCount_0f7a4 : GoodIn wsX3_hint (va_wsS RX3 148 yJ6_bitCount_0f7a4 wsJ6_bitCount_0f7a4) := goodIn_app (goodIn_of _ (by decide +kernel)) ggX3_hint_J6_bitCount_0f7a4
set_option maxRecDepth 20000 in
theorem ggX3_learn_X0_isSomebody : GoodIn wsX3_learn wsX0_isSomebody := goodIn_r _ [7, 8, 9, 10, 11, 26, 27, 28, 29, 30, 31, 32, 33, 34, 35, 36] (by decide +kernel) (by decide +kernel)
set_option maxRecDepth 20000 in
theorem gX3_learn_X0_isSomebody : GoodIn wsX3_learn (wsV RX3 94 RX0 yX0_isSomebody wsX0_isSomebody) := goodIn_app (goodIn_of _ (by decide +kernel)) ggX3_learn_X0_isSomebody
set_option maxRecDepth 20000 in
theorem ggX3_learn_X3_isWithin : GoodIn wsX3_learn wsX3_isWithin := goodIn_r _ [11] (by decide +kernel) (by decide +kernel)
set_option maxRecDepth 20000 in
theorem gX3_learn_X3_isWithin : GoodIn wsX3_learn (va_wsS RX3 47 yX3_isWithin wsX3_isWithin) := goodIn_app (goodIn_of _ (by decide +kernel)) ggX3_learn_X3_isWithin
set_option maxRecDepth 20000 in
theorem ggX3_learn_X3_refuse : GoodIn wsX3_learn wsX3_refuse := goodIn_r _ [16, 17, 12, 9, 10, 11, 18, 19, 20, 21, 22, 23, 24, 25] (by decide +kernel) (by decide +kernel)
set_option maxRecDepth 20000 in
theorem gX3_learn_X3_refuse : GoodIn wsX3_learn (wsV RX3 51 RX3 yX3_refuse wsX3_refuse) := goodIn_app (goodIn_of _ (by decide +kernel)) ggX3_learn_X3_refuse
set_option maxRecDepth 20000 in
theorem ggX3_leave_X3_refuse : GoodIn wsX3_leave wsX3_refuse := goodIn_r _ [7, 8, 9, 10, 6, 11, 37, 38, 39, 40, 41, 42, 43, 44] (by decide +kernel) (by decide +kernel)
set_option maxRecDepth 20000 in
theorem gX3_leave_X3_refuse : GoodIn wsX3_leave (wsV RX3 51 RX3 yX3_refuse wsX3_refuse) := goodIn_app (goodIn_of _ (by decide +kernel)) ggX3_leave_X3_refuse
set_option maxRecDepth 20000 in
theorem ggX3_leave_X0_removeSomebody : GoodIn wsX3_leave wsX0_removeSomebody := goodIn_r _ [16, 17, 18, 19, 20, 21, 22, 15, 23, 10, 6, 11, 45, 46, 47, 48, 49, 50, 51, 52, 53, 54, 55] (by decide +kernel) (by decide +kernel)
set_option maxRecDepth 20000 in
theorem gX3_leave_X0_removeSomebody : GoodIn wsX3_leave (wsV RX3 156 RX0 yX0_removeSomebody wsX0_removeSomebody) := goodIn_app (goodIn_of _ (by decide +kernel)) ggX3_leave_X0_removeSomebody
set_option maxRecDepth 20000 in
theorem ggX3_leave_X3_forgetWhoIsGone : GoodIn wsX3_leave wsX3_forgetWhoIsGone := goodIn_r _ [27, 28, 29, 1, 2, 30, 31, 32, 33, 34, 35, 36, 37, 38, 39, 40, 41, 42, 43, 44, 56, 57, 58, 45, 46, 47, 48, 49, 50, 51, 52, 53, 54, 55] (by decide +kernel) (by decide +kernel)
set_option maxRecDepth 20000 in
theorem gX3_leave_X3_forgetWhoIsGone : GoodIn wsX3_leave (wsV RX3 159 RX3 yX3_forgetWhoIsGone wsX3_forgetWhoIsGone) := goodIn_app (goodIn_of _ (by decide +kernel)) ggX3_leave_X3_forgetWhoIsGone
set_option maxRecDepth 20000 in
theorem ggX3_image_X0_become : GoodIn wsX3_image wsX0_become := goodIn_r _ [8, 9, 10, 11, 12, 13, 14, 15, 16, 17, 18, 19, 20, 21, 22, 23, 32, 33, 34, 35, 36, 37, 38, 39, 40, 41, 42] (by decide +kernel) (by decide +kernel)
set_option maxRecDepth 20000 in
theorem gX3_image_X0_become : GoodIn wsX3_image (wsV RX3 165 RX0 yX0_become wsX0_become) := goodIn_app (goodIn_of _ (by decide +kernel)) ggX3_image_X0_become
set_option maxRecDepth 20000 in
theorem ggX3_back_X3_refuse : GoodIn wsX3_back wsX3_refuse := goodIn_r _ [8, 9, 10, 11, 7, 12, 47, 48, 49, 50, 51, 52, 53, 54] (by decide +kernel) (by decide +kernel)
set_option maxRecDepth 20000 in
theorem gX3_back_X3_refuse : GoodIn wsX3_back (wsV RX3 51 RX3 yX3_refuse wsX3_refuse) := goodIn_app (goodIn_of _ (by decide +kernel)) ggX3_back_X3_refuse
set_option maxRecDepth 20000 in
theorem ggX3_back_X0_become : GoodIn wsX3_back wsX0_become := goodIn_r _ [17, 18, 19, 20, 21, 22, 23, 24, 25, 26, 27, 28, 29, 30, 31, 32, 55, 56, 57, 58, 59, 60, 61, 62, 63, 64, 65] (by decide +kernel) (by decide +kernel)
set_option maxRecDepth 20000 in
theorem gX3_back_X0_become : GoodIn wsX3_back (wsV RX3 165 RX0 yX0_become wsX0_become) := goodIn_app (goodIn_of _ (by decide +kernel)) ggX3_back_X0_become
set_option maxRecDepth 20000 in
theorem ggX3_back_X3_forgetWhoIsGone : GoodIn wsX3_back wsX3_forgetWhoIsGone := goodIn_r _ [36, 37, 38, 2, 39, 40, 41, 42, 43, 44, 45, 46, 47, 48, 49, 50, 51, 52, 53, 54, 66, 67, 68, 55, 56, 57, 58, 59, 60, 61, 62, 63, 64, 65] (by decide +kernel) (by decide +kernel)
set_option maxRecDepth 20000 in
theorem gX3_back_X3_forgetWhoIsGone : GoodIn wsX3_back (wsV RX3 159 RX3 yX3_forgetWhoIsGone wsX3_forgetWhoIsGone) := goodIn_app (goodIn_of _ (by decide +kernel)) ggX3_back_X3_forgetWhoIsGone
set_option maxRecDepth 20000 in
theorem ggX3_feed_X3_isWithin : GoodIn wsX3_feed wsX3_isWithin := goodIn_r _ [6] (by decide +kernel) (by decide +kernel)
set_option maxRecDepth 20000 in
theorem gX3_feed_X3_isWithin : GoodIn wsX3_feed (va_wsS RX3 47 yX3_isWithin wsX3_isWithin) := goodIn_app (goodIn_of _ (by decide +kernel)) ggX3_feed_X3_isWithin
set_option maxRecDepth 20000 in
theorem ggX3_feed_X3_refuse : GoodIn wsX3_feed wsX3_refuse := goodIn_r _ [10, 11, 3, 4, 5, 6, 19, 20, 21, 22, 23, 24, 25, 26] (by decide +kernel) (by decide +kernel)
set_option maxRecDepth 20000 in
theorem gX3_feed_X3_refuse : GoodIn wsX3_feed (wsV RX3 51 RX3 yX3_refuse wsX3_refuse) := goodIn_app (goodIn_of _ (by decide +kernel)) ggX3_feed_X3_refuse
set_option maxRecDepth 20000 in
theorem ggX3_feed_X2_append : GoodIn wsX3_feed wsX2_append := goodIn_r _ [16, 17, 18, 27, 28, 29, 30, 31] (by decide +kernel) (by decide +kernel)
set_option maxRecDepth 20000 in
theorem gX3_feed_X2_append : GoodIn wsX3_feed (wsV RX3 176 RX2 yX2_append wsX2_append) := goodIn_app (goodIn_of _ (by decide +kernel)) ggX3_feed_X2_append
set_option maxRecDepth 20000 in
theorem ggX3_school_X0_become : GoodIn wsX3_school wsX0_become := goodIn_r _ [10, 11, 12, 13, 14, 15, 16, 17, 18, 19, 20, 21, 22, 23, 24, 25, 176, 177, 178, 179, 180, 181, 182, 183, 184, 185, 186] (by decide +kernel) (by decide +kernel)
set_option maxRecDepth 20000 in
theorem gX3_school_X0_become : GoodIn wsX3_school (wsV RX3 165 RX0 yX0_become wsX0_become) := goodIn_app (goodIn_of _ (by decide +kernel)) ggX3_school_X0_become
set_option maxRecDepth 20000 in
theorem ggX3_school_X2_readInto : GoodIn wsX3_school wsX2_readInto := goodIn_r _ [30, 31, 32, 33, 34, 35, 29, 36, 37, 38, 39, 40, 41, 42, 43, 44, 45, 46, 47, 48, 49, 50, 51, 52, 53, 54, 55, 56, 57, 58, 59, 60, 61, 62, 63, 64, 65, 66, 67, 68, 69, 70, 71, 72, 73, 74, 75, 76, 77, 78, 79, 80, 81, 82, 83, 84, 85, 86, 87, 88, 89, 90, 91, 92, 93, 94, 95, 96, 97, 98, 99, 100, 101, 102, 103, 104, 105, 106, 107, 108, 109, 110, 111, 112, 113, 114, 115, 116, 117, 118, 119, 120, 9, 121, 11, 12, 13, 122, 123, 124, 125, 126, 127, 128, 129, 130, 131, 132, 133, 134, 135, 136, 137, 138, 139, 140, 141, 142, 143, 144, 145, 146, 147, 148, 149, 150, 19, 20, 21, 151, 152, 153, 154, 155, 156, 171, 172, 173, 174, 175, 176, 177, 178, 179, 180, 181, 182, 183, 184, 185, 186] (by decide +kernel) (by decide +kernel)
set_option maxRecDepth 20000 in
theorem gX3_school_X2_readInto : GoodIn wsX3_school (wsV RX3 179 RX2 yX2_readInto wsX2_readInto) := goodIn_app (goodIn_of _ (by decide +kernel)) ggX3_school_X2_readInto
set_option maxRecDepth 20000 in
theorem ggX3_school_X3_refuse : GoodIn wsX3_school wsX3_refuse := goodIn_r _ [160, 161, 162, 115, 116, 117, 163, 164, 165, 166, 167, 168, 169, 170] (by decide +kernel) (by decide +kernel)
set_option maxRecDepth 20000 in
theorem gX3_school_X3_refuse : GoodIn wsX3_school (wsV RX3 51 RX3 yX3_refuse wsX3_refuse) := goodIn_app (goodIn_of _ (by decide +kernel)) ggX3_school_X3_refuse
set_option maxRecDepth 20000 in
theorem ggX3_personOf_X0_isSomebody : GoodIn wsX3_personOf wsX0_isSomebody := goodIn_r _ [8, 9, 10, 11, 12, 85, 86, 87, 88, 89, 90, 91, 92, 93, 94, 95] (by decide +kernel) (by decide +kernel)
set_option maxRecDepth 20000 in
theorem gX3_personOf_X0_isSomebody : GoodIn wsX3_personOf (wsV RX3 94 RX0 yX0_isSomebody wsX0_isSomebody) := goodIn_app (goodIn_of _ (by decide +kernel)) ggX3_personOf_X0_isSomebody
set_option maxRecDepth 20000 in
theorem ggX3_personOf_X3_refuse : GoodIn wsX3_personOf wsX3_refuse := goodIn_r _ [16, 17, 18, 10, 11, 12, 77, 78, 79, 80, 81, 82, 83, 84] (by decide +kernel) (by decide +kernel)
set_option maxRecDepth 20000 in
theorem gX3_personOf_X3_refuse : GoodIn wsX3_personOf (wsV RX3 51 RX3 yX3_refuse wsX3_refuse) := goodIn_app (goodIn_of _ (by decide +kernel)) ggX3_personOf_X3_refuse
set_option maxRecDepth 20000 in
theorem ggX3_personOf_X0_depthOf : GoodIn wsX3_personOf wsX0_depthOf := goodIn_r _ [22, 23, 9, 24, 25, 26, 27, 28, 29, 30, 31, 32, 33, 34, 7, 35, 36, 85, 86, 87, 88, 89, 90, 91, 92, 93, 94, 95] (by decide +kernel) (by decide +kernel)
set_option maxRecDepth 20000 in
theorem gX3_personOf_X0_depthOf : GoodIn wsX3_personOf (wsV RX3 186 RX0 yX0_depthOf wsX0_depthOf) := goodIn_app (goodIn_of _ (by decide +kernel)) ggX3_personOf_X0_depthOf
set_option maxRecDepth 20000 in
theorem ggX3_personOf_X0_expectedBy : GoodIn wsX3_personOf wsX0_expectedBy := goodIn_r _ [40, 41, 42, 43, 7, 44, 23, 45, 20, 21, 22, 9, 24, 25, 26, 27, 28, 29, 30, 31, 32, 33, 34, 35, 36, 46, 47, 48, 49, 50, 51, 11, 52, 53, 54, 55, 56, 57, 58, 59, 60, 61, 62, 63, 64, 65, 66, 67, 68, 69, 70, 71, 72, 73, 74, 75, 76, 85, 86, 87, 88, 89, 90, 91, 92, 93, 94, 95] (by decide +kernel) (by decide +kernel)
set_option maxRecDepth 20000 in
theorem gX3_personOf_X0_expectedBy : GoodIn wsX3_personOf (wsV RX3 189 RX0 yX0_expectedBy wsX0_expectedBy) := goodIn_app (goodIn_of _ (by decide +kernel)) ggX3_personOf_X0_expectedBy
set_option maxRecDepth 20000 in
theorem ggX3_morningOf_X0_isMorning : GoodIn wsX3_morningOf wsX0_isMorning := goodIn_r _ [7, 8, 9, 10, 11, 42, 43, 44, 45, 46, 47, 48, 49, 50, 51, 52] (by decide +kernel) (by decide +kernel)
set_option maxRecDepth 20000 in
theorem gX3_morningOf_X0_isMorning : GoodIn wsX3_morningOf (wsV RX3 129 RX0 yX0_isMorning wsX0_isMorning) := goodIn_app (goodIn_of _ (by decide +kernel)) ggX3_morningOf_X0_isMorning
set_option maxRecDepth 20000 in
theorem ggX3_morningOf_X3_refuse : GoodIn wsX3_morningOf wsX3_refuse := goodIn_r _ [15, 16, 17, 9, 10, 11, 34, 35, 36, 37, 38, 39, 40, 41] (by decide +kernel) (by decide +kernel)
set_option maxRecDepth 20000 in
theorem gX3_morningOf_X3_refuse : GoodIn wsX3_morningOf (wsV RX3 51 RX3 yX3_refuse wsX3_refuse) := goodIn_app (goodIn_of _ (by decide +kernel)) ggX3_morningOf_X3_refuse
set_option maxRecDepth 20000 in
theorem ggX3_morningOf_X0_isAllowed : GoodIn wsX3_morningOf wsX0_isAllowed := goodIn_r _ [21, 22, 23, 10, 24, 42, 43, 44, 45, 46, 47, 48, 49, 50, 51, 52] (by decide +kernel) (by decide +kernel)
set_option maxRecDepth 20000 in
theorem gX3_morningOf_X0_isAllowed : GoodIn wsX3_morningOf (wsV RX3 132 RX0 yX0_isAllowed wsX0_isAllowed) := goodIn_app (goodIn_of _ (by decide +kernel)) ggX3_morningOf_X0_isAllowed
set_option maxRecDepth 20000 in
theorem ggX3_morningOf_X0_stillOn : GoodIn wsX3_morningOf wsX0_stillOn := goodIn_r _ [28, 22, 42, 43, 44, 45, 46, 47, 48, 49, 50, 51, 52] (by decide +kernel) (by decide +kernel)
set_option maxRecDepth 20000 in
theorem gX3_morningOf_X0_stillOn : GoodIn wsX3_morningOf (wsV RX3 192 RX0 yX0_stillOn wsX0_stillOn) := goodIn_app (goodIn_of _ (by decide +kernel)) ggX3_morningOf_X0_stillOn
set_option maxRecDepth 20000 in
theorem ggX3_morningOf_X0_weightsOf : GoodIn wsX3_morningOf wsX0_weightsOf := goodIn_r _ [32, 8, 33, 23, 10, 24, 42, 43, 44, 45, 46, 47, 48, 49, 50, 51, 52] (by decide +kernel) (by decide +kernel)
set_option maxRecDepth 20000 in
theorem gX3_morningOf_X0_weightsOf : GoodIn wsX3_morningOf (wsV RX3 195 RX0 yX0_weightsOf wsX0_weightsOf) := goodIn_app (goodIn_of _ (by decide +kernel)) ggX3_morningOf_X0_weightsOf
set_option maxRecDepth 20000 in
theorem ggX3_can_X0_isSomebody : GoodIn wsX3_can wsX0_isSomebody := goodIn_r _ [6, 7, 8, 9, 10, 62, 63, 64, 65, 66, 67, 68, 69, 70, 71, 72] (by decide +kernel) (by decide +kernel)
set_option maxRecDepth 20000 in
theorem gX3_can_X0_isSomebody : GoodIn wsX3_can (wsV RX3 94 RX0 yX0_isSomebody wsX0_isSomebody) := goodIn_app (goodIn_of _ (by decide +kernel)) ggX3_can_X0_isSomebody
set_option maxRecDepth 20000 in
theorem ggX3_can_X0_isMorning : GoodIn wsX3_can wsX0_isMorning := goodIn_r _ [14, 15, 8, 9, 10, 62, 63, 64, 65, 66, 67, 68, 69, 70, 71, 72] (by decide +kernel) (by decide +kernel)
set_option maxRecDepth 20000 in
theorem gX3_can_X0_isMorning : GoodIn wsX3_can (wsV RX3 129 RX0 yX0_isMorning wsX0_isMorning) := goodIn_app (goodIn_of _ (by decide +kernel)) ggX3_can_X0_isMorning
set_option maxRecDepth 20000 in
theorem ggX3_can_X3_refuse : GoodIn wsX3_can wsX3_refuse := goodIn_r _ [19, 20, 21, 8, 9, 10, 54, 55, 56, 57, 58, 59, 60, 61] (by decide +kernel) (by decide +kernel)
set_option maxRecDepth 20000 in
theorem gX3_can_X3_refuse : GoodIn wsX3_can (wsV RX3 51 RX3 yX3_refuse wsX3_refuse) := goodIn_app (goodIn_of _ (by decide +kernel)) ggX3_can_X3_refuse
set_option maxRecDepth 20000 in
theorem ggX3_can_X0_canThink : GoodIn wsX3_can wsX0_canThink := goodIn_r _ [25, 26, 27, 28, 5, 29, 30, 7, 31, 32, 33, 34, 35, 36, 37, 38, 39, 40, 41, 42, 43, 44, 45, 46, 47, 48, 49, 9, 50, 51, 52, 53, 62, 63, 64, 65, 66, 67, 68, 69, 70, 71, 72] (by decide +kernel) (by decide +kernel)
set_option maxRecDepth 20000 in
theorem gX3_can_X0_canThink : GoodIn wsX3_can (wsV RX3 198 RX0 yX0_canThink wsX0_canThink) := goodIn_app (goodIn_of _ (by decide +kernel)) ggX3_can_X0_canThink
set_option maxRecDepth 20000 in
theorem ggX3_expects_X0_isSomebody : GoodIn wsX3_expects wsX0_isSomebody := goodIn_r _ [6, 7, 8, 9, 10, 86, 87, 88, 89, 90, 91, 92, 93, 94, 95, 96] (by decide +kernel) (by decide +kernel)
set_option maxRecDepth 20000 in
theorem gX3_expects_X0_isSomebody : GoodIn wsX3_expects (wsV RX3 94 RX0 yX0_isSomebody wsX0_isSomebody) := goodIn_app (goodIn_of _ (by decide +kernel)) ggX3_expects_X0_isSomebody
set_option maxRecDepth 20000 in
theorem ggX3_expects_X0_isMorning : GoodIn wsX3_expects wsX0_isMorning := goodIn_r _ [14, 15, 8, 9, 10, 86, 87, 88, 89, 90, 91, 92, 93, 94, 95, 96] (by decide +kernel) (by decide +kernel)
set_option maxRecDepth 20000 in
theorem gX3_expects_X0_isMorning : GoodIn wsX3_expects (wsV RX3 129 RX0 yX0_isMorning wsX0_isMorning) := goodIn_app (goodIn_of _ (by decide +kernel)) ggX3_expects_X0_isMorning
set_option maxRecDepth 20000 in
theorem ggX3_expects_X3_refuse : GoodIn wsX3_expects wsX3_refuse := goodIn_r _ [19, 20, 21, 8, 9, 10, 78, 79, 80, 81, 82, 83, 84, 85] (by decide +kernel) (by decide +kernel)
set_option maxRecDepth 20000 in
theorem gX3_expects_X3_refuse : GoodIn wsX3_expects (wsV RX3 51 RX3 yX3_refuse wsX3_refuse) := goodIn_app (goodIn_of _ (by decide +kernel)) ggX3_expects_X3_refuse
set_option maxRecDepth 20000 in
theorem ggX3_expects_X0_expectedBy : GoodIn wsX3_expects wsX0_expectedBy := goodIn_r _ [25, 26, 27, 28, 5, 29, 30, 31, 32, 33, 34, 7, 35, 36, 37, 38, 39, 40, 41, 42, 43, 44, 45, 46, 47, 48, 49, 50, 51, 52, 53, 9, 54, 55, 56, 57, 58, 59, 60, 61, 62, 63, 64, 65, 66, 67, 68, 15, 69, 70, 71, 72, 73, 74, 75, 76, 77, 86, 87, 88, 89, 90, 91, 92, 93, 94, 95, 96] (by decide +kernel) (by decide +kernel)
set_option maxRecDepth 20000 in
theorem gX3_expects_X0_expectedBy : GoodIn wsX3_expects (wsV RX3 189 RX0 yX0_expectedBy wsX0_expectedBy) := goodIn_app (goodIn_of _ (by decide +kernel)) ggX3_expects_X0_expectedBy
set_option maxRecDepth 20000 in
theorem ggX3_expects_X3_isIn : GoodIn wsX3_expects wsX3_isIn := goodIn_r _ [57] (by decide +kernel) (by decide +kernel)
set_option maxRecDepth 20000 in
theorem gX3_expects_X3_isIn : GoodIn wsX3_expects (va_wsS RX3 201 yX3_isIn wsX3_isIn) := goodIn_app (goodIn_of _ (by decide +kernel)) ggX3_expects_X3_isIn
set_option maxRecDepth 20000 in
theorem ggX3_who_X0_isMorning : GoodIn wsX3_who wsX0_isMorning := goodIn_r _ [6, 7, 8, 9, 10, 86, 87, 88, 89, 90, 91, 92, 93, 94, 95, 96] (by decide +kernel) (by decide +kernel)
set_option maxRecDepth 20000 in
theorem gX3_who_X0_isMorning : GoodIn wsX3_who (wsV RX3 129 RX0 yX0_isMorning wsX0_isMorning) := goodIn_app (goodIn_of _ (by decide +kernel)) ggX3_who_X0_isMorning
set_option maxRecDepth 20000 in
theorem ggX3_who_X0_expectingOn : GoodIn wsX3_who wsX0_expectingOn := goodIn_r _ [14, 15, 16, 17, 18, 5, 19, 20, 21, 22, 23, 24, 25, 26, 27, 28, 29, 30, 31, 32, 33, 34, 35, 36, 37, 38, 39, 40, 41, 42, 43, 44, 45, 46, 47, 9, 48, 49, 50, 51, 52, 53, 54, 55, 56, 57, 58, 59, 60, 61, 62, 7, 63, 64, 65, 66, 67, 68, 69, 70, 71, 86, 87, 88, 89, 90, 91, 92, 93, 94, 95, 96] (by decide +kernel) (by decide +kernel)
set_option maxRecDepth 20000 in
theorem gX3_who_X0_expectingOn : GoodIn wsX3_who (wsV RX3 204 RX0 yX0_expectingOn wsX0_expectingOn) := goodIn_app (goodIn_of _ (by decide +kernel)) ggX3_who_X0_expectingOn
set_option maxRecDepth 20000 in
theorem ggX3_who_X3_refuse : GoodIn wsX3_who wsX3_refuse := goodIn_r _ [75, 76, 77, 8, 9, 10, 78, 79, 80, 81, 82, 83, 84, 85] (by decide +kernel) (by decide +kernel)
set_option maxRecDepth 20000 in
theorem gX3_who_X3_refuse : GoodIn wsX3_who (wsV RX3 51 RX3 yX3_refuse wsX3_refuse) := goodIn_app (goodIn_of _ (by decide +kernel)) ggX3_who_X3_refuse
set_option maxRecDepth 20000 in
theorem ggX3_first_X0_isSomebody : GoodIn wsX3_first wsX0_isSomebody := goodIn_r _ [6, 7, 8, 9, 10, 85, 86, 87, 88, 89, 90, 91, 92, 93, 94, 95] (by decide +kernel) (by decide +kernel)
set_option maxRecDepth 20000 in
theorem gX3_first_X0_isSomebody : GoodIn wsX3_first (wsV RX3 94 RX0 yX0_isSomebody wsX0_isSomebody) := goodIn_app (goodIn_of _ (by decide +kernel)) ggX3_first_X0_isSomebody
set_option maxRecDepth 20000 in
theorem ggX3_first_X0_expectedBy : GoodIn wsX3_first wsX0_expectedBy := goodIn_r _ [14, 15, 16, 17, 5, 18, 19, 20, 21, 22, 23, 7, 24, 25, 26, 27, 28, 29, 30, 31, 32, 33, 34, 35, 36, 37, 38, 39, 40, 41, 42, 9, 43, 44, 45, 46, 47, 48, 49, 50, 51, 52, 53, 54, 55, 56, 57, 58, 59, 60, 61, 62, 63, 64, 65, 66, 67, 85, 86, 87, 88, 89, 90, 91, 92, 93, 94, 95] (by decide +kernel) (by decide +kernel)
set_option maxRecDepth 20000 in
theorem gX3_first_X0_expectedBy : GoodIn wsX3_first (wsV RX3 189 RX0 yX0_expectedBy wsX0_expectedBy) := goodIn_app (goodIn_of _ (by decide +kernel)) ggX3_first_X0_expectedBy
set_option maxRecDepth 20000 in
theorem ggX3_first_X3_firstOf : GoodIn wsX3_first wsX3_firstOf := goodIn_r _ [70, 44, 45, 9, 46] (by decide +kernel) (by decide +kernel)
set_option maxRecDepth 20000 in
theorem gX3_first_X3_firstOf : GoodIn wsX3_first (va_wsS RX3 207 yX3_firstOf wsX3_firstOf) := goodIn_app (goodIn_of _ (by decide +kernel)) ggX3_first_X3_firstOf
set_option maxRecDepth 20000 in
theorem ggX3_first_X3_refuse : GoodIn wsX3_first wsX3_refuse := goodIn_r _ [74, 75, 76, 8, 9, 10, 77, 78, 79, 80, 81, 82, 83, 84] (by decide +kernel) (by decide +kernel)
set_option maxRecDepth 20000 in
theorem gX3_first_X3_refuse : GoodIn wsX3_first (wsV RX3 51 RX3 yX3_refuse wsX3_refuse) := goodIn_app (goodIn_of _ (by decide +kernel)) ggX3_first_X3_refuse
set_option maxRecDepth 20000 in
theorem ggX3_lasts_X0_isSomebody : GoodIn wsX3_lasts wsX0_isSomebody := goodIn_r _ [6, 7, 8, 9, 10, 58, 59, 60, 61, 62, 63, 64, 65, 66, 67, 68] (by decide +kernel) (by decide +kernel)
set_option maxRecDepth 20000 in
theorem gX3_lasts_X0_isSomebody : GoodIn wsX3_lasts (wsV RX3 94 RX0 yX0_isSomebody wsX0_isSomebody) := goodIn_app (goodIn_of _ (by decide +kernel)) ggX3_lasts_X0_isSomebody
set_option maxRecDepth 20000 in
theorem ggX3_lasts_X0_canThink : GoodIn wsX3_lasts wsX0_canThink := goodIn_r _ [14, 15, 16, 17, 5, 18, 19, 7, 20, 21, 22, 23, 24, 25, 26, 27, 28, 29, 30, 31, 32, 33, 34, 35, 36, 37, 38, 9, 39, 40, 41, 42, 58, 59, 60, 61, 62, 63, 64, 65, 66, 67, 68] (by decide +kernel) (by decide +kernel)
set_option maxRecDepth 20000 in
theorem gX3_lasts_X0_canThink : GoodIn wsX3_lasts (wsV RX3 198 RX0 yX0_canThink wsX0_canThink) := goodIn_app (goodIn_of _ (by decide +kernel)) ggX3_lasts_X0_canThink
set_option maxRecDepth 20000 in
theorem ggX3_lasts_X3_lastOf : GoodIn wsX3_lasts wsX3_lastOf := goodIn_r _ [39, 40, 41, 9, 42] (by decide +kernel) (by decide +kernel)
set_option maxRecDepth 20000 in
theorem gX3_lasts_X3_lastOf : GoodIn wsX3_lasts (va_wsS RX3 210 yX3_lastOf wsX3_lastOf) := goodIn_app (goodIn_of _ (by decide +kernel)) ggX3_lasts_X3_lastOf
set_option maxRecDepth 20000 in
theorem ggX3_lasts_X3_refuse : GoodIn wsX3_lasts wsX3_refuse := goodIn_r _ [47, 48, 49, 8, 9, 10, 50, 51, 52, 53, 54, 55, 56, 57] (by decide +kernel) (by decide +kernel)
set_option maxRecDepth 20000 in
theorem gX3_lasts_X3_refuse : GoodIn wsX3_lasts (wsV RX3 51 RX3 yX3_refuse wsX3_refuse) := goodIn_app (goodIn_of _ (by decide +kernel)) ggX3_lasts_X3_refuse
set_option maxRecDepth 20000 in
theorem ggX3_ends_X3_lastOf : GoodIn wsX3_ends wsX3_lastOf := goodIn_r _ [6, 7, 8, 5, 9] (by decide +kernel) (by decide +kernel)
set_option maxRecDepth 20000 in
theorem gX3_ends_X3_lastOf : GoodIn wsX3_ends (va_wsS RX3 210 yX3_lastOf wsX3_lastOf) := goodIn_app (goodIn_of _ (by decide +kernel)) ggX3_ends_X3_lastOf
set_option maxRecDepth 20000 in
theorem ggX3_agree_X0_isMorning : GoodIn wsX3_agree wsX0_isMorning := goodIn_r _ [7, 8, 9, 10, 11, 59, 60, 61, 62, 63, 64, 65, 66, 67, 68, 69] (by decide +kernel) (by decide +kernel)
set_option maxRecDepth 20000 in
theorem gX3_agree_X0_isMorning : GoodIn wsX3_agree (wsV RX3 129 RX0 yX0_isMorning wsX0_isMorning) := goodIn_app (goodIn_of _ (by decide +kernel)) ggX3_agree_X0_isMorning
set_option maxRecDepth 20000 in
theorem ggX3_agree_X3_refuse : GoodIn wsX3_agree wsX3_refuse := goodIn_r _ [15, 16, 17, 9, 10, 11, 51, 52, 53, 54, 55, 56, 57, 58] (by decide +kernel) (by decide +kernel)
set_option maxRecDepth 20000 in
theorem gX3_agree_X3_refuse : GoodIn wsX3_agree (wsV RX3 51 RX3 yX3_refuse wsX3_refuse) := goodIn_app (goodIn_of _ (by decide +kernel)) ggX3_agree_X3_refuse
set_option maxRecDepth 20000 in
theorem ggX3_agree_X0_canThink : GoodIn wsX3_agree wsX0_canThink := goodIn_r _ [21, 22, 23, 24, 6, 25, 26, 27, 28, 29, 30, 31, 32, 33, 34, 35, 36, 37, 38, 39, 40, 41, 42, 43, 44, 45, 46, 10, 47, 48, 49, 50, 59, 60, 61, 62, 63, 64, 65, 66, 67, 68, 69] (by decide +kernel) (by decide +kernel)
set_option maxRecDepth 20000 in
theorem gX3_agree_X0_canThink : GoodIn wsX3_agree (wsV RX3 198 RX0 yX0_canThink wsX0_canThink) := goodIn_app (goodIn_of _ (by decide +kernel)) ggX3_agree_X0_canThink
set_option maxRecDepth 20000 in
theorem ggX3_foresees_X0_isSomebody : GoodIn wsX3_foresees wsX0_isSomebody := goodIn_r _ [6, 7, 8, 9, 10, 50, 51, 52, 53, 54, 55, 56, 57, 58, 59, 60] (by decide +kernel) (by decide +kernel)
set_option maxRecDepth 20000 in
theorem gX3_foresees_X0_isSomebody : GoodIn wsX3_foresees (wsV RX3 94 RX0 yX0_isSomebody wsX0_isSomebody) := goodIn_app (goodIn_of _ (by decide +kernel)) ggX3_foresees_X0_isSomebody
set_option maxRecDepth 20000 in
theorem ggX3_foresees_X3_refuse : GoodIn wsX3_foresees wsX3_refuse := goodIn_r _ [14, 15, 16, 8, 9, 10, 42, 43, 44, 45, 46, 47, 48, 49] (by decide +kernel) (by decide +kernel)
set_option maxRecDepth 20000 in
theorem gX3_foresees_X3_refuse : GoodIn wsX3_foresees (wsV RX3 51 RX3 yX3_refuse wsX3_refuse) := goodIn_app (goodIn_of _ (by decide +kernel)) ggX3_foresees_X3_refuse
set_option maxRecDepth 20000 in
theorem ggX3_foresees_X0_canForesee : GoodIn wsX3_foresees wsX0_canForesee := goodIn_r _ [20, 21, 22, 9, 23, 24, 25, 26, 27, 5, 28, 7, 29, 30, 31, 32, 33, 34, 35, 36, 37, 38, 39, 40, 41, 50, 51, 52, 53, 54, 55, 56, 57, 58, 59, 60] (by decide +kernel) (by decide +kernel)
set_option maxRecDepth 20000 in
theorem gX3_foresees_X0_canForesee : GoodIn wsX3_foresees (wsV RX3 213 RX0 yX0_canForesee wsX0_canForesee) := goodIn_app (goodIn_of _ (by decide +kernel)) ggX3_foresees_X0_canForesee
set_option maxRecDepth 20000 in
theorem ggX3_foreseen_X0_isSomebody : GoodIn wsX3_foreseen wsX0_isSomebody := goodIn_r _ [7, 8, 9, 10, 11, 51, 52, 53, 54, 55, 56, 57, 58, 59, 60, 61] (by decide +kernel) (by decide +kernel)
set_option maxRecDepth 20000 in
theorem gX3_foreseen_X0_isSomebody : GoodIn wsX3_foreseen (wsV RX3 94 RX0 yX0_isSomebody wsX0_isSomebody) := goodIn_app (goodIn_of _ (by decide +kernel)) ggX3_foreseen_X0_isSomebody
set_option maxRecDepth 20000 in
theorem ggX3_foreseen_X3_refuse : GoodIn wsX3_foreseen wsX3_refuse := goodIn_r _ [15, 16, 17, 9, 10, 11, 43, 44, 45, 46, 47, 48, 49, 50] (by decide +kernel) (by decide +kernel)
set_option maxRecDepth 20000 in
theorem gX3_foreseen_X3_refuse : GoodIn wsX3_foreseen (wsV RX3 51 RX3 yX3_refuse wsX3_refuse) := goodIn_app (goodIn_of _ (by decide +kernel)) ggX3_foreseen_X3_refuse
set_option maxRecDepth 20000 in
theorem ggX3_foreseen_X0_canForesee : GoodIn wsX3_foreseen wsX0_canForesee := goodIn_r _ [21, 22, 23, 10, 24, 25, 26, 27, 28, 6, 29, 8, 30, 31, 32, 33, 34, 35, 36, 37, 38, 39, 40, 41, 42, 51, 52, 53, 54, 55, 56, 57, 58, 59, 60, 61] (by decide +kernel) (by decide +kernel)
set_option maxRecDepth 20000 in
theorem gX3_foreseen_X0_canForesee : GoodIn wsX3_foreseen (wsV RX3 213 RX0 yX0_canForesee wsX0_canForesee) := goodIn_app (goodIn_of _ (by decide +kernel)) ggX3_foreseen_X0_canForesee
set_option maxRecDepth 20000 in
theorem ggX3_deepest_X3_refuse : GoodIn wsX3_deepest wsX3_refuse := goodIn_r _ [7, 8, 9, 10, 6, 11, 32, 33, 34, 35, 36, 37, 38, 39] (by decide +kernel) (by decide +kernel)
set_option maxRecDepth 20000 in
theorem gX3_deepest_X3_refuse : GoodIn wsX3_deepest (wsV RX3 51 RX3 yX3_refuse wsX3_refuse) := goodIn_app (goodIn_of _ (by decide +kernel)) ggX3_deepest_X3_refuse
set_option maxRecDepth 20000 in
theorem ggX3_deepest_X0_depthOf : GoodIn wsX3_deepest wsX0_depthOf := goodIn_r _ [16, 17, 18, 19, 20, 21, 22, 23, 24, 25, 26, 27, 28, 29, 15, 30, 31, 40, 41, 42, 43, 44, 45, 46, 47, 48, 49, 50] (by decide +kernel) (by decide +kernel)
set_option maxRecDepth 20000 in
theorem gX3_deepest_X0_depthOf : GoodIn wsX3_deepest (wsV RX3 186 RX0 yX0_depthOf wsX0_depthOf) := goodIn_app (goodIn_of _ (by decide +kernel)) ggX3_deepest_X0_depthOf
set_option maxRecDepth 20000 in
theorem ggX3_asleep_X0_isMorning : GoodIn wsX3_asleep wsX0_isMorning := goodIn_r _ [7, 8, 9, 10, 11, 35, 36, 37, 38, 39, 40, 41, 42, 43, 44, 45] (by decide +kernel) (by decide +kernel)
set_option maxRecDepth 20000 in
theorem gX3_asleep_X0_isMorning : GoodIn wsX3_asleep (wsV RX3 129 RX0 yX0_isMorning wsX0_isMorning) := goodIn_app (goodIn_of _ (by decide +kernel)) ggX3_asleep_X0_isMorning
set_option maxRecDepth 20000 in
theorem ggX3_asleep_X3_refuse : GoodIn wsX3_asleep wsX3_refuse := goodIn_r _ [15, 16, 17, 9, 10, 11, 27, 28, 29, 30, 31, 32, 33, 34] (by decide +kernel) (by decide +kernel)
set_option maxRecDepth 20000 in
theorem gX3_asleep_X3_refuse : GoodIn wsX3_asleep (wsV RX3 51 RX3 yX3_refuse wsX3_refuse) := goodIn_app (goodIn_of _ (by decide +kernel)) ggX3_asleep_X3_refuse
set_option maxRecDepth 20000 in
theorem ggX3_asleep_X0_sleepsOn : GoodIn wsX3_asleep wsX0_sleepsOn := goodIn_r _ [21, 22, 23, 24, 10, 25, 26, 35, 36, 37, 38, 39, 40, 41, 42, 43, 44, 45] (by decide +kernel) (by decide +kernel)
set_option maxRecDepth 20000 in
theorem gX3_asleep_X0_sleepsOn : GoodIn wsX3_asleep (wsV RX3 216 RX0 yX0_sleepsOn wsX0_sleepsOn) := goodIn_app (goodIn_of _ (by decide +kernel)) ggX3_asleep_X0_sleepsOn
set_option maxRecDepth 20000 in
theorem ggX3_surprises_X0_bySurprise : GoodIn wsX3_surprises wsX0_bySurprise := goodIn_r _ [6, 7, 8, 9, 10, 5, 11, 12, 13, 14, 15, 16, 17, 18, 19, 20, 21, 22, 23, 24, 25, 26, 27, 28, 29, 30, 31, 32, 33, 34, 35, 36, 37, 38, 39, 40, 41, 42, 43, 44, 45, 46, 47, 48, 49, 50, 51, 52, 53, 54, 55, 56, 57, 58, 59, 60, 61, 62, 63, 64, 65, 66, 67, 68, 69, 78, 79, 80, 81, 82, 83, 84, 85, 86, 87, 88] (by decide +kernel) (by decide +kernel)
set_option maxRecDepth 20000 in
theorem gX3_surprises_X0_bySurprise : GoodIn wsX3_surprises (wsV RX3 219 RX0 yX0_bySurprise wsX0_bySurprise) := goodIn_app (goodIn_of _ (by decide +kernel)) ggX3_surprises_X0_bySurprise
set_option maxRecDepth 20000 in
theorem ggX3_longest_X0_bySurprise : GoodIn wsX3_longest wsX0_bySurprise := goodIn_r _ [11, 12, 13, 14, 15, 10, 16, 17, 18, 19, 20, 21, 22, 23, 24, 25, 26, 27, 4, 5, 6, 28, 29, 30, 31, 32, 33, 34, 35, 36, 37, 38, 39, 40, 41, 42, 43, 44, 45, 46, 47, 48, 49, 50, 51, 52, 53, 54, 55, 56, 57, 58, 59, 60, 61, 62, 63, 64, 65, 66, 67, 68, 69, 70, 71, 80, 81, 82, 83, 84, 85, 86, 87, 88, 89, 90] (by decide +kernel) (by decide +kernel)
set_option maxRecDepth 20000 in
theorem gX3_longest_X0_bySurprise : GoodIn wsX3_longest (wsV RX3 219 RX0 yX0_bySurprise wsX0_bySurprise) := goodIn_app (goodIn_of _ (by decide +kernel)) ggX3_longest_X0_bySurprise
set_option maxRecDepth 20000 in
theorem ggX3_longest_X3_isIn : GoodIn wsX3_longest wsX3_isIn := goodIn_r _ [46] (by decide +kernel) (by decide +kernel)
set_option maxRecDepth 20000 in
theorem gX3_longest_X3_isIn : GoodIn wsX3_longest (va_wsS RX3 201 yX3_isIn wsX3_isIn) := goodIn_app (goodIn_of _ (by decide +kernel)) ggX3_longest_X3_isIn
set_option maxRecDepth 20000 in
theorem ggX3_odds_X0_isMorning : GoodIn wsX3_odds wsX0_isMorning := goodIn_r _ [6, 7, 8, 9, 10, 54, 55, 56, 57, 58, 59, 60, 61, 62, 63, 64] (by decide +kernel) (by decide +kernel)
set_option maxRecDepth 20000 in
theorem gX3_odds_X0_isMorning : GoodIn wsX3_odds (wsV RX3 129 RX0 yX0_isMorning wsX0_isMorning) := goodIn_app (goodIn_of _ (by decide +kernel)) ggX3_odds_X0_isMorning
set_option maxRecDepth 20000 in
theorem ggX3_odds_X3_refuse : GoodIn wsX3_odds wsX3_refuse := goodIn_r _ [14, 15, 16, 8, 9, 10, 46, 47, 48, 49, 50, 51, 52, 53] (by decide +kernel) (by decide +kernel)
set_option maxRecDepth 20000 in
theorem gX3_odds_X3_refuse : GoodIn wsX3_odds (wsV RX3 51 RX3 yX3_refuse wsX3_refuse) := goodIn_app (goodIn_of _ (by decide +kernel)) ggX3_odds_X3_refuse
set_option maxRecDepth 20000 in
theorem ggX3_odds_X0_stillOn : GoodIn wsX3_odds wsX0_stillOn := goodIn_r _ [20, 21, 54, 55, 56, 57, 58, 59, 60, 61, 62, 63, 64] (by decide +kernel) (by decide +kernel)
set_option maxRecDepth 20000 in
theorem gX3_odds_X0_stillOn : GoodIn wsX3_odds (wsV RX3 192 RX0 yX0_stillOn wsX0_stillOn) := goodIn_app (goodIn_of _ (by decide +kernel)) ggX3_odds_X0_stillOn
set_option maxRecDepth 20000 in
theorem ggX3_odds_X0_weightsOf : GoodIn wsX3_odds wsX0_weightsOf := goodIn_r _ [25, 7, 26, 27, 9, 28, 54, 55, 56, 57, 58, 59, 60, 61, 62, 63, 64] (by decide +kernel) (by decide +kernel)
set_option maxRecDepth 20000 in
theorem gX3_odds_X0_weightsOf : GoodIn wsX3_odds (wsV RX3 195 RX0 yX0_weightsOf wsX0_weightsOf) := goodIn_app (goodIn_of _ (by decide +kernel)) ggX3_odds_X0_weightsOf
set_option maxRecDepth 20000 in
theorem ggX3_odds_X0_oddsOn : GoodIn wsX3_odds wsX0_oddsOn := goodIn_r _ [32, 33, 34, 35, 5, 36, 26, 37, 38, 39, 40, 21, 27, 9, 28, 41, 18, 19, 20, 42, 23, 24, 25, 7, 43, 44, 45, 54, 55, 56, 57, 58, 59, 60, 61, 62, 63, 64] (by decide +kernel) (by decide +kernel)
set_option maxRecDepth 20000 in
theorem gX3_odds_X0_oddsOn : GoodIn wsX3_odds (wsV RX3 227 RX0 yX0_oddsOn wsX0_oddsOn) := goodIn_app (goodIn_of _ (by decide +kernel)) ggX3_odds_X0_oddsOn
set_option maxRecDepth 20000 in
theorem ggX3_likeliest_X0_oddsOn : GoodIn wsX3_likeliest wsX0_oddsOn := goodIn_r _ [7, 8, 9, 10, 6, 11, 12, 13, 14, 15, 16, 17, 18, 19, 20, 21, 22, 23, 24, 25, 26, 27, 28, 29, 30, 31, 32, 49, 50, 51, 52, 53, 54, 55, 56, 57, 58, 59] (by decide +kernel) (by decide +kernel)
set_option maxRecDepth 20000 in
theorem gX3_likeliest_X0_oddsOn : GoodIn wsX3_likeliest (wsV RX3 227 RX0 yX0_oddsOn wsX0_oddsOn) := goodIn_app (goodIn_of _ (by decide +kernel)) ggX3_likeliest_X0_oddsOn
set_option maxRecDepth 20000 in
theorem ggX3_likeliest_X3_refuse : GoodIn wsX3_likeliest wsX3_refuse := goodIn_r _ [36, 37, 38, 39, 19, 40, 41, 42, 43, 44, 45, 46, 47, 48] (by decide +kernel) (by decide +kernel)
set_option maxRecDepth 20000 in
theorem gX3_likeliest_X3_refuse : GoodIn wsX3_likeliest (wsV RX3 51 RX3 yX3_refuse wsX3_refuse) := goodIn_app (goodIn_of _ (by decide +kernel)) ggX3_likeliest_X3_refuse
set_option maxRecDepth 20000 in
theorem ggX3_caught_X0_weightsOf : GoodIn wsX3_caught wsX0_weightsOf := goodIn_r _ [7, 8, 9, 10, 11, 12, 95, 96, 97, 98, 99, 100, 101, 102, 103, 104, 105] (by decide +kernel) (by decide +kernel)
set_option maxRecDepth 20000 in
theorem gX3_caught_X0_weightsOf : GoodIn wsX3_caught (wsV RX3 195 RX0 yX0_weightsOf wsX0_weightsOf) := goodIn_app (goodIn_of _ (by decide +kernel)) ggX3_caught_X0_weightsOf
set_option maxRecDepth 20000 in
theorem ggX3_caught_X3_refuse : GoodIn wsX3_caught wsX3_refuse := goodIn_r _ [16, 17, 18, 19, 11, 20, 87, 88, 89, 90, 91, 92, 93, 94] (by decide +kernel) (by decide +kernel)
set_option maxRecDepth 20000 in
theorem gX3_caught_X3_refuse : GoodIn wsX3_caught (wsV RX3 51 RX3 yX3_refuse wsX3_refuse) := goodIn_app (goodIn_of _ (by decide +kernel)) ggX3_caught_X3_refuse
set_option maxRecDepth 20000 in
theorem ggX3_caught_X0_bySurprise : GoodIn wsX3_caught wsX0_bySurprise := goodIn_r _ [24, 25, 26, 27, 28, 6, 29, 30, 31, 32, 33, 34, 35, 36, 37, 38, 39, 40, 41, 42, 43, 44, 45, 46, 47, 48, 49, 50, 51, 52, 53, 54, 55, 56, 57, 11, 58, 59, 10, 12, 60, 61, 62, 63, 64, 65, 66, 67, 68, 69, 70, 71, 72, 73, 74, 8, 75, 76, 77, 78, 9, 79, 80, 81, 82, 95, 96, 97, 98, 99, 100, 101, 102, 103, 104, 105] (by decide +kernel) (by decide +kernel)
set_option maxRecDepth 20000 in
theorem gX3_caught_X0_bySurprise : GoodIn wsX3_caught (wsV RX3 219 RX0 yX0_bySurprise wsX0_bySurprise) := goodIn_app (goodIn_of _ (by decide +kernel)) ggX3_caught_X0_bySurprise
set_option maxRecDepth 20000 in
theorem ggX3_caught_X3_shareOf : GoodIn wsX3_caught wsX3_shareOf := goodIn_r _ [85, 86] (by decide +kernel) (by decide +kernel)
set_option maxRecDepth 20000 in
theorem gX3_caught_X3_shareOf : GoodIn wsX3_caught (va_wsS RX3 230 yX3_shareOf wsX3_shareOf) := goodIn_app (goodIn_of _ (by decide +kernel)) ggX3_caught_X3_shareOf
set_option maxRecDepth 20000 in
theorem ggX3_by_X0_isMorning : GoodIn wsX3_by wsX0_isMorning := goodIn_r _ [7, 8, 9, 10, 11, 42, 43, 44, 45, 46, 47, 48, 49, 50, 51, 52] (by decide +kernel) (by decide +kernel)
set_option maxRecDepth 20000 in
theorem gX3_by_X0_isMorning : GoodIn wsX3_by (wsV RX3 129 RX0 yX0_isMorning wsX0_isMorning) := goodIn_app (goodIn_of _ (by decide +kernel)) ggX3_by_X0_isMorning
set_option maxRecDepth 20000 in
theorem ggX3_by_X3_refuse : GoodIn wsX3_by wsX3_refuse := goodIn_r _ [15, 16, 17, 9, 10, 11, 34, 35, 36, 37, 38, 39, 40, 41] (by decide +kernel) (by decide +kernel)
set_option maxRecDepth 20000 in
theorem gX3_by_X3_refuse : GoodIn wsX3_by (wsV RX3 51 RX3 yX3_refuse wsX3_refuse) := goodIn_app (goodIn_of _ (by decide +kernel)) ggX3_by_X3_refuse
set_option maxRecDepth 20000 in
theorem ggX3_by_X0_weightsOf : GoodIn wsX3_by wsX0_weightsOf := goodIn_r _ [21, 8, 22, 23, 10, 24, 42, 43, 44, 45, 46, 47, 48, 49, 50, 51, 52] (by decide +kernel) (by decide +kernel)
set_option maxRecDepth 20000 in
theorem gX3_by_X0_weightsOf : GoodIn wsX3_by (wsV RX3 195 RX0 yX0_weightsOf wsX0_weightsOf) := goodIn_app (goodIn_of _ (by decide +kernel)) ggX3_by_X0_weightsOf
set_option maxRecDepth 20000 in
theorem ggX3_by_X0_stillOn : GoodIn wsX3_by wsX0_stillOn := goodIn_r _ [28, 29, 42, 43, 44, 45, 46, 47, 48, 49, 50, 51, 52] (by decide +kernel) (by decide +kernel)
set_option maxRecDepth 20000 in
theorem gX3_by_X0_stillOn : GoodIn wsX3_by (wsV RX3 192 RX0 yX0_stillOn wsX0_stillOn) := goodIn_app (goodIn_of _ (by decide +kernel)) ggX3_by_X0_stillOn
set_option maxRecDepth 20000 in
theorem ggX3_by_X3_shareOf : GoodIn wsX3_by wsX3_shareOf := goodIn_r _ [32, 33] (by decide +kernel) (by decide +kernel)
set_option maxRecDepth 20000 in
theorem gX3_by_X3_shareOf : GoodIn wsX3_by (va_wsS RX3 230 yX3_shareOf wsX3_shareOf) := goodIn_app (goodIn_of _ (by decide +kernel)) ggX3_by_X3_shareOf
set_option maxRecDepth 20000 in
theorem ggX3_mean_X0_weightsOf : GoodIn wsX3_mean wsX0_weightsOf := goodIn_r _ [8, 9, 10, 11, 12, 13, 39, 40, 41, 42, 43, 44, 45, 46, 47, 48, 49] (by decide +kernel) (by decide +kernel)
set_option maxRecDepth 20000 in
theorem gX3_mean_X0_weightsOf : GoodIn wsX3_mean (wsV RX3 195 RX0 yX0_weightsOf wsX0_weightsOf) := goodIn_app (goodIn_of _ (by decide +kernel)) ggX3_mean_X0_weightsOf
set_option maxRecDepth 20000 in
theorem ggX3_mean_X3_refuse : GoodIn wsX3_mean wsX3_refuse := goodIn_r _ [17, 18, 19, 20, 12, 21, 31, 32, 33, 34, 35, 36, 37, 38] (by decide +kernel) (by decide +kernel)
set_option maxRecDepth 20000 in
theorem gX3_mean_X3_refuse : GoodIn wsX3_mean (wsV RX3 51 RX3 yX3_refuse wsX3_refuse) := goodIn_app (goodIn_of _ (by decide +kernel)) ggX3_mean_X3_refuse
set_option maxRecDepth 20000 in
theorem ggX3_mean_X0_lotsOf : GoodIn wsX3_mean wsX0_lotsOf := goodIn_r _ [25, 10, 26, 27, 28, 7, 29, 30, 11, 12, 13, 39, 40, 41, 42, 43, 44, 45, 46, 47, 48, 49] (by decide +kernel) (by decide +kernel)
set_option maxRecDepth 20000 in
theorem gX3_mean_X0_lotsOf : GoodIn wsX3_mean (wsV RX3 233 RX0 yX0_lotsOf wsX0_lotsOf) := goodIn_app (goodIn_of _ (by decide +kernel)) ggX3_mean_X0_lotsOf
set_option maxRecDepth 20000 in
theorem ggX3_gain_X0_isMorning : GoodIn wsX3_gain wsX0_isMorning := goodIn_r _ [6, 7, 8, 9, 10, 60, 61, 62, 63, 64, 65, 66, 67, 68, 69, 70] (by decide +kernel) (by decide +kernel)
set_option maxRecDepth 20000 in
theorem gX3_gain_X0_isMorning : GoodIn wsX3_gain (wsV RX3 129 RX0 yX0_isMorning wsX0_isMorning) := goodIn_app (goodIn_of _ (by decide +kernel)) ggX3_gain_X0_isMorning
set_option maxRecDepth 20000 in
theorem ggX3_gain_X3_isCoin : GoodIn wsX3_gain wsX3_isCoin := goodIn_r _ [13, 14, 8, 9, 10] (by decide +kernel) (by decide +kernel)
set_option maxRecDepth 20000 in
theorem gX3_gain_X3_isCoin : GoodIn wsX3_gain (va_wsS RX3 236 yX3_isCoin wsX3_isCoin) := goodIn_app (goodIn_of _ (by decide +kernel)) ggX3_gain_X3_isCoin
set_option maxRecDepth 20000 in
theorem ggX3_gain_X3_refuseFarBelow : GoodIn wsX3_gain wsX3_refuseFarBelow := goodIn_r _ [18, 19, 20, 21, 22, 9, 23, 24, 14, 8, 10, 52, 53, 54, 55, 56, 57, 58, 59] (by decide +kernel) (by decide +kernel)
set_option maxRecDepth 20000 in
theorem gX3_gain_X3_refuseFarBelow : GoodIn wsX3_gain (wsV RX3 239 RX3 yX3_refuseFarBelow wsX3_refuseFarBelow) := goodIn_app (goodIn_of _ (by decide +kernel)) ggX3_gain_X3_refuseFarBelow
set_option maxRecDepth 20000 in
theorem ggX3_gain_X0_stillOn : GoodIn wsX3_gain wsX0_stillOn := goodIn_r _ [28, 29, 60, 61, 62, 63, 64, 65, 66, 67, 68, 69, 70] (by decide +kernel) (by decide +kernel)
set_option maxRecDepth 20000 in
theorem gX3_gain_X0_stillOn : GoodIn wsX3_gain (wsV RX3 192 RX0 yX0_stillOn wsX0_stillOn) := goodIn_app (goodIn_of _ (by decide +kernel)) ggX3_gain_X0_stillOn
set_option maxRecDepth 20000 in
theorem ggX3_gain_X0_weightsOf : GoodIn wsX3_gain wsX0_weightsOf := goodIn_r _ [33, 7, 34, 35, 9, 36, 60, 61, 62, 63, 64, 65, 66, 67, 68, 69, 70] (by decide +kernel) (by decide +kernel)
set_option maxRecDepth 20000 in
theorem gX3_gain_X0_weightsOf : GoodIn wsX3_gain (wsV RX3 195 RX0 yX0_weightsOf wsX0_weightsOf) := goodIn_app (goodIn_of _ (by decide +kernel)) ggX3_gain_X0_weightsOf
set_option maxRecDepth 20000 in
theorem ggX3_gain_X0_lotsOf : GoodIn wsX3_gain wsX0_lotsOf := goodIn_r _ [40, 34, 41, 42, 43, 5, 44, 29, 35, 9, 36, 60, 61, 62, 63, 64, 65, 66, 67, 68, 69, 70] (by decide +kernel) (by decide +kernel)
set_option maxRecDepth 20000 in
theorem gX3_gain_X0_lotsOf : GoodIn wsX3_gain (wsV RX3 233 RX0 yX0_lotsOf wsX0_lotsOf) := goodIn_app (goodIn_of _ (by decide +kernel)) ggX3_gain_X0_lotsOf
set_option maxRecDepth 20000 in
theorem ggX3_gain_X3_wagered : GoodIn wsX3_gain wsX3_wagered := goodIn_r _ [47, 48, 49, 50, 9, 51] (by decide +kernel) (by decide +kernel)
set_option maxRecDepth 20000 in
theorem gX3_gain_X3_wagered : GoodIn wsX3_gain (va_wsS RX3 242 yX3_wagered wsX3_wagered) := goodIn_app (goodIn_of _ (by decide +kernel)) ggX3_gain_X3_wagered
set_option maxRecDepth 20000 in
theorem ggX3_bet_X3_isCoin : GoodIn wsX3_bet wsX3_isCoin := goodIn_r _ [6, 7, 8, 5, 9] (by decide +kernel) (by decide +kernel)
set_option maxRecDepth 20000 in
theorem gX3_bet_X3_isCoin : GoodIn wsX3_bet (va_wsS RX3 236 yX3_isCoin wsX3_isCoin) := goodIn_app (goodIn_of _ (by decide +kernel)) ggX3_bet_X3_isCoin
set_option maxRecDepth 20000 in
theorem ggX3_bet_X3_refuse : GoodIn wsX3_bet wsX3_refuse := goodIn_r _ [13, 14, 7, 8, 5, 9, 49, 50, 51, 52, 53, 54, 55, 56] (by decide +kernel) (by decide +kernel)
set_option maxRecDepth 20000 in
theorem gX3_bet_X3_refuse : GoodIn wsX3_bet (wsV RX3 51 RX3 yX3_refuse wsX3_refuse) := goodIn_app (goodIn_of _ (by decide +kernel)) ggX3_bet_X3_refuse
set_option maxRecDepth 20000 in
theorem ggX3_bet_X0_isAllowed : GoodIn wsX3_bet wsX0_isAllowed := goodIn_r _ [19, 20, 21, 5, 22, 57, 58, 59, 60, 61, 62, 63, 64, 65, 66, 67] (by decide +kernel) (by decide +kernel)
set_option maxRecDepth 20000 in
theorem gX3_bet_X0_isAllowed : GoodIn wsX3_bet (wsV RX3 132 RX0 yX0_isAllowed wsX0_isAllowed) := goodIn_app (goodIn_of _ (by decide +kernel)) ggX3_bet_X0_isAllowed
set_option maxRecDepth 20000 in
theorem ggX3_bet_X3_isNoLoss : GoodIn wsX3_bet wsX3_isNoLoss := goodIn_r _ [26, 1, 27, 28, 29, 18, 30, 20, 31, 32, 33, 34, 35, 36, 21, 5, 22, 37, 38, 39, 40, 41, 16, 17, 19, 42, 43, 44, 45, 46, 47, 48, 49, 50, 51, 52, 53, 54, 55, 56, 57, 58, 59, 60, 61, 62, 63, 64, 65, 66, 67] (by decide +kernel) (by decide +kernel)
set_option maxRecDepth 20000 in
theorem gX3_bet_X3_isNoLoss : GoodIn wsX3_bet (wsV RX3 246 RX3 yX3_isNoLoss wsX3_isNoLoss) := goodIn_app (goodIn_of _ (by decide +kernel)) ggX3_bet_X3_isNoLoss
set_option maxRecDepth 20000 in
theorem ggX3_fair_X0_isMorning : GoodIn wsX3_fair wsX0_isMorning := goodIn_r _ [6, 7, 8, 9, 10, 56, 57, 58, 59, 60, 61, 62, 63, 64, 65, 66] (by decide +kernel) (by decide +kernel)
set_option maxRecDepth 20000 in
theorem gX3_fair_X0_isMorning : GoodIn wsX3_fair (wsV RX3 129 RX0 yX0_isMorning wsX0_isMorning) := goodIn_app (goodIn_of _ (by decide +kernel)) ggX3_fair_X0_isMorning
set_option maxRecDepth 20000 in
theorem ggX3_fair_X3_refuse : GoodIn wsX3_fair wsX3_refuse := goodIn_r _ [14, 15, 16, 8, 9, 10, 48, 49, 50, 51, 52, 53, 54, 55] (by decide +kernel) (by decide +kernel)
set_option maxRecDepth 20000 in
theorem gX3_fair_X3_refuse : GoodIn wsX3_fair (wsV RX3 51 RX3 yX3_refuse wsX3_refuse) := goodIn_app (goodIn_of _ (by decide +kernel)) ggX3_fair_X3_refuse
set_option maxRecDepth 20000 in
theorem ggX3_fair_X3_isNoLoss : GoodIn wsX3_fair wsX3_isNoLoss := goodIn_r _ [20, 1, 21, 22, 23, 5, 24, 25, 26, 27, 28, 29, 7, 30, 31, 9, 32, 33, 34, 35, 36, 37, 38, 39, 40, 41, 42, 43, 44, 45, 46, 47, 48, 49, 50, 51, 52, 53, 54, 55, 56, 57, 58, 59, 60, 61, 62, 63, 64, 65, 66] (by decide +kernel) (by decide +kernel)
set_option maxRecDepth 20000 in
theorem gX3_fair_X3_isNoLoss : GoodIn wsX3_fair (wsV RX3 246 RX3 yX3_isNoLoss wsX3_isNoLoss) := goodIn_app (goodIn_of _ (by decide +kernel)) ggX3_fair_X3_isNoLoss
set_option maxRecDepth 20000 in
theorem ggX3_book_X3_isWithin : GoodIn wsX3_book wsX3_isWithin := goodIn_r _ [8] (by decide +kernel) (by decide +kernel)
set_option maxRecDepth 20000 in
theorem gX3_book_X3_isWithin : GoodIn wsX3_book (va_wsS RX3 47 yX3_isWithin wsX3_isWithin) := goodIn_app (goodIn_of _ (by decide +kernel)) ggX3_book_X3_isWithin
set_option maxRecDepth 20000 in
theorem ggX3_book_X3_refuseFarBelow : GoodIn wsX3_book wsX3_refuseFarBelow := goodIn_r _ [12, 13, 14, 15, 16, 7, 17, 18, 5, 6, 8, 75, 76, 77, 78, 79, 80, 81, 82] (by decide +kernel) (by decide +kernel)
set_option maxRecDepth 20000 in
theorem gX3_book_X3_refuseFarBelow : GoodIn wsX3_book (wsV RX3 239 RX3 yX3_refuseFarBelow wsX3_refuseFarBelow) := goodIn_app (goodIn_of _ (by decide +kernel)) ggX3_book_X3_refuseFarBelow
set_option maxRecDepth 20000 in
theorem ggX3_book_X3_rowRefusal : GoodIn wsX3_book wsX3_rowRefusal := goodIn_r _ [22, 1, 23, 24, 7, 25, 5, 6, 8, 26, 27, 28, 29, 30, 31, 32, 33, 34, 35, 75, 76, 77, 78, 79, 80, 81, 82, 94, 95, 96] (by decide +kernel) (by decide +kernel)
set_option maxRecDepth 20000 in
theorem gX3_book_X3_rowRefusal : GoodIn wsX3_book (wsV RX3 59 RX3 yX3_rowRefusal wsX3_rowRefusal) := goodIn_app (goodIn_of _ (by decide +kernel)) ggX3_book_X3_rowRefusal
set_option maxRecDepth 20000 in
theorem ggX3_book_X3_areWagers : GoodIn wsX3_book wsX3_areWagers := goodIn_r _ [39, 4, 40, 2, 41, 42, 43, 44, 29, 45, 46, 47, 48, 7, 49, 5, 6, 8, 94, 95, 96, 75, 76, 77, 78, 79, 80, 81, 82, 83, 84, 85, 86, 87, 88, 89, 90, 91, 92, 93] (by decide +kernel) (by decide +kernel)
set_option maxRecDepth 20000 in
theorem gX3_book_X3_areWagers : GoodIn wsX3_book (wsV RX3 249 RX3 yX3_areWagers wsX3_areWagers) := goodIn_app (goodIn_of _ (by decide +kernel)) ggX3_book_X3_areWagers
set_option maxRecDepth 20000 in
theorem ggX3_book_X0_weightsOf : GoodIn wsX3_book wsX0_weightsOf := goodIn_r _ [54, 55, 56, 57, 7, 58, 83, 84, 85, 86, 87, 88, 89, 90, 91, 92, 93] (by decide +kernel) (by decide +kernel)
set_option maxRecDepth 20000 in
theorem gX3_book_X0_weightsOf : GoodIn wsX3_book (wsV RX3 195 RX0 yX0_weightsOf wsX0_weightsOf) := goodIn_app (goodIn_of _ (by decide +kernel)) ggX3_book_X0_weightsOf
set_option maxRecDepth 20000 in
theorem ggX3_book_X0_lotsOf : GoodIn wsX3_book wsX0_lotsOf := goodIn_r _ [62, 56, 63, 64, 65, 53, 66, 67, 57, 7, 58, 83, 84, 85, 86, 87, 88, 89, 90, 91, 92, 93] (by decide +kernel) (by decide +kernel)
set_option maxRecDepth 20000 in
theorem gX3_book_X0_lotsOf : GoodIn wsX3_book (wsV RX3 233 RX0 yX0_lotsOf wsX0_lotsOf) := goodIn_app (goodIn_of _ (by decide +kernel)) ggX3_book_X0_lotsOf
set_option maxRecDepth 20000 in
theorem ggX3_book_X3_wagered : GoodIn wsX3_book wsX3_wagered := goodIn_r _ [70, 71, 72, 73, 7, 74] (by decide +kernel) (by decide +kernel)
set_option maxRecDepth 20000 in
theorem gX3_book_X3_wagered : GoodIn wsX3_book (va_wsS RX3 242 yX3_wagered wsX3_wagered) := goodIn_app (goodIn_of _ (by decide +kernel)) ggX3_book_X3_wagered
set_option maxRecDepth 20000 in
theorem ggX3_best_X3_isWithin : GoodIn wsX3_best wsX3_isWithin := goodIn_r _ [7] (by decide +kernel) (by decide +kernel)
set_option maxRecDepth 20000 in
theorem gX3_best_X3_isWithin : GoodIn wsX3_best (va_wsS RX3 47 yX3_isWithin wsX3_isWithin) := goodIn_app (goodIn_of _ (by decide +kernel)) ggX3_best_X3_isWithin
set_option maxRecDepth 20000 in
theorem ggX3_best_X0_isMorning : GoodIn wsX3_best wsX0_isMorning := goodIn_r _ [12, 13, 5, 6, 7, 124, 125, 126, 127, 128, 129, 130, 131, 132, 133, 134] (by decide +kernel) (by decide +kernel)
set_option maxRecDepth 20000 in
theorem gX3_best_X0_isMorning : GoodIn wsX3_best (wsV RX3 129 RX0 yX0_isMorning wsX0_isMorning) := goodIn_app (goodIn_of _ (by decide +kernel)) ggX3_best_X0_isMorning
set_option maxRecDepth 20000 in
theorem ggX3_best_X3_refuse : GoodIn wsX3_best wsX3_refuse := goodIn_r _ [17, 18, 4, 5, 6, 7, 116, 117, 118, 119, 120, 121, 122, 123] (by decide +kernel) (by decide +kernel)
set_option maxRecDepth 20000 in
theorem gX3_best_X3_refuse : GoodIn wsX3_best (wsV RX3 51 RX3 yX3_refuse wsX3_refuse) := goodIn_app (goodIn_of _ (by decide +kernel)) ggX3_best_X3_refuse
set_option maxRecDepth 20000 in
theorem ggX3_best_X3_seekBestRow : GoodIn wsX3_best wsX3_seekBestRow := goodIn_r _ [22, 23, 1, 24, 2, 25, 3, 26, 27, 28, 29, 30, 31, 32, 11, 33, 13, 34, 35, 36, 37, 38, 39, 40, 41, 42, 43, 44, 45, 46, 47, 48, 49, 6, 50, 51, 52, 53, 54, 55, 56, 57, 58, 59, 60, 61, 62, 63, 64, 65, 66, 67, 68, 69, 70, 71, 72, 73, 74, 75, 76, 77, 78, 79, 80, 81, 82, 83, 84, 85, 86, 87, 88, 89, 90, 91, 92, 93, 94, 95, 96, 97, 98, 99, 100, 101, 102, 103, 104, 105, 106, 107, 108, 109, 110, 111, 112, 113, 114, 115, 116, 117, 118, 119, 120, 121, 122, 123, 124, 125, 126, 127, 128, 129, 130, 131, 132, 133, 134] (by decide +kernel) (by decide +kernel)
set_option maxRecDepth 20000 in
theorem gX3_best_X3_seekBestRow : GoodIn wsX3_best (wsV RX3 253 RX3 yX3_seekBestRow wsX3_seekBestRow) := goodIn_app (goodIn_of _ (by decide +kernel)) ggX3_best_X3_seekBestRow
set_option maxRecDepth 20000 in
theorem ggX3_will_X0_allMornings : GoodIn wsX3_will wsX0_allMornings := goodIn_r _ [6, 7, 100, 101, 102, 103, 104, 105, 106, 107, 108, 109, 110] (by decide +kernel) (by decide +kernel)
set_option maxRecDepth 20000 in
theorem gX3_will_X0_allMornings : GoodIn wsX3_will (wsV RX3 144 RX0 yX0_allMornings wsX0_allMornings) := goodIn_app (goodIn_of _ (by decide +kernel)) ggX3_will_X0_allMornings
set_option maxRecDepth 20000 in
theorem ggX3_will_X3_leastSaidAgainst : GoodIn wsX3_will wsX3_leastSaidAgainst := goodIn_r _ [12, 13, 1, 14, 15, 16, 17, 5, 18, 7, 19, 20, 21, 22, 23, 24, 25, 26, 27, 28, 29, 30, 31, 32, 33, 34, 35, 36, 37, 38, 39, 40, 41, 42, 43, 44, 45, 46, 47, 48, 49, 50, 51, 52, 53, 54, 55, 56, 57, 58, 59, 60, 61, 62, 63, 64, 11, 65, 66, 67, 68, 69, 70, 71, 72, 73, 74, 75, 76, 77, 78, 79, 80, 81, 82, 83, 84, 85, 86, 87, 88, 89, 90, 91, 92, 93, 94, 95, 96, 97, 98, 99, 100, 101, 102, 103, 104, 105, 106, 107, 108, 109, 110] (by decide +kernel) (by decide +kernel)
set_option maxRecDepth 20000 in
theorem gX3_will_X3_leastSaidAgainst : GoodIn wsX3_will (wsV RX3 256 RX3 yX3_leastSaidAgainst wsX3_leastSaidAgainst) := goodIn_app (goodIn_of _ (by decide +kernel)) ggX3_will_X3_leastSaidAgainst
set_option maxRecDepth 20000 in
theorem ggX3_level_X0_isMorning : GoodIn wsX3_level wsX0_isMorning := goodIn_r _ [6, 7, 8, 9, 10, 108, 109, 110, 111, 112, 113, 114, 115, 116, 117, 118] (by decide +kernel) (by decide +kernel)
set_option maxRecDepth 20000 in
theorem gX3_level_X0_isMorning : GoodIn wsX3_level (wsV RX3 129 RX0 yX0_isMorning wsX0_isMorning) := goodIn_app (goodIn_of _ (by decide +kernel)) ggX3_level_X0_isMorning
set_option maxRecDepth 20000 in
theorem ggX3_level_X3_leastSaidAgainst : GoodIn wsX3_level wsX3_leastSaidAgainst := goodIn_r _ [14, 15, 1, 16, 17, 18, 19, 5, 20, 7, 21, 22, 23, 24, 25, 26, 27, 28, 29, 30, 31, 32, 33, 34, 35, 36, 37, 38, 39, 40, 41, 42, 43, 44, 45, 46, 47, 48, 49, 50, 51, 52, 53, 54, 55, 56, 57, 58, 59, 60, 61, 62, 63, 64, 65, 66, 9, 67, 68, 69, 70, 71, 72, 73, 74, 75, 76, 77, 78, 79, 80, 81, 82, 83, 84, 85, 86, 87, 88, 89, 90, 91, 92, 93, 100, 101, 102, 103, 104, 105, 106, 107, 108, 109, 110, 111, 112, 113, 114, 115, 116, 117, 118] (by decide +kernel) (by decide +kernel)
set_option maxRecDepth 20000 in
theorem gX3_level_X3_leastSaidAgainst : GoodIn wsX3_level (wsV RX3 256 RX3 yX3_leastSaidAgainst wsX3_leastSaidAgainst) := goodIn_app (goodIn_of _ (by decide +kernel)) ggX3_level_X3_leastSaidAgainst
set_option maxRecDepth 20000 in
theorem ggX3_level_X3_refuse : GoodIn wsX3_level wsX3_refuse := goodIn_r _ [97, 98, 99, 8, 9, 10, 100, 101, 102, 103, 104, 105, 106, 107] (by decide +kernel) (by decide +kernel)
set_option maxRecDepth 20000 in
theorem gX3_level_X3_refuse : GoodIn wsX3_level (wsV RX3 51 RX3 yX3_refuse wsX3_refuse) := goodIn_app (goodIn_of _ (by decide +kernel)) ggX3_level_X3_refuse
set_option maxRecDepth 20000 in
theorem ggX3_spoils_X0_isSomebody : GoodIn wsX3_spoils wsX0_isSomebody := goodIn_r _ [6, 7, 8, 9, 10, 124, 125, 126, 127, 128, 129, 130, 131, 132, 133, 134] (by decide +kernel) (by decide +kernel)
set_option maxRecDepth 20000 in
theorem gX3_spoils_X0_isSomebody : GoodIn wsX3_spoils (wsV RX3 94 RX0 yX0_isSomebody wsX0_isSomebody) := goodIn_app (goodIn_of _ (by decide +kernel)) ggX3_spoils_X0_isSomebody
set_option maxRecDepth 20000 in
theorem ggX3_spoils_X3_moreWithout : GoodIn wsX3_spoils wsX3_moreWithout := goodIn_r _ [14, 15, 1, 16, 17, 18, 5, 19, 20, 21, 22, 23, 24, 25, 26, 27, 7, 28, 29, 30, 31, 32, 33, 34, 35, 36, 37, 38, 3, 4, 6, 8, 9, 10, 39, 40, 41, 42, 43, 44, 45, 46, 47, 48, 49, 50, 51, 52, 53, 54, 55, 56, 57, 58, 59, 60, 61, 62, 63, 64, 65, 66, 67, 68, 69, 70, 71, 72, 73, 74, 75, 76, 77, 78, 79, 80, 81, 82, 83, 84, 85, 86, 87, 88, 89, 90, 91, 92, 93, 94, 95, 96, 97, 98, 99, 100, 101, 102, 103, 104, 116, 117, 118, 119, 120, 121, 122, 123, 124, 125, 126, 127, 128, 129, 130, 131, 132, 133, 134] (by decide +kernel) (by decide +kernel)
set_option maxRecDepth 20000 in
theorem gX3_spoils_X3_moreWithout : GoodIn wsX3_spoils (wsV RX3 259 RX3 yX3_moreWithout wsX3_moreWithout) := goodIn_app (goodIn_of _ (by decide +kernel)) ggX3_spoils_X3_moreWithout
set_option maxRecDepth 20000 in
theorem ggX3_spoils_X3_refuseFarBelow : GoodIn wsX3_spoils wsX3_refuseFarBelow := goodIn_r _ [108, 109, 110, 111, 112, 9, 113, 114, 115, 8, 10, 116, 117, 118, 119, 120, 121, 122, 123] (by decide +kernel) (by decide +kernel)
set_option maxRecDepth 20000 in
theorem gX3_spoils_X3_refuseFarBelow : GoodIn wsX3_spoils (wsV RX3 239 RX3 yX3_refuseFarBelow wsX3_refuseFarBelow) := goodIn_app (goodIn_of _ (by decide +kernel)) ggX3_spoils_X3_refuseFarBelow
set_option maxRecDepth 20000 in
theorem ggX3_spoiler_X3_refuse : GoodIn wsX3_spoiler wsX3_refuse := goodIn_r _ [7, 8, 9, 10, 6, 11, 111, 112, 113, 114, 115, 116, 117, 118] (by decide +kernel) (by decide +kernel)
set_option maxRecDepth 20000 in
theorem gX3_spoiler_X3_refuse : GoodIn wsX3_spoiler (wsV RX3 51 RX3 yX3_refuse wsX3_refuse) := goodIn_app (goodIn_of _ (by decide +kernel)) ggX3_spoiler_X3_refuse
set_option maxRecDepth 20000 in
theorem ggX3_spoiler_X3_moreWithout : GoodIn wsX3_spoiler wsX3_moreWithout := goodIn_r _ [15, 16, 1, 17, 18, 19, 20, 21, 22, 23, 24, 25, 26, 27, 28, 29, 30, 31, 32, 33, 34, 35, 36, 37, 38, 39, 40, 41, 42, 43, 44, 10, 6, 11, 45, 46, 47, 48, 49, 50, 51, 52, 53, 54, 55, 56, 57, 58, 59, 60, 61, 62, 63, 64, 65, 66, 67, 68, 69, 70, 71, 72, 73, 74, 75, 76, 77, 78, 79, 80, 81, 82, 83, 84, 85, 86, 87, 88, 89, 90, 91, 92, 93, 94, 95, 96, 97, 98, 99, 100, 101, 102, 103, 104, 105, 106, 107, 108, 109, 110, 111, 112, 113, 114, 115, 116, 117, 118, 119, 120, 121, 122, 123, 124, 125, 126, 127, 128, 129] (by decide +kernel) (by decide +kernel)
set_option maxRecDepth 20000 in
theorem gX3_spoiler_X3_moreWithout : GoodIn wsX3_spoiler (wsV RX3 259 RX3 yX3_moreWithout wsX3_moreWithout) := goodIn_app (goodIn_of _ (by decide +kernel)) ggX3_spoiler_X3_moreWithout
set_option maxRecDepth 20000 in
theorem ggX3_deeper_X0_isSomebody : GoodIn wsX3_deeper wsX0_isSomebody := goodIn_r _ [8, 9, 10, 11, 12, 100, 101, 102, 103, 104, 105, 106, 107, 108, 109, 110] (by decide +kernel) (by decide +kernel)
set_option maxRecDepth 20000 in
theorem gX3_deeper_X0_isSomebody : GoodIn wsX3_deeper (wsV RX3 94 RX0 yX0_isSomebody wsX0_isSomebody) := goodIn_app (goodIn_of _ (by decide +kernel)) ggX3_deeper_X0_isSomebody
set_option maxRecDepth 20000 in
theorem ggX3_deeper_X0_isMorning : GoodIn wsX3_deeper wsX0_isMorning := goodIn_r _ [16, 17, 10, 11, 12, 100, 101, 102, 103, 104, 105, 106, 107, 108, 109, 110] (by decide +kernel) (by decide +kernel)
set_option maxRecDepth 20000 in
theorem gX3_deeper_X0_isMorning : GoodIn wsX3_deeper (wsV RX3 129 RX0 yX0_isMorning wsX0_isMorning) := goodIn_app (goodIn_of _ (by decide +kernel)) ggX3_deeper_X0_isMorning
set_option maxRecDepth 20000 in
theorem ggX3_deeper_X3_refuse : GoodIn wsX3_deeper wsX3_refuse := goodIn_r _ [21, 22, 23, 10, 11, 12, 92, 93, 94, 95, 96, 97, 98, 99] (by decide +kernel) (by decide +kernel)
set_option maxRecDepth 20000 in
theorem gX3_deeper_X3_refuse : GoodIn wsX3_deeper (wsV RX3 51 RX3 yX3_refuse wsX3_refuse) := goodIn_app (goodIn_of _ (by decide +kernel)) ggX3_deeper_X3_refuse
set_option maxRecDepth 20000 in
theorem ggX3_deeper_X0_become : GoodIn wsX3_deeper wsX0_become := goodIn_r _ [27, 17, 28, 29, 30, 31, 32, 33, 34, 9, 35, 36, 37, 38, 39, 40, 100, 101, 102, 103, 104, 105, 106, 107, 108, 109, 110] (by decide +kernel) (by decide +kernel)
set_option maxRecDepth 20000 in
theorem gX3_deeper_X0_become : GoodIn wsX3_deeper (wsV RX3 165 RX0 yX0_become wsX0_become) := goodIn_app (goodIn_of _ (by decide +kernel)) ggX3_deeper_X0_become
set_option maxRecDepth 20000 in
theorem ggX3_deeper_X0_expectedBy : GoodIn wsX3_deeper wsX0_expectedBy := goodIn_r _ [44, 45, 46, 47, 7, 48, 35, 49, 50, 51, 52, 9, 53, 54, 55, 56, 34, 57, 58, 59, 60, 61, 62, 63, 36, 64, 65, 66, 67, 28, 68, 11, 69, 70, 71, 72, 73, 74, 75, 76, 77, 78, 79, 80, 81, 82, 83, 17, 84, 85, 86, 87, 29, 88, 89, 90, 91, 100, 101, 102, 103, 104, 105, 106, 107, 108, 109, 110] (by decide +kernel) (by decide +kernel)
set_option maxRecDepth 20000 in
theorem gX3_deeper_X0_expectedBy : GoodIn wsX3_deeper (wsV RX3 189 RX0 yX0_expectedBy wsX0_expectedBy) := goodIn_app (goodIn_of _ (by decide +kernel)) ggX3_deeper_X0_expectedBy
set_option maxRecDepth 20000 in
theorem ggX3_deeper_X3_isIn : GoodIn wsX3_deeper wsX3_isIn := goodIn_r _ [72] (by decide +kernel) (by decide +kernel)
set_option maxRecDepth 20000 in
theorem gX3_deeper_X3_isIn : GoodIn wsX3_deeper (va_wsS RX3 201 yX3_isIn wsX3_isIn) := goodIn_app (goodIn_of _ (by decide +kernel)) ggX3_deeper_X3_isIn
set_option maxRecDepth 20000 in
theorem ggX3_crowd_X3_isKind : GoodIn wsX3_crowd wsX3_isKind := goodIn_r _ [8, 9, 10, 7, 11] (by decide +kernel) (by decide +kernel)
set_option maxRecDepth 20000 in
theorem gX3_crowd_X3_isKind : GoodIn wsX3_crowd (va_wsS RX3 104 yX3_isKind wsX3_isKind) := goodIn_app (goodIn_of _ (by decide +kernel)) ggX3_crowd_X3_isKind
set_option maxRecDepth 20000 in
theorem ggX3_crowd_X3_refuse : GoodIn wsX3_crowd wsX3_refuse := goodIn_r _ [15, 16, 9, 10, 7, 11, 96, 97, 98, 99, 100, 101, 102, 103] (by decide +kernel) (by decide +kernel)
set_option maxRecDepth 20000 in
theorem gX3_crowd_X3_refuse : GoodIn wsX3_crowd (wsV RX3 51 RX3 yX3_refuse wsX3_refuse) := goodIn_app (goodIn_of _ (by decide +kernel)) ggX3_crowd_X3_refuse
set_option maxRecDepth 20000 in
theorem ggX3_crowd_X0_become : GoodIn wsX3_crowd wsX0_become := goodIn_r _ [21, 22, 23, 24, 25, 26, 27, 28, 29, 30, 31, 32, 33, 34, 35, 36, 104, 105, 106, 107, 108, 109, 110, 111, 112, 113, 114] (by decide +kernel) (by decide +kernel)
set_option maxRecDepth 20000 in
theorem gX3_crowd_X0_become : GoodIn wsX3_crowd (wsV RX3 165 RX0 yX0_become wsX0_become) := goodIn_app (goodIn_of _ (by decide +kernel)) ggX3_crowd_X0_become
set_option maxRecDepth 20000 in
theorem ggX3_crowd_X0_bySurprise : GoodIn wsX3_crowd wsX0_bySurprise := goodIn_r _ [40, 23, 41, 42, 43, 20, 44, 30, 45, 46, 47, 48, 31, 49, 50, 51, 52, 53, 54, 55, 56, 29, 57, 58, 59, 60, 61, 62, 63, 32, 64, 65, 66, 67, 68, 7, 69, 70, 71, 72, 73, 74, 75, 76, 77, 78, 79, 80, 81, 82, 83, 84, 85, 86, 87, 22, 88, 89, 90, 91, 24, 92, 93, 94, 95, 104, 105, 106, 107, 108, 109, 110, 111, 112, 113, 114] (by decide +kernel) (by decide +kernel)
set_option maxRecDepth 20000 in
theorem gX3_crowd_X0_bySurprise : GoodIn wsX3_crowd (wsV RX3 219 RX0 yX0_bySurprise wsX0_bySurprise) := goodIn_app (goodIn_of _ (by decide +kernel)) ggX3_crowd_X0_bySurprise
set_option maxRecDepth 20000 in
theorem ggX3_second_X0_isMorning : GoodIn wsX3_second wsX0_isMorning := goodIn_r _ [7, 8, 9, 10, 11, 33, 34, 35, 36, 37, 38, 39, 40, 41, 42, 43] (by decide +kernel) (by decide +kernel)
set_option maxRecDepth 20000 in
theorem gX3_second_X0_isMorning : GoodIn wsX3_second (wsV RX3 129 RX0 yX0_isMorning wsX0_isMorning) := goodIn_app (goodIn_of _ (by decide +kernel)) ggX3_second_X0_isMorning
set_option maxRecDepth 20000 in
theorem ggX3_second_X3_isWithin : GoodIn wsX3_second wsX3_isWithin := goodIn_r _ [11] (by decide +kernel) (by decide +kernel)
set_option maxRecDepth 20000 in
theorem gX3_second_X3_isWithin : GoodIn wsX3_second (va_wsS RX3 47 yX3_isWithin wsX3_isWithin) := goodIn_app (goodIn_of _ (by decide +kernel)) ggX3_second_X3_isWithin
set_option maxRecDepth 20000 in
theorem ggX3_second_X3_refuse : GoodIn wsX3_second wsX3_refuse := goodIn_r _ [16, 17, 12, 9, 10, 11, 25, 26, 27, 28, 29, 30, 31, 32] (by decide +kernel) (by decide +kernel)
set_option maxRecDepth 20000 in
theorem gX3_second_X3_refuse : GoodIn wsX3_second (wsV RX3 51 RX3 yX3_refuse wsX3_refuse) := goodIn_app (goodIn_of _ (by decide +kernel)) ggX3_second_X3_refuse
set_option maxRecDepth 20000 in
theorem ggX3_second_X0_isAllowed : GoodIn wsX3_second wsX0_isAllowed := goodIn_r _ [21, 22, 23, 10, 24, 33, 34, 35, 36, 37, 38, 39, 40, 41, 42, 43] (by decide +kernel) (by decide +kernel)
set_option maxRecDepth 20000 in
theorem gX3_second_X0_isAllowed : GoodIn wsX3_second (wsV RX3 132 RX0 yX0_isAllowed wsX0_isAllowed) := goodIn_app (goodIn_of _ (by decide +kernel)) ggX3_second_X0_isAllowed
set_option maxRecDepth 20000 in
theorem ggX3_hints_X3_isWithin : GoodIn wsX3_hints wsX3_isWithin := goodIn_r _ [4] (by decide +kernel) (by decide +kernel)
set_option maxRecDepth 20000 in
theorem gX3_hints_X3_isWithin : GoodIn wsX3_hints (va_wsS RX3 47 yX3_isWithin wsX3_isWithin) := goodIn_app (goodIn_of _ (by decide +kernel)) ggX3_hints_X3_isWithin
set_option maxRecDepth 20000 in
theorem ggX3_hints_X3_refuse : GoodIn wsX3_hints wsX3_refuse := goodIn_r _ [8, 9, 1, 2, 3, 4, 107, 108, 109, 110, 111, 112, 113, 114] (by decide +kernel) (by decide +kernel)
set_option maxRecDepth 20000 in
theorem gX3_hints_X3_refuse : GoodIn wsX3_hints (wsV RX3 51 RX3 yX3_refuse wsX3_refuse) := goodIn_app (goodIn_of _ (by decide +kernel)) ggX3_hints_X3_refuse
set_option maxRecDepth 20000 in
theorem ggX3_hints_X3_seekHint : GoodIn wsX3_hints wsX3_seekHint := goodIn_r _ [13, 14, 15, 16, 17, 18, 19, 20, 21, 22, 23, 24, 25, 26, 27, 28, 29, 30, 31, 32, 33, 34, 35, 36, 37, 38, 39, 40, 41, 42, 43, 44, 45, 46, 47, 48, 49, 50, 51, 52, 53, 54, 55, 56, 57, 58, 59, 60, 61, 62, 63, 64, 65, 66, 67, 68, 3, 69, 70, 71, 72, 73, 74, 75, 76, 77, 78, 79, 80, 81, 82, 83, 84, 85, 86, 87, 88, 89, 90, 91, 92, 93, 94, 95, 96, 97, 98, 99, 100, 101, 102, 107, 108, 109, 110, 111, 112, 113, 114, 115, 116, 117, 118, 119, 120, 121, 122, 123, 124, 125] (by decide +kernel) (by decide +kernel)
set_option maxRecDepth 20000 in
theorem gX3_hints_X3_seekHint : GoodIn wsX3_hints (wsV RX3 262 RX3 yX3_seekHint wsX3_seekHint) := goodIn_app (goodIn_of _ (by decide +kernel)) ggX3_hints_X3_seekHint
set_option maxRecDepth 20000 in
theorem ggX3_hints_X3_surprisesTold : GoodIn wsX3_hints wsX3_surprisesTold := goodIn_r _ [106, 14, 15, 16, 17, 18, 19, 20, 21, 22, 23, 24, 25, 26, 27, 28, 29, 30, 31, 32, 33, 34, 35, 36, 37, 38, 39, 40, 41, 42, 43, 44, 45, 46, 47, 48, 49, 50, 51, 52, 53, 54, 55, 56, 57, 58, 59, 60, 61, 62, 63, 64, 65, 66, 67, 68, 3, 69, 70, 71, 72, 73, 74, 75, 76, 77, 78, 79, 80, 81, 82, 83, 84, 85, 86, 87, 88, 89, 90, 91, 92, 93, 94, 95, 96, 97, 98, 99, 100, 101, 102, 107, 108, 109, 110, 111, 112, 113, 114, 115, 116, 117, 118, 119, 120, 121, 122, 123, 124, 125] (by decide +kernel) (by decide +kernel)
set_option maxRecDepth 20000 in
theorem gX3_hints_X3_surprisesTold : GoodIn wsX3_hints (wsV RX3 265 RX3 yX3_surprisesTold wsX3_surprisesTold) := goodIn_app (goodIn_of _ (by decide +kernel)) ggX3_hints_X3_surprisesTold
set_option maxRecDepth 20000 in
theorem ggX3_rules_X3_isWithin : GoodIn wsX3_rules wsX3_isWithin := goodIn_r _ [7] (by decide +kernel) (by decide +kernel)
set_option maxRecDepth 20000 in
theorem gX3_rules_X3_isWithin : GoodIn wsX3_rules (va_wsS RX3 47 yX3_isWithin wsX3_isWithin) := goodIn_app (goodIn_of _ (by decide +kernel)) ggX3_rules_X3_isWithin
set_option maxRecDepth 20000 in
theorem ggX3_rules_X3_refuse : GoodIn wsX3_rules wsX3_refuse := goodIn_r _ [11, 12, 4, 5, 6, 7, 50, 51, 52, 53, 54, 55, 56, 57] (by decide +kernel) (by decide +kernel)
set_option maxRecDepth 20000 in
theorem gX3_rules_X3_refuse : GoodIn wsX3_rules (wsV RX3 51 RX3 yX3_refuse wsX3_refuse) := goodIn_app (goodIn_of _ (by decide +kernel)) ggX3_rules_X3_refuse
set_option maxRecDepth 20000 in
theorem ggX3_rules_X3_rowRefusal : GoodIn wsX3_rules wsX3_rowRefusal := goodIn_r _ [16, 1, 17, 18, 6, 19, 4, 5, 7, 20, 21, 22, 23, 24, 25, 26, 27, 28, 29, 50, 51, 52, 53, 54, 55, 56, 57, 69, 70, 71] (by decide +kernel) (by decide +kernel)
set_option maxRecDepth 20000 in
theorem gX3_rules_X3_rowRefusal : GoodIn wsX3_rules (wsV RX3 59 RX3 yX3_rowRefusal wsX3_rowRefusal) := goodIn_app (goodIn_of _ (by decide +kernel)) ggX3_rules_X3_rowRefusal
set_option maxRecDepth 20000 in
theorem ggX3_rules_X3_areMornings : GoodIn wsX3_rules wsX3_areMornings := goodIn_r _ [33, 34, 2, 3, 35, 36, 37, 23, 38, 39, 69, 70, 71, 50, 51, 52, 53, 54, 55, 56, 57, 58, 59, 60, 61, 62, 63, 64, 65, 66, 67, 68] (by decide +kernel) (by decide +kernel)
set_option maxRecDepth 20000 in
theorem gX3_rules_X3_areMornings : GoodIn wsX3_rules (wsV RX3 268 RX3 yX3_areMornings wsX3_areMornings) := goodIn_app (goodIn_of _ (by decide +kernel)) ggX3_rules_X3_areMornings
set_option maxRecDepth 20000 in
theorem ggX3_rules_X3_fits : GoodIn wsX3_rules wsX3_fits := goodIn_r _ [43, 34, 2, 44, 45, 46, 47, 48, 49, 69, 70, 71, 50, 51, 52, 53, 54, 55, 56, 57, 58, 59, 60, 61, 62, 63, 64, 65, 66, 67, 68] (by decide +kernel) (by decide +kernel)
set_option maxRecDepth 20000 in
theorem gX3_rules_X3_fits : GoodIn wsX3_rules (wsV RX3 271 RX3 yX3_fits wsX3_fits) := goodIn_app (goodIn_of _ (by decide +kernel)) ggX3_rules_X3_fits
set_option maxRecDepth 20000 in
theorem ggX3_rules_X0_morningByRule : GoodIn wsX3_rules wsX0_morningByRule := goodIn_r _ [48, 49, 58, 59, 60, 61, 62, 63, 64, 65, 66, 67, 68] (by decide +kernel) (by decide +kernel)
set_option maxRecDepth 20000 in
theorem gX3_rules_X0_morningByRule : GoodIn wsX3_rules (wsV RX3 275 RX0 yX0_morningByRule wsX0_morningByRule) := goodIn_app (goodIn_of _ (by decide +kernel)) ggX3_rules_X0_morningByRule
set_option maxRecDepth 20000 in
theorem ggX3_judge_X3_listRefusal : GoodIn wsX3_judge wsX3_listRefusal := goodIn_r _ [7, 8, 1, 2, 9, 10, 11, 6, 12, 13, 14, 15, 16, 17, 18, 19, 20, 21, 22, 23, 24, 25, 26, 27, 28, 29, 30, 31, 32, 33, 111, 112, 113, 114, 115, 116, 117, 118, 119, 120, 121, 122, 123, 124, 125, 126, 127, 128, 129, 130, 131, 132] (by decide +kernel) (by decide +kernel)
set_option maxRecDepth 20000 in
theorem gX3_judge_X3_listRefusal : GoodIn wsX3_judge (wsV RX3 278 RX3 yX3_listRefusal wsX3_listRefusal) := goodIn_app (goodIn_of _ (by decide +kernel)) ggX3_judge_X3_listRefusal
set_option maxRecDepth 20000 in
theorem ggX3_judge_X3_refuse : GoodIn wsX3_judge wsX3_refuse := goodIn_r _ [37, 38, 16, 17, 6, 18, 111, 112, 113, 114, 115, 116, 117, 118] (by decide +kernel) (by decide +kernel)
set_option maxRecDepth 20000 in
theorem gX3_judge_X3_refuse : GoodIn wsX3_judge (wsV RX3 51 RX3 yX3_refuse wsX3_refuse) := goodIn_app (goodIn_of _ (by decide +kernel)) ggX3_judge_X3_refuse
set_option maxRecDepth 20000 in
theorem ggX3_judge_X3_wronglyTold : GoodIn wsX3_judge wsX3_wronglyTold := goodIn_r _ [42, 8, 43, 1, 44, 45, 46, 47, 48, 49, 50, 51, 52, 53, 54, 55, 56, 57, 58, 59, 60, 61, 62, 63, 64, 65, 66, 67, 68, 69, 70, 71, 72, 73, 74, 75, 76, 77, 78, 79, 80, 81, 82, 83, 84, 85, 6, 86, 87, 88, 89, 90, 91, 92, 93, 94, 95, 96, 97, 98, 99, 100, 101, 102, 103, 104, 105, 106, 107, 108, 109, 110, 111, 112, 113, 114, 115, 116, 117, 118, 130, 131, 132, 119, 120, 121, 122, 123, 124, 125, 126, 127, 128, 129] (by decide +kernel) (by decide +kernel)
set_option maxRecDepth 20000 in
theorem gX3_judge_X3_wronglyTold : GoodIn wsX3_judge (wsV RX3 281 RX3 yX3_wronglyTold wsX3_wronglyTold) := goodIn_app (goodIn_of _ (by decide +kernel)) ggX3_judge_X3_wronglyTold
set_option maxRecDepth 20000 in
theorem ggX3_unlike_X3_listRefusal : GoodIn wsX3_unlike wsX3_listRefusal := goodIn_r _ [7, 8, 1, 2, 9, 10, 11, 6, 12, 13, 14, 15, 16, 17, 18, 19, 20, 21, 22, 23, 24, 25, 26, 27, 28, 29, 30, 31, 32, 33, 118, 119, 120, 121, 122, 123, 124, 125, 126, 127, 128, 129, 130, 131, 132, 133, 134, 135, 136, 137, 138, 139] (by decide +kernel) (by decide +kernel)
set_option maxRecDepth 20000 in
theorem gX3_unlike_X3_listRefusal : GoodIn wsX3_unlike (wsV RX3 278 RX3 yX3_listRefusal wsX3_listRefusal) := goodIn_app (goodIn_of _ (by decide +kernel)) ggX3_unlike_X3_listRefusal
set_option maxRecDepth 20000 in
theorem ggX3_unlike_X3_refuse : GoodIn wsX3_unlike wsX3_refuse := goodIn_r _ [37, 38, 16, 17, 6, 18, 118, 119, 120, 121, 122, 123, 124, 125] (by decide +kernel) (by decide +kernel)
set_option maxRecDepth 20000 in
theorem gX3_unlike_X3_refuse : GoodIn wsX3_unlike (wsV RX3 51 RX3 yX3_refuse wsX3_refuse) := goodIn_app (goodIn_of _ (by decide +kernel)) ggX3_unlike_X3_refuse
set_option maxRecDepth 20000 in
theorem ggX3_unlike_X3_wronglyTold : GoodIn wsX3_unlike wsX3_wronglyTold := goodIn_r _ [42, 8, 43, 1, 44, 45, 46, 47, 48, 49, 50, 51, 52, 53, 54, 55, 56, 57, 58, 59, 60, 61, 62, 63, 64, 65, 66, 67, 68, 69, 70, 71, 72, 73, 74, 75, 76, 77, 78, 79, 80, 81, 82, 83, 84, 85, 6, 86, 87, 88, 89, 90, 91, 92, 93, 94, 95, 96, 97, 98, 99, 100, 101, 102, 103, 104, 105, 106, 107, 108, 109, 110, 118, 119, 120, 121, 122, 123, 124, 125, 137, 138, 139, 126, 127, 128, 129, 130, 131, 132, 133, 134, 135, 136] (by decide +kernel) (by decide +kernel)
set_option maxRecDepth 20000 in
theorem gX3_unlike_X3_wronglyTold : GoodIn wsX3_unlike (wsV RX3 281 RX3 yX3_wronglyTold wsX3_wronglyTold) := goodIn_app (goodIn_of _ (by decide +kernel)) ggX3_unlike_X3_wronglyTold
set_option maxRecDepth 20000 in
theorem ggX3_unlike_J6_bitCount_0f7a4 : GoodIn wsX3_unlike wsJ6_bitCount_0f7a4 := goodIn_r _ [114, 115, 116, 117] (by decide +kernel) (by decide +kernel)
set_option maxRecDepth 20000 in
theorem gX3_unlike_J6_bitCount_0f7a4 : GoodIn wsX3_unlike (va_wsS RX3 148 yJ6_bitCount_0f7a4 wsJ6_bitCount_0f7a4) := goodIn_app (goodIn_of _ (by decide +kernel)) ggX3_unlike_J6_bitCount_0f7a4
set_option maxRecDepth 20000 in
theorem ggX3_ring_X0_weightsOf : GoodIn wsX3_ring wsX0_weightsOf := goodIn_r _ [7, 8, 9, 10, 11, 12, 112, 113, 114, 115, 116, 117, 118, 119, 120, 121, 122] (by decide +kernel) (by decide +kernel)
set_option maxRecDepth 20000 in
theorem gX3_ring_X0_weightsOf : GoodIn wsX3_ring (wsV RX3 195 RX0 yX0_weightsOf wsX0_weightsOf) := goodIn_app (goodIn_of _ (by decide +kernel)) ggX3_ring_X0_weightsOf
set_option maxRecDepth 20000 in
theorem ggX3_ring_X3_refuse : GoodIn wsX3_ring wsX3_refuse := goodIn_r _ [16, 17, 18, 19, 11, 20, 104, 105, 106, 107, 108, 109, 110, 111] (by decide +kernel) (by decide +kernel)
set_option maxRecDepth 20000 in
theorem gX3_ring_X3_refuse : GoodIn wsX3_ring (wsV RX3 51 RX3 yX3_refuse wsX3_refuse) := goodIn_app (goodIn_of _ (by decide +kernel)) ggX3_ring_X3_refuse
set_option maxRecDepth 20000 in
theorem ggX3_ring_X0_goThroughTerm : GoodIn wsX3_ring wsX0_goThroughTerm := goodIn_r _ [24, 25, 26, 27, 28, 29, 30, 31, 6, 32, 33, 8, 34, 4, 5, 7, 9, 10, 11, 12, 35, 36, 37, 38, 39, 40, 41, 42, 43, 44, 45, 46, 47, 48, 49, 50, 51, 52, 53, 54, 55, 56, 57, 58, 59, 60, 61, 62, 63, 64, 65, 66, 67, 68, 69, 70, 71, 72, 73, 74, 75, 76, 77, 78, 79, 80, 81, 82, 83, 84, 85, 86, 87, 88, 89, 90, 91, 92, 93, 94, 95, 96, 97, 98, 99, 100, 101, 102, 103, 112, 113, 114, 115, 116, 117, 118, 119, 120, 121, 122] (by decide +kernel) (by decide +kernel)
set_option maxRecDepth 20000 in
theorem gX3_ring_X0_goThroughTerm : GoodIn wsX3_ring (wsV RX3 284 RX0 yX0_goThroughTerm wsX0_goThroughTerm) := goodIn_app (goodIn_of _ (by decide +kernel)) ggX3_ring_X0_goThroughTerm
set_option maxRecDepth 20000 in
theorem ggX3_rings_X3_isWithin : GoodIn wsX3_rings wsX3_isWithin := goodIn_r _ [7] (by decide +kernel) (by decide +kernel)
set_option maxRecDepth 20000 in
theorem gX3_rings_X3_isWithin : GoodIn wsX3_rings (va_wsS RX3 47 yX3_isWithin wsX3_isWithin) := goodIn_app (goodIn_of _ (by decide +kernel)) ggX3_rings_X3_isWithin
set_option maxRecDepth 20000 in
theorem ggX3_rings_X3_refuse : GoodIn wsX3_rings wsX3_refuse := goodIn_r _ [11, 12, 4, 5, 6, 7, 105, 106, 107, 108, 109, 110, 111, 112] (by decide +kernel) (by decide +kernel)
set_option maxRecDepth 20000 in
theorem gX3_rings_X3_refuse : GoodIn wsX3_rings (wsV RX3 51 RX3 yX3_refuse wsX3_refuse) := goodIn_app (goodIn_of _ (by decide +kernel)) ggX3_rings_X3_refuse
set_option maxRecDepth 20000 in
theorem ggX3_rings_X0_weightsOf : GoodIn wsX3_rings wsX0_weightsOf := goodIn_r _ [17, 18, 19, 20, 6, 21, 113, 114, 115, 116, 117, 118, 119, 120, 121, 122, 123] (by decide +kernel) (by decide +kernel)
set_option maxRecDepth 20000 in
theorem gX3_rings_X0_weightsOf : GoodIn wsX3_rings (wsV RX3 195 RX0 yX0_weightsOf wsX0_weightsOf) := goodIn_app (goodIn_of _ (by decide +kernel)) ggX3_rings_X0_weightsOf
set_option maxRecDepth 20000 in
theorem ggX3_rings_X0_goThroughTerm : GoodIn wsX3_rings wsX0_goThroughTerm := goodIn_r _ [25, 26, 27, 28, 29, 30, 31, 32, 16, 33, 34, 18, 35, 14, 15, 17, 19, 20, 6, 21, 36, 37, 38, 39, 40, 41, 42, 43, 44, 45, 46, 47, 48, 49, 50, 51, 52, 53, 54, 55, 56, 57, 58, 59, 60, 61, 62, 63, 64, 65, 66, 67, 68, 69, 70, 71, 72, 73, 74, 75, 76, 77, 78, 79, 80, 81, 82, 83, 84, 85, 86, 87, 88, 89, 90, 91, 92, 93, 94, 95, 96, 97, 98, 99, 100, 101, 102, 103, 104, 113, 114, 115, 116, 117, 118, 119, 120, 121, 122, 123] (by decide +kernel) (by decide +kernel)
set_option maxRecDepth 20000 in
theorem gX3_rings_X0_goThroughTerm : GoodIn wsX3_rings (wsV RX3 284 RX0 yX0_goThroughTerm wsX0_goThroughTerm) := goodIn_app (goodIn_of _ (by decide +kernel)) ggX3_rings_X0_goThroughTerm
set_option maxRecDepth 20000 in
theorem ggX3_status_X0_weightsOf : GoodIn wsX3_status wsX0_weightsOf := goodIn_r _ [17, 18, 19, 20, 21, 22, 102, 103, 104, 105, 106, 107, 108, 109, 110, 111, 112] (by decide +kernel) (by decide +kernel)
set_option maxRecDepth 20000 in
theorem gX3_status_X0_weightsOf : GoodIn wsX3_status (wsV RX3 195 RX0 yX0_weightsOf wsX0_weightsOf) := goodIn_app (goodIn_of _ (by decide +kernel)) ggX3_status_X0_weightsOf
set_option maxRecDepth 20000 in
theorem ggX3_status_X3_fullShelves : GoodIn wsX3_status wsX3_fullShelves := goodIn_r _ [26, 27, 28, 94, 95, 96, 97, 98, 99, 100, 101, 118, 119, 120] (by decide +kernel) (by decide +kernel)
set_option maxRecDepth 20000 in
theorem gX3_status_X3_fullShelves : GoodIn wsX3_status (wsV RX3 296 RX3 yX3_fullShelves wsX3_fullShelves) := goodIn_app (goodIn_of _ (by decide +kernel)) ggX3_status_X3_fullShelves
set_option maxRecDepth 20000 in
theorem ggX3_status_X0_bySurprise : GoodIn wsX3_status wsX0_bySurprise := goodIn_r _ [32, 33, 34, 35, 36, 16, 37, 38, 39, 40, 41, 42, 43, 44, 45, 46, 47, 48, 49, 50, 51, 52, 53, 54, 55, 56, 57, 58, 59, 60, 61, 62, 63, 64, 65, 21, 66, 67, 20, 22, 68, 69, 70, 71, 72, 73, 74, 75, 76, 77, 78, 79, 80, 81, 82, 18, 83, 84, 85, 86, 19, 87, 88, 89, 90, 102, 103, 104, 105, 106, 107, 108, 109, 110, 111, 112] (by decide +kernel) (by decide +kernel)
set_option maxRecDepth 20000 in
theorem gX3_status_X0_bySurprise : GoodIn wsX3_status (wsV RX3 219 RX0 yX0_bySurprise wsX0_bySurprise) := goodIn_app (goodIn_of _ (by decide +kernel)) ggX3_status_X0_bySurprise
set_option maxRecDepth 20000 in
theorem ggX3_status_X3_isWithin : GoodIn wsX3_status wsX3_isWithin := goodIn_r _ [93] (by decide +kernel) (by decide +kernel)
set_option maxRecDepth 20000 in
theorem gX3_status_X3_isWithin : GoodIn wsX3_status (va_wsS RX3 47 yX3_isWithin wsX3_isWithin) := goodIn_app (goodIn_of _ (by decide +kernel)) ggX3_status_X3_isWithin
set_option maxRecDepth 20000 in
theorem ggX3_refuse_X3_isWithin : GoodIn wsX3_refuse wsX3_isWithin := goodIn_r _ [5] (by decide +kernel) (by decide +kernel)
set_option maxRecDepth 20000 in
theorem gX3_refuse_X3_isWithin : GoodIn wsX3_refuse (va_wsS RX3 47 yX3_isWithin wsX3_isWithin) := goodIn_app (goodIn_of _ (by decide +kernel)) ggX3_refuse_X3_isWithin
set_option maxRecDepth 20000 in
theorem ggX3_refuseFarBelow_X3_refuse : GoodIn wsX3_refuseFarBelow wsX3_refuse := goodIn_r _ [6, 7, 8, 9, 5, 10, 11, 12, 13, 14, 15, 16, 17, 18] (by decide +kernel) (by decide +kernel)
set_option maxRecDepth 20000 in
theorem gX3_refuseFarBelow_X3_refuse : GoodIn wsX3_refuseFarBelow (wsV RX3 51 RX3 yX3_refuse wsX3_refuse) := goodIn_app (goodIn_of _ (by decide +kernel)) ggX3_refuseFarBelow_X3_refuse
set_option maxRecDepth 20000 in
theorem ggX3_rowRefusal_X3_isShelf : GoodIn wsX3_rowRefusal wsX3_isShelf := goodIn_r _ [5, 6, 7, 4, 8] (by decide +kernel) (by decide +kernel)
set_option maxRecDepth 20000 in
theorem gX3_rowRefusal_X3_isShelf : GoodIn wsX3_rowRefusal (va_wsS RX3 43 yX3_isShelf wsX3_isShelf) := goodIn_app (goodIn_of _ (by decide +kernel)) ggX3_rowRefusal_X3_isShelf
set_option maxRecDepth 20000 in
theorem ggX3_rowRefusal_X1_holdsSomebody : GoodIn wsX3_rowRefusal wsX1_holdsSomebody := goodIn_r _ [13, 14, 27, 28, 29] (by decide +kernel) (by decide +kernel)
set_option maxRecDepth 20000 in
theorem gX3_rowRefusal_X1_holdsSomebody : GoodIn wsX3_rowRefusal (wsV RX3 69 RX1 yX1_holdsSomebody wsX1_holdsSomebody) := goodIn_app (goodIn_of _ (by decide +kernel)) ggX3_rowRefusal_X1_holdsSomebody
set_option maxRecDepth 20000 in
theorem ggX3_rowRefusal_X1_holdsRow : GoodIn wsX3_rowRefusal wsX1_holdsRow := goodIn_r _ [18, 14, 7, 4, 8, 27, 28, 29] (by decide +kernel) (by decide +kernel)
set_option maxRecDepth 20000 in
theorem gX3_rowRefusal_X1_holdsRow : GoodIn wsX3_rowRefusal (wsV RX3 73 RX1 yX1_holdsRow wsX1_holdsRow) := goodIn_app (goodIn_of _ (by decide +kernel)) ggX3_rowRefusal_X1_holdsRow
set_option maxRecDepth 20000 in
theorem ggX3_listRefusal_X3_rowRefusal : GoodIn wsX3_listRefusal wsX3_rowRefusal := goodIn_r _ [8, 1, 9, 10, 7, 11, 12, 13, 14, 15, 16, 17, 18, 19, 20, 21, 22, 23, 24, 30, 31, 32, 33, 34, 35, 36, 37, 49, 50, 51] (by decide +kernel) (by decide +kernel)
set_option maxRecDepth 20000 in
theorem gX3_listRefusal_X3_rowRefusal : GoodIn wsX3_listRefusal (wsV RX3 59 RX3 yX3_rowRefusal wsX3_rowRefusal) := goodIn_app (goodIn_of _ (by decide +kernel)) ggX3_listRefusal_X3_rowRefusal
set_option maxRecDepth 20000 in
theorem ggX3_listRefusal_X1_hasElements : GoodIn wsX3_listRefusal wsX1_hasElements := goodIn_r _ [28, 29, 49, 50, 51] (by decide +kernel) (by decide +kernel)
set_option maxRecDepth 20000 in
theorem gX3_listRefusal_X1_hasElements : GoodIn wsX3_listRefusal (wsV RX3 80 RX1 yX1_hasElements wsX1_hasElements) := goodIn_app (goodIn_of _ (by decide +kernel)) ggX3_listRefusal_X1_hasElements
set_option maxRecDepth 20000 in
theorem ggX3_wronglyTold_X0_allPeople : GoodIn wsX3_wronglyTold wsX0_allPeople := goodIn_r _ [8, 9, 83, 84, 85, 86, 87, 88, 89, 90, 91, 92, 93] (by decide +kernel) (by decide +kernel)
set_option maxRecDepth 20000 in
theorem gX3_wronglyTold_X0_allPeople : GoodIn wsX3_wronglyTold (wsV RX3 300 RX0 yX0_allPeople wsX0_allPeople) := goodIn_app (goodIn_of _ (by decide +kernel)) ggX3_wronglyTold_X0_allPeople
set_option maxRecDepth 20000 in
theorem ggX3_wronglyTold_X0_expectingOn : GoodIn wsX3_wronglyTold wsX0_expectingOn := goodIn_r _ [13, 9, 14, 15, 16, 7, 17, 18, 19, 20, 21, 22, 23, 24, 25, 26, 27, 28, 29, 30, 31, 32, 33, 34, 35, 36, 37, 38, 39, 40, 41, 42, 43, 44, 45, 46, 47, 48, 49, 50, 51, 52, 53, 54, 55, 56, 57, 58, 59, 60, 61, 62, 63, 64, 65, 66, 67, 68, 69, 70, 71, 83, 84, 85, 86, 87, 88, 89, 90, 91, 92, 93] (by decide +kernel) (by decide +kernel)
set_option maxRecDepth 20000 in
theorem gX3_wronglyTold_X0_expectingOn : GoodIn wsX3_wronglyTold (wsV RX3 204 RX0 yX0_expectingOn wsX0_expectingOn) := goodIn_app (goodIn_of _ (by decide +kernel)) ggX3_wronglyTold_X0_expectingOn
set_option maxRecDepth 20000 in
theorem ggX3_saidAs_X0_expectedBy : GoodIn wsX3_saidAs wsX0_expectedBy := goodIn_r _ [7, 8, 9, 10, 6, 11, 12, 13, 14, 15, 16, 17, 18, 19, 20, 21, 22, 23, 24, 25, 26, 27, 28, 29, 30, 31, 32, 33, 34, 35, 36, 37, 38, 39, 40, 41, 42, 43, 44, 45, 46, 47, 48, 49, 50, 51, 52, 53, 54, 55, 56, 57, 58, 59, 60, 61, 62, 87, 88, 89, 90, 91, 92, 93, 94, 95, 96, 97] (by decide +kernel) (by decide +kernel)
set_option maxRecDepth 20000 in
theorem gX3_saidAs_X0_expectedBy : GoodIn wsX3_saidAs (wsV RX3 189 RX0 yX0_expectedBy wsX0_expectedBy) := goodIn_app (goodIn_of _ (by decide +kernel)) ggX3_saidAs_X0_expectedBy
set_option maxRecDepth 20000 in
theorem ggX3_saidAs_X3_firstOf : GoodIn wsX3_saidAs wsX3_firstOf := goodIn_r _ [65, 39, 40, 37, 41] (by decide +kernel) (by decide +kernel)
