set_option maxRecDepth 20000 in
theorem gX3_saidAs_X3_firstOf : GoodIn wsX3_saidAs (va_wsS RX3 207 yX3_firstOf wsX3_firstOf) := goodIn_app (goodIn_of _ (by decide +kernel)) ggX3_saidAs_X3_firstOf
set_option maxRecDepth 20000 in
theorem ggX3_saidAs_X0_morningsAsleep : GoodIn wsX3_saidAs wsX0_morningsAsleep := goodIn_r _ [69, 53, 42, 43, 44, 6, 45, 12, 30, 46, 37, 47, 48, 87, 88, 89, 90, 91, 92, 93, 94, 95, 96, 97] (by decide +kernel) (by decide +kernel)
set_option maxRecDepth 20000 in
theorem gX3_saidAs_X0_morningsAsleep : GoodIn wsX3_saidAs (wsV RX3 303 RX0 yX0_morningsAsleep wsX0_morningsAsleep) := goodIn_app (goodIn_of _ (by decide +kernel)) ggX3_saidAs_X0_morningsAsleep
set_option maxRecDepth 20000 in
theorem ggX3_saidAs_J6_bitCount_0f7a4 : GoodIn wsX3_saidAs wsJ6_bitCount_0f7a4 := goodIn_r _ [73, 74, 75, 76] (by decide +kernel) (by decide +kernel)
set_option maxRecDepth 20000 in
theorem gX3_saidAs_J6_bitCount_0f7a4 : GoodIn wsX3_saidAs (va_wsS RX3 148 yJ6_bitCount_0f7a4 wsJ6_bitCount_0f7a4) := goodIn_app (goodIn_of _ (by decide +kernel)) ggX3_saidAs_J6_bitCount_0f7a4
set_option maxRecDepth 20000 in
theorem ggX3_saidAs_X3_lastOf : GoodIn wsX3_saidAs wsX3_lastOf := goodIn_r _ [38, 39, 40, 37, 41] (by decide +kernel) (by decide +kernel)
set_option maxRecDepth 20000 in
theorem gX3_saidAs_X3_lastOf : GoodIn wsX3_saidAs (va_wsS RX3 210 yX3_lastOf wsX3_lastOf) := goodIn_app (goodIn_of _ (by decide +kernel)) ggX3_saidAs_X3_lastOf
set_option maxRecDepth 20000 in
theorem ggX3_saidAs_X3_isIn : GoodIn wsX3_saidAs wsX3_isIn := goodIn_r _ [41] (by decide +kernel) (by decide +kernel)
set_option maxRecDepth 20000 in
theorem gX3_saidAs_X3_isIn : GoodIn wsX3_saidAs (va_wsS RX3 201 yX3_isIn wsX3_isIn) := goodIn_app (goodIn_of _ (by decide +kernel)) ggX3_saidAs_X3_isIn
set_option maxRecDepth 20000 in
theorem ggX3_saidAs_X0_depthOf : GoodIn wsX3_saidAs wsX0_depthOf := goodIn_r _ [16, 12, 17, 18, 19, 20, 21, 22, 23, 24, 25, 26, 27, 28, 6, 29, 30, 87, 88, 89, 90, 91, 92, 93, 94, 95, 96, 97] (by decide +kernel) (by decide +kernel)
set_option maxRecDepth 20000 in
theorem gX3_saidAs_X0_depthOf : GoodIn wsX3_saidAs (wsV RX3 186 RX0 yX0_depthOf wsX0_depthOf) := goodIn_app (goodIn_of _ (by decide +kernel)) ggX3_saidAs_X0_depthOf
set_option maxRecDepth 20000 in
theorem ggX3_forgetWhoIsGone_X1_holdNothing : GoodIn wsX3_forgetWhoIsGone wsX1_holdNothing := goodIn_r _ [9, 10, 11, 20, 21, 22] (by decide +kernel) (by decide +kernel)
set_option maxRecDepth 20000 in
theorem gX3_forgetWhoIsGone_X1_holdNothing : GoodIn wsX3_forgetWhoIsGone (wsV RX3 97 RX1 yX1_holdNothing wsX1_holdNothing) := goodIn_app (goodIn_of _ (by decide +kernel)) ggX3_forgetWhoIsGone_X1_holdNothing
set_option maxRecDepth 20000 in
theorem ggX3_isNoLoss_X0_stillOn : GoodIn wsX3_isNoLoss wsX0_stillOn := goodIn_r _ [6, 7, 40, 41, 42, 43, 44, 45, 46, 47, 48, 49, 50] (by decide +kernel) (by decide +kernel)
set_option maxRecDepth 20000 in
theorem gX3_isNoLoss_X0_stillOn : GoodIn wsX3_isNoLoss (wsV RX3 192 RX0 yX0_stillOn wsX0_stillOn) := goodIn_app (goodIn_of _ (by decide +kernel)) ggX3_isNoLoss_X0_stillOn
set_option maxRecDepth 20000 in
theorem ggX3_isNoLoss_X0_weightsOf : GoodIn wsX3_isNoLoss wsX0_weightsOf := goodIn_r _ [11, 12, 13, 14, 15, 16, 40, 41, 42, 43, 44, 45, 46, 47, 48, 49, 50] (by decide +kernel) (by decide +kernel)
set_option maxRecDepth 20000 in
theorem gX3_isNoLoss_X0_weightsOf : GoodIn wsX3_isNoLoss (wsV RX3 195 RX0 yX0_weightsOf wsX0_weightsOf) := goodIn_app (goodIn_of _ (by decide +kernel)) ggX3_isNoLoss_X0_weightsOf
set_option maxRecDepth 20000 in
theorem ggX3_isNoLoss_X0_lotsOf : GoodIn wsX3_isNoLoss wsX0_lotsOf := goodIn_r _ [20, 13, 21, 22, 23, 5, 24, 7, 14, 15, 16, 40, 41, 42, 43, 44, 45, 46, 47, 48, 49, 50] (by decide +kernel) (by decide +kernel)
set_option maxRecDepth 20000 in
theorem gX3_isNoLoss_X0_lotsOf : GoodIn wsX3_isNoLoss (wsV RX3 233 RX0 yX0_lotsOf wsX0_lotsOf) := goodIn_app (goodIn_of _ (by decide +kernel)) ggX3_isNoLoss_X0_lotsOf
set_option maxRecDepth 20000 in
theorem ggX3_isNoLoss_X3_wagered : GoodIn wsX3_isNoLoss wsX3_wagered := goodIn_r _ [27, 28, 29, 30, 15, 31] (by decide +kernel) (by decide +kernel)
set_option maxRecDepth 20000 in
theorem gX3_isNoLoss_X3_wagered : GoodIn wsX3_isNoLoss (va_wsS RX3 242 yX3_wagered wsX3_wagered) := goodIn_app (goodIn_of _ (by decide +kernel)) ggX3_isNoLoss_X3_wagered
set_option maxRecDepth 20000 in
theorem ggX3_areWagers_X1_hasElements : GoodIn wsX3_areWagers wsX1_hasElements := goodIn_r _ [9, 10, 18, 19, 20] (by decide +kernel) (by decide +kernel)
set_option maxRecDepth 20000 in
theorem gX3_areWagers_X1_hasElements : GoodIn wsX3_areWagers (wsV RX3 80 RX1 yX1_hasElements wsX1_hasElements) := goodIn_app (goodIn_of _ (by decide +kernel)) ggX3_areWagers_X1_hasElements
set_option maxRecDepth 20000 in
theorem ggX3_areWagers_X3_isCoin : GoodIn wsX3_areWagers wsX3_isCoin := goodIn_r _ [14, 15, 16, 13, 17] (by decide +kernel) (by decide +kernel)
set_option maxRecDepth 20000 in
theorem gX3_areWagers_X3_isCoin : GoodIn wsX3_areWagers (va_wsS RX3 236 yX3_isCoin wsX3_isCoin) := goodIn_app (goodIn_of _ (by decide +kernel)) ggX3_areWagers_X3_isCoin
set_option maxRecDepth 20000 in
theorem ggX3_areMornings_X1_hasElements : GoodIn wsX3_areMornings wsX1_hasElements := goodIn_r _ [8, 9, 10, 11, 12] (by decide +kernel) (by decide +kernel)
set_option maxRecDepth 20000 in
theorem gX3_areMornings_X1_hasElements : GoodIn wsX3_areMornings (wsV RX3 80 RX1 yX1_hasElements wsX1_hasElements) := goodIn_app (goodIn_of _ (by decide +kernel)) ggX3_areMornings_X1_hasElements
set_option maxRecDepth 20000 in
theorem ggX3_fits_X0_morningByRule : GoodIn wsX3_fits wsX0_morningByRule := goodIn_r _ [7, 8, 20, 21, 22, 23, 24, 25, 26, 27, 28, 29, 30] (by decide +kernel) (by decide +kernel)
set_option maxRecDepth 20000 in
theorem gX3_fits_X0_morningByRule : GoodIn wsX3_fits (wsV RX3 275 RX0 yX0_morningByRule wsX0_morningByRule) := goodIn_app (goodIn_of _ (by decide +kernel)) ggX3_fits_X0_morningByRule
set_option maxRecDepth 20000 in
theorem ggX3_seekBestRow_X0_become : GoodIn wsX3_seekBestRow wsX0_become := goodIn_r _ [15, 16, 17, 18, 19, 8, 9, 10, 20, 21, 22, 23, 24, 25, 26, 27, 108, 109, 110, 111, 112, 113, 114, 115, 116, 117, 118] (by decide +kernel) (by decide +kernel)
set_option maxRecDepth 20000 in
theorem gX3_seekBestRow_X0_become : GoodIn wsX3_seekBestRow (wsV RX3 165 RX0 yX0_become wsX0_become) := goodIn_app (goodIn_of _ (by decide +kernel)) ggX3_seekBestRow_X0_become
set_option maxRecDepth 20000 in
theorem ggX3_seekBestRow_X0_putAllOnLast : GoodIn wsX3_seekBestRow wsX0_putAllOnLast := goodIn_r _ [31, 18, 17, 32, 33, 34, 35, 36, 37, 108, 109, 110, 111, 112, 113, 114, 115, 116, 117, 118] (by decide +kernel) (by decide +kernel)
set_option maxRecDepth 20000 in
theorem gX3_seekBestRow_X0_putAllOnLast : GoodIn wsX3_seekBestRow (wsV RX3 308 RX0 yX0_putAllOnLast wsX0_putAllOnLast) := goodIn_app (goodIn_of _ (by decide +kernel)) ggX3_seekBestRow_X0_putAllOnLast
set_option maxRecDepth 20000 in
theorem ggX3_seekBestRow_X0_reasonedByAll : GoodIn wsX3_seekBestRow wsX0_reasonedByAll := goodIn_r _ [41, 21, 42, 43, 44, 14, 45, 22, 46, 47, 48, 49, 50, 51, 52, 53, 20, 54, 55, 56, 57, 58, 59, 60, 23, 61, 62, 63, 64, 17, 32, 33, 34, 35, 36, 37, 65, 66, 67, 68, 69, 70, 71, 108, 109, 110, 111, 112, 113, 114, 115, 116, 117, 118] (by decide +kernel) (by decide +kernel)
set_option maxRecDepth 20000 in
theorem gX3_seekBestRow_X0_reasonedByAll : GoodIn wsX3_seekBestRow (wsV RX3 311 RX0 yX0_reasonedByAll wsX0_reasonedByAll) := goodIn_app (goodIn_of _ (by decide +kernel)) ggX3_seekBestRow_X0_reasonedByAll
set_option maxRecDepth 20000 in
theorem ggX3_seekBestRow_X0_betByAll : GoodIn wsX3_seekBestRow wsX0_betByAll := goodIn_r _ [75, 21, 76, 77, 78, 14, 79, 22, 16, 23, 69, 33, 70, 71, 80, 81, 82, 83, 18, 84, 85, 86, 87, 17, 36, 37, 108, 109, 110, 111, 112, 113, 114, 115, 116, 117, 118] (by decide +kernel) (by decide +kernel)
set_option maxRecDepth 20000 in
theorem gX3_seekBestRow_X0_betByAll : GoodIn wsX3_seekBestRow (wsV RX3 315 RX0 yX0_betByAll wsX0_betByAll) := goodIn_app (goodIn_of _ (by decide +kernel)) ggX3_seekBestRow_X0_betByAll
set_option maxRecDepth 20000 in
theorem ggX3_seekBestRow_X0_weightsOf : GoodIn wsX3_seekBestRow wsX0_weightsOf := goodIn_r _ [91, 16, 18, 36, 33, 37, 108, 109, 110, 111, 112, 113, 114, 115, 116, 117, 118] (by decide +kernel) (by decide +kernel)
set_option maxRecDepth 20000 in
theorem gX3_seekBestRow_X0_weightsOf : GoodIn wsX3_seekBestRow (wsV RX3 195 RX0 yX0_weightsOf wsX0_weightsOf) := goodIn_app (goodIn_of _ (by decide +kernel)) ggX3_seekBestRow_X0_weightsOf
set_option maxRecDepth 20000 in
theorem ggX3_seekBestRow_X0_moveToNextRow : GoodIn wsX3_seekBestRow wsX0_moveToNextRow := goodIn_r _ [95, 17, 18, 96, 97, 98, 14, 99, 16, 32, 33, 34, 35, 36, 37, 108, 109, 110, 111, 112, 113, 114, 115, 116, 117, 118] (by decide +kernel) (by decide +kernel)
set_option maxRecDepth 20000 in
theorem gX3_seekBestRow_X0_moveToNextRow : GoodIn wsX3_seekBestRow (wsV RX3 318 RX0 yX0_moveToNextRow wsX0_moveToNextRow) := goodIn_app (goodIn_of _ (by decide +kernel)) ggX3_seekBestRow_X0_moveToNextRow
set_option maxRecDepth 20000 in
theorem ggX3_leastSaidAgainst_X0_become : GoodIn wsX3_leastSaidAgainst wsX0_become := goodIn_r _ [8, 9, 10, 11, 12, 13, 14, 15, 16, 17, 18, 19, 20, 21, 22, 23, 92, 93, 94, 95, 96, 97, 98, 99, 100, 101, 102] (by decide +kernel) (by decide +kernel)
set_option maxRecDepth 20000 in
theorem gX3_leastSaidAgainst_X0_become : GoodIn wsX3_leastSaidAgainst (wsV RX3 165 RX0 yX0_become wsX0_become) := goodIn_app (goodIn_of _ (by decide +kernel)) ggX3_leastSaidAgainst_X0_become
set_option maxRecDepth 20000 in
theorem ggX3_leastSaidAgainst_X0_bySurprise : GoodIn wsX3_leastSaidAgainst wsX0_bySurprise := goodIn_r _ [27, 10, 28, 29, 30, 7, 31, 17, 32, 33, 34, 35, 18, 36, 37, 38, 39, 40, 41, 42, 43, 16, 44, 45, 46, 47, 48, 49, 50, 19, 51, 52, 53, 54, 55, 56, 57, 58, 59, 60, 61, 62, 63, 64, 65, 66, 67, 68, 69, 70, 71, 72, 73, 74, 75, 9, 76, 77, 78, 79, 11, 80, 81, 82, 83, 92, 93, 94, 95, 96, 97, 98, 99, 100, 101, 102] (by decide +kernel) (by decide +kernel)
set_option maxRecDepth 20000 in
theorem gX3_leastSaidAgainst_X0_bySurprise : GoodIn wsX3_leastSaidAgainst (wsV RX3 219 RX0 yX0_bySurprise wsX0_bySurprise) := goodIn_app (goodIn_of _ (by decide +kernel)) ggX3_leastSaidAgainst_X0_bySurprise
set_option maxRecDepth 20000 in
theorem ggX3_moreWithout_X0_become : GoodIn wsX3_moreWithout wsX0_become := goodIn_r _ [7, 8, 9, 10, 11, 12, 13, 14, 15, 16, 17, 18, 19, 20, 21, 22, 108, 109, 110, 111, 112, 113, 114, 115, 116, 117, 118] (by decide +kernel) (by decide +kernel)
set_option maxRecDepth 20000 in
theorem gX3_moreWithout_X0_become : GoodIn wsX3_moreWithout (wsV RX3 165 RX0 yX0_become wsX0_become) := goodIn_app (goodIn_of _ (by decide +kernel)) ggX3_moreWithout_X0_become
set_option maxRecDepth 20000 in
theorem ggX3_moreWithout_X0_removeSomebody : GoodIn wsX3_moreWithout wsX0_removeSomebody := goodIn_r _ [26, 16, 17, 18, 27, 28, 29, 6, 30, 31, 32, 33, 108, 109, 110, 111, 112, 113, 114, 115, 116, 117, 118] (by decide +kernel) (by decide +kernel)
set_option maxRecDepth 20000 in
theorem gX3_moreWithout_X0_removeSomebody : GoodIn wsX3_moreWithout (wsV RX3 156 RX0 yX0_removeSomebody wsX0_removeSomebody) := goodIn_app (goodIn_of _ (by decide +kernel)) ggX3_moreWithout_X0_removeSomebody
set_option maxRecDepth 20000 in
theorem ggX3_moreWithout_X0_bySurprise : GoodIn wsX3_moreWithout wsX0_bySurprise := goodIn_r _ [37, 9, 38, 39, 40, 6, 41, 16, 42, 43, 44, 45, 17, 46, 47, 48, 49, 50, 51, 52, 53, 15, 54, 55, 56, 57, 58, 59, 60, 18, 61, 62, 63, 64, 65, 32, 66, 67, 68, 69, 70, 71, 72, 73, 74, 75, 76, 77, 78, 79, 80, 81, 82, 83, 84, 8, 85, 86, 87, 88, 10, 89, 90, 91, 92, 108, 109, 110, 111, 112, 113, 114, 115, 116, 117, 118] (by decide +kernel) (by decide +kernel)
set_option maxRecDepth 20000 in
theorem gX3_moreWithout_X0_bySurprise : GoodIn wsX3_moreWithout (wsV RX3 219 RX0 yX0_bySurprise wsX0_bySurprise) := goodIn_app (goodIn_of _ (by decide +kernel)) ggX3_moreWithout_X0_bySurprise
set_option maxRecDepth 20000 in
theorem ggX3_moreWithout_J6_bitCount_0f7a4 : GoodIn wsX3_moreWithout wsJ6_bitCount_0f7a4 := goodIn_r _ [96, 97, 98, 99] (by decide +kernel) (by decide +kernel)
set_option maxRecDepth 20000 in
theorem gX3_moreWithout_J6_bitCount_0f7a4 : GoodIn wsX3_moreWithout (va_wsS RX3 148 yJ6_bitCount_0f7a4 wsJ6_bitCount_0f7a4) := goodIn_app (goodIn_of _ (by decide +kernel)) ggX3_moreWithout_J6_bitCount_0f7a4
set_option maxRecDepth 20000 in
theorem ggX3_seekHint_X0_become : GoodIn wsX3_seekHint wsX0_become := goodIn_r _ [8, 9, 10, 11, 12, 13, 14, 15, 16, 17, 18, 19, 20, 21, 22, 23, 99, 100, 101, 102, 103, 104, 105, 106, 107, 108, 109] (by decide +kernel) (by decide +kernel)
set_option maxRecDepth 20000 in
theorem gX3_seekHint_X0_become : GoodIn wsX3_seekHint (wsV RX3 165 RX0 yX0_become wsX0_become) := goodIn_app (goodIn_of _ (by decide +kernel)) ggX3_seekHint_X0_become
set_option maxRecDepth 20000 in
theorem ggX3_seekHint_X0_bySurprise : GoodIn wsX3_seekHint wsX0_bySurprise := goodIn_r _ [27, 10, 28, 29, 30, 7, 31, 17, 32, 33, 34, 35, 18, 36, 37, 38, 39, 40, 41, 42, 43, 16, 44, 45, 46, 47, 48, 49, 50, 19, 51, 52, 53, 54, 55, 56, 57, 58, 59, 60, 61, 62, 63, 64, 65, 66, 67, 68, 69, 70, 71, 72, 73, 74, 75, 9, 76, 77, 78, 79, 11, 80, 81, 82, 83, 99, 100, 101, 102, 103, 104, 105, 106, 107, 108, 109] (by decide +kernel) (by decide +kernel)
set_option maxRecDepth 20000 in
theorem gX3_seekHint_X0_bySurprise : GoodIn wsX3_seekHint (wsV RX3 219 RX0 yX0_bySurprise wsX0_bySurprise) := goodIn_app (goodIn_of _ (by decide +kernel)) ggX3_seekHint_X0_bySurprise
set_option maxRecDepth 20000 in
theorem ggX3_seekHint_J6_bitCount_0f7a4 : GoodIn wsX3_seekHint wsJ6_bitCount_0f7a4 := goodIn_r _ [87, 88, 89, 90] (by decide +kernel) (by decide +kernel)
set_option maxRecDepth 20000 in
theorem gX3_seekHint_J6_bitCount_0f7a4 : GoodIn wsX3_seekHint (va_wsS RX3 148 yJ6_bitCount_0f7a4 wsJ6_bitCount_0f7a4) := goodIn_app (goodIn_of _ (by decide +kernel)) ggX3_seekHint_J6_bitCount_0f7a4
set_option maxRecDepth 20000 in
theorem ggX3_surprisesTold_X0_become : GoodIn wsX3_surprisesTold wsX0_become := goodIn_r _ [8, 9, 10, 11, 12, 13, 14, 15, 16, 17, 18, 19, 20, 21, 22, 23, 99, 100, 101, 102, 103, 104, 105, 106, 107, 108, 109] (by decide +kernel) (by decide +kernel)
set_option maxRecDepth 20000 in
theorem gX3_surprisesTold_X0_become : GoodIn wsX3_surprisesTold (wsV RX3 165 RX0 yX0_become wsX0_become) := goodIn_app (goodIn_of _ (by decide +kernel)) ggX3_surprisesTold_X0_become
set_option maxRecDepth 20000 in
theorem ggX3_surprisesTold_X0_bySurprise : GoodIn wsX3_surprisesTold wsX0_bySurprise := goodIn_r _ [27, 10, 28, 29, 30, 7, 31, 17, 32, 33, 34, 35, 18, 36, 37, 38, 39, 40, 41, 42, 43, 16, 44, 45, 46, 47, 48, 49, 50, 19, 51, 52, 53, 54, 55, 56, 57, 58, 59, 60, 61, 62, 63, 64, 65, 66, 67, 68, 69, 70, 71, 72, 73, 74, 75, 9, 76, 77, 78, 79, 11, 80, 81, 82, 83, 99, 100, 101, 102, 103, 104, 105, 106, 107, 108, 109] (by decide +kernel) (by decide +kernel)
set_option maxRecDepth 20000 in
theorem gX3_surprisesTold_X0_bySurprise : GoodIn wsX3_surprisesTold (wsV RX3 219 RX0 yX0_bySurprise wsX0_bySurprise) := goodIn_app (goodIn_of _ (by decide +kernel)) ggX3_surprisesTold_X0_bySurprise
set_option maxRecDepth 20000 in
theorem ggX3_surprisesTold_J6_bitCount_0f7a4 : GoodIn wsX3_surprisesTold wsJ6_bitCount_0f7a4 := goodIn_r _ [87, 88, 89, 90] (by decide +kernel) (by decide +kernel)
set_option maxRecDepth 20000 in
theorem gX3_surprisesTold_J6_bitCount_0f7a4 : GoodIn wsX3_surprisesTold (va_wsS RX3 148 yJ6_bitCount_0f7a4 wsJ6_bitCount_0f7a4) := goodIn_app (goodIn_of _ (by decide +kernel)) ggX3_surprisesTold_J6_bitCount_0f7a4
set_option maxRecDepth 20000 in
theorem ggX3_isShelf_X3_isWithin : GoodIn wsX3_isShelf wsX3_isWithin := goodIn_r _ [4] (by decide +kernel) (by decide +kernel)
set_option maxRecDepth 20000 in
theorem gX3_isShelf_X3_isWithin : GoodIn wsX3_isShelf (va_wsS RX3 47 yX3_isWithin wsX3_isWithin) := goodIn_app (goodIn_of _ (by decide +kernel)) ggX3_isShelf_X3_isWithin
set_option maxRecDepth 20000 in
theorem ggX3_isKind_X3_isWithin : GoodIn wsX3_isKind wsX3_isWithin := goodIn_r _ [4] (by decide +kernel) (by decide +kernel)
set_option maxRecDepth 20000 in
theorem gX3_isKind_X3_isWithin : GoodIn wsX3_isKind (va_wsS RX3 47 yX3_isWithin wsX3_isWithin) := goodIn_app (goodIn_of _ (by decide +kernel)) ggX3_isKind_X3_isWithin
set_option maxRecDepth 20000 in
theorem ggX3_isCoin_X3_isWithin : GoodIn wsX3_isCoin wsX3_isWithin := goodIn_r _ [4] (by decide +kernel) (by decide +kernel)
set_option maxRecDepth 20000 in
theorem gX3_isCoin_X3_isWithin : GoodIn wsX3_isCoin (va_wsS RX3 47 yX3_isWithin wsX3_isWithin) := goodIn_app (goodIn_of _ (by decide +kernel)) ggX3_isCoin_X3_isWithin
set_option maxRecDepth 20000 in
theorem ggX3_firstOf_X3_isIn : GoodIn wsX3_firstOf wsX3_isIn := goodIn_r _ [4] (by decide +kernel) (by decide +kernel)
set_option maxRecDepth 20000 in
theorem gX3_firstOf_X3_isIn : GoodIn wsX3_firstOf (va_wsS RX3 201 yX3_isIn wsX3_isIn) := goodIn_app (goodIn_of _ (by decide +kernel)) ggX3_firstOf_X3_isIn
set_option maxRecDepth 20000 in
theorem ggX3_lastOf_X3_isIn : GoodIn wsX3_lastOf wsX3_isIn := goodIn_r _ [4] (by decide +kernel) (by decide +kernel)
set_option maxRecDepth 20000 in
theorem gX3_lastOf_X3_isIn : GoodIn wsX3_lastOf (va_wsS RX3 201 yX3_isIn wsX3_isIn) := goodIn_app (goodIn_of _ (by decide +kernel)) ggX3_lastOf_X3_isIn
set_option maxRecDepth 20000 in
theorem ggX3_wagered_X3_shareOf : GoodIn wsX3_wagered wsX3_shareOf := goodIn_r _ [5, 1] (by decide +kernel) (by decide +kernel)
set_option maxRecDepth 20000 in
theorem gX3_wagered_X3_shareOf : GoodIn wsX3_wagered (va_wsS RX3 230 yX3_shareOf wsX3_shareOf) := goodIn_app (goodIn_of _ (by decide +kernel)) ggX3_wagered_X3_shareOf
set_option maxRecDepth 20000 in
theorem ggX4_init_X4_freshTerm : GoodIn wsX4_init wsX4_freshTerm := goodIn_r _ [24, 25, 26, 9, 27, 28, 29, 30, 31, 32, 33, 34, 35, 36, 37, 38, 39, 40, 41, 42, 43, 44, 45, 46, 47, 48, 49, 50, 51, 52, 53] (by decide +kernel) (by decide +kernel)
set_option maxRecDepth 20000 in
theorem gX4_init_X4_freshTerm : GoodIn wsX4_init (wsV RX4 44 RX4 yX4_freshTerm wsX4_freshTerm) := goodIn_app (goodIn_of _ (by decide +kernel)) ggX4_init_X4_freshTerm
set_option maxRecDepth 20000 in
theorem ggX4_isOne_X4_within : GoodIn wsX4_isOne wsX4_within := goodIn_r _ [5] (by decide +kernel) (by decide +kernel)
set_option maxRecDepth 20000 in
theorem gX4_isOne_X4_within : GoodIn wsX4_isOne (va_wsS RX4 62 yX4_within wsX4_within) := goodIn_app (goodIn_of _ (by decide +kernel)) ggX4_isOne_X4_within
set_option maxRecDepth 20000 in
theorem ggX4_isMorning_X4_within : GoodIn wsX4_isMorning wsX4_within := goodIn_r _ [5] (by decide +kernel) (by decide +kernel)
set_option maxRecDepth 20000 in
theorem gX4_isMorning_X4_within : GoodIn wsX4_isMorning (va_wsS RX4 62 yX4_within wsX4_within) := goodIn_app (goodIn_of _ (by decide +kernel)) ggX4_isMorning_X4_within
set_option maxRecDepth 20000 in
theorem ggX4_isRow_X4_within : GoodIn wsX4_isRow wsX4_within := goodIn_r _ [5] (by decide +kernel) (by decide +kernel)
set_option maxRecDepth 20000 in
theorem gX4_isRow_X4_within : GoodIn wsX4_isRow (va_wsS RX4 62 yX4_within wsX4_within) := goodIn_app (goodIn_of _ (by decide +kernel)) ggX4_isRow_X4_within
set_option maxRecDepth 20000 in
theorem ggX4_row_X4_within : GoodIn wsX4_row wsX4_within := goodIn_r _ [7] (by decide +kernel) (by decide +kernel)
set_option maxRecDepth 20000 in
theorem gX4_row_X4_within : GoodIn wsX4_row (va_wsS RX4 62 yX4_within wsX4_within) := goodIn_app (goodIn_of _ (by decide +kernel)) ggX4_row_X4_within
set_option maxRecDepth 20000 in
theorem ggX4_row_X4_no : GoodIn wsX4_row wsX4_no := goodIn_r _ [11, 12, 13, 14, 15, 16, 17, 18, 19, 20, 21, 22, 23, 24, 25, 26, 27, 28, 29, 30, 31, 32, 33, 34, 35, 36, 37, 38, 39] (by decide +kernel) (by decide +kernel)
set_option maxRecDepth 20000 in
theorem gX4_row_X4_no : GoodIn wsX4_row (wsV RX4 69 RX4 yX4_no wsX4_no) := goodIn_app (goodIn_of _ (by decide +kernel)) ggX4_row_X4_no
set_option maxRecDepth 20000 in
theorem ggX4_noRow_X4_within : GoodIn wsX4_noRow wsX4_within := goodIn_r _ [5] (by decide +kernel) (by decide +kernel)
set_option maxRecDepth 20000 in
theorem gX4_noRow_X4_within : GoodIn wsX4_noRow (va_wsS RX4 62 yX4_within wsX4_within) := goodIn_app (goodIn_of _ (by decide +kernel)) ggX4_noRow_X4_within
set_option maxRecDepth 20000 in
theorem ggX4_set_X4_noRow : GoodIn wsX4_set wsX4_noRow := goodIn_r _ [8, 2, 9, 10, 7, 11, 17, 18, 19, 20, 21, 22, 23, 24, 25, 26, 27, 28, 29, 30, 31, 32, 33, 34, 35, 36, 37, 38, 39, 40, 41, 42, 43] (by decide +kernel) (by decide +kernel)
set_option maxRecDepth 20000 in
theorem gX4_set_X4_noRow : GoodIn wsX4_set (wsV RX4 73 RX4 yX4_noRow wsX4_noRow) := goodIn_app (goodIn_of _ (by decide +kernel)) ggX4_set_X4_noRow
set_option maxRecDepth 20000 in
theorem ggX4_set_X4_no : GoodIn wsX4_set wsX4_no := goodIn_r _ [15, 16, 17, 18, 19, 20, 21, 22, 23, 24, 25, 26, 27, 28, 29, 30, 31, 32, 33, 34, 35, 36, 37, 38, 39, 40, 41, 42, 43] (by decide +kernel) (by decide +kernel)
set_option maxRecDepth 20000 in
theorem gX4_set_X4_no : GoodIn wsX4_set (wsV RX4 69 RX4 yX4_no wsX4_no) := goodIn_app (goodIn_of _ (by decide +kernel)) ggX4_set_X4_no
set_option maxRecDepth 20000 in
theorem ggX4_set_X4_within : GoodIn wsX4_set wsX4_within := goodIn_r _ [11] (by decide +kernel) (by decide +kernel)
set_option maxRecDepth 20000 in
theorem gX4_set_X4_within : GoodIn wsX4_set (va_wsS RX4 62 yX4_within wsX4_within) := goodIn_app (goodIn_of _ (by decide +kernel)) ggX4_set_X4_within
set_option maxRecDepth 20000 in
theorem ggX4_copy_X4_within : GoodIn wsX4_copy wsX4_within := goodIn_r _ [7] (by decide +kernel) (by decide +kernel)
set_option maxRecDepth 20000 in
theorem gX4_copy_X4_within : GoodIn wsX4_copy (va_wsS RX4 62 yX4_within wsX4_within) := goodIn_app (goodIn_of _ (by decide +kernel)) ggX4_copy_X4_within
set_option maxRecDepth 20000 in
theorem ggX4_copy_X4_no : GoodIn wsX4_copy wsX4_no := goodIn_r _ [11, 12, 17, 18, 19, 20, 21, 22, 23, 24, 25, 26, 27, 28, 29, 30, 31, 32, 33, 34, 35, 36, 37, 38, 39, 40, 41, 42, 43] (by decide +kernel) (by decide +kernel)
set_option maxRecDepth 20000 in
theorem gX4_copy_X4_no : GoodIn wsX4_copy (wsV RX4 69 RX4 yX4_no wsX4_no) := goodIn_app (goodIn_of _ (by decide +kernel)) ggX4_copy_X4_no
set_option maxRecDepth 20000 in
theorem ggX4_copy_X4_isRow : GoodIn wsX4_copy wsX4_isRow := goodIn_r _ [16, 1, 4, 5, 6, 7, 17, 18, 19, 20, 21, 22, 23, 24, 25, 26, 27, 28, 29, 30, 31, 32, 33, 34, 35, 36, 37, 38, 39, 40, 41, 42, 43] (by decide +kernel) (by decide +kernel)
set_option maxRecDepth 20000 in
theorem gX4_copy_X4_isRow : GoodIn wsX4_copy (wsV RX4 76 RX4 yX4_isRow wsX4_isRow) := goodIn_app (goodIn_of _ (by decide +kernel)) ggX4_copy_X4_isRow
set_option maxRecDepth 20000 in
theorem ggX4_element_X4_within : GoodIn wsX4_element wsX4_within := goodIn_r _ [6] (by decide +kernel) (by decide +kernel)
set_option maxRecDepth 20000 in
theorem gX4_element_X4_within : GoodIn wsX4_element (va_wsS RX4 62 yX4_within wsX4_within) := goodIn_app (goodIn_of _ (by decide +kernel)) ggX4_element_X4_within
set_option maxRecDepth 20000 in
theorem ggX4_element_X4_isRow : GoodIn wsX4_element wsX4_isRow := goodIn_r _ [10, 11, 3, 4, 5, 6, 12, 13, 14, 15, 16, 17, 18, 19, 20, 21, 22, 23, 24, 25, 26, 27, 28, 29, 30, 31, 32, 33, 34, 35, 36, 37, 38] (by decide +kernel) (by decide +kernel)
set_option maxRecDepth 20000 in
theorem gX4_element_X4_isRow : GoodIn wsX4_element (wsV RX4 76 RX4 yX4_isRow wsX4_isRow) := goodIn_app (goodIn_of _ (by decide +kernel)) ggX4_element_X4_isRow
set_option maxRecDepth 20000 in
theorem ggX4_holds_X4_within : GoodIn wsX4_holds wsX4_within := goodIn_r _ [5] (by decide +kernel) (by decide +kernel)
set_option maxRecDepth 20000 in
theorem gX4_holds_X4_within : GoodIn wsX4_holds (va_wsS RX4 62 yX4_within wsX4_within) := goodIn_app (goodIn_of _ (by decide +kernel)) ggX4_holds_X4_within
set_option maxRecDepth 20000 in
theorem ggX4_show_X4_within : GoodIn wsX4_show wsX4_within := goodIn_r _ [5] (by decide +kernel) (by decide +kernel)
set_option maxRecDepth 20000 in
theorem gX4_show_X4_within : GoodIn wsX4_show (va_wsS RX4 62 yX4_within wsX4_within) := goodIn_app (goodIn_of _ (by decide +kernel)) ggX4_show_X4_within
set_option maxRecDepth 20000 in
theorem ggX4_show_X4_isOne : GoodIn wsX4_show wsX4_isOne := goodIn_r _ [9, 10, 2, 3, 4, 5, 16, 17, 18, 19, 20, 21, 22, 23, 24, 25, 26, 27, 28, 29, 30, 31, 32, 33, 34, 35, 36, 37, 38, 39, 40, 41, 42] (by decide +kernel) (by decide +kernel)
set_option maxRecDepth 20000 in
theorem gX4_show_X4_isOne : GoodIn wsX4_show (wsV RX4 80 RX4 yX4_isOne wsX4_isOne) := goodIn_app (goodIn_of _ (by decide +kernel)) ggX4_show_X4_isOne
set_option maxRecDepth 20000 in
theorem ggX4_show_X4_no : GoodIn wsX4_show wsX4_no := goodIn_r _ [14, 15, 16, 17, 18, 19, 20, 21, 22, 23, 24, 25, 26, 27, 28, 29, 30, 31, 32, 33, 34, 35, 36, 37, 38, 39, 40, 41, 42] (by decide +kernel) (by decide +kernel)
set_option maxRecDepth 20000 in
theorem gX4_show_X4_no : GoodIn wsX4_show (wsV RX4 69 RX4 yX4_no wsX4_no) := goodIn_app (goodIn_of _ (by decide +kernel)) ggX4_show_X4_no
set_option maxRecDepth 20000 in
theorem ggX4_says_X4_within : GoodIn wsX4_says wsX4_within := goodIn_r _ [7] (by decide +kernel) (by decide +kernel)
set_option maxRecDepth 20000 in
theorem gX4_says_X4_within : GoodIn wsX4_says (va_wsS RX4 62 yX4_within wsX4_within) := goodIn_app (goodIn_of _ (by decide +kernel)) ggX4_says_X4_within
set_option maxRecDepth 20000 in
theorem ggX4_says_X4_no : GoodIn wsX4_says wsX4_no := goodIn_r _ [11, 12, 94, 95, 96, 97, 98, 99, 100, 101, 102, 103, 104, 105, 106, 107, 108, 109, 110, 111, 112, 113, 114, 115, 116, 117, 118, 119, 120] (by decide +kernel) (by decide +kernel)
set_option maxRecDepth 20000 in
theorem gX4_says_X4_no : GoodIn wsX4_says (wsV RX4 69 RX4 yX4_no wsX4_no) := goodIn_app (goodIn_of _ (by decide +kernel)) ggX4_says_X4_no
set_option maxRecDepth 20000 in
theorem ggX4_says_X4_isRow : GoodIn wsX4_says wsX4_isRow := goodIn_r _ [16, 1, 4, 5, 6, 7, 94, 95, 96, 97, 98, 99, 100, 101, 102, 103, 104, 105, 106, 107, 108, 109, 110, 111, 112, 113, 114, 115, 116, 117, 118, 119, 120] (by decide +kernel) (by decide +kernel)
set_option maxRecDepth 20000 in
theorem gX4_says_X4_isRow : GoodIn wsX4_says (wsV RX4 76 RX4 yX4_isRow wsX4_isRow) := goodIn_app (goodIn_of _ (by decide +kernel)) ggX4_says_X4_isRow
set_option maxRecDepth 20000 in
theorem ggX4_says_X4_isUnder : GoodIn wsX4_says wsX4_isUnder := goodIn_r _ [19] (by decide +kernel) (by decide +kernel)
set_option maxRecDepth 20000 in
theorem gX4_says_X4_isUnder : GoodIn wsX4_says (va_wsS RX4 83 yX4_isUnder wsX4_isUnder) := goodIn_app (goodIn_of _ (by decide +kernel)) ggX4_says_X4_isUnder
set_option maxRecDepth 20000 in
theorem ggX4_says_X4_firstOf : GoodIn wsX4_says wsX4_firstOf := goodIn_r _ [23, 24, 25, 26, 6, 27, 3, 28, 29, 30, 31, 2, 32, 33, 34, 35, 36, 37, 38, 39, 40, 41, 42, 43, 44, 45, 46, 47, 48, 49, 50, 51, 52, 53, 54, 55, 56, 57, 58, 59, 60, 61, 62, 63, 64, 65, 66, 67, 68, 69, 70, 71, 72, 73, 74, 75, 76, 77, 78, 79, 94, 95, 96, 97, 98, 99, 100, 101, 102, 103, 104, 105, 106, 107, 108, 109, 110, 111, 112, 113, 114, 115, 116, 117, 118, 119, 120] (by decide +kernel) (by decide +kernel)
set_option maxRecDepth 20000 in
theorem gX4_says_X4_firstOf : GoodIn wsX4_says (wsV RX4 87 RX4 yX4_firstOf wsX4_firstOf) := goodIn_app (goodIn_of _ (by decide +kernel)) ggX4_says_X4_firstOf
set_option maxRecDepth 20000 in
theorem ggX4_says_X4_sleeps : GoodIn wsX4_says wsX4_sleeps := goodIn_r _ [76, 2, 34, 94, 95, 96, 97, 98, 99, 100, 101, 102, 103, 104, 105, 106, 107, 108, 109, 110, 111, 112, 113, 114, 115, 116, 117, 118, 119, 120] (by decide +kernel) (by decide +kernel)
set_option maxRecDepth 20000 in
theorem gX4_says_X4_sleeps : GoodIn wsX4_says (wsV RX4 90 RX4 yX4_sleeps wsX4_sleeps) := goodIn_app (goodIn_of _ (by decide +kernel)) ggX4_says_X4_sleeps
set_option maxRecDepth 20000 in
theorem ggX4_says_X4_expected : GoodIn wsX4_says wsX4_expected := goodIn_r _ [27, 3, 28, 29, 30, 6, 31, 2, 32, 33, 34, 35, 36, 37, 38, 39, 40, 41, 42, 43, 44, 45, 46, 47, 48, 49, 50, 51, 52, 53, 54, 55, 56, 57, 58, 59, 60, 61, 62, 63, 64, 65, 66, 67, 68, 69, 70, 71, 72, 73, 74, 75, 76, 94, 95, 96, 97, 98, 99, 100, 101, 102, 103, 104, 105, 106, 107, 108, 109, 110, 111, 112, 113, 114, 115, 116, 117, 118, 119, 120] (by decide +kernel) (by decide +kernel)
set_option maxRecDepth 20000 in
theorem gX4_says_X4_expected : GoodIn wsX4_says (wsV RX4 93 RX4 yX4_expected wsX4_expected) := goodIn_app (goodIn_of _ (by decide +kernel)) ggX4_says_X4_expected
set_option maxRecDepth 20000 in
theorem ggX4_says_J6_bitCount_0f7a4 : GoodIn wsX4_says wsJ6_bitCount_0f7a4 := goodIn_r _ [82, 83, 84, 85] (by decide +kernel) (by decide +kernel)
set_option maxRecDepth 20000 in
theorem gX4_says_J6_bitCount_0f7a4 : GoodIn wsX4_says (va_wsS RX4 96 yJ6_bitCount_0f7a4 wsJ6_bitCount_0f7a4) := goodIn_app (goodIn_of _ (by decide +kernel)) ggX4_says_J6_bitCount_0f7a4
set_option maxRecDepth 20000 in
theorem ggX4_says_X4_lastAllowed : GoodIn wsX4_says wsX4_lastAllowed := goodIn_r _ [89, 32, 90, 91, 6, 92, 93, 70, 66, 71, 72, 94, 95, 96, 97, 98, 99, 100, 101, 102, 103, 104, 105, 106, 107, 108, 109, 110, 111, 112, 113, 114, 115, 116, 117, 118, 119, 120] (by decide +kernel) (by decide +kernel)
set_option maxRecDepth 20000 in
theorem gX4_says_X4_lastAllowed : GoodIn wsX4_says (wsV RX4 101 RX4 yX4_lastAllowed wsX4_lastAllowed) := goodIn_app (goodIn_of _ (by decide +kernel)) ggX4_says_X4_lastAllowed
set_option maxRecDepth 20000 in
theorem ggX4_says_X4_expectsIt : GoodIn wsX4_says wsX4_expectsIt := goodIn_r _ [31, 2, 32, 33, 34, 35, 36, 6, 37, 38, 39, 40, 41, 42, 43, 44, 45, 3, 46, 47, 48, 49, 50, 51, 52, 53, 54, 55, 56, 57, 58, 59, 60, 61, 62, 63, 64, 65, 66, 67, 68, 69, 70, 71, 72, 73, 74, 75, 76, 94, 95, 96, 97, 98, 99, 100, 101, 102, 103, 104, 105, 106, 107, 108, 109, 110, 111, 112, 113, 114, 115, 116, 117, 118, 119, 120] (by decide +kernel) (by decide +kernel)
set_option maxRecDepth 20000 in
theorem gX4_says_X4_expectsIt : GoodIn wsX4_says (wsV RX4 105 RX4 yX4_expectsIt wsX4_expectsIt) := goodIn_app (goodIn_of _ (by decide +kernel)) ggX4_says_X4_expectsIt
set_option maxRecDepth 20000 in
theorem ggX4_says_X4_depth : GoodIn wsX4_says wsX4_depth := goodIn_r _ [53, 34, 54, 55, 56, 57, 58, 2, 59, 60, 61, 62, 63, 50, 51, 52, 6, 94, 95, 96, 97, 98, 99, 100, 101, 102, 103, 104, 105, 106, 107, 108, 109, 110, 111, 112, 113, 114, 115, 116, 117, 118, 119, 120] (by decide +kernel) (by decide +kernel)
set_option maxRecDepth 20000 in
theorem gX4_says_X4_depth : GoodIn wsX4_says (wsV RX4 108 RX4 yX4_depth wsX4_depth) := goodIn_app (goodIn_of _ (by decide +kernel)) ggX4_says_X4_depth
set_option maxRecDepth 20000 in
theorem ggX4_term_X4_within : GoodIn wsX4_term wsX4_within := goodIn_r _ [5] (by decide +kernel) (by decide +kernel)
set_option maxRecDepth 20000 in
theorem gX4_term_X4_within : GoodIn wsX4_term (va_wsS RX4 62 yX4_within wsX4_within) := goodIn_app (goodIn_of _ (by decide +kernel)) ggX4_term_X4_within
set_option maxRecDepth 20000 in
theorem ggX4_term_X4_no : GoodIn wsX4_term wsX4_no := goodIn_r _ [9, 10, 17, 18, 19, 20, 21, 22, 23, 24, 25, 26, 27, 28, 29, 30, 31, 32, 33, 34, 35, 36, 37, 38, 39, 40, 41, 42, 43] (by decide +kernel) (by decide +kernel)
set_option maxRecDepth 20000 in
theorem gX4_term_X4_no : GoodIn wsX4_term (wsV RX4 69 RX4 yX4_no wsX4_no) := goodIn_app (goodIn_of _ (by decide +kernel)) ggX4_term_X4_no
set_option maxRecDepth 20000 in
theorem ggX4_term_X4_freshTerm : GoodIn wsX4_term wsX4_freshTerm := goodIn_r _ [14, 1, 15, 16, 17, 18, 19, 20, 21, 22, 23, 24, 25, 26, 27, 28, 29, 30, 31, 32, 33, 34, 35, 36, 37, 38, 39, 40, 41, 42, 43] (by decide +kernel) (by decide +kernel)
set_option maxRecDepth 20000 in
theorem gX4_term_X4_freshTerm : GoodIn wsX4_term (wsV RX4 44 RX4 yX4_freshTerm wsX4_freshTerm) := goodIn_app (goodIn_of _ (by decide +kernel)) ggX4_term_X4_freshTerm
set_option maxRecDepth 20000 in
theorem ggX4_person_X4_within : GoodIn wsX4_person wsX4_within := goodIn_r _ [5] (by decide +kernel) (by decide +kernel)
set_option maxRecDepth 20000 in
theorem gX4_person_X4_within : GoodIn wsX4_person (va_wsS RX4 62 yX4_within wsX4_within) := goodIn_app (goodIn_of _ (by decide +kernel)) ggX4_person_X4_within
set_option maxRecDepth 20000 in
theorem ggX4_person_X4_no : GoodIn wsX4_person wsX4_no := goodIn_r _ [9, 10, 17, 18, 19, 20, 21, 22, 23, 24, 25, 26, 27, 28, 29, 30, 31, 32, 33, 34, 35, 36, 37, 38, 39, 40, 41, 42, 43] (by decide +kernel) (by decide +kernel)
set_option maxRecDepth 20000 in
theorem gX4_person_X4_no : GoodIn wsX4_person (wsV RX4 69 RX4 yX4_no wsX4_no) := goodIn_app (goodIn_of _ (by decide +kernel)) ggX4_person_X4_no
set_option maxRecDepth 20000 in
theorem ggX4_person_X4_newOne : GoodIn wsX4_person wsX4_newOne := goodIn_r _ [14, 15, 1, 16, 17, 18, 19, 20, 21, 22, 23, 24, 25, 26, 27, 28, 29, 30, 31, 32, 33, 34, 35, 36, 37, 38, 39, 40, 41, 42, 43] (by decide +kernel) (by decide +kernel)
set_option maxRecDepth 20000 in
theorem gX4_person_X4_newOne : GoodIn wsX4_person (wsV RX4 114 RX4 yX4_newOne wsX4_newOne) := goodIn_app (goodIn_of _ (by decide +kernel)) ggX4_person_X4_newOne
set_option maxRecDepth 20000 in
theorem ggX4_allow_X4_isMorning : GoodIn wsX4_allow wsX4_isMorning := goodIn_r _ [6, 7, 8, 9, 5, 10, 19, 20, 21, 22, 23, 24, 25, 26, 27, 28, 29, 30, 31, 32, 33, 34, 35, 36, 37, 38, 39, 40, 41, 42, 43, 44, 45] (by decide +kernel) (by decide +kernel)
set_option maxRecDepth 20000 in
theorem gX4_allow_X4_isMorning : GoodIn wsX4_allow (wsV RX4 118 RX4 yX4_isMorning wsX4_isMorning) := goodIn_app (goodIn_of _ (by decide +kernel)) ggX4_allow_X4_isMorning
set_option maxRecDepth 20000 in
theorem ggX4_allow_X4_no : GoodIn wsX4_allow wsX4_no := goodIn_r _ [14, 15, 19, 20, 21, 22, 23, 24, 25, 26, 27, 28, 29, 30, 31, 32, 33, 34, 35, 36, 37, 38, 39, 40, 41, 42, 43, 44, 45] (by decide +kernel) (by decide +kernel)
set_option maxRecDepth 20000 in
theorem gX4_allow_X4_no : GoodIn wsX4_allow (wsV RX4 69 RX4 yX4_no wsX4_no) := goodIn_app (goodIn_of _ (by decide +kernel)) ggX4_allow_X4_no
set_option maxRecDepth 20000 in
theorem ggX4_allow_X4_has : GoodIn wsX4_allow wsX4_has := goodIn_r _ [18] (by decide +kernel) (by decide +kernel)
set_option maxRecDepth 20000 in
theorem gX4_allow_X4_has : GoodIn wsX4_allow (va_wsS RX4 121 yX4_has wsX4_has) := goodIn_app (goodIn_of _ (by decide +kernel)) ggX4_allow_X4_has
set_option maxRecDepth 20000 in
theorem ggX4_weight_X4_isMorning : GoodIn wsX4_weight wsX4_isMorning := goodIn_r _ [6, 7, 8, 9, 5, 10, 16, 17, 18, 19, 20, 21, 22, 23, 24, 25, 26, 27, 28, 29, 30, 31, 32, 33, 34, 35, 36, 37, 38, 39, 40, 41, 42] (by decide +kernel) (by decide +kernel)
set_option maxRecDepth 20000 in
theorem gX4_weight_X4_isMorning : GoodIn wsX4_weight (wsV RX4 118 RX4 yX4_isMorning wsX4_isMorning) := goodIn_app (goodIn_of _ (by decide +kernel)) ggX4_weight_X4_isMorning
set_option maxRecDepth 20000 in
theorem ggX4_weight_X4_within : GoodIn wsX4_weight wsX4_within := goodIn_r _ [10] (by decide +kernel) (by decide +kernel)
set_option maxRecDepth 20000 in
theorem gX4_weight_X4_within : GoodIn wsX4_weight (va_wsS RX4 62 yX4_within wsX4_within) := goodIn_app (goodIn_of _ (by decide +kernel)) ggX4_weight_X4_within
set_option maxRecDepth 20000 in
theorem ggX4_weight_X4_no : GoodIn wsX4_weight wsX4_no := goodIn_r _ [14, 15, 16, 17, 18, 19, 20, 21, 22, 23, 24, 25, 26, 27, 28, 29, 30, 31, 32, 33, 34, 35, 36, 37, 38, 39, 40, 41, 42] (by decide +kernel) (by decide +kernel)
set_option maxRecDepth 20000 in
theorem gX4_weight_X4_no : GoodIn wsX4_weight (wsV RX4 69 RX4 yX4_no wsX4_no) := goodIn_app (goodIn_of _ (by decide +kernel)) ggX4_weight_X4_no
set_option maxRecDepth 20000 in
theorem ggX4_say_X4_no : GoodIn wsX4_say wsX4_no := goodIn_r _ [6, 7, 8, 9, 10, 11, 12, 13, 14, 15, 16, 17, 18, 19, 20, 21, 22, 23, 24, 25, 26, 27, 28, 29, 30, 31, 32, 33, 34] (by decide +kernel) (by decide +kernel)
set_option maxRecDepth 20000 in
theorem gX4_say_X4_no : GoodIn wsX4_say (wsV RX4 69 RX4 yX4_no wsX4_no) := goodIn_app (goodIn_of _ (by decide +kernel)) ggX4_say_X4_no
set_option maxRecDepth 20000 in
theorem ggX4_unsay_X4_within : GoodIn wsX4_unsay wsX4_within := goodIn_r _ [5] (by decide +kernel) (by decide +kernel)
set_option maxRecDepth 20000 in
theorem gX4_unsay_X4_within : GoodIn wsX4_unsay (va_wsS RX4 62 yX4_within wsX4_within) := goodIn_app (goodIn_of _ (by decide +kernel)) ggX4_unsay_X4_within
set_option maxRecDepth 20000 in
theorem ggX4_unsay_X4_no : GoodIn wsX4_unsay wsX4_no := goodIn_r _ [9, 10, 11, 12, 13, 14, 15, 16, 17, 18, 19, 20, 21, 22, 23, 24, 25, 26, 27, 28, 29, 30, 31, 32, 33, 34, 35, 36, 37] (by decide +kernel) (by decide +kernel)
set_option maxRecDepth 20000 in
theorem gX4_unsay_X4_no : GoodIn wsX4_unsay (wsV RX4 69 RX4 yX4_no wsX4_no) := goodIn_app (goodIn_of _ (by decide +kernel)) ggX4_unsay_X4_no
set_option maxRecDepth 20000 in
theorem ggX4_hint_X4_within : GoodIn wsX4_hint wsX4_within := goodIn_r _ [6] (by decide +kernel) (by decide +kernel)
set_option maxRecDepth 20000 in
theorem gX4_hint_X4_within : GoodIn wsX4_hint (va_wsS RX4 62 yX4_within wsX4_within) := goodIn_app (goodIn_of _ (by decide +kernel)) ggX4_hint_X4_within
set_option maxRecDepth 20000 in
theorem ggX4_hint_X4_no : GoodIn wsX4_hint wsX4_no := goodIn_r _ [10, 11, 19, 20, 21, 22, 23, 24, 25, 26, 27, 28, 29, 30, 31, 32, 33, 34, 35, 36, 37, 38, 39, 40, 41, 42, 43, 44, 45] (by decide +kernel) (by decide +kernel)
set_option maxRecDepth 20000 in
theorem gX4_hint_X4_no : GoodIn wsX4_hint (wsV RX4 69 RX4 yX4_no wsX4_no) := goodIn_app (goodIn_of _ (by decide +kernel)) ggX4_hint_X4_no
set_option maxRecDepth 20000 in
theorem ggX4_hint_J6_bitCount_0f7a4 : GoodIn wsX4_hint wsJ6_bitCount_0f7a4 := goodIn_r _ [15, 16, 17, 18] (by decide +kernel) (by decide +kernel)
set_option maxRecDepth 20000 in
theorem gX4_hint_J6_bitCount_0f7a4 : GoodIn wsX4_hint (va_wsS RX4 96 yJ6_bitCount_0f7a4 wsJ6_bitCount_0f7a4) := goodIn_app (goodIn_of _ (by decide +kernel)) ggX4_hint_J6_bitCount_0f7a4
set_option maxRecDepth 20000 in
theorem ggX4_feed_X4_within : GoodIn wsX4_feed wsX4_within := goodIn_r _ [6] (by decide +kernel) (by decide +kernel)
set_option maxRecDepth 20000 in
theorem gX4_feed_X4_within : GoodIn wsX4_feed (va_wsS RX4 62 yX4_within wsX4_within) := goodIn_app (goodIn_of _ (by decide +kernel)) ggX4_feed_X4_within
set_option maxRecDepth 20000 in
theorem ggX4_feed_X4_no : GoodIn wsX4_feed wsX4_no := goodIn_r _ [10, 11, 12, 13, 14, 15, 16, 17, 18, 19, 20, 21, 22, 23, 24, 25, 26, 27, 28, 29, 30, 31, 32, 33, 34, 35, 36, 37, 38] (by decide +kernel) (by decide +kernel)
set_option maxRecDepth 20000 in
theorem gX4_feed_X4_no : GoodIn wsX4_feed (wsV RX4 69 RX4 yX4_no wsX4_no) := goodIn_app (goodIn_of _ (by decide +kernel)) ggX4_feed_X4_no
set_option maxRecDepth 20000 in
theorem ggX4_next_X4_isLetter : GoodIn wsX4_next wsX4_isLetter := goodIn_r _ [10] (by decide +kernel) (by decide +kernel)
set_option maxRecDepth 20000 in
theorem gX4_next_X4_isLetter : GoodIn wsX4_next (va_wsS RX4 136 yX4_isLetter wsX4_isLetter) := goodIn_app (goodIn_of _ (by decide +kernel)) ggX4_next_X4_isLetter
set_option maxRecDepth 20000 in
theorem ggX4_next_X4_isDigit : GoodIn wsX4_next wsX4_isDigit := goodIn_r _ [13] (by decide +kernel) (by decide +kernel)
set_option maxRecDepth 20000 in
theorem gX4_next_X4_isDigit : GoodIn wsX4_next (va_wsS RX4 139 yX4_isDigit wsX4_isDigit) := goodIn_app (goodIn_of _ (by decide +kernel)) ggX4_next_X4_isDigit
set_option maxRecDepth 20000 in
theorem ggX4_isWord_J0_length_8abf5 : GoodIn wsX4_isWord wsJ0_length_8abf5 := goodIn_r _ [9, 10, 11, 12, 13, 8, 14, 15, 16] (by decide +kernel) (by decide +kernel)
set_option maxRecDepth 20000 in
theorem gX4_isWord_J0_length_8abf5 : GoodIn wsX4_isWord (wsV RX4 145 RJ0 yJ0_length_8abf5 wsJ0_length_8abf5) := goodIn_app (goodIn_of _ (by decide +kernel)) ggX4_isWord_J0_length_8abf5
set_option maxRecDepth 20000 in
theorem ggX4_isWord_J0_charAt_5068e : GoodIn wsX4_isWord wsJ0_charAt_5068e := goodIn_r _ [20, 10, 21, 22, 23, 8, 24, 15, 16, 25, 26, 27, 28, 29, 30, 31, 32, 33, 34, 35, 36, 37, 38, 39, 40, 41, 42, 43, 44, 45, 46, 47, 48, 49, 50, 51, 52, 53] (by decide +kernel) (by decide +kernel)
set_option maxRecDepth 20000 in
theorem gX4_isWord_J0_charAt_5068e : GoodIn wsX4_isWord (wsV RX4 150 RJ0 yJ0_charAt_5068e wsJ0_charAt_5068e) := goodIn_app (goodIn_of _ (by decide +kernel)) ggX4_isWord_J0_charAt_5068e
set_option maxRecDepth 20000 in
theorem ggX4_number_X4_next : GoodIn wsX4_number wsX4_next := goodIn_r _ [7, 8, 9, 10, 11, 1, 2, 12, 13, 6, 14, 15, 16, 17, 21, 22, 23, 24, 25, 26, 27, 28, 29, 30, 31, 32, 33, 34, 35, 36, 37, 38, 39, 40, 41, 42, 43, 44, 45, 46, 47] (by decide +kernel) (by decide +kernel)
set_option maxRecDepth 20000 in
theorem gX4_number_X4_next : GoodIn wsX4_number (wsV RX4 154 RX4 yX4_next wsX4_next) := goodIn_app (goodIn_of _ (by decide +kernel)) ggX4_number_X4_next
set_option maxRecDepth 20000 in
theorem ggX4_number_X4_within : GoodIn wsX4_number wsX4_within := goodIn_r _ [20] (by decide +kernel) (by decide +kernel)
set_option maxRecDepth 20000 in
theorem gX4_number_X4_within : GoodIn wsX4_number (va_wsS RX4 62 yX4_within wsX4_within) := goodIn_app (goodIn_of _ (by decide +kernel)) ggX4_number_X4_within
set_option maxRecDepth 20000 in
theorem ggX4_statement_X4_isWord : GoodIn wsX4_statement wsX4_isWord := goodIn_r _ [12, 7, 13, 14, 15, 16, 17, 18, 19, 20, 21, 22, 23, 24, 25, 26, 27, 28, 29, 30, 31, 32, 33, 34, 35, 36, 37, 38, 39, 40, 41, 42, 43, 44, 45, 46, 47, 48, 49, 50, 51, 52, 53, 54, 55, 56, 57, 58, 59, 60, 61, 62, 63, 64, 96, 97, 98, 99, 100, 101, 102, 103, 104, 105, 106, 107, 108, 109, 110, 111, 112, 113, 114, 115, 116, 117, 118, 119, 120, 121, 122] (by decide +kernel) (by decide +kernel)
set_option maxRecDepth 20000 in
theorem gX4_statement_X4_isWord : GoodIn wsX4_statement (wsV RX4 159 RX4 yX4_isWord wsX4_isWord) := goodIn_app (goodIn_of _ (by decide +kernel)) ggX4_statement_X4_isWord
set_option maxRecDepth 20000 in
theorem ggX4_statement_X4_number : GoodIn wsX4_statement wsX4_number := goodIn_r _ [68, 7, 1, 69, 70, 71, 11, 72, 13, 73, 15, 14, 74, 75, 76, 77, 78, 79, 80, 81, 82, 96, 97, 98, 99, 100, 101, 102, 103, 104, 105, 106, 107, 108, 109, 110, 111, 112, 113, 114, 115, 116, 117, 118, 119, 120, 121, 122] (by decide +kernel) (by decide +kernel)
set_option maxRecDepth 20000 in
theorem gX4_statement_X4_number : GoodIn wsX4_statement (wsV RX4 163 RX4 yX4_number wsX4_number) := goodIn_app (goodIn_of _ (by decide +kernel)) ggX4_statement_X4_number
set_option maxRecDepth 20000 in
theorem ggX4_statement_X4_freshTerm : GoodIn wsX4_statement wsX4_freshTerm := goodIn_r _ [86, 2, 3, 4, 96, 97, 98, 99, 100, 101, 102, 103, 104, 105, 106, 107, 108, 109, 110, 111, 112, 113, 114, 115, 116, 117, 118, 119, 120, 121, 122] (by decide +kernel) (by decide +kernel)
set_option maxRecDepth 20000 in
theorem gX4_statement_X4_freshTerm : GoodIn wsX4_statement (wsV RX4 44 RX4 yX4_freshTerm wsX4_freshTerm) := goodIn_app (goodIn_of _ (by decide +kernel)) ggX4_statement_X4_freshTerm
set_option maxRecDepth 20000 in
theorem ggX4_statement_X4_newOne : GoodIn wsX4_statement wsX4_newOne := goodIn_r _ [90, 91, 6, 92, 96, 97, 98, 99, 100, 101, 102, 103, 104, 105, 106, 107, 108, 109, 110, 111, 112, 113, 114, 115, 116, 117, 118, 119, 120, 121, 122] (by decide +kernel) (by decide +kernel)
set_option maxRecDepth 20000 in
theorem gX4_statement_X4_newOne : GoodIn wsX4_statement (wsV RX4 114 RX4 yX4_newOne wsX4_newOne) := goodIn_app (goodIn_of _ (by decide +kernel)) ggX4_statement_X4_newOne
set_option maxRecDepth 20000 in
theorem ggX4_statement_X4_within : GoodIn wsX4_statement wsX4_within := goodIn_r _ [82] (by decide +kernel) (by decide +kernel)
set_option maxRecDepth 20000 in
theorem gX4_statement_X4_within : GoodIn wsX4_statement (va_wsS RX4 62 yX4_within wsX4_within) := goodIn_app (goodIn_of _ (by decide +kernel)) ggX4_statement_X4_within
set_option maxRecDepth 20000 in
theorem ggX4_statement_X4_has : GoodIn wsX4_statement wsX4_has := goodIn_r _ [95] (by decide +kernel) (by decide +kernel)
set_option maxRecDepth 20000 in
theorem gX4_statement_X4_has : GoodIn wsX4_statement (va_wsS RX4 121 yX4_has wsX4_has) := goodIn_app (goodIn_of _ (by decide +kernel)) ggX4_statement_X4_has
set_option maxRecDepth 20000 in
theorem ggX4_statement_X4_next : GoodIn wsX4_statement wsX4_next := goodIn_r _ [72, 13, 73, 15, 14, 7, 1, 74, 75, 11, 76, 77, 78, 79, 96, 97, 98, 99, 100, 101, 102, 103, 104, 105, 106, 107, 108, 109, 110, 111, 112, 113, 114, 115, 116, 117, 118, 119, 120, 121, 122] (by decide +kernel) (by decide +kernel)
set_option maxRecDepth 20000 in
theorem gX4_statement_X4_next : GoodIn wsX4_statement (wsV RX4 154 RX4 yX4_next wsX4_next) := goodIn_app (goodIn_of _ (by decide +kernel)) ggX4_statement_X4_next
set_option maxRecDepth 20000 in
theorem ggX4_school_X4_keep : GoodIn wsX4_school wsX4_keep := goodIn_r _ [10, 11, 12, 13, 14, 15, 16, 17, 18, 19, 20, 21, 118, 119, 120, 121, 122, 123, 124, 125, 126, 127, 128, 129, 130, 131, 132, 133, 134, 135, 136, 137, 138, 139, 140, 141, 142, 143, 144] (by decide +kernel) (by decide +kernel)
set_option maxRecDepth 20000 in
theorem gX4_school_X4_keep : GoodIn wsX4_school (wsV RX4 174 RX4 yX4_keep wsX4_keep) := goodIn_app (goodIn_of _ (by decide +kernel)) ggX4_school_X4_keep
set_option maxRecDepth 20000 in
theorem ggX4_school_X4_next : GoodIn wsX4_school wsX4_next := goodIn_r _ [25, 2, 4, 26, 5, 3, 27, 28, 29, 9, 30, 31, 32, 33, 118, 119, 120, 121, 122, 123, 124, 125, 126, 127, 128, 129, 130, 131, 132, 133, 134, 135, 136, 137, 138, 139, 140, 141, 142, 143, 144] (by decide +kernel) (by decide +kernel)
set_option maxRecDepth 20000 in
theorem gX4_school_X4_next : GoodIn wsX4_school (wsV RX4 154 RX4 yX4_next wsX4_next) := goodIn_app (goodIn_of _ (by decide +kernel)) ggX4_school_X4_next
set_option maxRecDepth 20000 in
theorem ggX4_school_X4_statement : GoodIn wsX4_school wsX4_statement := goodIn_r _ [37, 27, 14, 15, 11, 17, 16, 3, 38, 39, 40, 9, 41, 2, 5, 26, 42, 43, 44, 45, 46, 47, 48, 49, 50, 51, 52, 53, 54, 55, 56, 57, 58, 59, 60, 61, 62, 63, 64, 65, 66, 67, 68, 69, 70, 71, 72, 73, 74, 75, 76, 77, 78, 79, 80, 81, 82, 83, 84, 85, 86, 87, 88, 89, 90, 91, 92, 93, 94, 22, 23, 24, 25, 4, 28, 29, 30, 31, 32, 33, 95, 96, 97, 98, 99, 100, 101, 102, 103, 104, 105, 12, 13, 106, 107, 108, 118, 119, 120, 121, 122, 123, 124, 125, 126, 127, 128, 129, 130, 131, 132, 133, 134, 135, 136, 137, 138, 139, 140, 141, 142, 143, 144] (by decide +kernel) (by decide +kernel)
set_option maxRecDepth 20000 in
theorem gX4_school_X4_statement : GoodIn wsX4_school (wsV RX4 178 RX4 yX4_statement wsX4_statement) := goodIn_app (goodIn_of _ (by decide +kernel)) ggX4_school_X4_statement
set_option maxRecDepth 20000 in
theorem ggX4_school_X4_again : GoodIn wsX4_school wsX4_again := goodIn_r _ [112, 11, 12, 13, 14, 15, 16, 17, 18, 19, 20, 21, 118, 119, 120, 121, 122, 123, 124, 125, 126, 127, 128, 129, 130, 131, 132, 133, 134, 135, 136, 137, 138, 139, 140, 141, 142, 143, 144] (by decide +kernel) (by decide +kernel)
set_option maxRecDepth 20000 in
theorem gX4_school_X4_again : GoodIn wsX4_school (wsV RX4 182 RX4 yX4_again wsX4_again) := goodIn_app (goodIn_of _ (by decide +kernel)) ggX4_school_X4_again
set_option maxRecDepth 20000 in
theorem ggX4_school_X4_no : GoodIn wsX4_school wsX4_no := goodIn_r _ [116, 117, 118, 119, 120, 121, 122, 123, 124, 125, 126, 127, 128, 129, 130, 131, 132, 133, 134, 135, 136, 137, 138, 139, 140, 141, 142, 143, 144] (by decide +kernel) (by decide +kernel)
set_option maxRecDepth 20000 in
theorem gX4_school_X4_no : GoodIn wsX4_school (wsV RX4 69 RX4 yX4_no wsX4_no) := goodIn_app (goodIn_of _ (by decide +kernel)) ggX4_school_X4_no
set_option maxRecDepth 20000 in
theorem ggX4_weights_X4_has : GoodIn wsX4_weights wsX4_has := goodIn_r _ [6] (by decide +kernel) (by decide +kernel)
set_option maxRecDepth 20000 in
theorem gX4_weights_X4_has : GoodIn wsX4_weights (va_wsS RX4 121 yX4_has wsX4_has) := goodIn_app (goodIn_of _ (by decide +kernel)) ggX4_weights_X4_has
set_option maxRecDepth 20000 in
theorem ggX4_depth_X4_depth : GoodIn wsX4_depth wsX4_depth := goodIn_r _ [0, 1, 2, 3, 4, 5, 6, 7, 8, 9, 10, 11, 12, 13, 14, 15, 16, 17, 18, 19, 20, 21, 22, 23, 24, 25, 26, 27, 28, 29, 30, 31, 32, 33, 34, 35, 36, 37, 38, 39, 40, 41, 42, 43] (by decide +kernel) (by decide +kernel)
set_option maxRecDepth 20000 in
theorem gX4_depth_X4_depth : GoodIn wsX4_depth (wsV RX4 108 RX4 yX4_depth wsX4_depth) := goodIn_app (goodIn_of _ (by decide +kernel)) ggX4_depth_X4_depth
set_option maxRecDepth 20000 in
theorem ggX4_canBe_X4_depth : GoodIn wsX4_canBe wsX4_depth := goodIn_r _ [6, 7, 8, 9, 10, 11, 12, 13, 14, 15, 16, 17, 18, 2, 3, 4, 5, 28, 29, 30, 31, 32, 33, 34, 35, 36, 37, 38, 39, 40, 41, 42, 43, 44, 45, 46, 47, 48, 49, 50, 51, 52, 53, 54] (by decide +kernel) (by decide +kernel)
set_option maxRecDepth 20000 in
theorem gX4_canBe_X4_depth : GoodIn wsX4_canBe (wsV RX4 108 RX4 yX4_depth wsX4_depth) := goodIn_app (goodIn_of _ (by decide +kernel)) ggX4_canBe_X4_depth
set_option maxRecDepth 20000 in
theorem ggX4_canBe_J6_highestOneBit_0f7a4 : GoodIn wsX4_canBe wsJ6_highestOneBit_0f7a4 := goodIn_r _ [22, 23, 24, 25, 21, 26, 27] (by decide +kernel) (by decide +kernel)
set_option maxRecDepth 20000 in
theorem gX4_canBe_J6_highestOneBit_0f7a4 : GoodIn wsX4_canBe (va_wsS RX4 193 yJ6_highestOneBit_0f7a4 wsJ6_highestOneBit_0f7a4) := goodIn_app (goodIn_of _ (by decide +kernel)) ggX4_canBe_J6_highestOneBit_0f7a4
set_option maxRecDepth 20000 in
theorem ggX4_expectsIt_X4_has : GoodIn wsX4_expectsIt wsX4_has := goodIn_r _ [8] (by decide +kernel) (by decide +kernel)
set_option maxRecDepth 20000 in
theorem gX4_expectsIt_X4_has : GoodIn wsX4_expectsIt (va_wsS RX4 121 yX4_has wsX4_has) := goodIn_app (goodIn_of _ (by decide +kernel)) ggX4_expectsIt_X4_has
set_option maxRecDepth 20000 in
theorem ggX4_expectsIt_X4_still : GoodIn wsX4_expectsIt wsX4_still := goodIn_r _ [12, 2, 49, 50, 51, 52, 53, 54, 55, 56, 57, 58, 59, 60, 61, 62, 63, 64, 65, 66, 67, 68, 69, 70, 71, 72, 73, 74, 75] (by decide +kernel) (by decide +kernel)
set_option maxRecDepth 20000 in
theorem gX4_expectsIt_X4_still : GoodIn wsX4_expectsIt (wsV RX4 196 RX4 yX4_still wsX4_still) := goodIn_app (goodIn_of _ (by decide +kernel)) ggX4_expectsIt_X4_still
set_option maxRecDepth 20000 in
theorem ggX4_expectsIt_X4_weights : GoodIn wsX4_expectsIt wsX4_weights := goodIn_r _ [16, 17, 3, 5, 6, 7, 8, 49, 50, 51, 52, 53, 54, 55, 56, 57, 58, 59, 60, 61, 62, 63, 64, 65, 66, 67, 68, 69, 70, 71, 72, 73, 74, 75] (by decide +kernel) (by decide +kernel)
set_option maxRecDepth 20000 in
theorem gX4_expectsIt_X4_weights : GoodIn wsX4_expectsIt (wsV RX4 199 RX4 yX4_weights wsX4_weights) := goodIn_app (goodIn_of _ (by decide +kernel)) ggX4_expectsIt_X4_weights
set_option maxRecDepth 20000 in
theorem ggX4_expectsIt_X4_canBe : GoodIn wsX4_expectsIt wsX4_canBe := goodIn_r _ [21, 2, 22, 23, 24, 7, 25, 4, 26, 27, 28, 29, 30, 1, 31, 32, 33, 34, 35, 36, 37, 38, 39, 40, 41, 42, 43, 44, 49, 50, 51, 52, 53, 54, 55, 56, 57, 58, 59, 60, 61, 62, 63, 64, 65, 66, 67, 68, 69, 70, 71, 72, 73, 74, 75] (by decide +kernel) (by decide +kernel)
set_option maxRecDepth 20000 in
theorem gX4_expectsIt_X4_canBe : GoodIn wsX4_expectsIt (wsV RX4 202 RX4 yX4_canBe wsX4_canBe) := goodIn_app (goodIn_of _ (by decide +kernel)) ggX4_expectsIt_X4_canBe
set_option maxRecDepth 20000 in
theorem ggX4_expectsIt_X4_sleeps : GoodIn wsX4_expectsIt wsX4_sleeps := goodIn_r _ [48, 1, 4, 49, 50, 51, 52, 53, 54, 55, 56, 57, 58, 59, 60, 61, 62, 63, 64, 65, 66, 67, 68, 69, 70, 71, 72, 73, 74, 75] (by decide +kernel) (by decide +kernel)
set_option maxRecDepth 20000 in
theorem gX4_expectsIt_X4_sleeps : GoodIn wsX4_expectsIt (wsV RX4 90 RX4 yX4_sleeps wsX4_sleeps) := goodIn_app (goodIn_of _ (by decide +kernel)) ggX4_expectsIt_X4_sleeps
set_option maxRecDepth 20000 in
theorem ggX4_expected_X4_expectsIt : GoodIn wsX4_expected wsX4_expectsIt := goodIn_r _ [6, 7, 8, 9, 10, 11, 12, 5, 13, 14, 15, 16, 17, 18, 19, 20, 21, 1, 22, 23, 24, 25, 26, 27, 28, 29, 30, 31, 32, 33, 34, 35, 36, 37, 38, 39, 40, 41, 42, 43, 44, 45, 46, 47, 48, 49, 50, 51, 52, 53, 54, 55, 56, 57, 58, 59, 60, 61, 62, 63, 64, 65, 66, 67, 68, 69, 70, 71, 72, 73, 74, 75, 76, 77, 78, 79] (by decide +kernel) (by decide +kernel)
set_option maxRecDepth 20000 in
theorem gX4_expected_X4_expectsIt : GoodIn wsX4_expected (wsV RX4 105 RX4 yX4_expectsIt wsX4_expectsIt) := goodIn_app (goodIn_of _ (by decide +kernel)) ggX4_expected_X4_expectsIt
set_option maxRecDepth 20000 in
theorem ggX4_whoExpects_X4_expectsIt : GoodIn wsX4_whoExpects wsX4_expectsIt := goodIn_r _ [7, 8, 9, 10, 11, 12, 13, 6, 14, 15, 16, 17, 18, 19, 20, 21, 22, 23, 24, 25, 26, 27, 28, 29, 30, 31, 32, 33, 34, 35, 36, 1, 2, 37, 38, 39, 40, 41, 42, 43, 44, 45, 46, 47, 48, 49, 50, 51, 52, 53, 54, 55, 56, 57, 58, 59, 60, 61, 62, 63, 64, 65, 66, 67, 68, 69, 70, 71, 72, 73, 74, 75, 76, 77, 78, 79] (by decide +kernel) (by decide +kernel)
set_option maxRecDepth 20000 in
theorem gX4_whoExpects_X4_expectsIt : GoodIn wsX4_whoExpects (wsV RX4 105 RX4 yX4_expectsIt wsX4_expectsIt) := goodIn_app (goodIn_of _ (by decide +kernel)) ggX4_whoExpects_X4_expectsIt
set_option maxRecDepth 20000 in
theorem ggX4_bySurprise_X4_has : GoodIn wsX4_bySurprise wsX4_has := goodIn_r _ [6] (by decide +kernel) (by decide +kernel)
set_option maxRecDepth 20000 in
theorem gX4_bySurprise_X4_has : GoodIn wsX4_bySurprise (va_wsS RX4 121 yX4_has wsX4_has) := goodIn_app (goodIn_of _ (by decide +kernel)) ggX4_bySurprise_X4_has
set_option maxRecDepth 20000 in
theorem ggX4_bySurprise_X4_whoExpects : GoodIn wsX4_bySurprise wsX4_whoExpects := goodIn_r _ [10, 11, 12, 13, 14, 15, 5, 16, 17, 2, 18, 19, 3, 4, 6, 20, 21, 22, 23, 24, 25, 26, 27, 1, 28, 29, 30, 31, 32, 33, 34, 35, 36, 37, 38, 39, 40, 41, 42, 43, 44, 45, 46, 47, 48, 49, 50, 51, 52, 53, 54, 55, 56, 57, 58, 59, 60, 61, 62, 63, 64, 65, 66, 67, 68, 69, 70, 71, 72, 73, 74, 75, 76, 77, 78, 79, 80, 81, 82, 83] (by decide +kernel) (by decide +kernel)
set_option maxRecDepth 20000 in
theorem gX4_bySurprise_X4_whoExpects : GoodIn wsX4_bySurprise (wsV RX4 205 RX4 yX4_whoExpects wsX4_whoExpects) := goodIn_app (goodIn_of _ (by decide +kernel)) ggX4_bySurprise_X4_whoExpects
set_option maxRecDepth 20000 in
theorem ggX4_firstOf_X4_expected : GoodIn wsX4_firstOf wsX4_expected := goodIn_r _ [5, 6, 7, 8, 9, 4, 10, 11, 12, 13, 14, 15, 16, 17, 18, 19, 20, 21, 22, 23, 24, 25, 26, 27, 28, 29, 30, 31, 32, 33, 34, 35, 36, 37, 38, 39, 40, 41, 42, 43, 44, 45, 46, 47, 48, 49, 50, 51, 52, 53, 54, 55, 56, 60, 61, 62, 63, 64, 65, 66, 67, 68, 69, 70, 71, 72, 73, 74, 75, 76, 77, 78, 79, 80, 81, 82, 83, 84, 85, 86] (by decide +kernel) (by decide +kernel)
set_option maxRecDepth 20000 in
theorem gX4_firstOf_X4_expected : GoodIn wsX4_firstOf (wsV RX4 93 RX4 yX4_expected wsX4_expected) := goodIn_app (goodIn_of _ (by decide +kernel)) ggX4_firstOf_X4_expected
set_option maxRecDepth 20000 in
theorem ggX4_firstOf_J6_numberOfTrailingZeros_0f7a4 : GoodIn wsX4_firstOf wsJ6_numberOfTrailingZeros_0f7a4 := goodIn_r _ [59, 52] (by decide +kernel) (by decide +kernel)
set_option maxRecDepth 20000 in
theorem gX4_firstOf_J6_numberOfTrailingZeros_0f7a4 : GoodIn wsX4_firstOf (va_wsS RX4 208 yJ6_numberOfTrailingZeros_0f7a4 wsJ6_numberOfTrailingZeros_0f7a4) := goodIn_app (goodIn_of _ (by decide +kernel)) ggX4_firstOf_J6_numberOfTrailingZeros_0f7a4
set_option maxRecDepth 20000 in
theorem ggX4_lastOf_J6_numberOfLeadingZeros_0f7a4 : GoodIn wsX4_lastOf wsJ6_numberOfLeadingZeros_0f7a4 := goodIn_r _ [4, 5] (by decide +kernel) (by decide +kernel)
set_option maxRecDepth 20000 in
theorem gX4_lastOf_J6_numberOfLeadingZeros_0f7a4 : GoodIn wsX4_lastOf (va_wsS RX4 211 yJ6_numberOfLeadingZeros_0f7a4 wsJ6_numberOfLeadingZeros_0f7a4) := goodIn_app (goodIn_of _ (by decide +kernel)) ggX4_lastOf_J6_numberOfLeadingZeros_0f7a4
set_option maxRecDepth 20000 in
theorem ggX4_lastAllowed_X4_lastOf : GoodIn wsX4_lastAllowed wsX4_lastOf := goodIn_r _ [5, 6, 7, 8, 9, 10] (by decide +kernel) (by decide +kernel)
set_option maxRecDepth 20000 in
theorem gX4_lastAllowed_X4_lastOf : GoodIn wsX4_lastAllowed (va_wsS RX4 214 yX4_lastOf wsX4_lastOf) := goodIn_app (goodIn_of _ (by decide +kernel)) ggX4_lastAllowed_X4_lastOf
set_option maxRecDepth 20000 in
theorem ggX4_personOf_X4_isOne : GoodIn wsX4_personOf wsX4_isOne := goodIn_r _ [7, 8, 9, 10, 6, 11, 69, 70, 71, 72, 73, 74, 75, 76, 77, 78, 79, 80, 81, 82, 83, 84, 85, 86, 87, 88, 89, 90, 91, 92, 93, 94, 95] (by decide +kernel) (by decide +kernel)
set_option maxRecDepth 20000 in
theorem gX4_personOf_X4_isOne : GoodIn wsX4_personOf (wsV RX4 80 RX4 yX4_isOne wsX4_isOne) := goodIn_app (goodIn_of _ (by decide +kernel)) ggX4_personOf_X4_isOne
set_option maxRecDepth 20000 in
theorem ggX4_personOf_X4_within : GoodIn wsX4_personOf wsX4_within := goodIn_r _ [11] (by decide +kernel) (by decide +kernel)
set_option maxRecDepth 20000 in
theorem gX4_personOf_X4_within : GoodIn wsX4_personOf (va_wsS RX4 62 yX4_within wsX4_within) := goodIn_app (goodIn_of _ (by decide +kernel)) ggX4_personOf_X4_within
set_option maxRecDepth 20000 in
theorem ggX4_personOf_X4_no : GoodIn wsX4_personOf wsX4_no := goodIn_r _ [15, 16, 69, 70, 71, 72, 73, 74, 75, 76, 77, 78, 79, 80, 81, 82, 83, 84, 85, 86, 87, 88, 89, 90, 91, 92, 93, 94, 95] (by decide +kernel) (by decide +kernel)
set_option maxRecDepth 20000 in
theorem gX4_personOf_X4_no : GoodIn wsX4_personOf (wsV RX4 69 RX4 yX4_no wsX4_no) := goodIn_app (goodIn_of _ (by decide +kernel)) ggX4_personOf_X4_no
set_option maxRecDepth 20000 in
theorem ggX4_personOf_X4_depth : GoodIn wsX4_personOf wsX4_depth := goodIn_r _ [20, 2, 21, 22, 23, 24, 25, 1, 8, 26, 27, 28, 29, 17, 18, 19, 6, 69, 70, 71, 72, 73, 74, 75, 76, 77, 78, 79, 80, 81, 82, 83, 84, 85, 86, 87, 88, 89, 90, 91, 92, 93, 94, 95] (by decide +kernel) (by decide +kernel)
set_option maxRecDepth 20000 in
theorem gX4_personOf_X4_depth : GoodIn wsX4_personOf (wsV RX4 108 RX4 yX4_depth wsX4_depth) := goodIn_app (goodIn_of _ (by decide +kernel)) ggX4_personOf_X4_depth
set_option maxRecDepth 20000 in
theorem ggX4_personOf_X4_expected : GoodIn wsX4_personOf wsX4_expected := goodIn_r _ [33, 34, 35, 36, 37, 6, 38, 1, 39, 40, 2, 41, 42, 43, 44, 45, 46, 47, 48, 49, 50, 51, 52, 53, 54, 55, 17, 18, 19, 20, 21, 22, 23, 24, 25, 8, 26, 27, 28, 29, 56, 57, 58, 59, 60, 61, 62, 63, 64, 65, 66, 67, 68, 69, 70, 71, 72, 73, 74, 75, 76, 77, 78, 79, 80, 81, 82, 83, 84, 85, 86, 87, 88, 89, 90, 91, 92, 93, 94, 95] (by decide +kernel) (by decide +kernel)
set_option maxRecDepth 20000 in
theorem gX4_personOf_X4_expected : GoodIn wsX4_personOf (wsV RX4 93 RX4 yX4_expected wsX4_expected) := goodIn_app (goodIn_of _ (by decide +kernel)) ggX4_personOf_X4_expected
set_option maxRecDepth 20000 in
theorem ggX4_morningOf_X4_isMorning : GoodIn wsX4_morningOf wsX4_isMorning := goodIn_r _ [7, 8, 9, 10, 6, 11, 28, 29, 30, 31, 32, 33, 34, 35, 36, 37, 38, 39, 40, 41, 42, 43, 44, 45, 46, 47, 48, 49, 50, 51, 52, 53, 54] (by decide +kernel) (by decide +kernel)
set_option maxRecDepth 20000 in
theorem gX4_morningOf_X4_isMorning : GoodIn wsX4_morningOf (wsV RX4 118 RX4 yX4_isMorning wsX4_isMorning) := goodIn_app (goodIn_of _ (by decide +kernel)) ggX4_morningOf_X4_isMorning
set_option maxRecDepth 20000 in
theorem ggX4_morningOf_X4_within : GoodIn wsX4_morningOf wsX4_within := goodIn_r _ [11] (by decide +kernel) (by decide +kernel)
set_option maxRecDepth 20000 in
theorem gX4_morningOf_X4_within : GoodIn wsX4_morningOf (va_wsS RX4 62 yX4_within wsX4_within) := goodIn_app (goodIn_of _ (by decide +kernel)) ggX4_morningOf_X4_within
set_option maxRecDepth 20000 in
theorem ggX4_morningOf_X4_no : GoodIn wsX4_morningOf wsX4_no := goodIn_r _ [15, 16, 28, 29, 30, 31, 32, 33, 34, 35, 36, 37, 38, 39, 40, 41, 42, 43, 44, 45, 46, 47, 48, 49, 50, 51, 52, 53, 54] (by decide +kernel) (by decide +kernel)
set_option maxRecDepth 20000 in
theorem gX4_morningOf_X4_no : GoodIn wsX4_morningOf (wsV RX4 69 RX4 yX4_no wsX4_no) := goodIn_app (goodIn_of _ (by decide +kernel)) ggX4_morningOf_X4_no
set_option maxRecDepth 20000 in
theorem ggX4_morningOf_X4_still : GoodIn wsX4_morningOf wsX4_still := goodIn_r _ [20, 1, 28, 29, 30, 31, 32, 33, 34, 35, 36, 37, 38, 39, 40, 41, 42, 43, 44, 45, 46, 47, 48, 49, 50, 51, 52, 53, 54] (by decide +kernel) (by decide +kernel)
set_option maxRecDepth 20000 in
theorem gX4_morningOf_X4_still : GoodIn wsX4_morningOf (wsV RX4 196 RX4 yX4_still wsX4_still) := goodIn_app (goodIn_of _ (by decide +kernel)) ggX4_morningOf_X4_still
set_option maxRecDepth 20000 in
theorem ggX4_morningOf_X4_weights : GoodIn wsX4_morningOf wsX4_weights := goodIn_r _ [24, 8, 2, 25, 26, 6, 27, 28, 29, 30, 31, 32, 33, 34, 35, 36, 37, 38, 39, 40, 41, 42, 43, 44, 45, 46, 47, 48, 49, 50, 51, 52, 53, 54] (by decide +kernel) (by decide +kernel)
set_option maxRecDepth 20000 in
theorem gX4_morningOf_X4_weights : GoodIn wsX4_morningOf (wsV RX4 199 RX4 yX4_weights wsX4_weights) := goodIn_app (goodIn_of _ (by decide +kernel)) ggX4_morningOf_X4_weights
set_option maxRecDepth 20000 in
theorem ggX4_can_X4_isOne : GoodIn wsX4_can wsX4_isOne := goodIn_r _ [5, 6, 7, 8, 4, 9, 49, 50, 51, 52, 53, 54, 55, 56, 57, 58, 59, 60, 61, 62, 63, 64, 65, 66, 67, 68, 69, 70, 71, 72, 73, 74, 75] (by decide +kernel) (by decide +kernel)
set_option maxRecDepth 20000 in
theorem gX4_can_X4_isOne : GoodIn wsX4_can (wsV RX4 80 RX4 yX4_isOne wsX4_isOne) := goodIn_app (goodIn_of _ (by decide +kernel)) ggX4_can_X4_isOne
set_option maxRecDepth 20000 in
theorem ggX4_can_X4_isMorning : GoodIn wsX4_can wsX4_isMorning := goodIn_r _ [13, 14, 7, 8, 4, 9, 49, 50, 51, 52, 53, 54, 55, 56, 57, 58, 59, 60, 61, 62, 63, 64, 65, 66, 67, 68, 69, 70, 71, 72, 73, 74, 75] (by decide +kernel) (by decide +kernel)
set_option maxRecDepth 20000 in
theorem gX4_can_X4_isMorning : GoodIn wsX4_can (wsV RX4 118 RX4 yX4_isMorning wsX4_isMorning) := goodIn_app (goodIn_of _ (by decide +kernel)) ggX4_can_X4_isMorning
set_option maxRecDepth 20000 in
theorem ggX4_can_X4_canBe : GoodIn wsX4_can wsX4_canBe := goodIn_r _ [18, 19, 20, 21, 22, 4, 23, 24, 25, 26, 27, 28, 29, 30, 6, 31, 32, 33, 34, 35, 36, 37, 38, 39, 40, 41, 42, 43, 49, 50, 51, 52, 53, 54, 55, 56, 57, 58, 59, 60, 61, 62, 63, 64, 65, 66, 67, 68, 69, 70, 71, 72, 73, 74, 75] (by decide +kernel) (by decide +kernel)
set_option maxRecDepth 20000 in
theorem gX4_can_X4_canBe : GoodIn wsX4_can (wsV RX4 202 RX4 yX4_canBe wsX4_canBe) := goodIn_app (goodIn_of _ (by decide +kernel)) ggX4_can_X4_canBe
set_option maxRecDepth 20000 in
theorem ggX4_can_X4_no : GoodIn wsX4_can wsX4_no := goodIn_r _ [47, 48, 49, 50, 51, 52, 53, 54, 55, 56, 57, 58, 59, 60, 61, 62, 63, 64, 65, 66, 67, 68, 69, 70, 71, 72, 73, 74, 75] (by decide +kernel) (by decide +kernel)
set_option maxRecDepth 20000 in
theorem gX4_can_X4_no : GoodIn wsX4_can (wsV RX4 69 RX4 yX4_no wsX4_no) := goodIn_app (goodIn_of _ (by decide +kernel)) ggX4_can_X4_no
set_option maxRecDepth 20000 in
theorem ggX4_expects_X4_isOne : GoodIn wsX4_expects wsX4_isOne := goodIn_r _ [5, 6, 7, 8, 4, 9, 69, 70, 71, 72, 73, 74, 75, 76, 77, 78, 79, 80, 81, 82, 83, 84, 85, 86, 87, 88, 89, 90, 91, 92, 93, 94, 95] (by decide +kernel) (by decide +kernel)
set_option maxRecDepth 20000 in
theorem gX4_expects_X4_isOne : GoodIn wsX4_expects (wsV RX4 80 RX4 yX4_isOne wsX4_isOne) := goodIn_app (goodIn_of _ (by decide +kernel)) ggX4_expects_X4_isOne
set_option maxRecDepth 20000 in
theorem ggX4_expects_X4_isMorning : GoodIn wsX4_expects wsX4_isMorning := goodIn_r _ [13, 14, 7, 8, 4, 9, 69, 70, 71, 72, 73, 74, 75, 76, 77, 78, 79, 80, 81, 82, 83, 84, 85, 86, 87, 88, 89, 90, 91, 92, 93, 94, 95] (by decide +kernel) (by decide +kernel)
set_option maxRecDepth 20000 in
theorem gX4_expects_X4_isMorning : GoodIn wsX4_expects (wsV RX4 118 RX4 yX4_isMorning wsX4_isMorning) := goodIn_app (goodIn_of _ (by decide +kernel)) ggX4_expects_X4_isMorning
set_option maxRecDepth 20000 in
theorem ggX4_expects_X4_no : GoodIn wsX4_expects wsX4_no := goodIn_r _ [18, 19, 69, 70, 71, 72, 73, 74, 75, 76, 77, 78, 79, 80, 81, 82, 83, 84, 85, 86, 87, 88, 89, 90, 91, 92, 93, 94, 95] (by decide +kernel) (by decide +kernel)
set_option maxRecDepth 20000 in
theorem gX4_expects_X4_no : GoodIn wsX4_expects (wsV RX4 69 RX4 yX4_no wsX4_no) := goodIn_app (goodIn_of _ (by decide +kernel)) ggX4_expects_X4_no
set_option maxRecDepth 20000 in
theorem ggX4_expects_X4_expectsIt : GoodIn wsX4_expects wsX4_expectsIt := goodIn_r _ [23, 24, 25, 26, 27, 28, 29, 4, 30, 31, 32, 33, 34, 35, 36, 37, 38, 14, 39, 40, 41, 42, 43, 44, 45, 46, 47, 48, 49, 50, 51, 6, 52, 53, 54, 55, 56, 57, 58, 59, 60, 61, 62, 63, 64, 65, 66, 67, 68, 69, 70, 71, 72, 73, 74, 75, 76, 77, 78, 79, 80, 81, 82, 83, 84, 85, 86, 87, 88, 89, 90, 91, 92, 93, 94, 95] (by decide +kernel) (by decide +kernel)
set_option maxRecDepth 20000 in
theorem gX4_expects_X4_expectsIt : GoodIn wsX4_expects (wsV RX4 105 RX4 yX4_expectsIt wsX4_expectsIt) := goodIn_app (goodIn_of _ (by decide +kernel)) ggX4_expects_X4_expectsIt
set_option maxRecDepth 20000 in
theorem ggX4_who_X4_isMorning : GoodIn wsX4_who wsX4_isMorning := goodIn_r _ [5, 6, 7, 8, 4, 9, 69, 70, 71, 72, 73, 74, 75, 76, 77, 78, 79, 80, 81, 82, 83, 84, 85, 86, 87, 88, 89, 90, 91, 92, 93, 94, 95] (by decide +kernel) (by decide +kernel)
set_option maxRecDepth 20000 in
theorem gX4_who_X4_isMorning : GoodIn wsX4_who (wsV RX4 118 RX4 yX4_isMorning wsX4_isMorning) := goodIn_app (goodIn_of _ (by decide +kernel)) ggX4_who_X4_isMorning
set_option maxRecDepth 20000 in
theorem ggX4_who_X4_whoExpects : GoodIn wsX4_who wsX4_whoExpects := goodIn_r _ [13, 14, 15, 16, 17, 18, 4, 19, 20, 21, 22, 23, 24, 25, 26, 27, 28, 29, 30, 31, 32, 33, 34, 6, 35, 36, 37, 38, 39, 40, 41, 42, 43, 44, 45, 46, 47, 48, 49, 50, 51, 52, 53, 54, 55, 56, 57, 58, 59, 60, 61, 62, 63, 69, 70, 71, 72, 73, 74, 75, 76, 77, 78, 79, 80, 81, 82, 83, 84, 85, 86, 87, 88, 89, 90, 91, 92, 93, 94, 95] (by decide +kernel) (by decide +kernel)
set_option maxRecDepth 20000 in
theorem gX4_who_X4_whoExpects : GoodIn wsX4_who (wsV RX4 205 RX4 yX4_whoExpects wsX4_whoExpects) := goodIn_app (goodIn_of _ (by decide +kernel)) ggX4_who_X4_whoExpects
set_option maxRecDepth 20000 in
theorem ggX4_who_X4_no : GoodIn wsX4_who wsX4_no := goodIn_r _ [67, 68, 69, 70, 71, 72, 73, 74, 75, 76, 77, 78, 79, 80, 81, 82, 83, 84, 85, 86, 87, 88, 89, 90, 91, 92, 93, 94, 95] (by decide +kernel) (by decide +kernel)
set_option maxRecDepth 20000 in
theorem gX4_who_X4_no : GoodIn wsX4_who (wsV RX4 69 RX4 yX4_no wsX4_no) := goodIn_app (goodIn_of _ (by decide +kernel)) ggX4_who_X4_no
set_option maxRecDepth 20000 in
theorem ggX4_first_X4_isOne : GoodIn wsX4_first wsX4_isOne := goodIn_r _ [5, 6, 7, 8, 4, 9, 76, 77, 78, 79, 80, 81, 82, 83, 84, 85, 86, 87, 88, 89, 90, 91, 92, 93, 94, 95, 96, 97, 98, 99, 100, 101, 102] (by decide +kernel) (by decide +kernel)
set_option maxRecDepth 20000 in
theorem gX4_first_X4_isOne : GoodIn wsX4_first (wsV RX4 80 RX4 yX4_isOne wsX4_isOne) := goodIn_app (goodIn_of _ (by decide +kernel)) ggX4_first_X4_isOne
set_option maxRecDepth 20000 in
theorem ggX4_first_X4_firstOf : GoodIn wsX4_first wsX4_firstOf := goodIn_r _ [13, 14, 15, 16, 4, 17, 18, 19, 20, 21, 22, 23, 24, 25, 26, 27, 28, 29, 30, 31, 32, 33, 34, 35, 36, 37, 38, 39, 40, 41, 42, 43, 44, 45, 46, 47, 48, 49, 50, 6, 51, 52, 53, 54, 55, 56, 57, 58, 59, 60, 61, 62, 63, 64, 65, 66, 67, 68, 69, 70, 76, 77, 78, 79, 80, 81, 82, 83, 84, 85, 86, 87, 88, 89, 90, 91, 92, 93, 94, 95, 96, 97, 98, 99, 100, 101, 102] (by decide +kernel) (by decide +kernel)
set_option maxRecDepth 20000 in
theorem gX4_first_X4_firstOf : GoodIn wsX4_first (wsV RX4 87 RX4 yX4_firstOf wsX4_firstOf) := goodIn_app (goodIn_of _ (by decide +kernel)) ggX4_first_X4_firstOf
set_option maxRecDepth 20000 in
theorem ggX4_first_X4_no : GoodIn wsX4_first wsX4_no := goodIn_r _ [74, 75, 76, 77, 78, 79, 80, 81, 82, 83, 84, 85, 86, 87, 88, 89, 90, 91, 92, 93, 94, 95, 96, 97, 98, 99, 100, 101, 102] (by decide +kernel) (by decide +kernel)
set_option maxRecDepth 20000 in
theorem gX4_first_X4_no : GoodIn wsX4_first (wsV RX4 69 RX4 yX4_no wsX4_no) := goodIn_app (goodIn_of _ (by decide +kernel)) ggX4_first_X4_no
set_option maxRecDepth 20000 in
theorem ggX4_lasts_X4_isOne : GoodIn wsX4_lasts wsX4_isOne := goodIn_r _ [5, 6, 7, 8, 4, 9, 48, 49, 50, 51, 52, 53, 54, 55, 56, 57, 58, 59, 60, 61, 62, 63, 64, 65, 66, 67, 68, 69, 70, 71, 72, 73, 74] (by decide +kernel) (by decide +kernel)
set_option maxRecDepth 20000 in
theorem gX4_lasts_X4_isOne : GoodIn wsX4_lasts (wsV RX4 80 RX4 yX4_isOne wsX4_isOne) := goodIn_app (goodIn_of _ (by decide +kernel)) ggX4_lasts_X4_isOne
set_option maxRecDepth 20000 in
theorem ggX4_lasts_X4_canBe : GoodIn wsX4_lasts wsX4_canBe := goodIn_r _ [13, 14, 15, 16, 17, 4, 18, 19, 20, 21, 22, 23, 24, 25, 6, 26, 27, 28, 29, 30, 31, 32, 33, 34, 35, 36, 37, 38, 48, 49, 50, 51, 52, 53, 54, 55, 56, 57, 58, 59, 60, 61, 62, 63, 64, 65, 66, 67, 68, 69, 70, 71, 72, 73, 74] (by decide +kernel) (by decide +kernel)
set_option maxRecDepth 20000 in
theorem gX4_lasts_X4_canBe : GoodIn wsX4_lasts (wsV RX4 202 RX4 yX4_canBe wsX4_canBe) := goodIn_app (goodIn_of _ (by decide +kernel)) ggX4_lasts_X4_canBe
set_option maxRecDepth 20000 in
theorem ggX4_lasts_X4_lastOf : GoodIn wsX4_lasts wsX4_lastOf := goodIn_r _ [41, 42, 36, 32, 37, 38] (by decide +kernel) (by decide +kernel)
set_option maxRecDepth 20000 in
theorem gX4_lasts_X4_lastOf : GoodIn wsX4_lasts (va_wsS RX4 214 yX4_lastOf wsX4_lastOf) := goodIn_app (goodIn_of _ (by decide +kernel)) ggX4_lasts_X4_lastOf
set_option maxRecDepth 20000 in
theorem ggX4_lasts_X4_no : GoodIn wsX4_lasts wsX4_no := goodIn_r _ [46, 47, 48, 49, 50, 51, 52, 53, 54, 55, 56, 57, 58, 59, 60, 61, 62, 63, 64, 65, 66, 67, 68, 69, 70, 71, 72, 73, 74] (by decide +kernel) (by decide +kernel)
set_option maxRecDepth 20000 in
theorem gX4_lasts_X4_no : GoodIn wsX4_lasts (wsV RX4 69 RX4 yX4_no wsX4_no) := goodIn_app (goodIn_of _ (by decide +kernel)) ggX4_lasts_X4_no
set_option maxRecDepth 20000 in
theorem ggX4_ends_X4_lastAllowed : GoodIn wsX4_ends wsX4_lastAllowed := goodIn_r _ [5, 6, 7, 8, 4, 9, 10, 11, 12, 13, 14, 15, 16, 17, 18, 19, 20, 21, 22, 23, 24, 25, 26, 27, 28, 29, 30, 31, 32, 33, 34, 35, 36, 37, 38, 39, 40, 41] (by decide +kernel) (by decide +kernel)
set_option maxRecDepth 20000 in
theorem gX4_ends_X4_lastAllowed : GoodIn wsX4_ends (wsV RX4 101 RX4 yX4_lastAllowed wsX4_lastAllowed) := goodIn_app (goodIn_of _ (by decide +kernel)) ggX4_ends_X4_lastAllowed
set_option maxRecDepth 20000 in
theorem ggX4_agree_X4_isMorning : GoodIn wsX4_agree wsX4_isMorning := goodIn_r _ [6, 7, 8, 9, 5, 10, 45, 46, 47, 48, 49, 50, 51, 52, 53, 54, 55, 56, 57, 58, 59, 60, 61, 62, 63, 64, 65, 66, 67, 68, 69, 70, 71] (by decide +kernel) (by decide +kernel)
set_option maxRecDepth 20000 in
theorem gX4_agree_X4_isMorning : GoodIn wsX4_agree (wsV RX4 118 RX4 yX4_isMorning wsX4_isMorning) := goodIn_app (goodIn_of _ (by decide +kernel)) ggX4_agree_X4_isMorning
set_option maxRecDepth 20000 in
theorem ggX4_agree_X4_no : GoodIn wsX4_agree wsX4_no := goodIn_r _ [14, 15, 45, 46, 47, 48, 49, 50, 51, 52, 53, 54, 55, 56, 57, 58, 59, 60, 61, 62, 63, 64, 65, 66, 67, 68, 69, 70, 71] (by decide +kernel) (by decide +kernel)
set_option maxRecDepth 20000 in
theorem gX4_agree_X4_no : GoodIn wsX4_agree (wsV RX4 69 RX4 yX4_no wsX4_no) := goodIn_app (goodIn_of _ (by decide +kernel)) ggX4_agree_X4_no
set_option maxRecDepth 20000 in
theorem ggX4_agree_X4_canBe : GoodIn wsX4_agree wsX4_canBe := goodIn_r _ [19, 20, 21, 22, 23, 5, 24, 25, 26, 27, 28, 29, 30, 31, 1, 32, 33, 34, 35, 36, 37, 38, 39, 40, 41, 42, 43, 44, 45, 46, 47, 48, 49, 50, 51, 52, 53, 54, 55, 56, 57, 58, 59, 60, 61, 62, 63, 64, 65, 66, 67, 68, 69, 70, 71] (by decide +kernel) (by decide +kernel)
set_option maxRecDepth 20000 in
theorem gX4_agree_X4_canBe : GoodIn wsX4_agree (wsV RX4 202 RX4 yX4_canBe wsX4_canBe) := goodIn_app (goodIn_of _ (by decide +kernel)) ggX4_agree_X4_canBe
set_option maxRecDepth 20000 in
theorem ggX4_surprises_X4_bySurprise : GoodIn wsX4_surprises wsX4_bySurprise := goodIn_r _ [5, 6, 7, 8, 9, 4, 10, 11, 12, 13, 14, 15, 16, 17, 18, 19, 20, 21, 22, 23, 24, 25, 26, 27, 28, 29, 30, 31, 32, 33, 34, 35, 36, 37, 38, 39, 40, 41, 42, 43, 44, 45, 46, 47, 48, 49, 50, 51, 52, 53, 54, 55, 56, 57, 58, 59, 60, 61, 62, 63, 64, 65, 66, 67, 68, 69, 70, 71, 72, 73, 74, 75, 76, 77, 78, 79, 80, 81, 82, 83, 84, 85, 86, 87] (by decide +kernel) (by decide +kernel)
set_option maxRecDepth 20000 in
theorem gX4_surprises_X4_bySurprise : GoodIn wsX4_surprises (wsV RX4 217 RX4 yX4_bySurprise wsX4_bySurprise) := goodIn_app (goodIn_of _ (by decide +kernel)) ggX4_surprises_X4_bySurprise
set_option maxRecDepth 20000 in
theorem ggX4_oddsOf_X4_has : GoodIn wsX4_oddsOf wsX4_has := goodIn_r _ [7] (by decide +kernel) (by decide +kernel)
set_option maxRecDepth 20000 in
theorem gX4_oddsOf_X4_has : GoodIn wsX4_oddsOf (va_wsS RX4 121 yX4_has wsX4_has) := goodIn_app (goodIn_of _ (by decide +kernel)) ggX4_oddsOf_X4_has
set_option maxRecDepth 20000 in
theorem ggX4_oddsOf_X4_still : GoodIn wsX4_oddsOf wsX4_still := goodIn_r _ [11, 1, 17, 18, 19, 20, 21, 22, 23, 24, 25, 26, 27, 28, 29, 30, 31, 32, 33, 34, 35, 36, 37, 38, 39, 40, 41, 42, 43] (by decide +kernel) (by decide +kernel)
set_option maxRecDepth 20000 in
theorem gX4_oddsOf_X4_still : GoodIn wsX4_oddsOf (wsV RX4 196 RX4 yX4_still wsX4_still) := goodIn_app (goodIn_of _ (by decide +kernel)) ggX4_oddsOf_X4_still
set_option maxRecDepth 20000 in
theorem ggX4_oddsOf_X4_weights : GoodIn wsX4_oddsOf wsX4_weights := goodIn_r _ [15, 16, 3, 4, 5, 6, 7, 17, 18, 19, 20, 21, 22, 23, 24, 25, 26, 27, 28, 29, 30, 31, 32, 33, 34, 35, 36, 37, 38, 39, 40, 41, 42, 43] (by decide +kernel) (by decide +kernel)
set_option maxRecDepth 20000 in
theorem gX4_oddsOf_X4_weights : GoodIn wsX4_oddsOf (wsV RX4 199 RX4 yX4_weights wsX4_weights) := goodIn_app (goodIn_of _ (by decide +kernel)) ggX4_oddsOf_X4_weights
set_option maxRecDepth 20000 in
theorem ggX4_odds_X4_isMorning : GoodIn wsX4_odds wsX4_isMorning := goodIn_r _ [5, 6, 7, 8, 4, 9, 33, 34, 35, 36, 37, 38, 39, 40, 41, 42, 43, 44, 45, 46, 47, 48, 49, 50, 51, 52, 53, 54, 55, 56, 57, 58, 59] (by decide +kernel) (by decide +kernel)
set_option maxRecDepth 20000 in
theorem gX4_odds_X4_isMorning : GoodIn wsX4_odds (wsV RX4 118 RX4 yX4_isMorning wsX4_isMorning) := goodIn_app (goodIn_of _ (by decide +kernel)) ggX4_odds_X4_isMorning
set_option maxRecDepth 20000 in
theorem ggX4_odds_X4_no : GoodIn wsX4_odds wsX4_no := goodIn_r _ [13, 14, 33, 34, 35, 36, 37, 38, 39, 40, 41, 42, 43, 44, 45, 46, 47, 48, 49, 50, 51, 52, 53, 54, 55, 56, 57, 58, 59] (by decide +kernel) (by decide +kernel)
set_option maxRecDepth 20000 in
theorem gX4_odds_X4_no : GoodIn wsX4_odds (wsV RX4 69 RX4 yX4_no wsX4_no) := goodIn_app (goodIn_of _ (by decide +kernel)) ggX4_odds_X4_no
set_option maxRecDepth 20000 in
theorem ggX4_odds_X4_still : GoodIn wsX4_odds wsX4_still := goodIn_r _ [18, 19, 33, 34, 35, 36, 37, 38, 39, 40, 41, 42, 43, 44, 45, 46, 47, 48, 49, 50, 51, 52, 53, 54, 55, 56, 57, 58, 59] (by decide +kernel) (by decide +kernel)
set_option maxRecDepth 20000 in
theorem gX4_odds_X4_still : GoodIn wsX4_odds (wsV RX4 196 RX4 yX4_still wsX4_still) := goodIn_app (goodIn_of _ (by decide +kernel)) ggX4_odds_X4_still
set_option maxRecDepth 20000 in
theorem ggX4_odds_X4_weights : GoodIn wsX4_odds wsX4_weights := goodIn_r _ [23, 6, 24, 25, 26, 4, 27, 33, 34, 35, 36, 37, 38, 39, 40, 41, 42, 43, 44, 45, 46, 47, 48, 49, 50, 51, 52, 53, 54, 55, 56, 57, 58, 59] (by decide +kernel) (by decide +kernel)
set_option maxRecDepth 20000 in
theorem gX4_odds_X4_weights : GoodIn wsX4_odds (wsV RX4 199 RX4 yX4_weights wsX4_weights) := goodIn_app (goodIn_of _ (by decide +kernel)) ggX4_odds_X4_weights
set_option maxRecDepth 20000 in
theorem ggX4_odds_X4_oddsOf : GoodIn wsX4_odds wsX4_oddsOf := goodIn_r _ [31, 19, 32, 24, 25, 26, 4, 27, 15, 16, 17, 18, 20, 21, 22, 23, 6, 33, 34, 35, 36, 37, 38, 39, 40, 41, 42, 43, 44, 45, 46, 47, 48, 49, 50, 51, 52, 53, 54, 55, 56, 57, 58, 59] (by decide +kernel) (by decide +kernel)
set_option maxRecDepth 20000 in
theorem gX4_odds_X4_oddsOf : GoodIn wsX4_odds (wsV RX4 221 RX4 yX4_oddsOf wsX4_oddsOf) := goodIn_app (goodIn_of _ (by decide +kernel)) ggX4_odds_X4_oddsOf
set_option maxRecDepth 20000 in
theorem ggX4_likeliest_X4_still : GoodIn wsX4_likeliest wsX4_still := goodIn_r _ [6, 7, 26, 27, 28, 29, 30, 31, 32, 33, 34, 35, 36, 37, 38, 39, 40, 41, 42, 43, 44, 45, 46, 47, 48, 49, 50, 51, 52] (by decide +kernel) (by decide +kernel)
set_option maxRecDepth 20000 in
theorem gX4_likeliest_X4_still : GoodIn wsX4_likeliest (wsV RX4 196 RX4 yX4_still wsX4_still) := goodIn_app (goodIn_of _ (by decide +kernel)) ggX4_likeliest_X4_still
set_option maxRecDepth 20000 in
theorem ggX4_likeliest_X4_weights : GoodIn wsX4_likeliest wsX4_weights := goodIn_r _ [11, 1, 12, 13, 14, 5, 15, 26, 27, 28, 29, 30, 31, 32, 33, 34, 35, 36, 37, 38, 39, 40, 41, 42, 43, 44, 45, 46, 47, 48, 49, 50, 51, 52] (by decide +kernel) (by decide +kernel)
set_option maxRecDepth 20000 in
theorem gX4_likeliest_X4_weights : GoodIn wsX4_likeliest (wsV RX4 199 RX4 yX4_weights wsX4_weights) := goodIn_app (goodIn_of _ (by decide +kernel)) ggX4_likeliest_X4_weights
set_option maxRecDepth 20000 in
theorem ggX4_likeliest_X4_oddsOf : GoodIn wsX4_likeliest wsX4_oddsOf := goodIn_r _ [19, 7, 20, 12, 13, 14, 5, 15, 2, 3, 4, 6, 8, 9, 10, 11, 1, 26, 27, 28, 29, 30, 31, 32, 33, 34, 35, 36, 37, 38, 39, 40, 41, 42, 43, 44, 45, 46, 47, 48, 49, 50, 51, 52] (by decide +kernel) (by decide +kernel)
set_option maxRecDepth 20000 in
theorem gX4_likeliest_X4_oddsOf : GoodIn wsX4_likeliest (wsV RX4 221 RX4 yX4_oddsOf wsX4_oddsOf) := goodIn_app (goodIn_of _ (by decide +kernel)) ggX4_likeliest_X4_oddsOf
set_option maxRecDepth 20000 in
theorem ggX4_likeliest_X4_no : GoodIn wsX4_likeliest wsX4_no := goodIn_r _ [24, 25, 26, 27, 28, 29, 30, 31, 32, 33, 34, 35, 36, 37, 38, 39, 40, 41, 42, 43, 44, 45, 46, 47, 48, 49, 50, 51, 52] (by decide +kernel) (by decide +kernel)
set_option maxRecDepth 20000 in
theorem gX4_likeliest_X4_no : GoodIn wsX4_likeliest (wsV RX4 69 RX4 yX4_no wsX4_no) := goodIn_app (goodIn_of _ (by decide +kernel)) ggX4_likeliest_X4_no
set_option maxRecDepth 20000 in
theorem ggX4_caught_X4_weights : GoodIn wsX4_caught wsX4_weights := goodIn_r _ [7, 8, 9, 10, 11, 6, 12, 67, 68, 69, 70, 71, 72, 73, 74, 75, 76, 77, 78, 79, 80, 81, 82, 83, 84, 85, 86, 87, 88, 89, 90, 91, 92, 93] (by decide +kernel) (by decide +kernel)
set_option maxRecDepth 20000 in
theorem gX4_caught_X4_weights : GoodIn wsX4_caught (wsV RX4 199 RX4 yX4_weights wsX4_weights) := goodIn_app (goodIn_of _ (by decide +kernel)) ggX4_caught_X4_weights
set_option maxRecDepth 20000 in
theorem ggX4_caught_X4_no : GoodIn wsX4_caught wsX4_no := goodIn_r _ [16, 17, 67, 68, 69, 70, 71, 72, 73, 74, 75, 76, 77, 78, 79, 80, 81, 82, 83, 84, 85, 86, 87, 88, 89, 90, 91, 92, 93] (by decide +kernel) (by decide +kernel)
set_option maxRecDepth 20000 in
theorem gX4_caught_X4_no : GoodIn wsX4_caught (wsV RX4 69 RX4 yX4_no wsX4_no) := goodIn_app (goodIn_of _ (by decide +kernel)) ggX4_caught_X4_no
set_option maxRecDepth 20000 in
theorem ggX4_caught_X4_bySurprise : GoodIn wsX4_caught wsX4_bySurprise := goodIn_r _ [21, 8, 1, 10, 11, 6, 12, 22, 23, 24, 25, 26, 27, 28, 29, 30, 31, 32, 9, 33, 34, 35, 36, 37, 3, 4, 5, 7, 38, 39, 40, 41, 42, 43, 44, 45, 46, 47, 48, 49, 50, 51, 52, 53, 54, 55, 56, 57, 58, 59, 60, 61, 62, 63, 64, 65, 66, 67, 68, 69, 70, 71, 72, 73, 74, 75, 76, 77, 78, 79, 80, 81, 82, 83, 84, 85, 86, 87, 88, 89, 90, 91, 92, 93] (by decide +kernel) (by decide +kernel)
set_option maxRecDepth 20000 in
theorem gX4_caught_X4_bySurprise : GoodIn wsX4_caught (wsV RX4 217 RX4 yX4_bySurprise wsX4_bySurprise) := goodIn_app (goodIn_of _ (by decide +kernel)) ggX4_caught_X4_bySurprise
set_option maxRecDepth 20000 in
theorem ggX4_draws_X4_bySurprise : GoodIn wsX4_draws wsX4_bySurprise := goodIn_r _ [10, 1, 2, 11, 12, 9, 13, 14, 15, 16, 17, 18, 19, 20, 21, 22, 23, 24, 5, 25, 26, 27, 28, 29, 30, 31, 32, 33, 34, 35, 36, 37, 38, 39, 40, 41, 42, 43, 44, 45, 46, 47, 48, 49, 50, 51, 52, 53, 54, 55, 56, 57, 58, 59, 60, 61, 62, 66, 67, 68, 69, 70, 71, 72, 73, 74, 75, 76, 77, 78, 79, 80, 81, 82, 83, 84, 85, 86, 87, 88, 89, 90, 91, 92] (by decide +kernel) (by decide +kernel)
set_option maxRecDepth 20000 in
theorem gX4_draws_X4_bySurprise : GoodIn wsX4_draws (wsV RX4 217 RX4 yX4_bySurprise wsX4_bySurprise) := goodIn_app (goodIn_of _ (by decide +kernel)) ggX4_draws_X4_bySurprise
set_option maxRecDepth 20000 in
theorem ggX4_draws_X4_weights : GoodIn wsX4_draws wsX4_weights := goodIn_r _ [33, 1, 5, 11, 12, 9, 13, 66, 67, 68, 69, 70, 71, 72, 73, 74, 75, 76, 77, 78, 79, 80, 81, 82, 83, 84, 85, 86, 87, 88, 89, 90, 91, 92] (by decide +kernel) (by decide +kernel)
set_option maxRecDepth 20000 in
theorem gX4_draws_X4_weights : GoodIn wsX4_draws (wsV RX4 199 RX4 yX4_weights wsX4_weights) := goodIn_app (goodIn_of _ (by decide +kernel)) ggX4_draws_X4_weights
set_option maxRecDepth 20000 in
theorem ggX4_draws_X4_has : GoodIn wsX4_draws wsX4_has := goodIn_r _ [13] (by decide +kernel) (by decide +kernel)
set_option maxRecDepth 20000 in
theorem gX4_draws_X4_has : GoodIn wsX4_draws (va_wsS RX4 121 yX4_has wsX4_has) := goodIn_app (goodIn_of _ (by decide +kernel)) ggX4_draws_X4_has
set_option maxRecDepth 20000 in
theorem ggX4_draws_X4_draws : GoodIn wsX4_draws wsX4_draws := goodIn_r _ [0, 1, 2, 3, 4, 5, 6, 7, 8, 9, 10, 11, 12, 13, 14, 15, 16, 17, 18, 19, 20, 21, 22, 23, 24, 25, 26, 27, 28, 29, 30, 31, 32, 33, 34, 35, 36, 37, 38, 39, 40, 41, 42, 43, 44, 45, 46, 47, 48, 49, 50, 51, 52, 53, 54, 55, 56, 57, 58, 59, 60, 61, 62, 63, 64, 65, 66, 67, 68, 69, 70, 71, 72, 73, 74, 75, 76, 77, 78, 79, 80, 81, 82, 83, 84, 85, 86, 87, 88, 89, 90, 91, 92] (by decide +kernel) (by decide +kernel)
set_option maxRecDepth 20000 in
theorem gX4_draws_X4_draws : GoodIn wsX4_draws (wsV RX4 227 RX4 yX4_draws wsX4_draws) := goodIn_app (goodIn_of _ (by decide +kernel)) ggX4_draws_X4_draws
set_option maxRecDepth 20000 in
theorem ggX4_best_X4_within : GoodIn wsX4_best wsX4_within := goodIn_r _ [8] (by decide +kernel) (by decide +kernel)
set_option maxRecDepth 20000 in
theorem gX4_best_X4_within : GoodIn wsX4_best (va_wsS RX4 62 yX4_within wsX4_within) := goodIn_app (goodIn_of _ (by decide +kernel)) ggX4_best_X4_within
set_option maxRecDepth 20000 in
theorem ggX4_best_X4_isMorning : GoodIn wsX4_best wsX4_isMorning := goodIn_r _ [12, 13, 5, 6, 7, 8, 92, 93, 94, 95, 96, 97, 98, 99, 100, 101, 102, 103, 104, 105, 106, 107, 108, 109, 110, 111, 112, 113, 114, 115, 116, 117, 118] (by decide +kernel) (by decide +kernel)
set_option maxRecDepth 20000 in
theorem gX4_best_X4_isMorning : GoodIn wsX4_best (wsV RX4 118 RX4 yX4_isMorning wsX4_isMorning) := goodIn_app (goodIn_of _ (by decide +kernel)) ggX4_best_X4_isMorning
set_option maxRecDepth 20000 in
theorem ggX4_best_X4_no : GoodIn wsX4_best wsX4_no := goodIn_r _ [17, 18, 92, 93, 94, 95, 96, 97, 98, 99, 100, 101, 102, 103, 104, 105, 106, 107, 108, 109, 110, 111, 112, 113, 114, 115, 116, 117, 118] (by decide +kernel) (by decide +kernel)
set_option maxRecDepth 20000 in
theorem gX4_best_X4_no : GoodIn wsX4_best (wsV RX4 69 RX4 yX4_no wsX4_no) := goodIn_app (goodIn_of _ (by decide +kernel)) ggX4_best_X4_no
set_option maxRecDepth 20000 in
theorem ggX4_best_X4_keep : GoodIn wsX4_best wsX4_keep := goodIn_r _ [22, 23, 24, 25, 13, 1, 26, 27, 28, 29, 30, 31, 92, 93, 94, 95, 96, 97, 98, 99, 100, 101, 102, 103, 104, 105, 106, 107, 108, 109, 110, 111, 112, 113, 114, 115, 116, 117, 118] (by decide +kernel) (by decide +kernel)
set_option maxRecDepth 20000 in
theorem gX4_best_X4_keep : GoodIn wsX4_best (wsV RX4 174 RX4 yX4_keep wsX4_keep) := goodIn_app (goodIn_of _ (by decide +kernel)) ggX4_best_X4_keep
set_option maxRecDepth 20000 in
theorem ggX4_best_X4_draws : GoodIn wsX4_best wsX4_draws := goodIn_r _ [35, 13, 1, 3, 4, 23, 36, 37, 38, 7, 39, 40, 41, 42, 43, 44, 45, 46, 26, 47, 48, 49, 50, 51, 24, 25, 52, 53, 54, 55, 56, 57, 58, 59, 60, 61, 62, 63, 64, 65, 66, 67, 27, 68, 69, 70, 71, 72, 73, 74, 75, 76, 77, 78, 79, 80, 81, 82, 83, 84, 85, 86, 87, 32, 33, 34, 92, 93, 94, 95, 96, 97, 98, 99, 100, 101, 102, 103, 104, 105, 106, 107, 108, 109, 110, 111, 112, 113, 114, 115, 116, 117, 118] (by decide +kernel) (by decide +kernel)
set_option maxRecDepth 20000 in
theorem gX4_best_X4_draws : GoodIn wsX4_best (wsV RX4 227 RX4 yX4_draws wsX4_draws) := goodIn_app (goodIn_of _ (by decide +kernel)) ggX4_best_X4_draws
set_option maxRecDepth 20000 in
theorem ggX4_best_X4_again : GoodIn wsX4_best wsX4_again := goodIn_r _ [91, 23, 24, 25, 13, 1, 26, 27, 28, 29, 30, 31, 92, 93, 94, 95, 96, 97, 98, 99, 100, 101, 102, 103, 104, 105, 106, 107, 108, 109, 110, 111, 112, 113, 114, 115, 116, 117, 118] (by decide +kernel) (by decide +kernel)
set_option maxRecDepth 20000 in
theorem gX4_best_X4_again : GoodIn wsX4_best (wsV RX4 182 RX4 yX4_again wsX4_again) := goodIn_app (goodIn_of _ (by decide +kernel)) ggX4_best_X4_again
set_option maxRecDepth 20000 in
theorem ggX4_gains_X4_has : GoodIn wsX4_gains wsX4_has := goodIn_r _ [8] (by decide +kernel) (by decide +kernel)
set_option maxRecDepth 20000 in
theorem gX4_gains_X4_has : GoodIn wsX4_gains (va_wsS RX4 121 yX4_has wsX4_has) := goodIn_app (goodIn_of _ (by decide +kernel)) ggX4_gains_X4_has
set_option maxRecDepth 20000 in
theorem ggX4_gains_X4_still : GoodIn wsX4_gains wsX4_still := goodIn_r _ [12, 1, 18, 19, 20, 21, 22, 23, 24, 25, 26, 27, 28, 29, 30, 31, 32, 33, 34, 35, 36, 37, 38, 39, 40, 41, 42, 43, 44] (by decide +kernel) (by decide +kernel)
set_option maxRecDepth 20000 in
theorem gX4_gains_X4_still : GoodIn wsX4_gains (wsV RX4 196 RX4 yX4_still wsX4_still) := goodIn_app (goodIn_of _ (by decide +kernel)) ggX4_gains_X4_still
set_option maxRecDepth 20000 in
theorem ggX4_gains_X4_weights : GoodIn wsX4_gains wsX4_weights := goodIn_r _ [16, 17, 3, 5, 6, 7, 8, 18, 19, 20, 21, 22, 23, 24, 25, 26, 27, 28, 29, 30, 31, 32, 33, 34, 35, 36, 37, 38, 39, 40, 41, 42, 43, 44] (by decide +kernel) (by decide +kernel)
set_option maxRecDepth 20000 in
theorem gX4_gains_X4_weights : GoodIn wsX4_gains (wsV RX4 199 RX4 yX4_weights wsX4_weights) := goodIn_app (goodIn_of _ (by decide +kernel)) ggX4_gains_X4_weights
set_option maxRecDepth 20000 in
theorem ggX4_gain_X4_isMorning : GoodIn wsX4_gain wsX4_isMorning := goodIn_r _ [5, 6, 7, 8, 4, 9, 35, 36, 37, 38, 39, 40, 41, 42, 43, 44, 45, 46, 47, 48, 49, 50, 51, 52, 53, 54, 55, 56, 57, 58, 59, 60, 61] (by decide +kernel) (by decide +kernel)
set_option maxRecDepth 20000 in
theorem gX4_gain_X4_isMorning : GoodIn wsX4_gain (wsV RX4 118 RX4 yX4_isMorning wsX4_isMorning) := goodIn_app (goodIn_of _ (by decide +kernel)) ggX4_gain_X4_isMorning
set_option maxRecDepth 20000 in
theorem ggX4_gain_X4_within : GoodIn wsX4_gain wsX4_within := goodIn_r _ [9] (by decide +kernel) (by decide +kernel)
set_option maxRecDepth 20000 in
theorem gX4_gain_X4_within : GoodIn wsX4_gain (va_wsS RX4 62 yX4_within wsX4_within) := goodIn_app (goodIn_of _ (by decide +kernel)) ggX4_gain_X4_within
set_option maxRecDepth 20000 in
theorem ggX4_gain_X4_noFar : GoodIn wsX4_gain wsX4_noFar := goodIn_r _ [13, 14, 15, 35, 36, 37, 38, 39, 40, 41, 42, 43, 44, 45, 46, 47, 48, 49, 50, 51, 52, 53, 54, 55, 56, 57, 58, 59, 60, 61] (by decide +kernel) (by decide +kernel)
set_option maxRecDepth 20000 in
theorem gX4_gain_X4_noFar : GoodIn wsX4_gain (wsV RX4 233 RX4 yX4_noFar wsX4_noFar) := goodIn_app (goodIn_of _ (by decide +kernel)) ggX4_gain_X4_noFar
set_option maxRecDepth 20000 in
theorem ggX4_gain_X4_still : GoodIn wsX4_gain wsX4_still := goodIn_r _ [19, 20, 35, 36, 37, 38, 39, 40, 41, 42, 43, 44, 45, 46, 47, 48, 49, 50, 51, 52, 53, 54, 55, 56, 57, 58, 59, 60, 61] (by decide +kernel) (by decide +kernel)
set_option maxRecDepth 20000 in
theorem gX4_gain_X4_still : GoodIn wsX4_gain (wsV RX4 196 RX4 yX4_still wsX4_still) := goodIn_app (goodIn_of _ (by decide +kernel)) ggX4_gain_X4_still
set_option maxRecDepth 20000 in
theorem ggX4_gain_X4_weights : GoodIn wsX4_gain wsX4_weights := goodIn_r _ [24, 6, 25, 26, 27, 4, 28, 35, 36, 37, 38, 39, 40, 41, 42, 43, 44, 45, 46, 47, 48, 49, 50, 51, 52, 53, 54, 55, 56, 57, 58, 59, 60, 61] (by decide +kernel) (by decide +kernel)
set_option maxRecDepth 20000 in
theorem gX4_gain_X4_weights : GoodIn wsX4_gain (wsV RX4 199 RX4 yX4_weights wsX4_weights) := goodIn_app (goodIn_of _ (by decide +kernel)) ggX4_gain_X4_weights
set_option maxRecDepth 20000 in
theorem ggX4_gain_X4_gains : GoodIn wsX4_gain wsX4_gains := goodIn_r _ [32, 20, 33, 25, 34, 26, 27, 4, 28, 16, 17, 18, 19, 21, 22, 23, 24, 6, 35, 36, 37, 38, 39, 40, 41, 42, 43, 44, 45, 46, 47, 48, 49, 50, 51, 52, 53, 54, 55, 56, 57, 58, 59, 60, 61] (by decide +kernel) (by decide +kernel)
set_option maxRecDepth 20000 in
theorem gX4_gain_X4_gains : GoodIn wsX4_gain (wsV RX4 236 RX4 yX4_gains wsX4_gains) := goodIn_app (goodIn_of _ (by decide +kernel)) ggX4_gain_X4_gains
set_option maxRecDepth 20000 in
theorem ggX4_bet_X4_within : GoodIn wsX4_bet wsX4_within := goodIn_r _ [6] (by decide +kernel) (by decide +kernel)
set_option maxRecDepth 20000 in
theorem gX4_bet_X4_within : GoodIn wsX4_bet (va_wsS RX4 62 yX4_within wsX4_within) := goodIn_app (goodIn_of _ (by decide +kernel)) ggX4_bet_X4_within
set_option maxRecDepth 20000 in
theorem ggX4_bet_X4_no : GoodIn wsX4_bet wsX4_no := goodIn_r _ [10, 11, 30, 31, 32, 33, 34, 35, 36, 37, 38, 39, 40, 41, 42, 43, 44, 45, 46, 47, 48, 49, 50, 51, 52, 53, 54, 55, 56] (by decide +kernel) (by decide +kernel)
set_option maxRecDepth 20000 in
theorem gX4_bet_X4_no : GoodIn wsX4_bet (wsV RX4 69 RX4 yX4_no wsX4_no) := goodIn_app (goodIn_of _ (by decide +kernel)) ggX4_bet_X4_no
set_option maxRecDepth 20000 in
theorem ggX4_bet_X4_has : GoodIn wsX4_bet wsX4_has := goodIn_r _ [14] (by decide +kernel) (by decide +kernel)
set_option maxRecDepth 20000 in
theorem gX4_bet_X4_has : GoodIn wsX4_bet (va_wsS RX4 121 yX4_has wsX4_has) := goodIn_app (goodIn_of _ (by decide +kernel)) ggX4_bet_X4_has
set_option maxRecDepth 20000 in
theorem ggX4_bet_X4_still : GoodIn wsX4_bet wsX4_still := goodIn_r _ [18, 2, 30, 31, 32, 33, 34, 35, 36, 37, 38, 39, 40, 41, 42, 43, 44, 45, 46, 47, 48, 49, 50, 51, 52, 53, 54, 55, 56] (by decide +kernel) (by decide +kernel)
set_option maxRecDepth 20000 in
theorem gX4_bet_X4_still : GoodIn wsX4_bet (wsV RX4 196 RX4 yX4_still wsX4_still) := goodIn_app (goodIn_of _ (by decide +kernel)) ggX4_bet_X4_still
set_option maxRecDepth 20000 in
theorem ggX4_bet_X4_weights : GoodIn wsX4_bet wsX4_weights := goodIn_r _ [22, 1, 23, 12, 13, 5, 14, 30, 31, 32, 33, 34, 35, 36, 37, 38, 39, 40, 41, 42, 43, 44, 45, 46, 47, 48, 49, 50, 51, 52, 53, 54, 55, 56] (by decide +kernel) (by decide +kernel)
set_option maxRecDepth 20000 in
theorem gX4_bet_X4_weights : GoodIn wsX4_bet (wsV RX4 199 RX4 yX4_weights wsX4_weights) := goodIn_app (goodIn_of _ (by decide +kernel)) ggX4_bet_X4_weights
set_option maxRecDepth 20000 in
theorem ggX4_bet_X4_gains : GoodIn wsX4_bet wsX4_gains := goodIn_r _ [27, 2, 28, 23, 29, 12, 13, 5, 14, 15, 16, 17, 18, 19, 20, 21, 22, 1, 30, 31, 32, 33, 34, 35, 36, 37, 38, 39, 40, 41, 42, 43, 44, 45, 46, 47, 48, 49, 50, 51, 52, 53, 54, 55, 56] (by decide +kernel) (by decide +kernel)
set_option maxRecDepth 20000 in
theorem gX4_bet_X4_gains : GoodIn wsX4_bet (wsV RX4 236 RX4 yX4_gains wsX4_gains) := goodIn_app (goodIn_of _ (by decide +kernel)) ggX4_bet_X4_gains
set_option maxRecDepth 20000 in
theorem ggX4_saying_X4_bySurprise : GoodIn wsX4_saying wsX4_bySurprise := goodIn_r _ [6, 7, 8, 9, 10, 5, 11, 12, 13, 14, 15, 16, 17, 18, 19, 20, 21, 22, 23, 24, 25, 26, 27, 28, 29, 30, 31, 32, 33, 34, 35, 36, 37, 38, 39, 40, 1, 41, 42, 43, 44, 45, 46, 47, 48, 49, 50, 51, 52, 53, 54, 55, 56, 57, 58, 59, 60, 61, 62, 63, 64, 65, 66, 67, 68, 69, 70, 71, 72, 73, 74, 75, 76, 77, 78, 79, 80, 81, 82, 83, 84, 85, 86, 87] (by decide +kernel) (by decide +kernel)
set_option maxRecDepth 20000 in
theorem gX4_saying_X4_bySurprise : GoodIn wsX4_saying (wsV RX4 217 RX4 yX4_bySurprise wsX4_bySurprise) := goodIn_app (goodIn_of _ (by decide +kernel)) ggX4_saying_X4_bySurprise
set_option maxRecDepth 20000 in
theorem ggX4_will_X4_saying : GoodIn wsX4_will wsX4_saying := goodIn_r _ [5, 6, 7, 8, 9, 4, 10, 11, 12, 13, 14, 15, 16, 17, 18, 19, 20, 21, 22, 23, 24, 25, 26, 27, 28, 29, 30, 31, 32, 33, 34, 35, 36, 37, 38, 39, 40, 41, 42, 43, 44, 45, 46, 47, 48, 49, 50, 51, 52, 53, 54, 55, 56, 57, 58, 59, 60, 61, 62, 63, 64, 65, 66, 67, 68, 69, 70, 71, 72, 73, 74, 75, 76, 77, 78, 79, 80, 81, 82, 83, 84, 85, 86, 87, 88, 89, 90, 91] (by decide +kernel) (by decide +kernel)
set_option maxRecDepth 20000 in
theorem gX4_will_X4_saying : GoodIn wsX4_will (wsV RX4 239 RX4 yX4_saying wsX4_saying) := goodIn_app (goodIn_of _ (by decide +kernel)) ggX4_will_X4_saying
set_option maxRecDepth 20000 in
theorem ggX4_level_X4_isMorning : GoodIn wsX4_level wsX4_isMorning := goodIn_r _ [5, 6, 7, 8, 4, 9, 77, 78, 79, 80, 81, 82, 83, 84, 85, 86, 87, 88, 89, 90, 91, 92, 93, 94, 95, 96, 97, 98, 99, 100, 101, 102, 103] (by decide +kernel) (by decide +kernel)
set_option maxRecDepth 20000 in
theorem gX4_level_X4_isMorning : GoodIn wsX4_level (wsV RX4 118 RX4 yX4_isMorning wsX4_isMorning) := goodIn_app (goodIn_of _ (by decide +kernel)) ggX4_level_X4_isMorning
set_option maxRecDepth 20000 in
theorem ggX4_level_X4_saying : GoodIn wsX4_level wsX4_saying := goodIn_r _ [13, 14, 15, 16, 17, 4, 18, 6, 19, 20, 21, 22, 23, 24, 25, 26, 27, 28, 29, 30, 31, 32, 33, 34, 35, 36, 37, 38, 39, 40, 41, 42, 43, 44, 45, 46, 47, 48, 49, 50, 51, 52, 53, 54, 55, 56, 57, 58, 59, 60, 61, 62, 63, 64, 65, 66, 67, 68, 69, 70, 71, 77, 78, 79, 80, 81, 82, 83, 84, 85, 86, 87, 88, 89, 90, 91, 92, 93, 94, 95, 96, 97, 98, 99, 100, 101, 102, 103] (by decide +kernel) (by decide +kernel)
set_option maxRecDepth 20000 in
theorem gX4_level_X4_saying : GoodIn wsX4_level (wsV RX4 239 RX4 yX4_saying wsX4_saying) := goodIn_app (goodIn_of _ (by decide +kernel)) ggX4_level_X4_saying
set_option maxRecDepth 20000 in
theorem ggX4_level_X4_no : GoodIn wsX4_level wsX4_no := goodIn_r _ [75, 76, 77, 78, 79, 80, 81, 82, 83, 84, 85, 86, 87, 88, 89, 90, 91, 92, 93, 94, 95, 96, 97, 98, 99, 100, 101, 102, 103] (by decide +kernel) (by decide +kernel)
set_option maxRecDepth 20000 in
theorem gX4_level_X4_no : GoodIn wsX4_level (wsV RX4 69 RX4 yX4_no wsX4_no) := goodIn_app (goodIn_of _ (by decide +kernel)) ggX4_level_X4_no
set_option maxRecDepth 20000 in
theorem ggX4_spoiling_X4_bySurprise : GoodIn wsX4_spoiling wsX4_bySurprise := goodIn_r _ [6, 7, 8, 9, 10, 5, 11, 12, 13, 14, 15, 16, 1, 17, 18, 19, 20, 21, 22, 23, 24, 25, 26, 27, 28, 29, 30, 31, 32, 33, 34, 35, 36, 37, 38, 39, 40, 41, 42, 43, 44, 45, 46, 47, 48, 49, 50, 51, 52, 53, 54, 55, 56, 57, 58, 59, 60, 67, 68, 69, 70, 71, 72, 73, 74, 75, 76, 77, 78, 79, 80, 81, 82, 83, 84, 85, 86, 87, 88, 89, 90, 91, 92, 93] (by decide +kernel) (by decide +kernel)
set_option maxRecDepth 20000 in
theorem gX4_spoiling_X4_bySurprise : GoodIn wsX4_spoiling (wsV RX4 217 RX4 yX4_bySurprise wsX4_bySurprise) := goodIn_app (goodIn_of _ (by decide +kernel)) ggX4_spoiling_X4_bySurprise
set_option maxRecDepth 20000 in
theorem ggX4_spoiling_J6_bitCount_0f7a4 : GoodIn wsX4_spoiling wsJ6_bitCount_0f7a4 := goodIn_r _ [63, 64, 65, 66] (by decide +kernel) (by decide +kernel)
set_option maxRecDepth 20000 in
theorem gX4_spoiling_J6_bitCount_0f7a4 : GoodIn wsX4_spoiling (va_wsS RX4 96 yJ6_bitCount_0f7a4 wsJ6_bitCount_0f7a4) := goodIn_app (goodIn_of _ (by decide +kernel)) ggX4_spoiling_J6_bitCount_0f7a4
set_option maxRecDepth 20000 in
theorem ggX4_spoils_X4_isOne : GoodIn wsX4_spoils wsX4_isOne := goodIn_r _ [5, 6, 7, 8, 4, 9, 84, 85, 86, 87, 88, 89, 90, 91, 92, 93, 94, 95, 96, 97, 98, 99, 100, 101, 102, 103, 104, 105, 106, 107, 108, 109, 110] (by decide +kernel) (by decide +kernel)
set_option maxRecDepth 20000 in
theorem gX4_spoils_X4_isOne : GoodIn wsX4_spoils (wsV RX4 80 RX4 yX4_isOne wsX4_isOne) := goodIn_app (goodIn_of _ (by decide +kernel)) ggX4_spoils_X4_isOne
set_option maxRecDepth 20000 in
theorem ggX4_spoils_X4_spoiling : GoodIn wsX4_spoils wsX4_spoiling := goodIn_r _ [13, 14, 15, 16, 17, 4, 18, 19, 20, 21, 22, 23, 24, 25, 26, 27, 6, 28, 29, 30, 31, 32, 33, 34, 35, 36, 37, 38, 39, 40, 41, 42, 43, 44, 45, 46, 47, 48, 49, 50, 51, 52, 53, 54, 55, 56, 57, 58, 59, 60, 61, 62, 63, 64, 65, 66, 67, 68, 69, 70, 71, 72, 73, 74, 75, 76, 77, 84, 85, 86, 87, 88, 89, 90, 91, 92, 93, 94, 95, 96, 97, 98, 99, 100, 101, 102, 103, 104, 105, 106, 107, 108, 109, 110] (by decide +kernel) (by decide +kernel)
set_option maxRecDepth 20000 in
theorem gX4_spoils_X4_spoiling : GoodIn wsX4_spoils (wsV RX4 242 RX4 yX4_spoiling wsX4_spoiling) := goodIn_app (goodIn_of _ (by decide +kernel)) ggX4_spoils_X4_spoiling
set_option maxRecDepth 20000 in
theorem ggX4_spoils_X4_noFar : GoodIn wsX4_spoils wsX4_noFar := goodIn_r _ [81, 82, 83, 84, 85, 86, 87, 88, 89, 90, 91, 92, 93, 94, 95, 96, 97, 98, 99, 100, 101, 102, 103, 104, 105, 106, 107, 108, 109, 110] (by decide +kernel) (by decide +kernel)
set_option maxRecDepth 20000 in
theorem gX4_spoils_X4_noFar : GoodIn wsX4_spoils (wsV RX4 233 RX4 yX4_noFar wsX4_noFar) := goodIn_app (goodIn_of _ (by decide +kernel)) ggX4_spoils_X4_noFar
set_option maxRecDepth 20000 in
theorem ggX4_spoiler_X4_no : GoodIn wsX4_spoiler wsX4_no := goodIn_r _ [6, 7, 76, 77, 78, 79, 80, 81, 82, 83, 84, 85, 86, 87, 88, 89, 90, 91, 92, 93, 94, 95, 96, 97, 98, 99, 100, 101, 102] (by decide +kernel) (by decide +kernel)
set_option maxRecDepth 20000 in
theorem gX4_spoiler_X4_no : GoodIn wsX4_spoiler (wsV RX4 69 RX4 yX4_no wsX4_no) := goodIn_app (goodIn_of _ (by decide +kernel)) ggX4_spoiler_X4_no
set_option maxRecDepth 20000 in
theorem ggX4_spoiler_X4_spoiling : GoodIn wsX4_spoiler wsX4_spoiling := goodIn_r _ [11, 12, 13, 14, 15, 5, 16, 17, 18, 19, 20, 21, 22, 23, 24, 25, 1, 26, 27, 28, 29, 30, 31, 32, 33, 34, 35, 36, 37, 38, 39, 40, 41, 42, 43, 44, 45, 46, 47, 48, 49, 50, 51, 52, 53, 54, 55, 56, 57, 58, 59, 60, 61, 62, 63, 64, 65, 66, 67, 68, 69, 70, 71, 72, 73, 74, 75, 76, 77, 78, 79, 80, 81, 82, 83, 84, 85, 86, 87, 88, 89, 90, 91, 92, 93, 94, 95, 96, 97, 98, 99, 100, 101, 102] (by decide +kernel) (by decide +kernel)
set_option maxRecDepth 20000 in
theorem gX4_spoiler_X4_spoiling : GoodIn wsX4_spoiler (wsV RX4 242 RX4 yX4_spoiling wsX4_spoiling) := goodIn_app (goodIn_of _ (by decide +kernel)) ggX4_spoiler_X4_spoiling
set_option maxRecDepth 20000 in
theorem ggX4_deeper_X4_isOne : GoodIn wsX4_deeper wsX4_isOne := goodIn_r _ [6, 7, 8, 9, 5, 10, 69, 70, 71, 72, 73, 74, 75, 76, 77, 78, 79, 80, 81, 82, 83, 84, 85, 86, 87, 88, 89, 90, 91, 92, 93, 94, 95] (by decide +kernel) (by decide +kernel)
set_option maxRecDepth 20000 in
theorem gX4_deeper_X4_isOne : GoodIn wsX4_deeper (wsV RX4 80 RX4 yX4_isOne wsX4_isOne) := goodIn_app (goodIn_of _ (by decide +kernel)) ggX4_deeper_X4_isOne
set_option maxRecDepth 20000 in
theorem ggX4_deeper_X4_isMorning : GoodIn wsX4_deeper wsX4_isMorning := goodIn_r _ [14, 15, 8, 9, 5, 10, 69, 70, 71, 72, 73, 74, 75, 76, 77, 78, 79, 80, 81, 82, 83, 84, 85, 86, 87, 88, 89, 90, 91, 92, 93, 94, 95] (by decide +kernel) (by decide +kernel)
set_option maxRecDepth 20000 in
theorem gX4_deeper_X4_isMorning : GoodIn wsX4_deeper (wsV RX4 118 RX4 yX4_isMorning wsX4_isMorning) := goodIn_app (goodIn_of _ (by decide +kernel)) ggX4_deeper_X4_isMorning
set_option maxRecDepth 20000 in
theorem ggX4_deeper_X4_no : GoodIn wsX4_deeper wsX4_no := goodIn_r _ [19, 20, 69, 70, 71, 72, 73, 74, 75, 76, 77, 78, 79, 80, 81, 82, 83, 84, 85, 86, 87, 88, 89, 90, 91, 92, 93, 94, 95] (by decide +kernel) (by decide +kernel)
set_option maxRecDepth 20000 in
theorem gX4_deeper_X4_no : GoodIn wsX4_deeper (wsV RX4 69 RX4 yX4_no wsX4_no) := goodIn_app (goodIn_of _ (by decide +kernel)) ggX4_deeper_X4_no
set_option maxRecDepth 20000 in
theorem ggX4_deeper_X4_expectsIt : GoodIn wsX4_deeper wsX4_expectsIt := goodIn_r _ [24, 25, 26, 27, 1, 28, 29, 5, 30, 31, 32, 33, 34, 35, 36, 37, 38, 15, 39, 40, 41, 42, 43, 44, 45, 46, 47, 48, 49, 50, 51, 7, 52, 53, 54, 55, 56, 57, 58, 59, 60, 61, 62, 63, 64, 65, 66, 67, 68, 69, 70, 71, 72, 73, 74, 75, 76, 77, 78, 79, 80, 81, 82, 83, 84, 85, 86, 87, 88, 89, 90, 91, 92, 93, 94, 95] (by decide +kernel) (by decide +kernel)
set_option maxRecDepth 20000 in
theorem gX4_deeper_X4_expectsIt : GoodIn wsX4_deeper (wsV RX4 105 RX4 yX4_expectsIt wsX4_expectsIt) := goodIn_app (goodIn_of _ (by decide +kernel)) ggX4_deeper_X4_expectsIt
set_option maxRecDepth 20000 in
theorem ggX4_foreseesIt_X4_depth : GoodIn wsX4_foreseesIt wsX4_depth := goodIn_r _ [6, 7, 8, 9, 10, 11, 12, 1, 13, 14, 15, 16, 17, 2, 3, 4, 5, 18, 19, 20, 21, 22, 23, 24, 25, 26, 27, 28, 29, 30, 31, 32, 33, 34, 35, 36, 37, 38, 39, 40, 41, 42, 43, 44] (by decide +kernel) (by decide +kernel)
set_option maxRecDepth 20000 in
theorem gX4_foreseesIt_X4_depth : GoodIn wsX4_foreseesIt (wsV RX4 108 RX4 yX4_depth wsX4_depth) := goodIn_app (goodIn_of _ (by decide +kernel)) ggX4_foreseesIt_X4_depth
set_option maxRecDepth 20000 in
theorem ggX4_foresees_X4_isOne : GoodIn wsX4_foresees wsX4_isOne := goodIn_r _ [5, 6, 7, 8, 4, 9, 34, 35, 36, 37, 38, 39, 40, 41, 42, 43, 44, 45, 46, 47, 48, 49, 50, 51, 52, 53, 54, 55, 56, 57, 58, 59, 60] (by decide +kernel) (by decide +kernel)
set_option maxRecDepth 20000 in
theorem gX4_foresees_X4_isOne : GoodIn wsX4_foresees (wsV RX4 80 RX4 yX4_isOne wsX4_isOne) := goodIn_app (goodIn_of _ (by decide +kernel)) ggX4_foresees_X4_isOne
set_option maxRecDepth 20000 in
theorem ggX4_foresees_X4_no : GoodIn wsX4_foresees wsX4_no := goodIn_r _ [13, 14, 34, 35, 36, 37, 38, 39, 40, 41, 42, 43, 44, 45, 46, 47, 48, 49, 50, 51, 52, 53, 54, 55, 56, 57, 58, 59, 60] (by decide +kernel) (by decide +kernel)
set_option maxRecDepth 20000 in
theorem gX4_foresees_X4_no : GoodIn wsX4_foresees (wsV RX4 69 RX4 yX4_no wsX4_no) := goodIn_app (goodIn_of _ (by decide +kernel)) ggX4_foresees_X4_no
set_option maxRecDepth 20000 in
theorem ggX4_foresees_X4_foreseesIt : GoodIn wsX4_foresees wsX4_foreseesIt := goodIn_r _ [18, 19, 20, 21, 22, 4, 23, 24, 25, 26, 27, 28, 29, 6, 30, 31, 32, 33, 34, 35, 36, 37, 38, 39, 40, 41, 42, 43, 44, 45, 46, 47, 48, 49, 50, 51, 52, 53, 54, 55, 56, 57, 58, 59, 60] (by decide +kernel) (by decide +kernel)
set_option maxRecDepth 20000 in
theorem gX4_foresees_X4_foreseesIt : GoodIn wsX4_foresees (wsV RX4 245 RX4 yX4_foreseesIt wsX4_foreseesIt) := goodIn_app (goodIn_of _ (by decide +kernel)) ggX4_foresees_X4_foreseesIt
set_option maxRecDepth 20000 in
theorem ggX4_foreseen_X4_isOne : GoodIn wsX4_foreseen wsX4_isOne := goodIn_r _ [6, 1, 7, 8, 5, 9, 34, 35, 36, 37, 38, 39, 40, 41, 42, 43, 44, 45, 46, 47, 48, 49, 50, 51, 52, 53, 54, 55, 56, 57, 58, 59, 60] (by decide +kernel) (by decide +kernel)
set_option maxRecDepth 20000 in
theorem gX4_foreseen_X4_isOne : GoodIn wsX4_foreseen (wsV RX4 80 RX4 yX4_isOne wsX4_isOne) := goodIn_app (goodIn_of _ (by decide +kernel)) ggX4_foreseen_X4_isOne
set_option maxRecDepth 20000 in
theorem ggX4_foreseen_X4_no : GoodIn wsX4_foreseen wsX4_no := goodIn_r _ [13, 14, 34, 35, 36, 37, 38, 39, 40, 41, 42, 43, 44, 45, 46, 47, 48, 49, 50, 51, 52, 53, 54, 55, 56, 57, 58, 59, 60] (by decide +kernel) (by decide +kernel)
set_option maxRecDepth 20000 in
theorem gX4_foreseen_X4_no : GoodIn wsX4_foreseen (wsV RX4 69 RX4 yX4_no wsX4_no) := goodIn_app (goodIn_of _ (by decide +kernel)) ggX4_foreseen_X4_no
set_option maxRecDepth 20000 in
theorem ggX4_foreseen_X4_foreseesIt : GoodIn wsX4_foreseen wsX4_foreseesIt := goodIn_r _ [18, 19, 20, 21, 22, 5, 23, 24, 25, 26, 27, 28, 29, 1, 30, 31, 32, 33, 34, 35, 36, 37, 38, 39, 40, 41, 42, 43, 44, 45, 46, 47, 48, 49, 50, 51, 52, 53, 54, 55, 56, 57, 58, 59, 60] (by decide +kernel) (by decide +kernel)
set_option maxRecDepth 20000 in
theorem gX4_foreseen_X4_foreseesIt : GoodIn wsX4_foreseen (wsV RX4 245 RX4 yX4_foreseesIt wsX4_foreseesIt) := goodIn_app (goodIn_of _ (by decide +kernel)) ggX4_foreseen_X4_foreseesIt
set_option maxRecDepth 20000 in
theorem ggX4_deepest_X4_no : GoodIn wsX4_deepest wsX4_no := goodIn_r _ [6, 7, 23, 24, 25, 26, 27, 28, 29, 30, 31, 32, 33, 34, 35, 36, 37, 38, 39, 40, 41, 42, 43, 44, 45, 46, 47, 48, 49] (by decide +kernel) (by decide +kernel)
set_option maxRecDepth 20000 in
theorem gX4_deepest_X4_no : GoodIn wsX4_deepest (wsV RX4 69 RX4 yX4_no wsX4_no) := goodIn_app (goodIn_of _ (by decide +kernel)) ggX4_deepest_X4_no
set_option maxRecDepth 20000 in
theorem ggX4_deepest_X4_depth : GoodIn wsX4_deepest wsX4_depth := goodIn_r _ [11, 12, 13, 14, 15, 16, 17, 18, 1, 19, 20, 21, 22, 8, 9, 10, 5, 23, 24, 25, 26, 27, 28, 29, 30, 31, 32, 33, 34, 35, 36, 37, 38, 39, 40, 41, 42, 43, 44, 45, 46, 47, 48, 49] (by decide +kernel) (by decide +kernel)
set_option maxRecDepth 20000 in
theorem gX4_deepest_X4_depth : GoodIn wsX4_deepest (wsV RX4 108 RX4 yX4_depth wsX4_depth) := goodIn_app (goodIn_of _ (by decide +kernel)) ggX4_deepest_X4_depth
set_option maxRecDepth 20000 in
theorem ggX4_asleep_X4_isMorning : GoodIn wsX4_asleep wsX4_isMorning := goodIn_r _ [6, 7, 8, 9, 5, 10, 22, 23, 24, 25, 26, 27, 28, 29, 30, 31, 32, 33, 34, 35, 36, 37, 38, 39, 40, 41, 42, 43, 44, 45, 46, 47, 48] (by decide +kernel) (by decide +kernel)
set_option maxRecDepth 20000 in
theorem gX4_asleep_X4_isMorning : GoodIn wsX4_asleep (wsV RX4 118 RX4 yX4_isMorning wsX4_isMorning) := goodIn_app (goodIn_of _ (by decide +kernel)) ggX4_asleep_X4_isMorning
set_option maxRecDepth 20000 in
theorem ggX4_asleep_X4_no : GoodIn wsX4_asleep wsX4_no := goodIn_r _ [14, 15, 22, 23, 24, 25, 26, 27, 28, 29, 30, 31, 32, 33, 34, 35, 36, 37, 38, 39, 40, 41, 42, 43, 44, 45, 46, 47, 48] (by decide +kernel) (by decide +kernel)
set_option maxRecDepth 20000 in
theorem gX4_asleep_X4_no : GoodIn wsX4_asleep (wsV RX4 69 RX4 yX4_no wsX4_no) := goodIn_app (goodIn_of _ (by decide +kernel)) ggX4_asleep_X4_no
set_option maxRecDepth 20000 in
theorem ggX4_asleep_X4_sleeps : GoodIn wsX4_asleep wsX4_sleeps := goodIn_r _ [19, 20, 21, 22, 23, 24, 25, 26, 27, 28, 29, 30, 31, 32, 33, 34, 35, 36, 37, 38, 39, 40, 41, 42, 43, 44, 45, 46, 47, 48] (by decide +kernel) (by decide +kernel)
set_option maxRecDepth 20000 in
theorem gX4_asleep_X4_sleeps : GoodIn wsX4_asleep (wsV RX4 90 RX4 yX4_sleeps wsX4_sleeps) := goodIn_app (goodIn_of _ (by decide +kernel)) ggX4_asleep_X4_sleeps
set_option maxRecDepth 20000 in
theorem ggX4_crowd_X4_within : GoodIn wsX4_crowd wsX4_within := goodIn_r _ [7] (by decide +kernel) (by decide +kernel)
set_option maxRecDepth 20000 in
theorem gX4_crowd_X4_within : GoodIn wsX4_crowd (va_wsS RX4 62 yX4_within wsX4_within) := goodIn_app (goodIn_of _ (by decide +kernel)) ggX4_crowd_X4_within
set_option maxRecDepth 20000 in
theorem ggX4_crowd_X4_no : GoodIn wsX4_crowd wsX4_no := goodIn_r _ [11, 12, 82, 83, 84, 85, 86, 87, 88, 89, 90, 91, 92, 93, 94, 95, 96, 97, 98, 99, 100, 101, 102, 103, 104, 105, 106, 107, 108] (by decide +kernel) (by decide +kernel)
set_option maxRecDepth 20000 in
theorem gX4_crowd_X4_no : GoodIn wsX4_crowd (wsV RX4 69 RX4 yX4_no wsX4_no) := goodIn_app (goodIn_of _ (by decide +kernel)) ggX4_crowd_X4_no
set_option maxRecDepth 20000 in
theorem ggX4_crowd_X4_keep : GoodIn wsX4_crowd wsX4_keep := goodIn_r _ [16, 17, 3, 18, 19, 20, 2, 21, 22, 23, 24, 25, 82, 83, 84, 85, 86, 87, 88, 89, 90, 91, 92, 93, 94, 95, 96, 97, 98, 99, 100, 101, 102, 103, 104, 105, 106, 107, 108] (by decide +kernel) (by decide +kernel)
set_option maxRecDepth 20000 in
theorem gX4_crowd_X4_keep : GoodIn wsX4_crowd (wsV RX4 174 RX4 yX4_keep wsX4_keep) := goodIn_app (goodIn_of _ (by decide +kernel)) ggX4_crowd_X4_keep
set_option maxRecDepth 20000 in
theorem ggX4_crowd_X4_bySurprise : GoodIn wsX4_crowd wsX4_bySurprise := goodIn_r _ [29, 19, 20, 30, 31, 6, 32, 33, 34, 35, 36, 2, 37, 38, 39, 40, 41, 3, 17, 18, 42, 43, 44, 45, 46, 47, 48, 49, 50, 51, 52, 53, 54, 55, 56, 57, 21, 58, 59, 60, 61, 62, 63, 64, 65, 66, 67, 68, 69, 70, 71, 72, 73, 74, 75, 76, 77, 82, 83, 84, 85, 86, 87, 88, 89, 90, 91, 92, 93, 94, 95, 96, 97, 98, 99, 100, 101, 102, 103, 104, 105, 106, 107, 108] (by decide +kernel) (by decide +kernel)
set_option maxRecDepth 20000 in
theorem gX4_crowd_X4_bySurprise : GoodIn wsX4_crowd (wsV RX4 217 RX4 yX4_bySurprise wsX4_bySurprise) := goodIn_app (goodIn_of _ (by decide +kernel)) ggX4_crowd_X4_bySurprise
set_option maxRecDepth 20000 in
theorem ggX4_crowd_X4_again : GoodIn wsX4_crowd wsX4_again := goodIn_r _ [81, 17, 3, 18, 19, 20, 2, 21, 22, 23, 24, 25, 82, 83, 84, 85, 86, 87, 88, 89, 90, 91, 92, 93, 94, 95, 96, 97, 98, 99, 100, 101, 102, 103, 104, 105, 106, 107, 108] (by decide +kernel) (by decide +kernel)
set_option maxRecDepth 20000 in
theorem gX4_crowd_X4_again : GoodIn wsX4_crowd (wsV RX4 182 RX4 yX4_again wsX4_again) := goodIn_app (goodIn_of _ (by decide +kernel)) ggX4_crowd_X4_again
set_option maxRecDepth 20000 in
theorem ggX4_longest_X4_bySurprise : GoodIn wsX4_longest wsX4_bySurprise := goodIn_r _ [5, 6, 7, 8, 9, 4, 10, 11, 12, 13, 14, 15, 16, 17, 18, 19, 20, 21, 22, 23, 24, 25, 26, 27, 28, 29, 30, 31, 32, 33, 34, 35, 36, 37, 38, 39, 40, 41, 42, 43, 44, 45, 46, 47, 48, 49, 50, 51, 52, 53, 54, 55, 56, 57, 58, 59, 60, 61, 62, 63, 64, 65, 66, 67, 68, 69, 70, 71, 72, 73, 74, 75, 76, 77, 78, 79, 80, 81, 82, 83, 84, 85, 86, 87] (by decide +kernel) (by decide +kernel)
set_option maxRecDepth 20000 in
theorem gX4_longest_X4_bySurprise : GoodIn wsX4_longest (wsV RX4 217 RX4 yX4_bySurprise wsX4_bySurprise) := goodIn_app (goodIn_of _ (by decide +kernel)) ggX4_longest_X4_bySurprise
set_option maxRecDepth 20000 in
theorem ggX4_leave_X4_no : GoodIn wsX4_leave wsX4_no := goodIn_r _ [7, 8, 9, 10, 11, 12, 13, 14, 15, 16, 17, 18, 19, 20, 21, 22, 23, 24, 25, 26, 27, 28, 29, 30, 31, 32, 33, 34, 35] (by decide +kernel) (by decide +kernel)
set_option maxRecDepth 20000 in
theorem gX4_leave_X4_no : GoodIn wsX4_leave (wsV RX4 69 RX4 yX4_no wsX4_no) := goodIn_app (goodIn_of _ (by decide +kernel)) ggX4_leave_X4_no
set_option maxRecDepth 20000 in
theorem ggX4_by_X4_isMorning : GoodIn wsX4_by wsX4_isMorning := goodIn_r _ [7, 8, 9, 10, 6, 11, 25, 26, 27, 28, 29, 30, 31, 32, 33, 34, 35, 36, 37, 38, 39, 40, 41, 42, 43, 44, 45, 46, 47, 48, 49, 50, 51] (by decide +kernel) (by decide +kernel)
set_option maxRecDepth 20000 in
theorem gX4_by_X4_isMorning : GoodIn wsX4_by (wsV RX4 118 RX4 yX4_isMorning wsX4_isMorning) := goodIn_app (goodIn_of _ (by decide +kernel)) ggX4_by_X4_isMorning
set_option maxRecDepth 20000 in
theorem ggX4_by_X4_no : GoodIn wsX4_by wsX4_no := goodIn_r _ [15, 16, 25, 26, 27, 28, 29, 30, 31, 32, 33, 34, 35, 36, 37, 38, 39, 40, 41, 42, 43, 44, 45, 46, 47, 48, 49, 50, 51] (by decide +kernel) (by decide +kernel)
set_option maxRecDepth 20000 in
theorem gX4_by_X4_no : GoodIn wsX4_by (wsV RX4 69 RX4 yX4_no wsX4_no) := goodIn_app (goodIn_of _ (by decide +kernel)) ggX4_by_X4_no
set_option maxRecDepth 20000 in
theorem ggX4_by_X4_weights : GoodIn wsX4_by wsX4_weights := goodIn_r _ [20, 8, 21, 22, 23, 6, 24, 25, 26, 27, 28, 29, 30, 31, 32, 33, 34, 35, 36, 37, 38, 39, 40, 41, 42, 43, 44, 45, 46, 47, 48, 49, 50, 51] (by decide +kernel) (by decide +kernel)
set_option maxRecDepth 20000 in
theorem gX4_by_X4_weights : GoodIn wsX4_by (wsV RX4 199 RX4 yX4_weights wsX4_weights) := goodIn_app (goodIn_of _ (by decide +kernel)) ggX4_by_X4_weights
set_option maxRecDepth 20000 in
theorem ggX4_mean_X4_weights : GoodIn wsX4_mean wsX4_weights := goodIn_r _ [8, 2, 3, 9, 10, 7, 11, 17, 18, 19, 20, 21, 22, 23, 24, 25, 26, 27, 28, 29, 30, 31, 32, 33, 34, 35, 36, 37, 38, 39, 40, 41, 42, 43] (by decide +kernel) (by decide +kernel)
set_option maxRecDepth 20000 in
theorem gX4_mean_X4_weights : GoodIn wsX4_mean (wsV RX4 199 RX4 yX4_weights wsX4_weights) := goodIn_app (goodIn_of _ (by decide +kernel)) ggX4_mean_X4_weights
set_option maxRecDepth 20000 in
theorem ggX4_mean_X4_no : GoodIn wsX4_mean wsX4_no := goodIn_r _ [15, 16, 17, 18, 19, 20, 21, 22, 23, 24, 25, 26, 27, 28, 29, 30, 31, 32, 33, 34, 35, 36, 37, 38, 39, 40, 41, 42, 43] (by decide +kernel) (by decide +kernel)
set_option maxRecDepth 20000 in
theorem gX4_mean_X4_no : GoodIn wsX4_mean (wsV RX4 69 RX4 yX4_no wsX4_no) := goodIn_app (goodIn_of _ (by decide +kernel)) ggX4_mean_X4_no
set_option maxRecDepth 20000 in
theorem ggX4_mean_X4_has : GoodIn wsX4_mean wsX4_has := goodIn_r _ [11] (by decide +kernel) (by decide +kernel)
set_option maxRecDepth 20000 in
theorem gX4_mean_X4_has : GoodIn wsX4_mean (va_wsS RX4 121 yX4_has wsX4_has) := goodIn_app (goodIn_of _ (by decide +kernel)) ggX4_mean_X4_has
set_option maxRecDepth 20000 in
theorem ggX4_fair_X4_isMorning : GoodIn wsX4_fair wsX4_isMorning := goodIn_r _ [5, 6, 7, 8, 4, 9, 34, 35, 36, 37, 38, 39, 40, 41, 42, 43, 44, 45, 46, 47, 48, 49, 50, 51, 52, 53, 54, 55, 56, 57, 58, 59, 60] (by decide +kernel) (by decide +kernel)
set_option maxRecDepth 20000 in
theorem gX4_fair_X4_isMorning : GoodIn wsX4_fair (wsV RX4 118 RX4 yX4_isMorning wsX4_isMorning) := goodIn_app (goodIn_of _ (by decide +kernel)) ggX4_fair_X4_isMorning
set_option maxRecDepth 20000 in
theorem ggX4_fair_X4_no : GoodIn wsX4_fair wsX4_no := goodIn_r _ [13, 14, 34, 35, 36, 37, 38, 39, 40, 41, 42, 43, 44, 45, 46, 47, 48, 49, 50, 51, 52, 53, 54, 55, 56, 57, 58, 59, 60] (by decide +kernel) (by decide +kernel)
set_option maxRecDepth 20000 in
theorem gX4_fair_X4_no : GoodIn wsX4_fair (wsV RX4 69 RX4 yX4_no wsX4_no) := goodIn_app (goodIn_of _ (by decide +kernel)) ggX4_fair_X4_no
set_option maxRecDepth 20000 in
theorem ggX4_fair_X4_still : GoodIn wsX4_fair wsX4_still := goodIn_r _ [18, 19, 34, 35, 36, 37, 38, 39, 40, 41, 42, 43, 44, 45, 46, 47, 48, 49, 50, 51, 52, 53, 54, 55, 56, 57, 58, 59, 60] (by decide +kernel) (by decide +kernel)
set_option maxRecDepth 20000 in
theorem gX4_fair_X4_still : GoodIn wsX4_fair (wsV RX4 196 RX4 yX4_still wsX4_still) := goodIn_app (goodIn_of _ (by decide +kernel)) ggX4_fair_X4_still
set_option maxRecDepth 20000 in
theorem ggX4_fair_X4_weights : GoodIn wsX4_fair wsX4_weights := goodIn_r _ [23, 6, 24, 25, 26, 4, 27, 34, 35, 36, 37, 38, 39, 40, 41, 42, 43, 44, 45, 46, 47, 48, 49, 50, 51, 52, 53, 54, 55, 56, 57, 58, 59, 60] (by decide +kernel) (by decide +kernel)
set_option maxRecDepth 20000 in
theorem gX4_fair_X4_weights : GoodIn wsX4_fair (wsV RX4 199 RX4 yX4_weights wsX4_weights) := goodIn_app (goodIn_of _ (by decide +kernel)) ggX4_fair_X4_weights
set_option maxRecDepth 20000 in
theorem ggX4_fair_X4_gains : GoodIn wsX4_fair wsX4_gains := goodIn_r _ [31, 19, 32, 24, 33, 25, 26, 4, 27, 15, 16, 17, 18, 20, 21, 22, 23, 6, 34, 35, 36, 37, 38, 39, 40, 41, 42, 43, 44, 45, 46, 47, 48, 49, 50, 51, 52, 53, 54, 55, 56, 57, 58, 59, 60] (by decide +kernel) (by decide +kernel)
set_option maxRecDepth 20000 in
theorem gX4_fair_X4_gains : GoodIn wsX4_fair (wsV RX4 236 RX4 yX4_gains wsX4_gains) := goodIn_app (goodIn_of _ (by decide +kernel)) ggX4_fair_X4_gains
set_option maxRecDepth 20000 in
theorem ggX4_book_X4_within : GoodIn wsX4_book wsX4_within := goodIn_r _ [13] (by decide +kernel) (by decide +kernel)
set_option maxRecDepth 20000 in
theorem gX4_book_X4_within : GoodIn wsX4_book (va_wsS RX4 62 yX4_within wsX4_within) := goodIn_app (goodIn_of _ (by decide +kernel)) ggX4_book_X4_within
set_option maxRecDepth 20000 in
theorem ggX4_book_X4_noFar : GoodIn wsX4_book wsX4_noFar := goodIn_r _ [17, 18, 19, 32, 33, 34, 35, 36, 37, 38, 39, 40, 41, 42, 43, 44, 45, 46, 47, 48, 49, 50, 51, 52, 53, 54, 55, 56, 57, 58] (by decide +kernel) (by decide +kernel)
set_option maxRecDepth 20000 in
theorem gX4_book_X4_noFar : GoodIn wsX4_book (wsV RX4 233 RX4 yX4_noFar wsX4_noFar) := goodIn_app (goodIn_of _ (by decide +kernel)) ggX4_book_X4_noFar
set_option maxRecDepth 20000 in
theorem ggX4_book_X4_noRow : GoodIn wsX4_book wsX4_noRow := goodIn_r _ [23, 24, 10, 11, 12, 13, 32, 33, 34, 35, 36, 37, 38, 39, 40, 41, 42, 43, 44, 45, 46, 47, 48, 49, 50, 51, 52, 53, 54, 55, 56, 57, 58] (by decide +kernel) (by decide +kernel)
set_option maxRecDepth 20000 in
theorem gX4_book_X4_noRow : GoodIn wsX4_book (wsV RX4 73 RX4 yX4_noRow wsX4_noRow) := goodIn_app (goodIn_of _ (by decide +kernel)) ggX4_book_X4_noRow
set_option maxRecDepth 20000 in
theorem ggX4_book_X4_weights : GoodIn wsX4_book wsX4_weights := goodIn_r _ [28, 4, 8, 29, 30, 12, 31, 32, 33, 34, 35, 36, 37, 38, 39, 40, 41, 42, 43, 44, 45, 46, 47, 48, 49, 50, 51, 52, 53, 54, 55, 56, 57, 58] (by decide +kernel) (by decide +kernel)
set_option maxRecDepth 20000 in
theorem gX4_book_X4_weights : GoodIn wsX4_book (wsV RX4 199 RX4 yX4_weights wsX4_weights) := goodIn_app (goodIn_of _ (by decide +kernel)) ggX4_book_X4_weights
set_option maxRecDepth 20000 in
theorem ggX4_book_X4_has : GoodIn wsX4_book wsX4_has := goodIn_r _ [31] (by decide +kernel) (by decide +kernel)
set_option maxRecDepth 20000 in
theorem gX4_book_X4_has : GoodIn wsX4_book (va_wsS RX4 121 yX4_has wsX4_has) := goodIn_app (goodIn_of _ (by decide +kernel)) ggX4_book_X4_has
set_option maxRecDepth 20000 in
theorem ggX4_second_X4_isMorning : GoodIn wsX4_second wsX4_isMorning := goodIn_r _ [7, 1, 8, 9, 6, 10, 19, 20, 21, 22, 23, 24, 25, 26, 27, 28, 29, 30, 31, 32, 33, 34, 35, 36, 37, 38, 39, 40, 41, 42, 43, 44, 45] (by decide +kernel) (by decide +kernel)
set_option maxRecDepth 20000 in
theorem gX4_second_X4_isMorning : GoodIn wsX4_second (wsV RX4 118 RX4 yX4_isMorning wsX4_isMorning) := goodIn_app (goodIn_of _ (by decide +kernel)) ggX4_second_X4_isMorning
set_option maxRecDepth 20000 in
theorem ggX4_second_X4_within : GoodIn wsX4_second wsX4_within := goodIn_r _ [10] (by decide +kernel) (by decide +kernel)
set_option maxRecDepth 20000 in
theorem gX4_second_X4_within : GoodIn wsX4_second (va_wsS RX4 62 yX4_within wsX4_within) := goodIn_app (goodIn_of _ (by decide +kernel)) ggX4_second_X4_within
set_option maxRecDepth 20000 in
theorem ggX4_second_X4_no : GoodIn wsX4_second wsX4_no := goodIn_r _ [14, 15, 19, 20, 21, 22, 23, 24, 25, 26, 27, 28, 29, 30, 31, 32, 33, 34, 35, 36, 37, 38, 39, 40, 41, 42, 43, 44, 45] (by decide +kernel) (by decide +kernel)
set_option maxRecDepth 20000 in
theorem gX4_second_X4_no : GoodIn wsX4_second (wsV RX4 69 RX4 yX4_no wsX4_no) := goodIn_app (goodIn_of _ (by decide +kernel)) ggX4_second_X4_no
set_option maxRecDepth 20000 in
theorem ggX4_second_X4_has : GoodIn wsX4_second wsX4_has := goodIn_r _ [18] (by decide +kernel) (by decide +kernel)
set_option maxRecDepth 20000 in
theorem gX4_second_X4_has : GoodIn wsX4_second (va_wsS RX4 121 yX4_has wsX4_has) := goodIn_app (goodIn_of _ (by decide +kernel)) ggX4_second_X4_has
set_option maxRecDepth 20000 in
theorem ggX4_hints_X4_within : GoodIn wsX4_hints wsX4_within := goodIn_r _ [5] (by decide +kernel) (by decide +kernel)
set_option maxRecDepth 20000 in
theorem gX4_hints_X4_within : GoodIn wsX4_hints (va_wsS RX4 62 yX4_within wsX4_within) := goodIn_app (goodIn_of _ (by decide +kernel)) ggX4_hints_X4_within
set_option maxRecDepth 20000 in
theorem ggX4_hints_X4_no : GoodIn wsX4_hints wsX4_no := goodIn_r _ [9, 10, 75, 76, 77, 78, 79, 80, 81, 82, 83, 84, 85, 86, 87, 88, 89, 90, 91, 92, 93, 94, 95, 96, 97, 98, 99, 100, 101] (by decide +kernel) (by decide +kernel)
set_option maxRecDepth 20000 in
theorem gX4_hints_X4_no : GoodIn wsX4_hints (wsV RX4 69 RX4 yX4_no wsX4_no) := goodIn_app (goodIn_of _ (by decide +kernel)) ggX4_hints_X4_no
set_option maxRecDepth 20000 in
theorem ggX4_hints_X4_bySurprise : GoodIn wsX4_hints wsX4_bySurprise := goodIn_r _ [14, 15, 1, 16, 17, 4, 18, 19, 20, 21, 22, 23, 24, 25, 26, 27, 28, 29, 30, 31, 32, 33, 34, 35, 36, 37, 38, 39, 40, 41, 42, 43, 44, 45, 46, 47, 48, 49, 50, 51, 52, 53, 54, 55, 56, 57, 58, 59, 60, 61, 62, 63, 64, 65, 66, 67, 68, 75, 76, 77, 78, 79, 80, 81, 82, 83, 84, 85, 86, 87, 88, 89, 90, 91, 92, 93, 94, 95, 96, 97, 98, 99, 100, 101] (by decide +kernel) (by decide +kernel)
set_option maxRecDepth 20000 in
theorem gX4_hints_X4_bySurprise : GoodIn wsX4_hints (wsV RX4 217 RX4 yX4_bySurprise wsX4_bySurprise) := goodIn_app (goodIn_of _ (by decide +kernel)) ggX4_hints_X4_bySurprise
set_option maxRecDepth 20000 in
theorem ggX4_hints_J6_bitCount_0f7a4 : GoodIn wsX4_hints wsJ6_bitCount_0f7a4 := goodIn_r _ [71, 72, 73, 74] (by decide +kernel) (by decide +kernel)
set_option maxRecDepth 20000 in
theorem gX4_hints_J6_bitCount_0f7a4 : GoodIn wsX4_hints (va_wsS RX4 96 yJ6_bitCount_0f7a4 wsJ6_bitCount_0f7a4) := goodIn_app (goodIn_of _ (by decide +kernel)) ggX4_hints_J6_bitCount_0f7a4
set_option maxRecDepth 20000 in
theorem ggX4_rules_X4_within : GoodIn wsX4_rules wsX4_within := goodIn_r _ [7] (by decide +kernel) (by decide +kernel)
set_option maxRecDepth 20000 in
theorem gX4_rules_X4_within : GoodIn wsX4_rules (va_wsS RX4 62 yX4_within wsX4_within) := goodIn_app (goodIn_of _ (by decide +kernel)) ggX4_rules_X4_within
set_option maxRecDepth 20000 in
theorem ggX4_rules_X4_no : GoodIn wsX4_rules wsX4_no := goodIn_r _ [11, 12, 18, 19, 20, 21, 22, 23, 24, 25, 26, 27, 28, 29, 30, 31, 32, 33, 34, 35, 36, 37, 38, 39, 40, 41, 42, 43, 44] (by decide +kernel) (by decide +kernel)
set_option maxRecDepth 20000 in
theorem gX4_rules_X4_no : GoodIn wsX4_rules (wsV RX4 69 RX4 yX4_no wsX4_no) := goodIn_app (goodIn_of _ (by decide +kernel)) ggX4_rules_X4_no
set_option maxRecDepth 20000 in
theorem ggX4_rules_X4_noRow : GoodIn wsX4_rules wsX4_noRow := goodIn_r _ [16, 17, 4, 5, 6, 7, 18, 19, 20, 21, 22, 23, 24, 25, 26, 27, 28, 29, 30, 31, 32, 33, 34, 35, 36, 37, 38, 39, 40, 41, 42, 43, 44] (by decide +kernel) (by decide +kernel)
set_option maxRecDepth 20000 in
theorem gX4_rules_X4_noRow : GoodIn wsX4_rules (wsV RX4 73 RX4 yX4_noRow wsX4_noRow) := goodIn_app (goodIn_of _ (by decide +kernel)) ggX4_rules_X4_noRow
set_option maxRecDepth 20000 in
theorem ggX4_noList_X4_noRow : GoodIn wsX4_noList wsX4_noRow := goodIn_r _ [7, 8, 9, 10, 6, 11, 12, 13, 14, 15, 16, 17, 18, 19, 20, 21, 22, 23, 24, 25, 26, 27, 28, 29, 30, 31, 32, 33, 34, 35, 36, 37, 38] (by decide +kernel) (by decide +kernel)
set_option maxRecDepth 20000 in
theorem gX4_noList_X4_noRow : GoodIn wsX4_noList (wsV RX4 73 RX4 yX4_noRow wsX4_noRow) := goodIn_app (goodIn_of _ (by decide +kernel)) ggX4_noList_X4_noRow
set_option maxRecDepth 20000 in
theorem ggX4_judge_X4_noList : GoodIn wsX4_judge wsX4_noList := goodIn_r _ [6, 7, 1, 8, 9, 10, 5, 11, 12, 13, 14, 15, 80, 81, 82, 83, 84, 85, 86, 87, 88, 89, 90, 91, 92, 93, 94, 95, 96, 97, 98, 99, 100, 101, 102, 103, 104, 105, 106] (by decide +kernel) (by decide +kernel)
set_option maxRecDepth 20000 in
theorem gX4_judge_X4_noList : GoodIn wsX4_judge (wsV RX4 252 RX4 yX4_noList wsX4_noList) := goodIn_app (goodIn_of _ (by decide +kernel)) ggX4_judge_X4_noList
set_option maxRecDepth 20000 in
theorem ggX4_judge_X4_no : GoodIn wsX4_judge wsX4_no := goodIn_r _ [19, 20, 80, 81, 82, 83, 84, 85, 86, 87, 88, 89, 90, 91, 92, 93, 94, 95, 96, 97, 98, 99, 100, 101, 102, 103, 104, 105, 106] (by decide +kernel) (by decide +kernel)
set_option maxRecDepth 20000 in
theorem gX4_judge_X4_no : GoodIn wsX4_judge (wsV RX4 69 RX4 yX4_no wsX4_no) := goodIn_app (goodIn_of _ (by decide +kernel)) ggX4_judge_X4_no
set_option maxRecDepth 20000 in
theorem ggX4_judge_X4_listed : GoodIn wsX4_judge wsX4_listed := goodIn_r _ [24, 25, 26, 80, 81, 82, 83, 84, 85, 86, 87, 88, 89, 90, 91, 92, 93, 94, 95, 96, 97, 98, 99, 100, 101, 102, 103, 104, 105, 106] (by decide +kernel) (by decide +kernel)
set_option maxRecDepth 20000 in
theorem gX4_judge_X4_listed : GoodIn wsX4_judge (wsV RX4 255 RX4 yX4_listed wsX4_listed) := goodIn_app (goodIn_of _ (by decide +kernel)) ggX4_judge_X4_listed
set_option maxRecDepth 20000 in
theorem ggX4_judge_X4_whoExpects : GoodIn wsX4_judge wsX4_whoExpects := goodIn_r _ [30, 26, 31, 32, 33, 34, 5, 35, 36, 37, 38, 39, 40, 41, 42, 43, 44, 45, 46, 47, 48, 49, 50, 1, 51, 52, 53, 54, 55, 56, 57, 58, 59, 60, 61, 62, 63, 64, 65, 66, 67, 68, 69, 70, 71, 72, 73, 74, 75, 76, 77, 78, 79, 80, 81, 82, 83, 84, 85, 86, 87, 88, 89, 90, 91, 92, 93, 94, 95, 96, 97, 98, 99, 100, 101, 102, 103, 104, 105, 106] (by decide +kernel) (by decide +kernel)
set_option maxRecDepth 20000 in
theorem gX4_judge_X4_whoExpects : GoodIn wsX4_judge (wsV RX4 205 RX4 yX4_whoExpects wsX4_whoExpects) := goodIn_app (goodIn_of _ (by decide +kernel)) ggX4_judge_X4_whoExpects
set_option maxRecDepth 20000 in
theorem ggX4_unlike_X4_noList : GoodIn wsX4_unlike wsX4_noList := goodIn_r _ [6, 7, 1, 8, 9, 10, 5, 11, 12, 13, 14, 15, 86, 87, 88, 89, 90, 91, 92, 93, 94, 95, 96, 97, 98, 99, 100, 101, 102, 103, 104, 105, 106, 107, 108, 109, 110, 111, 112] (by decide +kernel) (by decide +kernel)
set_option maxRecDepth 20000 in
theorem gX4_unlike_X4_noList : GoodIn wsX4_unlike (wsV RX4 252 RX4 yX4_noList wsX4_noList) := goodIn_app (goodIn_of _ (by decide +kernel)) ggX4_unlike_X4_noList
set_option maxRecDepth 20000 in
theorem ggX4_unlike_X4_no : GoodIn wsX4_unlike wsX4_no := goodIn_r _ [19, 20, 86, 87, 88, 89, 90, 91, 92, 93, 94, 95, 96, 97, 98, 99, 100, 101, 102, 103, 104, 105, 106, 107, 108, 109, 110, 111, 112] (by decide +kernel) (by decide +kernel)
set_option maxRecDepth 20000 in
theorem gX4_unlike_X4_no : GoodIn wsX4_unlike (wsV RX4 69 RX4 yX4_no wsX4_no) := goodIn_app (goodIn_of _ (by decide +kernel)) ggX4_unlike_X4_no
set_option maxRecDepth 20000 in
theorem ggX4_unlike_X4_listed : GoodIn wsX4_unlike wsX4_listed := goodIn_r _ [24, 25, 26, 86, 87, 88, 89, 90, 91, 92, 93, 94, 95, 96, 97, 98, 99, 100, 101, 102, 103, 104, 105, 106, 107, 108, 109, 110, 111, 112] (by decide +kernel) (by decide +kernel)
set_option maxRecDepth 20000 in
theorem gX4_unlike_X4_listed : GoodIn wsX4_unlike (wsV RX4 255 RX4 yX4_listed wsX4_listed) := goodIn_app (goodIn_of _ (by decide +kernel)) ggX4_unlike_X4_listed
set_option maxRecDepth 20000 in
theorem ggX4_unlike_X4_whoExpects : GoodIn wsX4_unlike wsX4_whoExpects := goodIn_r _ [30, 26, 31, 32, 33, 34, 5, 35, 36, 37, 38, 39, 40, 41, 42, 43, 44, 45, 46, 47, 48, 49, 50, 1, 51, 52, 53, 54, 55, 56, 57, 58, 59, 60, 61, 62, 63, 64, 65, 66, 67, 68, 69, 70, 71, 72, 73, 74, 75, 76, 77, 78, 79, 86, 87, 88, 89, 90, 91, 92, 93, 94, 95, 96, 97, 98, 99, 100, 101, 102, 103, 104, 105, 106, 107, 108, 109, 110, 111, 112] (by decide +kernel) (by decide +kernel)
set_option maxRecDepth 20000 in
theorem gX4_unlike_X4_whoExpects : GoodIn wsX4_unlike (wsV RX4 205 RX4 yX4_whoExpects wsX4_whoExpects) := goodIn_app (goodIn_of _ (by decide +kernel)) ggX4_unlike_X4_whoExpects
set_option maxRecDepth 20000 in
theorem ggX4_unlike_J6_bitCount_0f7a4 : GoodIn wsX4_unlike wsJ6_bitCount_0f7a4 := goodIn_r _ [82, 83, 84, 85] (by decide +kernel) (by decide +kernel)
set_option maxRecDepth 20000 in
theorem gX4_unlike_J6_bitCount_0f7a4 : GoodIn wsX4_unlike (va_wsS RX4 96 yJ6_bitCount_0f7a4 wsJ6_bitCount_0f7a4) := goodIn_app (goodIn_of _ (by decide +kernel)) ggX4_unlike_J6_bitCount_0f7a4
set_option maxRecDepth 20000 in
theorem ggX4_ring_X4_weights : GoodIn wsX4_ring wsX4_weights := goodIn_r _ [11, 12, 2, 13, 14, 10, 15, 77, 78, 79, 80, 81, 82, 83, 84, 85, 86, 87, 88, 89, 90, 91, 92, 93, 94, 95, 96, 97, 98, 99, 100, 101, 102, 103] (by decide +kernel) (by decide +kernel)
set_option maxRecDepth 20000 in
theorem gX4_ring_X4_weights : GoodIn wsX4_ring (wsV RX4 199 RX4 yX4_weights wsX4_weights) := goodIn_app (goodIn_of _ (by decide +kernel)) ggX4_ring_X4_weights
set_option maxRecDepth 20000 in
theorem ggX4_ring_X4_no : GoodIn wsX4_ring wsX4_no := goodIn_r _ [19, 20, 77, 78, 79, 80, 81, 82, 83, 84, 85, 86, 87, 88, 89, 90, 91, 92, 93, 94, 95, 96, 97, 98, 99, 100, 101, 102, 103] (by decide +kernel) (by decide +kernel)
set_option maxRecDepth 20000 in
theorem gX4_ring_X4_no : GoodIn wsX4_ring (wsV RX4 69 RX4 yX4_no wsX4_no) := goodIn_app (goodIn_of _ (by decide +kernel)) ggX4_ring_X4_no
set_option maxRecDepth 20000 in
theorem ggX4_ring_X4_draw : GoodIn wsX4_ring wsX4_draw := goodIn_r _ [24, 25, 26, 77, 78, 79, 80, 81, 82, 83, 84, 85, 86, 87, 88, 89, 90, 91, 92, 93, 94, 95, 96, 97, 98, 99, 100, 101, 102, 103] (by decide +kernel) (by decide +kernel)
set_option maxRecDepth 20000 in
theorem gX4_ring_X4_draw : GoodIn wsX4_ring (wsV RX4 259 RX4 yX4_draw wsX4_draw) := goodIn_app (goodIn_of _ (by decide +kernel)) ggX4_ring_X4_draw
set_option maxRecDepth 20000 in
theorem ggX4_ring_X4_has : GoodIn wsX4_ring wsX4_has := goodIn_r _ [15] (by decide +kernel) (by decide +kernel)
set_option maxRecDepth 20000 in
theorem gX4_ring_X4_has : GoodIn wsX4_ring (va_wsS RX4 121 yX4_has wsX4_has) := goodIn_app (goodIn_of _ (by decide +kernel)) ggX4_ring_X4_has
set_option maxRecDepth 20000 in
theorem ggX4_ring_X4_whoExpects : GoodIn wsX4_ring wsX4_whoExpects := goodIn_r _ [30, 4, 31, 32, 33, 34, 10, 35, 36, 1, 2, 37, 13, 14, 15, 38, 39, 40, 41, 7, 8, 9, 11, 12, 42, 43, 44, 45, 46, 47, 48, 49, 50, 51, 52, 53, 54, 55, 56, 57, 58, 59, 60, 61, 62, 63, 64, 65, 66, 67, 68, 69, 70, 77, 78, 79, 80, 81, 82, 83, 84, 85, 86, 87, 88, 89, 90, 91, 92, 93, 94, 95, 96, 97, 98, 99, 100, 101, 102, 103] (by decide +kernel) (by decide +kernel)
set_option maxRecDepth 20000 in
theorem gX4_ring_X4_whoExpects : GoodIn wsX4_ring (wsV RX4 205 RX4 yX4_whoExpects wsX4_whoExpects) := goodIn_app (goodIn_of _ (by decide +kernel)) ggX4_ring_X4_whoExpects
set_option maxRecDepth 20000 in
theorem ggX4_ring_J6_bitCount_0f7a4 : GoodIn wsX4_ring wsJ6_bitCount_0f7a4 := goodIn_r _ [73, 74, 75, 76] (by decide +kernel) (by decide +kernel)
set_option maxRecDepth 20000 in
theorem gX4_ring_J6_bitCount_0f7a4 : GoodIn wsX4_ring (va_wsS RX4 96 yJ6_bitCount_0f7a4 wsJ6_bitCount_0f7a4) := goodIn_app (goodIn_of _ (by decide +kernel)) ggX4_ring_J6_bitCount_0f7a4
set_option maxRecDepth 20000 in
theorem ggX4_rings_X4_within : GoodIn wsX4_rings wsX4_within := goodIn_r _ [6] (by decide +kernel) (by decide +kernel)
set_option maxRecDepth 20000 in
theorem gX4_rings_X4_within : GoodIn wsX4_rings (va_wsS RX4 62 yX4_within wsX4_within) := goodIn_app (goodIn_of _ (by decide +kernel)) ggX4_rings_X4_within
set_option maxRecDepth 20000 in
theorem ggX4_rings_X4_no : GoodIn wsX4_rings wsX4_no := goodIn_r _ [10, 11, 84, 85, 86, 87, 88, 89, 90, 91, 92, 93, 94, 95, 96, 97, 98, 99, 100, 101, 102, 103, 104, 105, 106, 107, 108, 109, 110] (by decide +kernel) (by decide +kernel)
set_option maxRecDepth 20000 in
theorem gX4_rings_X4_no : GoodIn wsX4_rings (wsV RX4 69 RX4 yX4_no wsX4_no) := goodIn_app (goodIn_of _ (by decide +kernel)) ggX4_rings_X4_no
set_option maxRecDepth 20000 in
theorem ggX4_rings_X4_weights : GoodIn wsX4_rings wsX4_weights := goodIn_r _ [15, 16, 17, 18, 19, 5, 20, 84, 85, 86, 87, 88, 89, 90, 91, 92, 93, 94, 95, 96, 97, 98, 99, 100, 101, 102, 103, 104, 105, 106, 107, 108, 109, 110] (by decide +kernel) (by decide +kernel)
set_option maxRecDepth 20000 in
theorem gX4_rings_X4_weights : GoodIn wsX4_rings (wsV RX4 199 RX4 yX4_weights wsX4_weights) := goodIn_app (goodIn_of _ (by decide +kernel)) ggX4_rings_X4_weights
set_option maxRecDepth 20000 in
theorem ggX4_rings_X4_ring : GoodIn wsX4_rings wsX4_ring := goodIn_r _ [24, 1, 17, 25, 26, 2, 27, 12, 13, 14, 5, 15, 16, 18, 19, 20, 7, 8, 9, 10, 11, 28, 29, 30, 31, 32, 33, 34, 35, 36, 37, 38, 39, 40, 41, 42, 43, 44, 45, 46, 47, 48, 49, 50, 51, 52, 53, 54, 55, 56, 57, 58, 59, 60, 61, 62, 63, 64, 65, 66, 67, 68, 69, 70, 71, 72, 73, 74, 75, 76, 77, 78, 79, 80, 81, 82, 83, 84, 85, 86, 87, 88, 89, 90, 91, 92, 93, 94, 95, 96, 97, 98, 99, 100, 101, 102, 103, 104, 105, 106, 107, 108, 109, 110] (by decide +kernel) (by decide +kernel)
set_option maxRecDepth 20000 in
theorem gX4_rings_X4_ring : GoodIn wsX4_rings (wsV RX4 271 RX4 yX4_ring wsX4_ring) := goodIn_app (goodIn_of _ (by decide +kernel)) ggX4_rings_X4_ring
set_option maxRecDepth 20000 in
theorem ggX4_learn_X4_isOne : GoodIn wsX4_learn wsX4_isOne := goodIn_r _ [6, 7, 8, 9, 5, 10, 16, 17, 18, 19, 20, 21, 22, 23, 24, 25, 26, 27, 28, 29, 30, 31, 32, 33, 34, 35, 36, 37, 38, 39, 40, 41, 42] (by decide +kernel) (by decide +kernel)
set_option maxRecDepth 20000 in
theorem gX4_learn_X4_isOne : GoodIn wsX4_learn (wsV RX4 80 RX4 yX4_isOne wsX4_isOne) := goodIn_app (goodIn_of _ (by decide +kernel)) ggX4_learn_X4_isOne
set_option maxRecDepth 20000 in
theorem ggX4_learn_X4_within : GoodIn wsX4_learn wsX4_within := goodIn_r _ [10] (by decide +kernel) (by decide +kernel)
set_option maxRecDepth 20000 in
theorem gX4_learn_X4_within : GoodIn wsX4_learn (va_wsS RX4 62 yX4_within wsX4_within) := goodIn_app (goodIn_of _ (by decide +kernel)) ggX4_learn_X4_within
set_option maxRecDepth 20000 in
theorem ggX4_learn_X4_no : GoodIn wsX4_learn wsX4_no := goodIn_r _ [14, 15, 16, 17, 18, 19, 20, 21, 22, 23, 24, 25, 26, 27, 28, 29, 30, 31, 32, 33, 34, 35, 36, 37, 38, 39, 40, 41, 42] (by decide +kernel) (by decide +kernel)
set_option maxRecDepth 20000 in
theorem gX4_learn_X4_no : GoodIn wsX4_learn (wsV RX4 69 RX4 yX4_no wsX4_no) := goodIn_app (goodIn_of _ (by decide +kernel)) ggX4_learn_X4_no
set_option maxRecDepth 20000 in
theorem ggX4_image_X4_keep : GoodIn wsX4_image wsX4_keep := goodIn_r _ [7, 8, 9, 10, 11, 12, 13, 14, 15, 16, 17, 18, 19, 20, 21, 22, 23, 24, 25, 26, 27, 28, 29, 30, 31, 32, 33, 34, 35, 36, 37, 38, 39, 40, 41, 42, 43, 44, 45] (by decide +kernel) (by decide +kernel)
set_option maxRecDepth 20000 in
theorem gX4_image_X4_keep : GoodIn wsX4_image (wsV RX4 174 RX4 yX4_keep wsX4_keep) := goodIn_app (goodIn_of _ (by decide +kernel)) ggX4_image_X4_keep
set_option maxRecDepth 20000 in
theorem ggX4_back_X4_no : GoodIn wsX4_back wsX4_no := goodIn_r _ [9, 10, 25, 26, 27, 28, 29, 30, 31, 32, 33, 34, 35, 36, 37, 38, 39, 40, 41, 42, 43, 44, 45, 46, 47, 48, 49, 50, 51] (by decide +kernel) (by decide +kernel)
set_option maxRecDepth 20000 in
theorem gX4_back_X4_no : GoodIn wsX4_back (wsV RX4 69 RX4 yX4_no wsX4_no) := goodIn_app (goodIn_of _ (by decide +kernel)) ggX4_back_X4_no
set_option maxRecDepth 20000 in
theorem ggX4_back_X4_again : GoodIn wsX4_back wsX4_again := goodIn_r _ [14, 15, 16, 17, 18, 19, 4, 20, 21, 22, 23, 24, 25, 26, 27, 28, 29, 30, 31, 32, 33, 34, 35, 36, 37, 38, 39, 40, 41, 42, 43, 44, 45, 46, 47, 48, 49, 50, 51] (by decide +kernel) (by decide +kernel)
set_option maxRecDepth 20000 in
theorem gX4_back_X4_again : GoodIn wsX4_back (wsV RX4 182 RX4 yX4_again wsX4_again) := goodIn_app (goodIn_of _ (by decide +kernel)) ggX4_back_X4_again
set_option maxRecDepth 20000 in
theorem ggX4_status_X4_weights : GoodIn wsX4_status wsX4_weights := goodIn_r _ [16, 1, 17, 18, 19, 15, 20, 71, 72, 73, 74, 75, 76, 77, 78, 79, 80, 81, 82, 83, 84, 85, 86, 87, 88, 89, 90, 91, 92, 93, 94, 95, 96, 97] (by decide +kernel) (by decide +kernel)
set_option maxRecDepth 20000 in
theorem gX4_status_X4_weights : GoodIn wsX4_status (wsV RX4 199 RX4 yX4_weights wsX4_weights) := goodIn_app (goodIn_of _ (by decide +kernel)) ggX4_status_X4_weights
set_option maxRecDepth 20000 in
theorem ggX4_status_X4_bySurprise : GoodIn wsX4_status wsX4_bySurprise := goodIn_r _ [24, 1, 4, 18, 19, 15, 20, 25, 26, 27, 28, 2, 29, 30, 31, 32, 33, 34, 17, 35, 36, 37, 38, 39, 12, 13, 14, 16, 40, 41, 42, 43, 44, 45, 46, 47, 3, 48, 49, 50, 51, 52, 53, 54, 55, 56, 57, 58, 59, 60, 61, 62, 63, 64, 65, 66, 67, 71, 72, 73, 74, 75, 76, 77, 78, 79, 80, 81, 82, 83, 84, 85, 86, 87, 88, 89, 90, 91, 92, 93, 94, 95, 96, 97] (by decide +kernel) (by decide +kernel)
set_option maxRecDepth 20000 in
theorem gX4_status_X4_bySurprise : GoodIn wsX4_status (wsV RX4 217 RX4 yX4_bySurprise wsX4_bySurprise) := goodIn_app (goodIn_of _ (by decide +kernel)) ggX4_status_X4_bySurprise
set_option maxRecDepth 20000 in
theorem ggX4_status_X4_within : GoodIn wsX4_status wsX4_within := goodIn_r _ [70] (by decide +kernel) (by decide +kernel)
set_option maxRecDepth 20000 in
theorem gX4_status_X4_within : GoodIn wsX4_status (va_wsS RX4 62 yX4_within wsX4_within) := goodIn_app (goodIn_of _ (by decide +kernel)) ggX4_status_X4_within
set_option maxRecDepth 20000 in
theorem ggJ6_highestOneBit_0f7a4_J6_numberOfLeadingZeros_0f7a4 : GoodIn wsJ6_highestOneBit_0f7a4 wsJ6_numberOfLeadingZeros_0f7a4 := goodIn_r _ [5, 6] (by decide +kernel) (by decide +kernel)
set_option maxRecDepth 20000 in
theorem gJ6_highestOneBit_0f7a4_J6_numberOfLeadingZeros_0f7a4 : GoodIn wsJ6_highestOneBit_0f7a4 (va_wsS RJ6 51 yJ6_numberOfLeadingZeros_0f7a4 wsJ6_numberOfLeadingZeros_0f7a4) := goodIn_app (goodIn_of _ (by decide +kernel)) ggJ6_highestOneBit_0f7a4_J6_numberOfLeadingZeros_0f7a4
set_option maxRecDepth 20000 in
theorem ggJ0_length_8abf5_J0_coder_7d493 : GoodIn wsJ0_length_8abf5 wsJ0_coder_7d493 := goodIn_r _ [6, 7, 8] (by decide +kernel) (by decide +kernel)
set_option maxRecDepth 20000 in
theorem gJ0_length_8abf5_J0_coder_7d493 : GoodIn wsJ0_length_8abf5 (wsV RJ0 335 RJ0 yJ0_coder_7d493 wsJ0_coder_7d493) := goodIn_app (goodIn_of _ (by decide +kernel)) ggJ0_length_8abf5_J0_coder_7d493
set_option maxRecDepth 20000 in
theorem ggJ0_charAt_5068e_J0_isLatin1_aae02 : GoodIn wsJ0_charAt_5068e wsJ0_isLatin1_aae02 := goodIn_r _ [6, 7, 8] (by decide +kernel) (by decide +kernel)
set_option maxRecDepth 20000 in
theorem gJ0_charAt_5068e_J0_isLatin1_aae02 : GoodIn wsJ0_charAt_5068e (wsV RJ0 492 RJ0 yJ0_isLatin1_aae02 wsJ0_isLatin1_aae02) := goodIn_app (goodIn_of _ (by decide +kernel)) ggJ0_charAt_5068e_J0_isLatin1_aae02
set_option maxRecDepth 20000 in
theorem ggJ0_charAt_5068e_J1_charAt_3b067 : GoodIn wsJ0_charAt_5068e wsJ1_charAt_3b067 := goodIn_r _ [12, 13, 14, 5, 15, 16, 17, 18, 19, 20] (by decide +kernel) (by decide +kernel)
set_option maxRecDepth 20000 in
theorem gJ0_charAt_5068e_J1_charAt_3b067 : GoodIn wsJ0_charAt_5068e (va_wsS RJ0 495 yJ1_charAt_3b067 wsJ1_charAt_3b067) := goodIn_app (goodIn_of _ (by decide +kernel)) ggJ0_charAt_5068e_J1_charAt_3b067
set_option maxRecDepth 20000 in
theorem ggJ0_charAt_5068e_J2_charAt_3b067 : GoodIn wsJ0_charAt_5068e wsJ2_charAt_3b067 := goodIn_r _ [24, 25, 26, 23, 27, 28, 29, 30, 31, 14, 5, 15, 16, 17, 18, 19, 20, 32, 33, 34, 35, 36, 37] (by decide +kernel) (by decide +kernel)
set_option maxRecDepth 20000 in
theorem gJ0_charAt_5068e_J2_charAt_3b067 : GoodIn wsJ0_charAt_5068e (va_wsS RJ0 498 yJ2_charAt_3b067 wsJ2_charAt_3b067) := goodIn_app (goodIn_of _ (by decide +kernel)) ggJ0_charAt_5068e_J2_charAt_3b067
set_option maxRecDepth 20000 in
theorem ggJ0_checkIndex_df160_J3_checkIndex_8e157 : GoodIn wsJ0_checkIndex_df160 wsJ3_checkIndex_8e157 := goodIn_r _ [5] (by decide +kernel) (by decide +kernel)
set_option maxRecDepth 20000 in
theorem gJ0_checkIndex_df160_J3_checkIndex_8e157 : GoodIn wsJ0_checkIndex_df160 (va_wsS RJ0 1059 yJ3_checkIndex_8e157 wsJ3_checkIndex_8e157) := goodIn_app (goodIn_of _ (by decide +kernel)) ggJ0_checkIndex_df160_J3_checkIndex_8e157
set_option maxRecDepth 20000 in
theorem ggJ1_charAt_3b067_J0_checkIndex_df160 : GoodIn wsJ1_charAt_3b067 wsJ0_checkIndex_df160 := goodIn_r _ [4, 5, 6, 7, 8, 9] (by decide +kernel) (by decide +kernel)
set_option maxRecDepth 20000 in
theorem gJ1_charAt_3b067_J0_checkIndex_df160 : GoodIn wsJ1_charAt_3b067 (va_wsS RJ1 9 yJ0_checkIndex_df160 wsJ0_checkIndex_df160) := goodIn_app (goodIn_of _ (by decide +kernel)) ggJ1_charAt_3b067_J0_checkIndex_df160
set_option maxRecDepth 20000 in
theorem ggJ2_getChar_3b067_J2_length_9d52b : GoodIn wsJ2_getChar_3b067 wsJ2_length_9d52b := goodIn_r _ [7] (by decide +kernel) (by decide +kernel)
set_option maxRecDepth 20000 in
theorem gJ2_getChar_3b067_J2_length_9d52b : GoodIn wsJ2_getChar_3b067 (va_wsS RJ2 48 yJ2_length_9d52b wsJ2_length_9d52b) := goodIn_app (goodIn_of _ (by decide +kernel)) ggJ2_getChar_3b067_J2_length_9d52b
set_option maxRecDepth 20000 in
theorem ggJ2_charAt_3b067_J2_checkIndex_2214a : GoodIn wsJ2_charAt_3b067 wsJ2_checkIndex_2214a := goodIn_r _ [4, 5, 6, 3, 7, 8, 9, 10, 11, 12, 13, 14, 15, 16] (by decide +kernel) (by decide +kernel)
set_option maxRecDepth 20000 in
theorem gJ2_charAt_3b067_J2_checkIndex_2214a : GoodIn wsJ2_charAt_3b067 (va_wsS RJ2 67 yJ2_checkIndex_2214a wsJ2_checkIndex_2214a) := goodIn_app (goodIn_of _ (by decide +kernel)) ggJ2_charAt_3b067_J2_checkIndex_2214a
set_option maxRecDepth 20000 in
theorem ggJ2_charAt_3b067_J2_getChar_3b067 : GoodIn wsJ2_charAt_3b067 wsJ2_getChar_3b067 := goodIn_r _ [19, 20, 21, 22, 5, 6, 3, 7] (by decide +kernel) (by decide +kernel)
set_option maxRecDepth 20000 in
theorem gJ2_charAt_3b067_J2_getChar_3b067 : GoodIn wsJ2_charAt_3b067 (va_wsS RJ2 71 yJ2_getChar_3b067 wsJ2_getChar_3b067) := goodIn_app (goodIn_of _ (by decide +kernel)) ggJ2_charAt_3b067_J2_getChar_3b067
set_option maxRecDepth 20000 in
theorem ggJ2_checkIndex_2214a_J2_length_9d52b : GoodIn wsJ2_checkIndex_2214a wsJ2_length_9d52b := goodIn_r _ [4] (by decide +kernel) (by decide +kernel)
set_option maxRecDepth 20000 in
theorem gJ2_checkIndex_2214a_J2_length_9d52b : GoodIn wsJ2_checkIndex_2214a (va_wsS RJ2 48 yJ2_length_9d52b wsJ2_length_9d52b) := goodIn_app (goodIn_of _ (by decide +kernel)) ggJ2_checkIndex_2214a_J2_length_9d52b
set_option maxRecDepth 20000 in
theorem ggJ2_checkIndex_2214a_J0_checkIndex_df160 : GoodIn wsJ2_checkIndex_2214a wsJ0_checkIndex_df160 := goodIn_r _ [8, 9, 10, 11, 12, 13] (by decide +kernel) (by decide +kernel)
set_option maxRecDepth 20000 in
theorem gJ2_checkIndex_2214a_J0_checkIndex_df160 : GoodIn wsJ2_checkIndex_2214a (va_wsS RJ2 414 yJ0_checkIndex_df160 wsJ0_checkIndex_df160) := goodIn_app (goodIn_of _ (by decide +kernel)) ggJ2_checkIndex_2214a_J0_checkIndex_df160
