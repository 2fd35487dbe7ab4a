/-! 05.m5.bell -/
theorem f_X3_personOf_10 : FL wsX3_personOf RX3 10 3 0 := ⟨RX3, TX3, 8, rfl, fun _ h => List.mem_cons_of_mem _ (List.mem_append_left _ (List.mem_append_right _ h)), by decide, List.mem_of_getElem? (i := 1) (by decide +kernel)⟩
theorem f_X3_personOf_107 : FL wsX3_personOf RX3 107 0 5 := ⟨RX0, TX0, 11, rfl, fun _ h => List.mem_cons_of_mem _ (List.mem_append_right _ h), by decide, List.mem_of_getElem? (i := 2) (by decide +kernel)⟩
theorem f_X3_personOf_153 : FL wsX3_personOf RX3 153 0 6 := ⟨RX0, TX0, 11, rfl, fun _ h => List.mem_cons_of_mem _ (List.mem_append_right _ h), by decide, List.mem_of_getElem? (i := 3) (by decide +kernel)⟩
theorem f_X3_morningOf_10 : FL wsX3_morningOf RX3 10 3 0 := ⟨RX3, TX3, 8, rfl, fun _ h => List.mem_cons_of_mem _ (List.mem_append_left _ (List.mem_append_right _ h)), by decide, List.mem_of_getElem? (i := 1) (by decide +kernel)⟩
theorem f_X3_morningOf_138 : FL wsX3_morningOf RX3 138 0 2 := ⟨RX0, TX0, 11, rfl, fun _ h => List.mem_cons_of_mem _ (List.mem_append_right _ h), by decide, List.mem_of_getElem? (i := 2) (by decide +kernel)⟩
theorem f_X3_can_10 : FL wsX3_can RX3 10 3 0 := ⟨RX3, TX3, 8, rfl, fun _ h => List.mem_cons_of_mem _ (List.mem_append_left _ (List.mem_append_right _ h)), by decide, List.mem_of_getElem? (i := 1) (by decide +kernel)⟩
theorem cal_X0_canThink : Cal yX0_canThink wsX0_canThink cX0_canThink 3 (some .int) RX0 2 := ⟨⟨_, rfl⟩, by decide +kernel⟩
theorem f_X3_expects_10 : FL wsX3_expects RX3 10 3 0 := ⟨RX3, TX3, 8, rfl, fun _ h => List.mem_cons_of_mem _ (List.mem_append_left _ (List.mem_append_right _ h)), by decide, List.mem_of_getElem? (i := 1) (by decide +kernel)⟩
theorem f_X3_who_10 : FL wsX3_who RX3 10 3 0 := ⟨RX3, TX3, 8, rfl, fun _ h => List.mem_cons_of_mem _ (List.mem_append_left _ (List.mem_append_right _ h)), by decide, List.mem_of_getElem? (i := 1) (by decide +kernel)⟩
theorem f_X3_first_10 : FL wsX3_first RX3 10 3 0 := ⟨RX3, TX3, 8, rfl, fun _ h => List.mem_cons_of_mem _ (List.mem_append_left _ (List.mem_append_right _ h)), by decide, List.mem_of_getElem? (i := 1) (by decide +kernel)⟩
theorem cal_X3_firstOf : Cal yX3_firstOf wsX3_firstOf cX3_firstOf 2 (some .int) RX3 1 := ⟨⟨_, rfl⟩, by decide +kernel⟩
theorem f_X3_lasts_10 : FL wsX3_lasts RX3 10 3 0 := ⟨RX3, TX3, 8, rfl, fun _ h => List.mem_cons_of_mem _ (List.mem_append_left _ (List.mem_append_right _ h)), by decide, List.mem_of_getElem? (i := 1) (by decide +kernel)⟩
theorem f_X3_ends_10 : FL wsX3_ends RX3 10 3 0 := ⟨RX3, TX3, 8, rfl, fun _ h => List.mem_cons_of_mem _ (List.mem_append_left _ (List.mem_append_right _ h)), by decide, List.mem_of_getElem? (i := 1) (by decide +kernel)⟩
theorem f_X3_ends_135 : FL wsX3_ends RX3 135 0 1 := ⟨RX0, TX0, 11, rfl, fun _ h => List.mem_cons_of_mem _ (List.mem_append_right _ h), by decide, List.mem_of_getElem? (i := 2) (by decide +kernel)⟩
theorem f_X3_agree_10 : FL wsX3_agree RX3 10 3 0 := ⟨RX3, TX3, 8, rfl, fun _ h => List.mem_cons_of_mem _ (List.mem_append_left _ (List.mem_append_right _ h)), by decide, List.mem_of_getElem? (i := 1) (by decide +kernel)⟩
theorem f_X3_agree_123 : FL wsX3_agree RX3 123 0 4 := ⟨RX0, TX0, 11, rfl, fun _ h => List.mem_cons_of_mem _ (List.mem_append_right _ h), by decide, List.mem_of_getElem? (i := 2) (by decide +kernel)⟩
theorem f_X3_foresees_10 : FL wsX3_foresees RX3 10 3 0 := ⟨RX3, TX3, 8, rfl, fun _ h => List.mem_cons_of_mem _ (List.mem_append_left _ (List.mem_append_right _ h)), by decide, List.mem_of_getElem? (i := 1) (by decide +kernel)⟩
theorem cal_X0_canForesee : Cal yX0_canForesee wsX0_canForesee cX0_canForesee 3 (some .boolean) RX0 2 := ⟨⟨_, rfl⟩, by decide +kernel⟩
theorem f_X3_foreseen_10 : FL wsX3_foreseen RX3 10 3 0 := ⟨RX3, TX3, 8, rfl, fun _ h => List.mem_cons_of_mem _ (List.mem_append_left _ (List.mem_append_right _ h)), by decide, List.mem_of_getElem? (i := 1) (by decide +kernel)⟩
theorem f_X3_foreseen_123 : FL wsX3_foreseen RX3 123 0 4 := ⟨RX0, TX0, 11, rfl, fun _ h => List.mem_cons_of_mem _ (List.mem_append_right _ h), by decide, List.mem_of_getElem? (i := 2) (by decide +kernel)⟩
theorem f_X3_deepest_10 : FL wsX3_deepest RX3 10 3 0 := ⟨RX3, TX3, 8, rfl, fun _ h => List.mem_cons_of_mem _ (List.mem_append_left _ (List.mem_append_right _ h)), by decide, List.mem_of_getElem? (i := 1) (by decide +kernel)⟩
theorem f_X3_deepest_123 : FL wsX3_deepest RX3 123 0 4 := ⟨RX0, TX0, 11, rfl, fun _ h => List.mem_cons_of_mem _ (List.mem_append_right _ h), by decide, List.mem_of_getElem? (i := 2) (by decide +kernel)⟩
theorem f_X3_asleep_10 : FL wsX3_asleep RX3 10 3 0 := ⟨RX3, TX3, 8, rfl, fun _ h => List.mem_cons_of_mem _ (List.mem_append_left _ (List.mem_append_right _ h)), by decide, List.mem_of_getElem? (i := 1) (by decide +kernel)⟩
theorem f_X3_asleep_123 : FL wsX3_asleep RX3 123 0 4 := ⟨RX0, TX0, 11, rfl, fun _ h => List.mem_cons_of_mem _ (List.mem_append_right _ h), by decide, List.mem_of_getElem? (i := 2) (by decide +kernel)⟩
theorem f_X3_surprises_10 : FL wsX3_surprises RX3 10 3 0 := ⟨RX3, TX3, 8, rfl, fun _ h => List.mem_cons_of_mem _ (List.mem_append_left _ (List.mem_append_right _ h)), by decide, List.mem_of_getElem? (i := 1) (by decide +kernel)⟩
theorem cal_X0_bySurprise : Cal yX0_bySurprise wsX0_bySurprise cX0_bySurprise 1 (some .int) RX0 0 := ⟨⟨_, rfl⟩, by decide +kernel⟩
theorem f_X3_longest_10 : FL wsX3_longest RX3 10 3 0 := ⟨RX3, TX3, 8, rfl, fun _ h => List.mem_cons_of_mem _ (List.mem_append_left _ (List.mem_append_right _ h)), by decide, List.mem_of_getElem? (i := 1) (by decide +kernel)⟩
theorem f_X3_longest_117 : FL wsX3_longest RX3 117 0 0 := ⟨RX0, TX0, 11, rfl, fun _ h => List.mem_cons_of_mem _ (List.mem_append_right _ h), by decide, List.mem_of_getElem? (i := 2) (by decide +kernel)⟩
theorem f_X3_odds_10 : FL wsX3_odds RX3 10 3 0 := ⟨RX3, TX3, 8, rfl, fun _ h => List.mem_cons_of_mem _ (List.mem_append_left _ (List.mem_append_right _ h)), by decide, List.mem_of_getElem? (i := 1) (by decide +kernel)⟩
theorem cal_X0_oddsOn : Cal yX0_oddsOn wsX0_oddsOn cX0_oddsOn 2 (some .int) RX0 1 := ⟨⟨_, rfl⟩, by decide +kernel⟩
theorem f_X3_likeliest_10 : FL wsX3_likeliest RX3 10 3 0 := ⟨RX3, TX3, 8, rfl, fun _ h => List.mem_cons_of_mem _ (List.mem_append_left _ (List.mem_append_right _ h)), by decide, List.mem_of_getElem? (i := 1) (by decide +kernel)⟩
theorem f_X3_likeliest_117 : FL wsX3_likeliest RX3 117 0 0 := ⟨RX0, TX0, 11, rfl, fun _ h => List.mem_cons_of_mem _ (List.mem_append_right _ h), by decide, List.mem_of_getElem? (i := 2) (by decide +kernel)⟩
theorem f_X3_caught_10 : FL wsX3_caught RX3 10 3 0 := ⟨RX3, TX3, 8, rfl, fun _ h => List.mem_cons_of_mem _ (List.mem_append_left _ (List.mem_append_right _ h)), by decide, List.mem_of_getElem? (i := 1) (by decide +kernel)⟩
theorem f_X3_caught_135 : FL wsX3_caught RX3 135 0 1 := ⟨RX0, TX0, 11, rfl, fun _ h => List.mem_cons_of_mem _ (List.mem_append_right _ h), by decide, List.mem_of_getElem? (i := 2) (by decide +kernel)⟩
theorem f_X3_by_10 : FL wsX3_by RX3 10 3 0 := ⟨RX3, TX3, 8, rfl, fun _ h => List.mem_cons_of_mem _ (List.mem_append_left _ (List.mem_append_right _ h)), by decide, List.mem_of_getElem? (i := 1) (by decide +kernel)⟩
theorem f_X3_by_135 : FL wsX3_by RX3 135 0 1 := ⟨RX0, TX0, 11, rfl, fun _ h => List.mem_cons_of_mem _ (List.mem_append_right _ h), by decide, List.mem_of_getElem? (i := 2) (by decide +kernel)⟩
theorem f_X3_mean_10 : FL wsX3_mean RX3 10 3 0 := ⟨RX3, TX3, 8, rfl, fun _ h => List.mem_cons_of_mem _ (List.mem_append_left _ (List.mem_append_right _ h)), by decide, List.mem_of_getElem? (i := 1) (by decide +kernel)⟩
theorem f_X3_mean_135 : FL wsX3_mean RX3 135 0 1 := ⟨RX0, TX0, 11, rfl, fun _ h => List.mem_cons_of_mem _ (List.mem_append_right _ h), by decide, List.mem_of_getElem? (i := 2) (by decide +kernel)⟩
theorem f_X3_mean_117 : FL wsX3_mean RX3 117 0 0 := ⟨RX0, TX0, 11, rfl, fun _ h => List.mem_cons_of_mem _ (List.mem_append_right _ h), by decide, List.mem_of_getElem? (i := 3) (by decide +kernel)⟩
theorem f_X3_gain_10 : FL wsX3_gain RX3 10 3 0 := ⟨RX3, TX3, 8, rfl, fun _ h => List.mem_cons_of_mem _ (List.mem_append_left _ (List.mem_append_right _ h)), by decide, List.mem_of_getElem? (i := 1) (by decide +kernel)⟩
theorem cal_X3_refuseFarBelow : Cal yX3_refuseFarBelow wsX3_refuseFarBelow cX3_refuseFarBelow 2 (some .int) RX3 1 := ⟨⟨_, rfl⟩, by decide +kernel⟩
theorem cal_X3_isCoin : Cal yX3_isCoin wsX3_isCoin cX3_isCoin 1 (some .boolean) RX3 1 := ⟨⟨_, rfl⟩, by decide +kernel⟩
theorem cal_X3_wagered : Cal yX3_wagered wsX3_wagered cX3_wagered 3 (some .int) RX3 3 := ⟨⟨_, rfl⟩, by decide +kernel⟩
theorem f_X3_isNoLoss_10 : FL wsX3_isNoLoss RX3 10 3 0 := ⟨RX3, TX3, 8, rfl, fun _ h => List.mem_cons_of_mem _ (List.mem_append_left _ (List.mem_append_right _ h)), by decide, List.mem_of_getElem? (i := 1) (by decide +kernel)⟩
theorem f_X3_bet_10 : FL wsX3_bet RX3 10 3 0 := ⟨RX3, TX3, 8, rfl, fun _ h => List.mem_cons_of_mem _ (List.mem_append_left _ (List.mem_append_right _ h)), by decide, List.mem_of_getElem? (i := 1) (by decide +kernel)⟩
theorem f_X3_bet_117 : FL wsX3_bet RX3 117 0 0 := ⟨RX0, TX0, 11, rfl, fun _ h => List.mem_cons_of_mem _ (List.mem_append_right _ h), by decide, List.mem_of_getElem? (i := 2) (by decide +kernel)⟩
theorem cal_X3_isNoLoss : Cal yX3_isNoLoss wsX3_isNoLoss cX3_isNoLoss 4 (some .boolean) RX3 2 := ⟨⟨_, rfl⟩, by decide +kernel⟩
theorem f_X3_fair_10 : FL wsX3_fair RX3 10 3 0 := ⟨RX3, TX3, 8, rfl, fun _ h => List.mem_cons_of_mem _ (List.mem_append_left _ (List.mem_append_right _ h)), by decide, List.mem_of_getElem? (i := 1) (by decide +kernel)⟩
theorem f_X3_second_10 : FL wsX3_second RX3 10 3 0 := ⟨RX3, TX3, 8, rfl, fun _ h => List.mem_cons_of_mem _ (List.mem_append_left _ (List.mem_append_right _ h)), by decide, List.mem_of_getElem? (i := 1) (by decide +kernel)⟩
theorem f_X3_second_117 : FL wsX3_second RX3 117 0 0 := ⟨RX0, TX0, 11, rfl, fun _ h => List.mem_cons_of_mem _ (List.mem_append_right _ h), by decide, List.mem_of_getElem? (i := 2) (by decide +kernel)⟩
theorem f_X3_fullShelves_31 : FL wsX3_fullShelves RX3 31 3 5 := ⟨RX3, TX3, 8, rfl, fun _ h => List.mem_cons_of_mem _ (List.mem_append_left _ (List.mem_append_right _ h)), by decide, List.mem_of_getElem? (i := 1) (by decide +kernel)⟩
theorem f_X3_fullShelves_76 : FL wsX3_fullShelves RX3 76 1 0 := ⟨RX1, TX1, 3, rfl, fun _ h => List.mem_cons_of_mem _ (List.mem_append_right _ h), by decide, List.mem_of_getElem? (i := 2) (by decide +kernel)⟩
theorem f_X3_status_10 : FL wsX3_status RX3 10 3 0 := ⟨RX3, TX3, 8, rfl, fun _ h => List.mem_cons_of_mem _ (List.mem_append_left _ (List.mem_append_left _ (List.mem_append_left _ (List.mem_append_right _ h)))), by decide, List.mem_of_getElem? (i := 1) (by decide +kernel)⟩
theorem f_X3_status_117 : FL wsX3_status RX3 117 0 0 := ⟨RX0, TX0, 11, rfl, fun _ h => List.mem_cons_of_mem _ (List.mem_append_left _ (List.mem_append_left _ (List.mem_append_right _ h))), by decide, List.mem_of_getElem? (i := 2) (by decide +kernel)⟩
theorem f_X3_status_123 : FL wsX3_status RX3 123 0 4 := ⟨RX0, TX0, 11, rfl, fun _ h => List.mem_cons_of_mem _ (List.mem_append_left _ (List.mem_append_left _ (List.mem_append_right _ h))), by decide, List.mem_of_getElem? (i := 3) (by decide +kernel)⟩
theorem f_X3_status_141 : FL wsX3_status RX3 141 0 3 := ⟨RX0, TX0, 11, rfl, fun _ h => List.mem_cons_of_mem _ (List.mem_append_left _ (List.mem_append_left _ (List.mem_append_right _ h))), by decide, List.mem_of_getElem? (i := 4) (by decide +kernel)⟩
theorem f_X3_status_135 : FL wsX3_status RX3 135 0 1 := ⟨RX0, TX0, 11, rfl, fun _ h => List.mem_cons_of_mem _ (List.mem_append_left _ (List.mem_append_left _ (List.mem_append_right _ h))), by decide, List.mem_of_getElem? (i := 5) (by decide +kernel)⟩
theorem f_X3_status_290 : FL wsX3_status RX3 290 0 8 := ⟨RX0, TX0, 11, rfl, fun _ h => List.mem_cons_of_mem _ (List.mem_append_left _ (List.mem_append_left _ (List.mem_append_right _ h))), by decide, List.mem_of_getElem? (i := 6) (by decide +kernel)⟩
theorem f_X3_status_293 : FL wsX3_status RX3 293 0 9 := ⟨RX0, TX0, 11, rfl, fun _ h => List.mem_cons_of_mem _ (List.mem_append_left _ (List.mem_append_left _ (List.mem_append_right _ h))), by decide, List.mem_of_getElem? (i := 7) (by decide +kernel)⟩
theorem f_X3_status_287 : FL wsX3_status RX3 287 0 10 := ⟨RX0, TX0, 11, rfl, fun _ h => List.mem_cons_of_mem _ (List.mem_append_left _ (List.mem_append_left _ (List.mem_append_right _ h))), by decide, List.mem_of_getElem? (i := 8) (by decide +kernel)⟩
theorem f_X3_status_25 : FL wsX3_status RX3 25 3 4 := ⟨RX3, TX3, 8, rfl, fun _ h => List.mem_cons_of_mem _ (List.mem_append_left _ (List.mem_append_left _ (List.mem_append_left _ (List.mem_append_right _ h)))), by decide, List.mem_of_getElem? (i := 9) (by decide +kernel)⟩
theorem f_X3_status_173 : FL wsX3_status RX3 173 2 1 := ⟨RX2, TX2, 5, rfl, fun _ h => List.mem_cons_of_mem _ (List.mem_append_left _ (List.mem_append_right _ h)), by decide, List.mem_of_getElem? (i := 10) (by decide +kernel)⟩
theorem f_X3_status_162 : FL wsX3_status RX3 162 0 7 := ⟨RX0, TX0, 11, rfl, fun _ h => List.mem_cons_of_mem _ (List.mem_append_left _ (List.mem_append_left _ (List.mem_append_right _ h))), by decide, List.mem_of_getElem? (i := 11) (by decide +kernel)⟩
theorem cal_X3_fullShelves : Cal yX3_fullShelves wsX3_fullShelves cX3_fullShelves 3 (some .int) RX3 0 := ⟨⟨_, rfl⟩, by decide +kernel⟩
theorem f_X3_status_35 : FL wsX3_status RX3 35 3 6 := ⟨RX3, TX3, 8, rfl, fun _ h => List.mem_cons_of_mem _ (List.mem_append_left _ (List.mem_append_left _ (List.mem_append_left _ (List.mem_append_right _ h)))), by decide, List.mem_of_getElem? (i := 12) (by decide +kernel)⟩
theorem f_X3_ring_10 : FL wsX3_ring RX3 10 3 0 := ⟨RX3, TX3, 8, rfl, fun _ h => List.mem_cons_of_mem _ (List.mem_append_left _ (List.mem_append_right _ h)), by decide, List.mem_of_getElem? (i := 1) (by decide +kernel)⟩
theorem f_X3_ring_135 : FL wsX3_ring RX3 135 0 1 := ⟨RX0, TX0, 11, rfl, fun _ h => List.mem_cons_of_mem _ (List.mem_append_right _ h), by decide, List.mem_of_getElem? (i := 2) (by decide +kernel)⟩
theorem cal_X0_goThroughTerm : Cal yX0_goThroughTerm wsX0_goThroughTerm cX0_goThroughTerm 3 (some .int) RX0 0 := ⟨⟨_, rfl⟩, by decide +kernel⟩
theorem f_X3_rings_10 : FL wsX3_rings RX3 10 3 0 := ⟨RX3, TX3, 8, rfl, fun _ h => List.mem_cons_of_mem _ (List.mem_append_left _ (List.mem_append_right _ h)), by decide, List.mem_of_getElem? (i := 1) (by decide +kernel)⟩
theorem f_X3_rings_135 : FL wsX3_rings RX3 135 0 1 := ⟨RX0, TX0, 11, rfl, fun _ h => List.mem_cons_of_mem _ (List.mem_append_right _ h), by decide, List.mem_of_getElem? (i := 2) (by decide +kernel)⟩
theorem f_X3_rings_287 : FL wsX3_rings RX3 287 0 10 := ⟨RX0, TX0, 11, rfl, fun _ h => List.mem_cons_of_mem _ (List.mem_append_right _ h), by decide, List.mem_of_getElem? (i := 3) (by decide +kernel)⟩
theorem k_sp_1000 : (Int16.ofInt (1000)).toInt32 = nI 1000 := by decide
theorem k_bp_12 : (Int8.ofInt (12)).toInt32 = nI 12 := by decide
set_option maxHeartbeats 4000000 in
set_option maxRecDepth 100000 in
theorem b_personOf (g : gT) (ad : Nat → Nat) (N : Sch) (K : Sch) (b : Bool) (z : Nat) (le : Nat → Nat) (rf : Nat → Int32) (hd : Nat → Int32) (ln : Nat → Nat) (vl : Nat → Nat → Int64) (T : Sch) (ts : Nat) (te : Nat) (tk : Nat) (br : Nat → Nat) (i : Int32) (w : Int32) (hN : sOk N) : Ct g yX3_personOf wsX3_personOf 5 109 [.ref (ad 0), .int i, .int w] (bxW g ad (N, K, b, z, le, rf, hd, ln, vl) (T, ts, te, tk, br)) (fun v9 w9 => v9 = (some (.int (x_personOf (N, K, b, z, le, rf, hd, ln, vl) i w).2)) ∧ ∃ J9, w9 = bxW g ad (x_personOf (N, K, b, z, le, rf, hd, ln, vl) i w).1 J9) := by
  refine Ct.start (cc := cX3_personOf) (nL := 3) (ret := (some .int)) (own := RX3) (by decide) rfl rfl rfl ?_
  intro Γ X E
  show Go Γ g 3 (rmC 5 109) 0 0 (bxW g ad (N, K, b, z, le, rf, hd, ln, vl) (T, ts, te, tk, br)) 0 [(0, .ref (ad 0)), (1, .int i), (2, .int w)] []
  obtain ⟨o1, o2, o3, o4, o5, o6, o7, o8⟩ := id hN
  have o9 := p2_9 o2
  have o10 := sA_512 hN
  refine Go.aload_n X 0 dX3_personOf_0 rfl ?_
  refine Go.get X f_X3_personOf_10 0 (v := .ref (ad 1)) rfl rfl dX3_personOf_1 ?_
  refine Go.iload_n X 1 dX3_personOf_4 rfl ?_
  refine Go.callVi X  (c_isSomebody g (ad 1) (ad 2) (ad 3) (ad 4) N i (by exact hN)) cal_X0_isSomebody [1, 2, 3, 4] rfl rfl gX3_personOf_X0_isSomebody (ci := 0) (q0 := 1) rfl rfl rfl rfl rfl dX3_personOf_5 ?_
  refine Go.if_neB X 18 dX3_personOf_8 (by decide) (fun h8 => ?_) (fun h8 => ?_)
  · --
    obtain ⟨ik, hik, rfl⟩ := inb_at (by first | omega | (split <;> omega)) h8
    refine Go.iload_n X 2 dX3_personOf_18 rfl ?_
    by_cases s19_0 : w = nI 0
    · --
      refine Go.top (congrArg Value.int s19_0) ?_
      refine Go.tableIn X 48 dX3_personOf_19 (by decide) (by decide) rfl (by decide) ?_
      refine Go.aload_n X 0 dX3_personOf_48 rfl ?_
      refine Go.get X f_X3_personOf_10 0 (v := .ref (ad 1)) rfl rfl dX3_personOf_49 ?_
      refine Go.get X f_X3_personOf_107 1 (v := .ref (ad 3)) rfl rfl dX3_personOf_52 ?_
      refine Go.iload_n X 1 dX3_personOf_55 rfl ?_
      refine Go.ialdN X 3 (w := sK N) rfl (by first | omega | (split <;> omega)) rfl dX3_personOf_56 ?_
      have e9 : x_personOf (N, K, b, z, le, rf, hd, ln, vl) (nI ik) w = ((N, K, b, z, le, rf, hd, ln, vl), (nI ((sK N) ik))) := by simp (decide := true) [x_personOf, rfS, upS_id, h8, s19_0, nI_clamp (show ik < 2 ^ 31 by omega)]
      exact Go.iret X E dX3_personOf_57 ⟨by rw [e9], _, by rw [e9]⟩ rfl
    by_cases s19_1 : w = nI 1
    · --
      refine Go.top (congrArg Value.int s19_1) ?_
      refine Go.tableIn X 58 dX3_personOf_19 (by decide) (by decide) rfl (by decide) ?_
      refine Go.aload_n X 0 dX3_personOf_58 rfl ?_
      refine Go.get X f_X3_personOf_10 0 (v := .ref (ad 1)) rfl rfl dX3_personOf_59 ?_
      refine Go.get X f_X3_personOf_153 1 (v := .ref (ad 4)) rfl rfl dX3_personOf_62 ?_
      refine Go.iload_n X 1 dX3_personOf_65 rfl ?_
      refine Go.ialdN X 4 (w := sO N) rfl (by first | omega | (split <;> omega)) rfl dX3_personOf_66 ?_
      have e9 : x_personOf (N, K, b, z, le, rf, hd, ln, vl) (nI ik) w = ((N, K, b, z, le, rf, hd, ln, vl), (nI ((sO N) ik))) := by simp (decide := true) [x_personOf, rfS, upS_id, h8, s19_1, s19_0, nI_clamp (show ik < 2 ^ 31 by omega)]
      exact Go.iret X E dX3_personOf_67 ⟨by rw [e9], _, by rw [e9]⟩ rfl
    by_cases s19_2 : w = nI 2
    · --
      refine Go.top (congrArg Value.int s19_2) ?_
      refine Go.tableIn X 68 dX3_personOf_19 (by decide) (by decide) rfl (by decide) ?_
      refine Go.aload_n X 0 dX3_personOf_68 rfl ?_
      refine Go.get X f_X3_personOf_10 0 (v := .ref (ad 1)) rfl rfl dX3_personOf_69 ?_
      refine Go.iload_n X 1 dX3_personOf_72 rfl ?_
      refine Go.callVi X  (c_depthOf g (ad 1) (ad 2) (ad 3) (ad 4) N ik (by exact hN) (by first | omega | (split <;> omega))) cal_X0_depthOf [1, 2, 3, 4] rfl rfl gX3_personOf_X0_depthOf (ci := 0) (q0 := 1) rfl rfl rfl rfl rfl dX3_personOf_73 ?_
      have f73_1 := dep_le hN 6 ik
      have e9 : x_personOf (N, K, b, z, le, rf, hd, ln, vl) (nI ik) w = ((N, K, b, z, le, rf, hd, ln, vl), (nI (dep N 6 ik))) := by simp (decide := true) [x_personOf, rfS, upS_id, h8, s19_2, s19_0, s19_1, nI_clamp (show ik < 2 ^ 31 by omega)]
      exact Go.iret X E dX3_personOf_76 ⟨by rw [e9], _, by rw [e9]⟩ rfl
    by_cases s19_3 : w = nI 3
    · --
      refine Go.top (congrArg Value.int s19_3) ?_
      refine Go.tableIn X 77 dX3_personOf_19 (by decide) (by decide) rfl (by decide) ?_
      refine Go.aload_n X 0 dX3_personOf_77 rfl ?_
      refine Go.get X f_X3_personOf_10 0 (v := .ref (ad 1)) rfl rfl dX3_personOf_78 ?_
      refine Go.iload_n X 1 dX3_personOf_81 rfl ?_
      refine Go.callVi X  (c_expectedBy g (ad 1) (ad 2) (ad 3) (ad 4) N ik (by exact hN) (by first | omega | (split <;> omega))) cal_X0_expectedBy [1, 2, 3, 4] rfl rfl gX3_personOf_X0_expectedBy (ci := 0) (q0 := 1) rfl rfl rfl rfl rfl dX3_personOf_82 ?_
      have f82_2 := expd_512 hN 6 ik
      have e9 : x_personOf (N, K, b, z, le, rf, hd, ln, vl) (nI ik) w = ((N, K, b, z, le, rf, hd, ln, vl), (nI (expd N 6 ik))) := by simp (decide := true) [x_personOf, rfS, upS_id, h8, s19_3, s19_0, s19_1, s19_2, nI_clamp (show ik < 2 ^ 31 by omega)]
      exact Go.iret X E dX3_personOf_85 ⟨by rw [e9], _, by rw [e9]⟩ rfl
    have t19_0 := ne_toInt (k := 0) s19_0 (by decide); have t19_1 := ne_toInt (k := 1) s19_1 (by decide); have t19_2 := ne_toInt (k := 2) s19_2 (by decide); have t19_3 := ne_toInt (k := 3) s19_3 (by decide)
    refine Go.tableOut X 86 dX3_personOf_19 (by omega) (by decide) ?_
    refine Go.aload_n X 0 dX3_personOf_86 rfl ?_
    refine Go.bipush X ((-2 : Int32)) dX3_personOf_87 k_bp_m2 ?_
    refine Go.callV0i X (c_refuse_0 g ad N K b z le rf hd ln vl T ts te tk br) cal_X3_refuse gX3_personOf_X3_refuse (ci := 3) (q0 := 0) rfl rfl rfl rfl rfl dX3_personOf_89 ?_
    have e9 : x_personOf (N, K, b, z, le, rf, hd, ln, vl) (nI ik) w = ((N, K, b, z, le, inc rf 0, hd, ln, vl), (-2)) := by simp (decide := true) [x_personOf, rfS, upS_id, h8, s19_0, s19_1, s19_2, s19_3, nI_clamp (show ik < 2 ^ 31 by omega)]
    exact Go.iret X E dX3_personOf_92 ⟨by rw [e9], _, by rw [e9]⟩ rfl
  · --
    refine Go.aload_n X 0 dX3_personOf_11 rfl ?_
    refine Go.bipush X ((-2 : Int32)) dX3_personOf_12 k_bp_m2 ?_
    refine Go.callV0i X (c_refuse_0 g ad N K b z le rf hd ln vl T ts te tk br) cal_X3_refuse gX3_personOf_X3_refuse (ci := 3) (q0 := 0) rfl rfl rfl rfl rfl dX3_personOf_14 ?_
    have e9 : x_personOf (N, K, b, z, le, rf, hd, ln, vl) i w = ((N, K, b, z, le, inc rf 0, hd, ln, vl), (-2)) := by simp (decide := true) [x_personOf, rfS, upS_id, h8]
    exact Go.iret X E dX3_personOf_17 ⟨by rw [e9], _, by rw [e9]⟩ rfl
set_option maxHeartbeats 4000000 in
set_option maxRecDepth 100000 in
theorem b_morningOf (g : gT) (ad : Nat → Nat) (N : Sch) (K : Sch) (b : Bool) (z : Nat) (le : Nat → Nat) (rf : Nat → Int32) (hd : Nat → Int32) (ln : Nat → Nat) (vl : Nat → Nat → Int64) (T : Sch) (ts : Nat) (te : Nat) (tk : Nat) (br : Nat → Nat) (m : Int32) (w : Int32) (hN : sOk N) : Ct g yX3_morningOf wsX3_morningOf 2 44 [.ref (ad 0), .int m, .int w] (bxW g ad (N, K, b, z, le, rf, hd, ln, vl) (T, ts, te, tk, br)) (fun v9 w9 => v9 = (some (.int (x_morningOf (N, K, b, z, le, rf, hd, ln, vl) m w).2)) ∧ ∃ J9, w9 = bxW g ad (x_morningOf (N, K, b, z, le, rf, hd, ln, vl) m w).1 J9) := by
  refine Ct.start (cc := cX3_morningOf) (nL := 3) (ret := (some .int)) (own := RX3) (by decide) rfl rfl rfl ?_
  intro Γ X E
  show Go Γ g 3 (rmC 2 44) 0 0 (bxW g ad (N, K, b, z, le, rf, hd, ln, vl) (T, ts, te, tk, br)) 0 [(0, .ref (ad 0)), (1, .int m), (2, .int w)] []
  obtain ⟨o1, o2, o3, o4, o5, o6, o7, o8⟩ := id hN
  have o9 := p2_9 o2
  have o10 := sA_512 hN
  refine Go.aload_n X 0 dX3_morningOf_0 rfl ?_
  refine Go.get X f_X3_morningOf_10 0 (v := .ref (ad 1)) rfl rfl dX3_morningOf_1 ?_
  refine Go.iload_n X 1 dX3_morningOf_4 rfl ?_
  refine Go.callVi X  (c_isMorning g (ad 1) (ad 2) (ad 3) (ad 4) N m (by exact hN)) cal_X0_isMorning [1, 2, 3, 4] rfl rfl gX3_morningOf_X0_isMorning (ci := 0) (q0 := 1) rfl rfl rfl rfl rfl dX3_morningOf_5 ?_
  refine Go.if_neB X 18 dX3_morningOf_8 (by decide) (fun h8 => ?_) (fun h8 => ?_)
  · --
    obtain ⟨mk, hmk, rfl⟩ := inb_at (by first | omega | (split <;> omega)) h8
    refine Go.iload_n X 2 dX3_morningOf_18 rfl ?_
    by_cases s19_0 : w = nI 0
    · --
      refine Go.top (congrArg Value.int s19_0) ?_
      refine Go.tableIn X 48 dX3_morningOf_19 (by decide) (by decide) rfl (by decide) ?_
      refine Go.aload_n X 0 dX3_morningOf_48 rfl ?_
      refine Go.get X f_X3_morningOf_10 0 (v := .ref (ad 1)) rfl rfl dX3_morningOf_49 ?_
      refine Go.iload_n X 1 dX3_morningOf_52 rfl ?_
      refine Go.callVi X  (c_isAllowed g (ad 1) (ad 2) (ad 3) (ad 4) N mk (by exact hN) (by first | omega | (split <;> omega))) cal_X0_isAllowed [1, 2, 3, 4] rfl rfl gX3_morningOf_X0_isAllowed (ci := 0) (q0 := 1) rfl rfl rfl rfl rfl dX3_morningOf_53 ?_
      refine Go.if_eqB X 63 dX3_morningOf_56 (by decide) (fun h56 => ?_) (fun h56 => ?_)
      · --
        refine Go.iconst X (nI 0) dX3_morningOf_63 k_ic_0 ?_
        have e9 : x_morningOf (N, K, b, z, le, rf, hd, ln, vl) (nI mk) w = ((N, K, b, z, le, rf, hd, ln, vl), (nI 0)) := by simp (decide := true) [x_morningOf, rfS, upS_id, h8, s19_0, h56, nI_clamp (show mk < 2 ^ 31 by omega)]
        exact Go.iret X E dX3_morningOf_64 ⟨by rw [e9], _, by rw [e9]⟩ rfl
      · --
        refine Go.iconst X (nI 1) dX3_morningOf_59 k_ic_1 ?_
        refine Go.goto X 64 dX3_morningOf_60 (by decide) ?_
        have e9 : x_morningOf (N, K, b, z, le, rf, hd, ln, vl) (nI mk) w = ((N, K, b, z, le, rf, hd, ln, vl), (nI 1)) := by simp (decide := true) [x_morningOf, rfS, upS_id, h8, s19_0, h56, nI_clamp (show mk < 2 ^ 31 by omega)]
        exact Go.iret X E dX3_morningOf_64 ⟨by rw [e9], _, by rw [e9]⟩ rfl
    by_cases s19_1 : w = nI 1
    · --
      refine Go.top (congrArg Value.int s19_1) ?_
      refine Go.tableIn X 65 dX3_morningOf_19 (by decide) (by decide) rfl (by decide) ?_
      refine Go.aload_n X 0 dX3_morningOf_65 rfl ?_
      refine Go.get X f_X3_morningOf_10 0 (v := .ref (ad 1)) rfl rfl dX3_morningOf_66 ?_
      refine Go.get X f_X3_morningOf_138 1 (v := .ref (ad 2)) rfl rfl dX3_morningOf_69 ?_
      refine Go.iload_n X 1 dX3_morningOf_72 rfl ?_
      refine Go.ialdN X 2 (w := sW N) rfl (by first | omega | (split <;> omega)) rfl dX3_morningOf_73 ?_
      have e9 : x_morningOf (N, K, b, z, le, rf, hd, ln, vl) (nI mk) w = ((N, K, b, z, le, rf, hd, ln, vl), (nI ((sW N) mk))) := by simp (decide := true) [x_morningOf, rfS, upS_id, h8, s19_1, s19_0, nI_clamp (show mk < 2 ^ 31 by omega)]
      exact Go.iret X E dX3_morningOf_74 ⟨by rw [e9], _, by rw [e9]⟩ rfl
    by_cases s19_2 : w = nI 2
    · --
      refine Go.top (congrArg Value.int s19_2) ?_
      refine Go.tableIn X 75 dX3_morningOf_19 (by decide) (by decide) rfl (by decide) ?_
      refine Go.aload_n X 0 dX3_morningOf_75 rfl ?_
      refine Go.get X f_X3_morningOf_10 0 (v := .ref (ad 1)) rfl rfl dX3_morningOf_76 ?_
      refine Go.iload_n X 1 dX3_morningOf_79 rfl ?_
      refine Go.callVi X  (c_stillOn g (ad 1) (ad 2) (ad 3) (ad 4) N mk (by exact hN) (by first | omega | (split <;> omega))) cal_X0_stillOn [1, 2, 3, 4] rfl rfl gX3_morningOf_X0_stillOn (ci := 0) (q0 := 1) rfl rfl rfl rfl rfl dX3_morningOf_80 ?_
      have f80_1 := still_le (sA N) mk
      have e9 : x_morningOf (N, K, b, z, le, rf, hd, ln, vl) (nI mk) w = ((N, K, b, z, le, rf, hd, ln, vl), (nI (still (sA N) mk))) := by simp (decide := true) [x_morningOf, rfS, upS_id, h8, s19_2, s19_0, s19_1, nI_clamp (show mk < 2 ^ 31 by omega)]
      exact Go.iret X E dX3_morningOf_83 ⟨by rw [e9], _, by rw [e9]⟩ rfl
    by_cases s19_3 : w = nI 3
    · --
      refine Go.top (congrArg Value.int s19_3) ?_
      refine Go.tableIn X 84 dX3_morningOf_19 (by decide) (by decide) rfl (by decide) ?_
      refine Go.aload_n X 0 dX3_morningOf_84 rfl ?_
      refine Go.get X f_X3_morningOf_10 0 (v := .ref (ad 1)) rfl rfl dX3_morningOf_85 ?_
      refine Go.aload_n X 0 dX3_morningOf_88 rfl ?_
      refine Go.get X f_X3_morningOf_10 0 (v := .ref (ad 1)) rfl rfl dX3_morningOf_89 ?_
      refine Go.iload_n X 1 dX3_morningOf_92 rfl ?_
      refine Go.callVi X  (c_stillOn g (ad 1) (ad 2) (ad 3) (ad 4) N mk (by exact hN) (by first | omega | (split <;> omega))) cal_X0_stillOn [1, 2, 3, 4] rfl rfl gX3_morningOf_X0_stillOn (ci := 0) (q0 := 1) rfl rfl rfl rfl rfl dX3_morningOf_93 ?_
      have f93_2 := still_le (sA N) mk
      refine Go.callVi X  (c_weightsOf g (ad 1) (ad 2) (ad 3) (ad 4) N (still (sA N) mk) (by exact hN) (by first | omega | (split <;> omega))) cal_X0_weightsOf [1, 2, 3, 4] rfl rfl gX3_morningOf_X0_weightsOf (ci := 0) (q0 := 1) rfl rfl rfl rfl rfl dX3_morningOf_96 ?_
      have f96_3 := wsum_81 hN (still (sA N) mk)
      have e9 : x_morningOf (N, K, b, z, le, rf, hd, ln, vl) (nI mk) w = ((N, K, b, z, le, rf, hd, ln, vl), (nI (wsum (sW N) (still (sA N) mk) (sN N)))) := by simp (decide := true) [x_morningOf, rfS, upS_id, h8, s19_3, s19_0, s19_1, s19_2, nI_clamp (show mk < 2 ^ 31 by omega)]
      exact Go.iret X E dX3_morningOf_99 ⟨by rw [e9], _, by rw [e9]⟩ rfl
    have t19_0 := ne_toInt (k := 0) s19_0 (by decide); have t19_1 := ne_toInt (k := 1) s19_1 (by decide); have t19_2 := ne_toInt (k := 2) s19_2 (by decide); have t19_3 := ne_toInt (k := 3) s19_3 (by decide)
    refine Go.tableOut X 100 dX3_morningOf_19 (by omega) (by decide) ?_
    refine Go.aload_n X 0 dX3_morningOf_100 rfl ?_
    refine Go.bipush X ((-2 : Int32)) dX3_morningOf_101 k_bp_m2 ?_
    refine Go.callV0i X (c_refuse_0 g ad N K b z le rf hd ln vl T ts te tk br) cal_X3_refuse gX3_morningOf_X3_refuse (ci := 3) (q0 := 0) rfl rfl rfl rfl rfl dX3_morningOf_103 ?_
    have e9 : x_morningOf (N, K, b, z, le, rf, hd, ln, vl) (nI mk) w = ((N, K, b, z, le, inc rf 0, hd, ln, vl), (-2)) := by simp (decide := true) [x_morningOf, rfS, upS_id, h8, s19_0, s19_1, s19_2, s19_3, nI_clamp (show mk < 2 ^ 31 by omega)]
    exact Go.iret X E dX3_morningOf_106 ⟨by rw [e9], _, by rw [e9]⟩ rfl
  · --
    refine Go.aload_n X 0 dX3_morningOf_11 rfl ?_
    refine Go.bipush X ((-2 : Int32)) dX3_morningOf_12 k_bp_m2 ?_
    refine Go.callV0i X (c_refuse_0 g ad N K b z le rf hd ln vl T ts te tk br) cal_X3_refuse gX3_morningOf_X3_refuse (ci := 3) (q0 := 0) rfl rfl rfl rfl rfl dX3_morningOf_14 ?_
    have e9 : x_morningOf (N, K, b, z, le, rf, hd, ln, vl) m w = ((N, K, b, z, le, inc rf 0, hd, ln, vl), (-2)) := by simp (decide := true) [x_morningOf, rfS, upS_id, h8]
    exact Go.iret X E dX3_morningOf_17 ⟨by rw [e9], _, by rw [e9]⟩ rfl
set_option maxHeartbeats 4000000 in
set_option maxRecDepth 100000 in
theorem b_can (g : gT) (ad : Nat → Nat) (N : Sch) (K : Sch) (b : Bool) (z : Nat) (le : Nat → Nat) (rf : Nat → Int32) (hd : Nat → Int32) (ln : Nat → Nat) (vl : Nat → Nat → Int64) (T : Sch) (ts : Nat) (te : Nat) (tk : Nat) (br : Nat → Nat) (i : Int32) (m : Int32) (hN : sOk N) : Ct g yX3_can wsX3_can 4 88 [.ref (ad 0), .int i, .int m] (bxW g ad (N, K, b, z, le, rf, hd, ln, vl) (T, ts, te, tk, br)) (fun v9 w9 => v9 = (some (.int (x_can (N, K, b, z, le, rf, hd, ln, vl) i m).2)) ∧ ∃ J9, w9 = bxW g ad (x_can (N, K, b, z, le, rf, hd, ln, vl) i m).1 J9) := by
  refine Ct.start (cc := cX3_can) (nL := 3) (ret := (some .int)) (own := RX3) (by decide) rfl rfl rfl ?_
  intro Γ X E
  show Go Γ g 3 (rmC 4 88) 0 0 (bxW g ad (N, K, b, z, le, rf, hd, ln, vl) (T, ts, te, tk, br)) 0 [(0, .ref (ad 0)), (1, .int i), (2, .int m)] []
  obtain ⟨o1, o2, o3, o4, o5, o6, o7, o8⟩ := id hN
  have o9 := p2_9 o2
  have o10 := sA_512 hN
  refine Go.aload_n X 0 dX3_can_0 rfl ?_
  refine Go.get X f_X3_can_10 0 (v := .ref (ad 1)) rfl rfl dX3_can_1 ?_
  refine Go.iload_n X 1 dX3_can_4 rfl ?_
  refine Go.callVi X  (c_isSomebody g (ad 1) (ad 2) (ad 3) (ad 4) N i (by exact hN)) cal_X0_isSomebody [1, 2, 3, 4] rfl rfl gX3_can_X0_isSomebody (ci := 0) (q0 := 1) rfl rfl rfl rfl rfl dX3_can_5 ?_
  refine Go.if_eqB X 22 dX3_can_8 (by decide) (fun h8 => ?_) (fun h8 => ?_)
  · --
    refine Go.aload_n X 0 dX3_can_22 rfl ?_
    refine Go.bipush X ((-2 : Int32)) dX3_can_23 k_bp_m2 ?_
    refine Go.callV0i X (c_refuse_0 g ad N K b z le rf hd ln vl T ts te tk br) cal_X3_refuse gX3_can_X3_refuse (ci := 3) (q0 := 0) rfl rfl rfl rfl rfl dX3_can_25 ?_
    have e9 : x_can (N, K, b, z, le, rf, hd, ln, vl) i m = ((N, K, b, z, le, inc rf 0, hd, ln, vl), (-2)) := by simp (decide := true) [x_can, rfS, upS_id, h8]
    exact Go.iret X E dX3_can_28 ⟨by rw [e9], _, by rw [e9]⟩ rfl
  · --
    obtain ⟨ik, hik, rfl⟩ := inb_at (by first | omega | (split <;> omega)) h8
    refine Go.aload_n X 0 dX3_can_11 rfl ?_
    refine Go.get X f_X3_can_10 0 (v := .ref (ad 1)) rfl rfl dX3_can_12 ?_
    refine Go.iload_n X 2 dX3_can_15 rfl ?_
    refine Go.callVi X  (c_isMorning g (ad 1) (ad 2) (ad 3) (ad 4) N m (by exact hN)) cal_X0_isMorning [1, 2, 3, 4] rfl rfl gX3_can_X0_isMorning (ci := 0) (q0 := 1) rfl rfl rfl rfl rfl dX3_can_16 ?_
    refine Go.if_neB X 29 dX3_can_19 (by decide) (fun h19 => ?_) (fun h19 => ?_)
    · --
      obtain ⟨mk, hmk, rfl⟩ := inb_at (by first | omega | (split <;> omega)) h19
      refine Go.aload_n X 0 dX3_can_29 rfl ?_
      refine Go.get X f_X3_can_10 0 (v := .ref (ad 1)) rfl rfl dX3_can_30 ?_
      refine Go.iload_n X 1 dX3_can_33 rfl ?_
      refine Go.iload_n X 2 dX3_can_34 rfl ?_
      refine Go.callVi X  (c_canThink g (ad 1) (ad 2) (ad 3) (ad 4) N ik mk (by exact hN) (by first | omega | (split <;> omega)) (by first | omega | (split <;> omega))) cal_X0_canThink [1, 2, 3, 4] rfl rfl gX3_can_X0_canThink (ci := 0) (q0 := 1) rfl rfl rfl rfl rfl dX3_can_35 ?_
      have f35_1 := can_512 hN 6 ik mk
      have e9 : x_can (N, K, b, z, le, rf, hd, ln, vl) (nI ik) (nI mk) = ((N, K, b, z, le, rf, hd, ln, vl), (nI (canB N 6 ik mk))) := by simp (decide := true) [x_can, rfS, upS_id, h8, h19, nI_clamp (show ik < 2 ^ 31 by omega), nI_clamp (show mk < 2 ^ 31 by omega)]
      exact Go.iret X E dX3_can_38 ⟨by rw [e9], _, by rw [e9]⟩ rfl
    · --
      refine Go.aload_n X 0 dX3_can_22 rfl ?_
      refine Go.bipush X ((-2 : Int32)) dX3_can_23 k_bp_m2 ?_
      refine Go.callV0i X (c_refuse_0 g ad N K b z le rf hd ln vl T ts te tk br) cal_X3_refuse gX3_can_X3_refuse (ci := 3) (q0 := 0) rfl rfl rfl rfl rfl dX3_can_25 ?_
      have e9 : x_can (N, K, b, z, le, rf, hd, ln, vl) (nI ik) m = ((N, K, b, z, le, inc rf 0, hd, ln, vl), (-2)) := by simp (decide := true) [x_can, rfS, upS_id, h8, h19, nI_clamp (show ik < 2 ^ 31 by omega)]
      exact Go.iret X E dX3_can_28 ⟨by rw [e9], _, by rw [e9]⟩ rfl
set_option maxHeartbeats 4000000 in
set_option maxRecDepth 100000 in
theorem b_expects (g : gT) (ad : Nat → Nat) (N : Sch) (K : Sch) (b : Bool) (z : Nat) (le : Nat → Nat) (rf : Nat → Int32) (hd : Nat → Int32) (ln : Nat → Nat) (vl : Nat → Nat → Int64) (T : Sch) (ts : Nat) (te : Nat) (tk : Nat) (br : Nat → Nat) (i : Int32) (m : Int32) (hN : sOk N) : Ct g yX3_expects wsX3_expects 5 109 [.ref (ad 0), .int i, .int m] (bxW g ad (N, K, b, z, le, rf, hd, ln, vl) (T, ts, te, tk, br)) (fun v9 w9 => v9 = (some (.int (x_expects (N, K, b, z, le, rf, hd, ln, vl) i m).2)) ∧ ∃ J9, w9 = bxW g ad (x_expects (N, K, b, z, le, rf, hd, ln, vl) i m).1 J9) := by
  refine Ct.start (cc := cX3_expects) (nL := 3) (ret := (some .int)) (own := RX3) (by decide) rfl rfl rfl ?_
  intro Γ X E
  show Go Γ g 3 (rmC 5 109) 0 0 (bxW g ad (N, K, b, z, le, rf, hd, ln, vl) (T, ts, te, tk, br)) 0 [(0, .ref (ad 0)), (1, .int i), (2, .int m)] []
  obtain ⟨o1, o2, o3, o4, o5, o6, o7, o8⟩ := id hN
  have o9 := p2_9 o2
  have o10 := sA_512 hN
  refine Go.aload_n X 0 dX3_expects_0 rfl ?_
  refine Go.get X f_X3_expects_10 0 (v := .ref (ad 1)) rfl rfl dX3_expects_1 ?_
  refine Go.iload_n X 1 dX3_expects_4 rfl ?_
  refine Go.callVi X  (c_isSomebody g (ad 1) (ad 2) (ad 3) (ad 4) N i (by exact hN)) cal_X0_isSomebody [1, 2, 3, 4] rfl rfl gX3_expects_X0_isSomebody (ci := 0) (q0 := 1) rfl rfl rfl rfl rfl dX3_expects_5 ?_
  refine Go.if_eqB X 22 dX3_expects_8 (by decide) (fun h8 => ?_) (fun h8 => ?_)
  · --
    refine Go.aload_n X 0 dX3_expects_22 rfl ?_
    refine Go.bipush X ((-2 : Int32)) dX3_expects_23 k_bp_m2 ?_
    refine Go.callV0i X (c_refuse_0 g ad N K b z le rf hd ln vl T ts te tk br) cal_X3_refuse gX3_expects_X3_refuse (ci := 3) (q0 := 0) rfl rfl rfl rfl rfl dX3_expects_25 ?_
    have e9 : x_expects (N, K, b, z, le, rf, hd, ln, vl) i m = ((N, K, b, z, le, inc rf 0, hd, ln, vl), (-2)) := by simp (decide := true) [x_expects, rfS, upS_id, h8]
    exact Go.iret X E dX3_expects_28 ⟨by rw [e9], _, by rw [e9]⟩ rfl
  · --
    obtain ⟨ik, hik, rfl⟩ := inb_at (by first | omega | (split <;> omega)) h8
    refine Go.aload_n X 0 dX3_expects_11 rfl ?_
    refine Go.get X f_X3_expects_10 0 (v := .ref (ad 1)) rfl rfl dX3_expects_12 ?_
    refine Go.iload_n X 2 dX3_expects_15 rfl ?_
    refine Go.callVi X  (c_isMorning g (ad 1) (ad 2) (ad 3) (ad 4) N m (by exact hN)) cal_X0_isMorning [1, 2, 3, 4] rfl rfl gX3_expects_X0_isMorning (ci := 0) (q0 := 1) rfl rfl rfl rfl rfl dX3_expects_16 ?_
    refine Go.if_neB X 29 dX3_expects_19 (by decide) (fun h19 => ?_) (fun h19 => ?_)
    · --
      obtain ⟨mk, hmk, rfl⟩ := inb_at (by first | omega | (split <;> omega)) h19
      refine Go.aload_n X 0 dX3_expects_29 rfl ?_
      refine Go.get X f_X3_expects_10 0 (v := .ref (ad 1)) rfl rfl dX3_expects_30 ?_
      refine Go.iload_n X 1 dX3_expects_33 rfl ?_
      refine Go.callVi X  (c_expectedBy g (ad 1) (ad 2) (ad 3) (ad 4) N ik (by exact hN) (by first | omega | (split <;> omega))) cal_X0_expectedBy [1, 2, 3, 4] rfl rfl gX3_expects_X0_expectedBy (ci := 0) (q0 := 1) rfl rfl rfl rfl rfl dX3_expects_34 ?_
      have f34_1 := expd_512 hN 6 ik
      refine Go.iload_n X 2 dX3_expects_37 rfl ?_
      refine Go.callSi X  (c_isIn g (expd N 6 ik) mk (by first | omega | (split <;> omega)) (by first | omega | (split <;> omega))) cal_X3_isIn [] rfl rfl gX3_expects_X3_isIn rfl rfl rfl dX3_expects_38 ?_
      refine Go.if_eqB X 48 dX3_expects_41 (by decide) (fun h41 => ?_) (fun h41 => ?_)
      · --
        refine Go.iconst X (nI 0) dX3_expects_48 k_ic_0 ?_
        have e9 : x_expects (N, K, b, z, le, rf, hd, ln, vl) (nI ik) (nI mk) = ((N, K, b, z, le, rf, hd, ln, vl), (nI 0)) := by simp (decide := true) [x_expects, rfS, upS_id, h8, h19, h41, nI_clamp (show ik < 2 ^ 31 by omega), nI_clamp (show mk < 2 ^ 31 by omega)]
        exact Go.iret X E dX3_expects_49 ⟨by rw [e9], _, by rw [e9]⟩ rfl
      · --
        refine Go.iconst X (nI 1) dX3_expects_44 k_ic_1 ?_
        refine Go.goto X 49 dX3_expects_45 (by decide) ?_
        have e9 : x_expects (N, K, b, z, le, rf, hd, ln, vl) (nI ik) (nI mk) = ((N, K, b, z, le, rf, hd, ln, vl), (nI 1)) := by simp (decide := true) [x_expects, rfS, upS_id, h8, h19, h41, nI_clamp (show ik < 2 ^ 31 by omega), nI_clamp (show mk < 2 ^ 31 by omega)]
        exact Go.iret X E dX3_expects_49 ⟨by rw [e9], _, by rw [e9]⟩ rfl
    · --
      refine Go.aload_n X 0 dX3_expects_22 rfl ?_
      refine Go.bipush X ((-2 : Int32)) dX3_expects_23 k_bp_m2 ?_
      refine Go.callV0i X (c_refuse_0 g ad N K b z le rf hd ln vl T ts te tk br) cal_X3_refuse gX3_expects_X3_refuse (ci := 3) (q0 := 0) rfl rfl rfl rfl rfl dX3_expects_25 ?_
      have e9 : x_expects (N, K, b, z, le, rf, hd, ln, vl) (nI ik) m = ((N, K, b, z, le, inc rf 0, hd, ln, vl), (-2)) := by simp (decide := true) [x_expects, rfS, upS_id, h8, h19, nI_clamp (show ik < 2 ^ 31 by omega)]
      exact Go.iret X E dX3_expects_28 ⟨by rw [e9], _, by rw [e9]⟩ rfl
set_option maxHeartbeats 4000000 in
set_option maxRecDepth 100000 in
theorem b_who (g : gT) (ad : Nat → Nat) (N : Sch) (K : Sch) (b : Bool) (z : Nat) (le : Nat → Nat) (rf : Nat → Int32) (hd : Nat → Int32) (ln : Nat → Nat) (vl : Nat → Nat → Int64) (T : Sch) (ts : Nat) (te : Nat) (tk : Nat) (br : Nat → Nat) (m : Int32) (hN : sOk N) : Ct g yX3_who wsX3_who 6 132 [.ref (ad 0), .int m] (bxW g ad (N, K, b, z, le, rf, hd, ln, vl) (T, ts, te, tk, br)) (fun v9 w9 => v9 = (some (.int (x_who (N, K, b, z, le, rf, hd, ln, vl) m).2)) ∧ ∃ J9, w9 = bxW g ad (x_who (N, K, b, z, le, rf, hd, ln, vl) m).1 J9) := by
  refine Ct.start (cc := cX3_who) (nL := 2) (ret := (some .int)) (own := RX3) (by decide) rfl rfl rfl ?_
  intro Γ X E
  show Go Γ g 2 (rmC 6 132) 0 0 (bxW g ad (N, K, b, z, le, rf, hd, ln, vl) (T, ts, te, tk, br)) 0 [(0, .ref (ad 0)), (1, .int m)] []
  obtain ⟨o1, o2, o3, o4, o5, o6, o7, o8⟩ := id hN
  have o9 := p2_9 o2
  have o10 := sA_512 hN
  refine Go.aload_n X 0 dX3_who_0 rfl ?_
  refine Go.get X f_X3_who_10 0 (v := .ref (ad 1)) rfl rfl dX3_who_1 ?_
  refine Go.iload_n X 1 dX3_who_4 rfl ?_
  refine Go.callVi X  (c_isMorning g (ad 1) (ad 2) (ad 3) (ad 4) N m (by exact hN)) cal_X0_isMorning [1, 2, 3, 4] rfl rfl gX3_who_X0_isMorning (ci := 0) (q0 := 1) rfl rfl rfl rfl rfl dX3_who_5 ?_
  refine Go.if_eqB X 22 dX3_who_8 (by decide) (fun h8 => ?_) (fun h8 => ?_)
  · --
    refine Go.aload_n X 0 dX3_who_22 rfl ?_
    refine Go.bipush X ((-2 : Int32)) dX3_who_23 k_bp_m2 ?_
    refine Go.callV0i X (c_refuse_0 g ad N K b z le rf hd ln vl T ts te tk br) cal_X3_refuse gX3_who_X3_refuse (ci := 3) (q0 := 0) rfl rfl rfl rfl rfl dX3_who_25 ?_
    have e9 : x_who (N, K, b, z, le, rf, hd, ln, vl) m = ((N, K, b, z, le, inc rf 0, hd, ln, vl), (-2)) := by simp (decide := true) [x_who, rfS, upS_id, h8]
    exact Go.iret X E dX3_who_28 ⟨by rw [e9], _, by rw [e9]⟩ rfl
  · --
    obtain ⟨mk, hmk, rfl⟩ := inb_at (by first | omega | (split <;> omega)) h8
    refine Go.aload_n X 0 dX3_who_11 rfl ?_
    refine Go.get X f_X3_who_10 0 (v := .ref (ad 1)) rfl rfl dX3_who_12 ?_
    refine Go.iload_n X 1 dX3_who_15 rfl ?_
    refine Go.callVi X  (c_expectingOn g (ad 1) (ad 2) (ad 3) (ad 4) N mk (by exact hN) (by first | omega | (split <;> omega))) cal_X0_expectingOn [1, 2, 3, 4] rfl rfl gX3_who_X0_expectingOn (ci := 0) (q0 := 1) rfl rfl rfl rfl rfl dX3_who_16 ?_
    have f16_1 := whoE_64 hN 6 mk
    refine Go.goto X 28 dX3_who_19 (by decide) ?_
    have e9 : x_who (N, K, b, z, le, rf, hd, ln, vl) (nI mk) = ((N, K, b, z, le, rf, hd, ln, vl), (nI (whoE N 6 mk))) := by simp (decide := true) [x_who, rfS, upS_id, h8, nI_clamp (show mk < 2 ^ 31 by omega)]
    exact Go.iret X E dX3_who_28 ⟨by rw [e9], _, by rw [e9]⟩ rfl
set_option maxHeartbeats 4000000 in
set_option maxRecDepth 100000 in
theorem b_first (g : gT) (ad : Nat → Nat) (N : Sch) (K : Sch) (b : Bool) (z : Nat) (le : Nat → Nat) (rf : Nat → Int32) (hd : Nat → Int32) (ln : Nat → Nat) (vl : Nat → Nat → Int64) (T : Sch) (ts : Nat) (te : Nat) (tk : Nat) (br : Nat → Nat) (i : Int32) (hN : sOk N) : Ct g yX3_first wsX3_first 5 109 [.ref (ad 0), .int i] (bxW g ad (N, K, b, z, le, rf, hd, ln, vl) (T, ts, te, tk, br)) (fun v9 w9 => v9 = (some (.int (x_first (N, K, b, z, le, rf, hd, ln, vl) i).2)) ∧ ∃ J9, w9 = bxW g ad (x_first (N, K, b, z, le, rf, hd, ln, vl) i).1 J9) := by
  refine Ct.start (cc := cX3_first) (nL := 2) (ret := (some .int)) (own := RX3) (by decide) rfl rfl rfl ?_
  intro Γ X E
  show Go Γ g 2 (rmC 5 109) 0 0 (bxW g ad (N, K, b, z, le, rf, hd, ln, vl) (T, ts, te, tk, br)) 0 [(0, .ref (ad 0)), (1, .int i)] []
  obtain ⟨o1, o2, o3, o4, o5, o6, o7, o8⟩ := id hN
  have o9 := p2_9 o2
  have o10 := sA_512 hN
  refine Go.aload_n X 0 dX3_first_0 rfl ?_
  refine Go.get X f_X3_first_10 0 (v := .ref (ad 1)) rfl rfl dX3_first_1 ?_
  refine Go.iload_n X 1 dX3_first_4 rfl ?_
  refine Go.callVi X  (c_isSomebody g (ad 1) (ad 2) (ad 3) (ad 4) N i (by exact hN)) cal_X0_isSomebody [1, 2, 3, 4] rfl rfl gX3_first_X0_isSomebody (ci := 0) (q0 := 1) rfl rfl rfl rfl rfl dX3_first_5 ?_
  refine Go.if_eqB X 25 dX3_first_8 (by decide) (fun h8 => ?_) (fun h8 => ?_)
  · --
    refine Go.aload_n X 0 dX3_first_25 rfl ?_
    refine Go.bipush X ((-2 : Int32)) dX3_first_26 k_bp_m2 ?_
    refine Go.callV0i X (c_refuse_0 g ad N K b z le rf hd ln vl T ts te tk br) cal_X3_refuse gX3_first_X3_refuse (ci := 3) (q0 := 0) rfl rfl rfl rfl rfl dX3_first_28 ?_
    have e9 : x_first (N, K, b, z, le, rf, hd, ln, vl) i = ((N, K, b, z, le, inc rf 0, hd, ln, vl), (-2)) := by simp (decide := true) [x_first, rfS, upS_id, h8]
    exact Go.iret X E dX3_first_31 ⟨by rw [e9], _, by rw [e9]⟩ rfl
  · --
    obtain ⟨ik, hik, rfl⟩ := inb_at (by first | omega | (split <;> omega)) h8
    refine Go.aload_n X 0 dX3_first_11 rfl ?_
    refine Go.get X f_X3_first_10 0 (v := .ref (ad 1)) rfl rfl dX3_first_12 ?_
    refine Go.iload_n X 1 dX3_first_15 rfl ?_
    refine Go.callVi X  (c_expectedBy g (ad 1) (ad 2) (ad 3) (ad 4) N ik (by exact hN) (by first | omega | (split <;> omega))) cal_X0_expectedBy [1, 2, 3, 4] rfl rfl gX3_first_X0_expectedBy (ci := 0) (q0 := 1) rfl rfl rfl rfl rfl dX3_first_16 ?_
    have f16_1 := expd_512 hN 6 ik
    refine Go.callSi X  (c_firstOf g (expd N 6 ik) (by first | omega | (split <;> omega))) cal_X3_firstOf [] rfl rfl gX3_first_X3_firstOf rfl rfl rfl dX3_first_19 ?_
    refine Go.goto X 31 dX3_first_22 (by decide) ?_
    have e9 : x_first (N, K, b, z, le, rf, hd, ln, vl) (nI ik) = ((N, K, b, z, le, rf, hd, ln, vl), (fstI (expd N 6 ik))) := by simp (decide := true) [x_first, rfS, upS_id, h8, nI_clamp (show ik < 2 ^ 31 by omega)]
    exact Go.iret X E dX3_first_31 ⟨by rw [e9], _, by rw [e9]⟩ rfl
set_option maxHeartbeats 4000000 in
set_option maxRecDepth 100000 in
theorem b_lasts (g : gT) (ad : Nat → Nat) (N : Sch) (K : Sch) (b : Bool) (z : Nat) (le : Nat → Nat) (rf : Nat → Int32) (hd : Nat → Int32) (ln : Nat → Nat) (vl : Nat → Nat → Int64) (T : Sch) (ts : Nat) (te : Nat) (tk : Nat) (br : Nat → Nat) (i : Int32) (hN : sOk N) : Ct g yX3_lasts wsX3_lasts 4 88 [.ref (ad 0), .int i] (bxW g ad (N, K, b, z, le, rf, hd, ln, vl) (T, ts, te, tk, br)) (fun v9 w9 => v9 = (some (.int (x_lasts (N, K, b, z, le, rf, hd, ln, vl) i).2)) ∧ ∃ J9, w9 = bxW g ad (x_lasts (N, K, b, z, le, rf, hd, ln, vl) i).1 J9) := by
  refine Ct.start (cc := cX3_lasts) (nL := 2) (ret := (some .int)) (own := RX3) (by decide) rfl rfl rfl ?_
  intro Γ X E
  show Go Γ g 2 (rmC 4 88) 0 0 (bxW g ad (N, K, b, z, le, rf, hd, ln, vl) (T, ts, te, tk, br)) 0 [(0, .ref (ad 0)), (1, .int i)] []
  obtain ⟨o1, o2, o3, o4, o5, o6, o7, o8⟩ := id hN
  have o9 := p2_9 o2
  have o10 := sA_512 hN
  refine Go.aload_n X 0 dX3_lasts_0 rfl ?_
  refine Go.get X f_X3_lasts_10 0 (v := .ref (ad 1)) rfl rfl dX3_lasts_1 ?_
  refine Go.iload_n X 1 dX3_lasts_4 rfl ?_
  refine Go.callVi X  (c_isSomebody g (ad 1) (ad 2) (ad 3) (ad 4) N i (by exact hN)) cal_X0_isSomebody [1, 2, 3, 4] rfl rfl gX3_lasts_X0_isSomebody (ci := 0) (q0 := 1) rfl rfl rfl rfl rfl dX3_lasts_5 ?_
  refine Go.if_eqB X 26 dX3_lasts_8 (by decide) (fun h8 => ?_) (fun h8 => ?_)
  · --
    refine Go.aload_n X 0 dX3_lasts_26 rfl ?_
    refine Go.bipush X ((-2 : Int32)) dX3_lasts_27 k_bp_m2 ?_
    refine Go.callV0i X (c_refuse_0 g ad N K b z le rf hd ln vl T ts te tk br) cal_X3_refuse gX3_lasts_X3_refuse (ci := 3) (q0 := 0) rfl rfl rfl rfl rfl dX3_lasts_29 ?_
    have e9 : x_lasts (N, K, b, z, le, rf, hd, ln, vl) i = ((N, K, b, z, le, inc rf 0, hd, ln, vl), (-2)) := by simp (decide := true) [x_lasts, rfS, upS_id, h8]
    exact Go.iret X E dX3_lasts_32 ⟨by rw [e9], _, by rw [e9]⟩ rfl
  · --
    obtain ⟨ik, hik, rfl⟩ := inb_at (by first | omega | (split <;> omega)) h8
    refine Go.aload_n X 0 dX3_lasts_11 rfl ?_
    refine Go.get X f_X3_lasts_10 0 (v := .ref (ad 1)) rfl rfl dX3_lasts_12 ?_
    refine Go.iload_n X 1 dX3_lasts_15 rfl ?_
    refine Go.iconst X (nI 0) dX3_lasts_16 k_ic_0 ?_
    refine Go.callVi X  (c_canThink g (ad 1) (ad 2) (ad 3) (ad 4) N ik 0 (by exact hN) (by first | omega | (split <;> omega)) (by first | omega | (split <;> omega))) cal_X0_canThink [1, 2, 3, 4] rfl rfl gX3_lasts_X0_canThink (ci := 0) (q0 := 1) rfl rfl rfl rfl rfl dX3_lasts_17 ?_
    have f17_1 := can_512 hN 6 ik 0
    refine Go.callSi X  (c_lastOf g (canB N 6 ik 0) (by first | omega | (split <;> omega))) cal_X3_lastOf [] rfl rfl gX3_lasts_X3_lastOf rfl rfl rfl dX3_lasts_20 ?_
    refine Go.goto X 32 dX3_lasts_23 (by decide) ?_
    have e9 : x_lasts (N, K, b, z, le, rf, hd, ln, vl) (nI ik) = ((N, K, b, z, le, rf, hd, ln, vl), (lstI (canB N 6 ik 0))) := by simp (decide := true) [x_lasts, rfS, upS_id, h8, nI_clamp (show ik < 2 ^ 31 by omega)]
    exact Go.iret X E dX3_lasts_32 ⟨by rw [e9], _, by rw [e9]⟩ rfl
set_option maxHeartbeats 4000000 in
set_option maxRecDepth 100000 in
theorem b_ends (g : gT) (ad : Nat → Nat) (N : Sch) (K : Sch) (b : Bool) (z : Nat) (le : Nat → Nat) (rf : Nat → Int32) (hd : Nat → Int32) (ln : Nat → Nat) (vl : Nat → Nat → Int64) (T : Sch) (ts : Nat) (te : Nat) (tk : Nat) (br : Nat → Nat) (hN : sOk N) : Ct g yX3_ends wsX3_ends 2 42 [.ref (ad 0)] (bxW g ad (N, K, b, z, le, rf, hd, ln, vl) (T, ts, te, tk, br)) (fun v9 w9 => v9 = (some (.int (x_ends (N, K, b, z, le, rf, hd, ln, vl)).2)) ∧ ∃ J9, w9 = bxW g ad (x_ends (N, K, b, z, le, rf, hd, ln, vl)).1 J9) := by
  refine Ct.start (cc := cX3_ends) (nL := 1) (ret := (some .int)) (own := RX3) (by decide) rfl rfl rfl ?_
  intro Γ X E
  show Go Γ g 1 (rmC 2 42) 0 0 (bxW g ad (N, K, b, z, le, rf, hd, ln, vl) (T, ts, te, tk, br)) 0 [(0, .ref (ad 0))] []
  obtain ⟨o1, o2, o3, o4, o5, o6, o7, o8⟩ := id hN
  have o9 := p2_9 o2
  have o10 := sA_512 hN
  refine Go.aload_n X 0 dX3_ends_0 rfl ?_
  refine Go.get X f_X3_ends_10 0 (v := .ref (ad 1)) rfl rfl dX3_ends_1 ?_
  refine Go.get X f_X3_ends_135 1 (v := .int (nI (sA N))) rfl rfl dX3_ends_4 ?_
  refine Go.callSi X  (c_lastOf g (sA N) (by first | omega | (split <;> omega))) cal_X3_lastOf [] rfl rfl gX3_ends_X3_lastOf rfl rfl rfl dX3_ends_7 ?_
  have e9 : x_ends (N, K, b, z, le, rf, hd, ln, vl) = ((N, K, b, z, le, rf, hd, ln, vl), (lstI (sA N))) := by simp (decide := true) [x_ends, rfS, upS_id]
  exact Go.iret X E dX3_ends_10 ⟨by rw [e9], _, by rw [e9]⟩ rfl
set_option maxHeartbeats 4000000 in
set_option maxRecDepth 100000 in
theorem b_agree (g : gT) (ad : Nat → Nat) (N : Sch) (K : Sch) (b : Bool) (z : Nat) (le : Nat → Nat) (rf : Nat → Int32) (hd : Nat → Int32) (ln : Nat → Nat) (vl : Nat → Nat → Int64) (T : Sch) (ts : Nat) (te : Nat) (tk : Nat) (br : Nat → Nat) (m : Int32) (hN : sOk N) : Ct g yX3_agree wsX3_agree 4 88 [.ref (ad 0), .int m] (bxW g ad (N, K, b, z, le, rf, hd, ln, vl) (T, ts, te, tk, br)) (fun v9 w9 => v9 = (some (.int (x_agree (N, K, b, z, le, rf, hd, ln, vl) m).2)) ∧ ∃ J9, w9 = bxW g ad (x_agree (N, K, b, z, le, rf, hd, ln, vl) m).1 J9) := by
  refine Ct.start (cc := cX3_agree) (nL := 5) (ret := (some .int)) (own := RX3) (by decide) rfl rfl rfl ?_
  intro Γ X E
  show Go Γ g 5 (rmC 4 88) 0 0 (bxW g ad (N, K, b, z, le, rf, hd, ln, vl) (T, ts, te, tk, br)) 0 [(0, .ref (ad 0)), (1, .int m)] []
  obtain ⟨o1, o2, o3, o4, o5, o6, o7, o8⟩ := id hN
  have o9 := p2_9 o2
  have o10 := sA_512 hN
  refine Go.aload_n X 0 dX3_agree_0 rfl ?_
  refine Go.get X f_X3_agree_10 0 (v := .ref (ad 1)) rfl rfl dX3_agree_1 ?_
  refine Go.iload_n X 1 dX3_agree_4 rfl ?_
  refine Go.callVi X  (c_isMorning g (ad 1) (ad 2) (ad 3) (ad 4) N m (by exact hN)) cal_X0_isMorning [1, 2, 3, 4] rfl rfl gX3_agree_X0_isMorning (ci := 0) (q0 := 1) rfl rfl rfl rfl rfl dX3_agree_5 ?_
  refine Go.if_neB X 18 dX3_agree_8 (by decide) (fun h8 => ?_) (fun h8 => ?_)
  · --
    obtain ⟨mk, hmk, rfl⟩ := inb_at (by first | omega | (split <;> omega)) h8
    refine Go.iconst X (nI 0) dX3_agree_18 k_ic_0 ?_
    refine Go.istore_n_new X dX3_agree_19 (by decide) rfl ?_
    refine Go.iconst X (nI 0) dX3_agree_20 k_ic_0 ?_
    refine Go.istore_n_new X dX3_agree_21 (by decide) rfl ?_
    have L22 : ∀ (f22 : Nat) (k : Nat) (hk : k ≤ sP N) (hf22 : sP N - k < f22), Go Γ g 5 (rmC 4 88) 0 0 (bxW g ad (N, K, b, z, le, rf, hd, ln, vl) (T, ts, te, tk, br)) 22 [(3, .int (nI k)), (2, .int (nI (prs (agF N mk) (sP N) k))), (0, .ref (ad 0)), (1, .int (nI mk))] [] := by
      intro f22
      induction f22 with
      | zero => intro k hk hf22; exact absurd hf22 (Nat.not_lt_zero _)
      | succ f22 ih22 =>
        intro k hk hf22
        refine Go.iload_n X 0 dX3_agree_22 rfl ?_
        refine Go.aload_n X 2 dX3_agree_23 rfl ?_
        refine Go.get X f_X3_agree_10 0 (v := .ref (ad 1)) rfl rfl dX3_agree_24 ?_
        refine Go.get X f_X3_agree_123 1 (v := .int (nI (sP N))) rfl rfl dX3_agree_27 ?_
        refine Go.icmp_geN X 87 dX3_agree_30 (by decide) (by first | omega | (split <;> omega)) (by first | omega | (split <;> omega)) (fun h30 => ?_) (fun h30 => ?_)
        · --
          refine Go.lv_1 (w := .int (nI (prs (agF N mk) (sP N) (sP N)))) (by rw [show k = sP N by omega]) ?_
          refine Go.iload_n X 1 dX3_agree_87 rfl ?_
          have e9 : x_agree (N, K, b, z, le, rf, hd, ln, vl) (nI mk) = ((N, K, b, z, le, rf, hd, ln, vl), (nI (prs (agF N mk) (sP N) (sP N)))) := by simp (decide := true) [x_agree, rfS, upS_id, h8, h30, Nat.not_lt.mpr h30, nI_clamp (show mk < 2 ^ 31 by omega)]
          exact Go.iret X E dX3_agree_88 ⟨by rw [e9], _, by rw [e9]⟩ rfl
        · --
          refine Go.iload_n X 0 dX3_agree_33 rfl ?_
          refine Go.iconst X (nI 1) dX3_agree_34 k_ic_1 ?_
          refine Go.iadd_e X (nI (k + 1)) dX3_agree_35 (nI_add _ _) ?_
          refine Go.istore_new X dX3_agree_36 (by decide) rfl ?_
          have L38 : ∀ (f38 : Nat) (j : Nat) (hj : j ≤ sP N) (hj2 : k < j) (hf38 : sP N - j < f38), Go Γ g 5 (rmC 4 88) 0 0 (bxW g ad (N, K, b, z, le, rf, hd, ln, vl) (T, ts, te, tk, br)) 38 [(4, .int (nI j)), (3, .int (nI k)), (2, .int (nI (prs (agF N mk) (sP N) k + prR (agF N mk) k j))), (0, .ref (ad 0)), (1, .int (nI mk))] [] := by
            intro f38
            induction f38 with
            | zero => intro j hj hj2 hf38; exact absurd hf38 (Nat.not_lt_zero _)
            | succ f38 ih38 =>
              intro j hj hj2 hf38
              refine Go.iload X 0 dX3_agree_38 rfl ?_
              refine Go.aload_n X 3 dX3_agree_40 rfl ?_
              refine Go.get X f_X3_agree_10 0 (v := .ref (ad 1)) rfl rfl dX3_agree_41 ?_
              refine Go.get X f_X3_agree_123 1 (v := .int (nI (sP N))) rfl rfl dX3_agree_44 ?_
              refine Go.icmp_geN X 81 dX3_agree_47 (by decide) (by first | omega | (split <;> omega)) (by first | omega | (split <;> omega)) (fun h47 => ?_) (fun h47 => ?_)
              · --
                refine Go.iinc_1 X (nI (k + 1)) dX3_agree_81 (by decide) rfl (show nI k + Int32.ofInt 1 = nI (k + 1) from nI_add _ 1) ?_
                refine Go.goto X 22 dX3_agree_84 (by decide) ?_
                refine Go.lv_2 (congrArg (fun z => Value.int (nI z)) (show prs (agF N mk) (sP N) k + prR (agF N mk) k j = prs (agF N mk) (sP N) (k + 1) from by rw [show j = sP N by omega]; rfl)) ?_
                refine Go.sub [1, 2, 3, 4] rfl ?_
                exact ih22 (k + 1) (by first | omega | (split <;> omega)) (by first | omega | (split <;> omega))
              · --
                refine Go.aload_n X 3 dX3_agree_50 rfl ?_
                refine Go.get X f_X3_agree_10 0 (v := .ref (ad 1)) rfl rfl dX3_agree_51 ?_
                refine Go.iload_n X 1 dX3_agree_54 rfl ?_
                refine Go.iload_n X 4 dX3_agree_55 rfl ?_
                refine Go.callVi X  (c_canThink g (ad 1) (ad 2) (ad 3) (ad 4) N k mk (by exact hN) (by first | omega | (split <;> omega)) (by first | omega | (split <;> omega))) cal_X0_canThink [1, 2, 3, 4] rfl rfl gX3_agree_X0_canThink (ci := 0) (q0 := 1) rfl rfl rfl rfl rfl dX3_agree_56 ?_
                have f56_1 := can_512 hN 6 k mk
                refine Go.aload_n X 3 dX3_agree_59 rfl ?_
                refine Go.get X f_X3_agree_10 0 (v := .ref (ad 1)) rfl rfl dX3_agree_60 ?_
                refine Go.iload X 0 dX3_agree_63 rfl ?_
                refine Go.iload_n X 4 dX3_agree_65 rfl ?_
                refine Go.callVi X  (c_canThink g (ad 1) (ad 2) (ad 3) (ad 4) N j mk (by exact hN) (by first | omega | (split <;> omega)) (by first | omega | (split <;> omega))) cal_X0_canThink [1, 2, 3, 4] rfl rfl gX3_agree_X0_canThink (ci := 0) (q0 := 1) rfl rfl rfl rfl rfl dX3_agree_66 ?_
                have f66_2 := can_512 hN 6 j mk
                refine Go.icmp_neN X 75 dX3_agree_69 (by decide) (by first | omega | (split <;> omega)) (by first | omega | (split <;> omega)) (fun h69 => ?_) (fun h69 => ?_)
                · --
                  refine Go.iinc_0 X (nI (j + 1)) dX3_agree_75 (by decide) rfl (show nI j + Int32.ofInt 1 = nI (j + 1) from nI_add _ 1) ?_
                  refine Go.goto X 38 dX3_agree_78 (by decide) ?_
                  refine Go.lv_2 (congrArg (fun z => Value.int (nI z)) (show prs (agF N mk) (sP N) k + prR (agF N mk) k j = prs (agF N mk) (sP N) k + prR (agF N mk) k (j + 1) from by rw [prR_f (decide_eq_false h69)])) ?_
                  exact ih38 (j + 1) (by first | omega | (split <;> omega)) (by first | omega | (split <;> omega)) (by first | omega | (split <;> omega))
                · --
                  have o11 := prs_le (agF N mk) (sP N) k
                  have o12 := prR_le (agF N mk) k j
                  have o13 : sP N * k ≤ 6 * 6 := Nat.mul_le_mul o6 (by omega)
                  refine Go.iinc_2 X (nI (prs (agF N mk) (sP N) k + prR (agF N mk) k j + 1)) dX3_agree_72 (by decide) rfl (show nI (prs (agF N mk) (sP N) k + prR (agF N mk) k j) + Int32.ofInt 1 = nI (prs (agF N mk) (sP N) k + prR (agF N mk) k j + 1) from nI_add _ 1) ?_
                  refine Go.iinc_0 X (nI (j + 1)) dX3_agree_75 (by decide) rfl (show nI j + Int32.ofInt 1 = nI (j + 1) from nI_add _ 1) ?_
                  refine Go.goto X 38 dX3_agree_78 (by decide) ?_
                  refine Go.lv_2 (congrArg (fun z => Value.int (nI z)) (show prs (agF N mk) (sP N) k + prR (agF N mk) k j + 1 = prs (agF N mk) (sP N) k + prR (agF N mk) k (j + 1) from by rw [prR_t hj2 (decide_eq_true h69)]; rfl)) ?_
                  exact ih38 (j + 1) (by first | omega | (split <;> omega)) (by first | omega | (split <;> omega)) (by first | omega | (split <;> omega))
          refine Go.lv_2 (congrArg (fun z => Value.int (nI z)) (show prs (agF N mk) (sP N) k = prs (agF N mk) (sP N) k + prR (agF N mk) k (k + 1) from by rw [prR_0 _ _ (Nat.le_refl _)]; rfl)) ?_
          exact L38 (sP N - (k + 1) + 1) (k + 1) (by first | omega | (split <;> omega)) (by first | omega | (split <;> omega)) (Nat.lt_succ_self _)
    refine Go.lv_1 (congrArg (fun z => Value.int (nI z)) (show 0 = prs (agF N mk) (sP N) 0 from by rfl)) ?_
    exact L22 (sP N - 0 + 1) 0 (by first | omega | (split <;> omega)) (Nat.lt_succ_self _)
  · --
    refine Go.aload_n X 0 dX3_agree_11 rfl ?_
    refine Go.bipush X ((-2 : Int32)) dX3_agree_12 k_bp_m2 ?_
    refine Go.callV0i X (c_refuse_0 g ad N K b z le rf hd ln vl T ts te tk br) cal_X3_refuse gX3_agree_X3_refuse (ci := 3) (q0 := 0) rfl rfl rfl rfl rfl dX3_agree_14 ?_
    have e9 : x_agree (N, K, b, z, le, rf, hd, ln, vl) m = ((N, K, b, z, le, inc rf 0, hd, ln, vl), (-2)) := by simp (decide := true) [x_agree, rfS, upS_id, h8]
    exact Go.iret X E dX3_agree_17 ⟨by rw [e9], _, by rw [e9]⟩ rfl
set_option maxHeartbeats 4000000 in
set_option maxRecDepth 100000 in
theorem b_foresees (g : gT) (ad : Nat → Nat) (N : Sch) (K : Sch) (b : Bool) (z : Nat) (le : Nat → Nat) (rf : Nat → Int32) (hd : Nat → Int32) (ln : Nat → Nat) (vl : Nat → Nat → Int64) (T : Sch) (ts : Nat) (te : Nat) (tk : Nat) (br : Nat → Nat) (i : Int32) (j : Int32) (hN : sOk N) : Ct g yX3_foresees wsX3_foresees 4 88 [.ref (ad 0), .int i, .int j] (bxW g ad (N, K, b, z, le, rf, hd, ln, vl) (T, ts, te, tk, br)) (fun v9 w9 => v9 = (some (.int (x_foresees (N, K, b, z, le, rf, hd, ln, vl) i j).2)) ∧ ∃ J9, w9 = bxW g ad (x_foresees (N, K, b, z, le, rf, hd, ln, vl) i j).1 J9) := by
  refine Ct.start (cc := cX3_foresees) (nL := 3) (ret := (some .int)) (own := RX3) (by decide) rfl rfl rfl ?_
  intro Γ X E
  show Go Γ g 3 (rmC 4 88) 0 0 (bxW g ad (N, K, b, z, le, rf, hd, ln, vl) (T, ts, te, tk, br)) 0 [(0, .ref (ad 0)), (1, .int i), (2, .int j)] []
  obtain ⟨o1, o2, o3, o4, o5, o6, o7, o8⟩ := id hN
  have o9 := p2_9 o2
  have o10 := sA_512 hN
  refine Go.aload_n X 0 dX3_foresees_0 rfl ?_
  refine Go.get X f_X3_foresees_10 0 (v := .ref (ad 1)) rfl rfl dX3_foresees_1 ?_
  refine Go.iload_n X 1 dX3_foresees_4 rfl ?_
  refine Go.callVi X  (c_isSomebody g (ad 1) (ad 2) (ad 3) (ad 4) N i (by exact hN)) cal_X0_isSomebody [1, 2, 3, 4] rfl rfl gX3_foresees_X0_isSomebody (ci := 0) (q0 := 1) rfl rfl rfl rfl rfl dX3_foresees_5 ?_
  refine Go.if_eqB X 27 dX3_foresees_8 (by decide) (fun h8 => ?_) (fun h8 => ?_)
  · --
    refine Go.aload_n X 0 dX3_foresees_27 rfl ?_
    refine Go.bipush X ((-2 : Int32)) dX3_foresees_28 k_bp_m2 ?_
    refine Go.callV0i X (c_refuse_0 g ad N K b z le rf hd ln vl T ts te tk br) cal_X3_refuse gX3_foresees_X3_refuse (ci := 3) (q0 := 0) rfl rfl rfl rfl rfl dX3_foresees_30 ?_
    have e9 : x_foresees (N, K, b, z, le, rf, hd, ln, vl) i j = ((N, K, b, z, le, inc rf 0, hd, ln, vl), (-2)) := by simp (decide := true) [x_foresees, rfS, upS_id, h8]
    exact Go.iret X E dX3_foresees_33 ⟨by rw [e9], _, by rw [e9]⟩ rfl
  · --
    obtain ⟨ik, hik, rfl⟩ := inb_at (by first | omega | (split <;> omega)) h8
    refine Go.aload_n X 0 dX3_foresees_11 rfl ?_
    refine Go.get X f_X3_foresees_10 0 (v := .ref (ad 1)) rfl rfl dX3_foresees_12 ?_
    refine Go.iload_n X 2 dX3_foresees_15 rfl ?_
    refine Go.callVi X  (c_isSomebody g (ad 1) (ad 2) (ad 3) (ad 4) N j (by exact hN)) cal_X0_isSomebody [1, 2, 3, 4] rfl rfl gX3_foresees_X0_isSomebody (ci := 0) (q0 := 1) rfl rfl rfl rfl rfl dX3_foresees_16 ?_
    refine Go.if_eqB X 27 dX3_foresees_19 (by decide) (fun h19 => ?_) (fun h19 => ?_)
    · --
      refine Go.aload_n X 0 dX3_foresees_27 rfl ?_
      refine Go.bipush X ((-2 : Int32)) dX3_foresees_28 k_bp_m2 ?_
      refine Go.callV0i X (c_refuse_0 g ad N K b z le rf hd ln vl T ts te tk br) cal_X3_refuse gX3_foresees_X3_refuse (ci := 3) (q0 := 0) rfl rfl rfl rfl rfl dX3_foresees_30 ?_
      have e9 : x_foresees (N, K, b, z, le, rf, hd, ln, vl) (nI ik) j = ((N, K, b, z, le, inc rf 0, hd, ln, vl), (-2)) := by simp (decide := true) [x_foresees, rfS, upS_id, h8, h19, nI_clamp (show ik < 2 ^ 31 by omega)]
      exact Go.iret X E dX3_foresees_33 ⟨by rw [e9], _, by rw [e9]⟩ rfl
    · --
      obtain ⟨jk, hjk, rfl⟩ := inb_at (by first | omega | (split <;> omega)) h19
      refine Go.iload_n X 1 dX3_foresees_22 rfl ?_
      refine Go.iload_n X 2 dX3_foresees_23 rfl ?_
      refine Go.icmp_neN X 34 dX3_foresees_24 (by decide) (by first | omega | (split <;> omega)) (by first | omega | (split <;> omega)) (fun h24 => ?_) (fun h24 => ?_)
      · --
        refine Go.aload_n X 0 dX3_foresees_34 rfl ?_
        refine Go.get X f_X3_foresees_10 0 (v := .ref (ad 1)) rfl rfl dX3_foresees_35 ?_
        refine Go.iload_n X 1 dX3_foresees_38 rfl ?_
        refine Go.iload_n X 2 dX3_foresees_39 rfl ?_
        refine Go.callVi X  (c_canForesee g (ad 1) (ad 2) (ad 3) (ad 4) N ik jk (by exact hN) (by first | omega | (split <;> omega)) (by first | omega | (split <;> omega))) cal_X0_canForesee [1, 2, 3, 4] rfl rfl gX3_foresees_X0_canForesee (ci := 0) (q0 := 1) rfl rfl rfl rfl rfl dX3_foresees_40 ?_
        refine Go.if_eqB X 50 dX3_foresees_43 (by decide) (fun h43 => ?_) (fun h43 => ?_)
        · --
          refine Go.iconst X (nI 0) dX3_foresees_50 k_ic_0 ?_
          have e9 : x_foresees (N, K, b, z, le, rf, hd, ln, vl) (nI ik) (nI jk) = ((N, K, b, z, le, rf, hd, ln, vl), (nI 0)) := by simp (decide := true) [x_foresees, rfS, upS_id, h8, h19, h24, h43, nI_clamp (show ik < 2 ^ 31 by omega), nI_clamp (show jk < 2 ^ 31 by omega)]
          exact Go.iret X E dX3_foresees_51 ⟨by rw [e9], _, by rw [e9]⟩ rfl
        · --
          refine Go.iconst X (nI 1) dX3_foresees_46 k_ic_1 ?_
          refine Go.goto X 51 dX3_foresees_47 (by decide) ?_
          have e9 : x_foresees (N, K, b, z, le, rf, hd, ln, vl) (nI ik) (nI jk) = ((N, K, b, z, le, rf, hd, ln, vl), (nI 1)) := by simp (decide := true) [x_foresees, rfS, upS_id, h8, h19, h24, h43, nI_clamp (show ik < 2 ^ 31 by omega), nI_clamp (show jk < 2 ^ 31 by omega)]
          exact Go.iret X E dX3_foresees_51 ⟨by rw [e9], _, by rw [e9]⟩ rfl
      · --
        refine Go.aload_n X 0 dX3_foresees_27 rfl ?_
        refine Go.bipush X ((-2 : Int32)) dX3_foresees_28 k_bp_m2 ?_
        refine Go.callV0i X (c_refuse_0 g ad N K b z le rf hd ln vl T ts te tk br) cal_X3_refuse gX3_foresees_X3_refuse (ci := 3) (q0 := 0) rfl rfl rfl rfl rfl dX3_foresees_30 ?_
        have e9 : x_foresees (N, K, b, z, le, rf, hd, ln, vl) (nI ik) (nI jk) = ((N, K, b, z, le, inc rf 0, hd, ln, vl), (-2)) := by simp (decide := true) [x_foresees, rfS, upS_id, h8, h19, h24, nI_clamp (show ik < 2 ^ 31 by omega), nI_clamp (show jk < 2 ^ 31 by omega)]
        exact Go.iret X E dX3_foresees_33 ⟨by rw [e9], _, by rw [e9]⟩ rfl
set_option maxHeartbeats 4000000 in
set_option maxRecDepth 100000 in
theorem b_foreseen (g : gT) (ad : Nat → Nat) (N : Sch) (K : Sch) (b : Bool) (z : Nat) (le : Nat → Nat) (rf : Nat → Int32) (hd : Nat → Int32) (ln : Nat → Nat) (vl : Nat → Nat → Int64) (T : Sch) (ts : Nat) (te : Nat) (tk : Nat) (br : Nat → Nat) (i : Int32) (hN : sOk N) : Ct g yX3_foreseen wsX3_foreseen 4 88 [.ref (ad 0), .int i] (bxW g ad (N, K, b, z, le, rf, hd, ln, vl) (T, ts, te, tk, br)) (fun v9 w9 => v9 = (some (.int (x_foreseen (N, K, b, z, le, rf, hd, ln, vl) i).2)) ∧ ∃ J9, w9 = bxW g ad (x_foreseen (N, K, b, z, le, rf, hd, ln, vl) i).1 J9) := by
  refine Ct.start (cc := cX3_foreseen) (nL := 4) (ret := (some .int)) (own := RX3) (by decide) rfl rfl rfl ?_
  intro Γ X E
  show Go Γ g 4 (rmC 4 88) 0 0 (bxW g ad (N, K, b, z, le, rf, hd, ln, vl) (T, ts, te, tk, br)) 0 [(0, .ref (ad 0)), (1, .int i)] []
  obtain ⟨o1, o2, o3, o4, o5, o6, o7, o8⟩ := id hN
  have o9 := p2_9 o2
  have o10 := sA_512 hN
  refine Go.aload_n X 0 dX3_foreseen_0 rfl ?_
  refine Go.get X f_X3_foreseen_10 0 (v := .ref (ad 1)) rfl rfl dX3_foreseen_1 ?_
  refine Go.iload_n X 1 dX3_foreseen_4 rfl ?_
  refine Go.callVi X  (c_isSomebody g (ad 1) (ad 2) (ad 3) (ad 4) N i (by exact hN)) cal_X0_isSomebody [1, 2, 3, 4] rfl rfl gX3_foreseen_X0_isSomebody (ci := 0) (q0 := 1) rfl rfl rfl rfl rfl dX3_foreseen_5 ?_
  refine Go.if_neB X 18 dX3_foreseen_8 (by decide) (fun h8 => ?_) (fun h8 => ?_)
  · --
    obtain ⟨ik, hik, rfl⟩ := inb_at (by first | omega | (split <;> omega)) h8
    refine Go.iconst X (nI 0) dX3_foreseen_18 k_ic_0 ?_
    refine Go.istore_n_new X dX3_foreseen_19 (by decide) rfl ?_
    refine Go.iconst X (nI 0) dX3_foreseen_20 k_ic_0 ?_
    refine Go.istore_n_new X dX3_foreseen_21 (by decide) rfl ?_
    have L22 : ∀ (f22 : Nat) (k : Nat) (hk : k ≤ sP N) (hf22 : sP N - k < f22), Go Γ g 4 (rmC 4 88) 0 0 (bxW g ad (N, K, b, z, le, rf, hd, ln, vl) (T, ts, te, tk, br)) 22 [(3, .int (nI k)), (2, .int (nI (bts (fun j => decide (j ≠ ik) && forS N j ik) k))), (0, .ref (ad 0)), (1, .int (nI ik))] [] := by
      intro f22
      induction f22 with
      | zero => intro k hk hf22; exact absurd hf22 (Nat.not_lt_zero _)
      | succ f22 ih22 =>
        intro k hk hf22
        refine Go.iload_n X 0 dX3_foreseen_22 rfl ?_
        refine Go.aload_n X 2 dX3_foreseen_23 rfl ?_
        refine Go.get X f_X3_foreseen_10 0 (v := .ref (ad 1)) rfl rfl dX3_foreseen_24 ?_
        refine Go.get X f_X3_foreseen_123 1 (v := .int (nI (sP N))) rfl rfl dX3_foreseen_27 ?_
        refine Go.icmp_geN X 62 dX3_foreseen_30 (by decide) (by first | omega | (split <;> omega)) (by first | omega | (split <;> omega)) (fun h30 => ?_) (fun h30 => ?_)
        · --
          refine Go.lv_1 (w := .int (nI (bts (fun j => decide (j ≠ ik) && forS N j ik) (sP N)))) (by rw [show k = sP N by omega]) ?_
          refine Go.iload_n X 1 dX3_foreseen_62 rfl ?_
          have e9 : x_foreseen (N, K, b, z, le, rf, hd, ln, vl) (nI ik) = ((N, K, b, z, le, rf, hd, ln, vl), (nI (bts (fun j => decide (j ≠ ik) && forS N j ik) (sP N)))) := by simp (decide := true) [x_foreseen, rfS, upS_id, h8, h30, Nat.not_lt.mpr h30, nI_clamp (show ik < 2 ^ 31 by omega)]
          exact Go.iret X E dX3_foreseen_63 ⟨by rw [e9], _, by rw [e9]⟩ rfl
        · --
          refine Go.iload_n X 0 dX3_foreseen_33 rfl ?_
          refine Go.iload_n X 3 dX3_foreseen_34 rfl ?_
          refine Go.icmp_eqN X 56 dX3_foreseen_35 (by decide) (by first | omega | (split <;> omega)) (by first | omega | (split <;> omega)) (fun h35 => ?_) (fun h35 => ?_)
          · --
            refine Go.iinc_0 X (nI (k + 1)) dX3_foreseen_56 (by decide) rfl (show nI k + Int32.ofInt 1 = nI (k + 1) from nI_add _ 1) ?_
            refine Go.goto X 22 dX3_foreseen_59 (by decide) ?_
            refine Go.lv_1 (congrArg (fun z => Value.int (nI z)) (show bts (fun j => decide (j ≠ ik) && forS N j ik) k = bts (fun j => decide (j ≠ ik) && forS N j ik) (k + 1) from by simp [bts, h35])) ?_
            exact ih22 (k + 1) (by first | omega | (split <;> omega)) (by first | omega | (split <;> omega))
          · --
            refine Go.aload_n X 2 dX3_foreseen_38 rfl ?_
            refine Go.get X f_X3_foreseen_10 0 (v := .ref (ad 1)) rfl rfl dX3_foreseen_39 ?_
            refine Go.iload_n X 0 dX3_foreseen_42 rfl ?_
            refine Go.iload_n X 3 dX3_foreseen_43 rfl ?_
            refine Go.callVi X  (c_canForesee g (ad 1) (ad 2) (ad 3) (ad 4) N k ik (by exact hN) (by first | omega | (split <;> omega)) (by first | omega | (split <;> omega))) cal_X0_canForesee [1, 2, 3, 4] rfl rfl gX3_foreseen_X0_canForesee (ci := 0) (q0 := 1) rfl rfl rfl rfl rfl dX3_foreseen_44 ?_
            refine Go.if_eqB X 56 dX3_foreseen_47 (by decide) (fun h47 => ?_) (fun h47 => ?_)
            · --
              refine Go.iinc_0 X (nI (k + 1)) dX3_foreseen_56 (by decide) rfl (show nI k + Int32.ofInt 1 = nI (k + 1) from nI_add _ 1) ?_
              refine Go.goto X 22 dX3_foreseen_59 (by decide) ?_
              refine Go.lv_1 (congrArg (fun z => Value.int (nI z)) (show bts (fun j => decide (j ≠ ik) && forS N j ik) k = bts (fun j => decide (j ≠ ik) && forS N j ik) (k + 1) from by simp [bts, forS, h35, h47])) ?_
              exact ih22 (k + 1) (by first | omega | (split <;> omega)) (by first | omega | (split <;> omega))
            · --
              refine Go.iload_n X 1 dX3_foreseen_50 rfl ?_
              refine Go.iconst X (nI 1) dX3_foreseen_51 k_ic_1 ?_
              refine Go.iload_n X 0 dX3_foreseen_52 rfl ?_
              refine Go.ishl_e X (nI (2 ^ k)) dX3_foreseen_53 (nI_shl1 (by first | omega | (split <;> omega))) ?_
              refine Go.ior_e X (nI ((bts (fun j => decide (j ≠ ik) && forS N j ik) k) ||| (2 ^ k))) dX3_foreseen_54 (nI_or _ _) ?_
              refine Go.istore_n_1 X dX3_foreseen_55 (by decide) rfl ?_
              refine Go.iinc_0 X (nI (k + 1)) dX3_foreseen_56 (by decide) rfl (show nI k + Int32.ofInt 1 = nI (k + 1) from nI_add _ 1) ?_
              refine Go.goto X 22 dX3_foreseen_59 (by decide) ?_
              refine Go.lv_1 (congrArg (fun z => Value.int (nI z)) (show (bts (fun j => decide (j ≠ ik) && forS N j ik) k) ||| (2 ^ k) = bts (fun j => decide (j ≠ ik) && forS N j ik) (k + 1) from by simp [bts, forS, h35, h47])) ?_
              exact ih22 (k + 1) (by first | omega | (split <;> omega)) (by first | omega | (split <;> omega))
    refine Go.lv_1 (congrArg (fun z => Value.int (nI z)) (show 0 = bts (fun j => decide (j ≠ ik) && forS N j ik) 0 from by rfl)) ?_
    exact L22 (sP N - 0 + 1) 0 (by first | omega | (split <;> omega)) (Nat.lt_succ_self _)
  · --
    refine Go.aload_n X 0 dX3_foreseen_11 rfl ?_
    refine Go.bipush X ((-2 : Int32)) dX3_foreseen_12 k_bp_m2 ?_
    refine Go.callV0i X (c_refuse_0 g ad N K b z le rf hd ln vl T ts te tk br) cal_X3_refuse gX3_foreseen_X3_refuse (ci := 3) (q0 := 0) rfl rfl rfl rfl rfl dX3_foreseen_14 ?_
    have e9 : x_foreseen (N, K, b, z, le, rf, hd, ln, vl) i = ((N, K, b, z, le, inc rf 0, hd, ln, vl), (-2)) := by simp (decide := true) [x_foreseen, rfS, upS_id, h8]
    exact Go.iret X E dX3_foreseen_17 ⟨by rw [e9], _, by rw [e9]⟩ rfl
set_option maxHeartbeats 4000000 in
set_option maxRecDepth 100000 in
theorem b_deepest (g : gT) (ad : Nat → Nat) (N : Sch) (K : Sch) (b : Bool) (z : Nat) (le : Nat → Nat) (rf : Nat → Int32) (hd : Nat → Int32) (ln : Nat → Nat) (vl : Nat → Nat → Int64) (T : Sch) (ts : Nat) (te : Nat) (tk : Nat) (br : Nat → Nat) (hN : sOk N) : Ct g yX3_deepest wsX3_deepest 3 66 [.ref (ad 0)] (bxW g ad (N, K, b, z, le, rf, hd, ln, vl) (T, ts, te, tk, br)) (fun v9 w9 => v9 = (some (.int (x_deepest (N, K, b, z, le, rf, hd, ln, vl)).2)) ∧ ∃ J9, w9 = bxW g ad (x_deepest (N, K, b, z, le, rf, hd, ln, vl)).1 J9) := by
  refine Ct.start (cc := cX3_deepest) (nL := 3) (ret := (some .int)) (own := RX3) (by decide) rfl rfl rfl ?_
  intro Γ X E
  show Go Γ g 3 (rmC 3 66) 0 0 (bxW g ad (N, K, b, z, le, rf, hd, ln, vl) (T, ts, te, tk, br)) 0 [(0, .ref (ad 0))] []
  obtain ⟨o1, o2, o3, o4, o5, o6, o7, o8⟩ := id hN
  have o9 := p2_9 o2
  have o10 := sA_512 hN
  refine Go.aload_n X 0 dX3_deepest_0 rfl ?_
  refine Go.get X f_X3_deepest_10 0 (v := .ref (ad 1)) rfl rfl dX3_deepest_1 ?_
  refine Go.get X f_X3_deepest_123 1 (v := .int (nI (sP N))) rfl rfl dX3_deepest_4 ?_
  refine Go.if_neN X 17 dX3_deepest_7 (by decide) (by first | omega | (split <;> omega)) (fun h7 => ?_) (fun h7 => ?_)
  · --
    refine Go.iconst X (nI 0) dX3_deepest_17 k_ic_0 ?_
    refine Go.istore_n_new X dX3_deepest_18 (by decide) rfl ?_
    refine Go.iconst X (nI 1) dX3_deepest_19 k_ic_1 ?_
    refine Go.istore_n_new X dX3_deepest_20 (by decide) rfl ?_
    have L21 : ∀ (f21 : Nat) (k : Nat) (hk : k ≤ sP N) (hk1 : 1 ≤ k) (hf21 : sP N - k < f21), Go Γ g 3 (rmC 3 66) 0 0 (bxW g ad (N, K, b, z, le, rf, hd, ln, vl) (T, ts, te, tk, br)) 21 [(2, .int (nI k)), (1, .int (nI (dpI N k))), (0, .ref (ad 0))] [] := by
      intro f21
      induction f21 with
      | zero => intro k hk hk1 hf21; exact absurd hf21 (Nat.not_lt_zero _)
      | succ f21 ih21 =>
        intro k hk hk1 hf21
        refine Go.iload_n X 0 dX3_deepest_21 rfl ?_
        refine Go.aload_n X 2 dX3_deepest_22 rfl ?_
        refine Go.get X f_X3_deepest_10 0 (v := .ref (ad 1)) rfl rfl dX3_deepest_23 ?_
        refine Go.get X f_X3_deepest_123 1 (v := .int (nI (sP N))) rfl rfl dX3_deepest_26 ?_
        refine Go.icmp_geN X 59 dX3_deepest_29 (by decide) (by first | omega | (split <;> omega)) (by first | omega | (split <;> omega)) (fun h29 => ?_) (fun h29 => ?_)
        · --
          refine Go.lv_1 (w := .int (nI (dpI N (sP N)))) (by rw [show k = sP N by omega]) ?_
          refine Go.iload_n X 1 dX3_deepest_59 rfl ?_
          have e9 : x_deepest (N, K, b, z, le, rf, hd, ln, vl) = ((N, K, b, z, le, rf, hd, ln, vl), (nI (dpI N (sP N)))) := by simp (decide := true) [x_deepest, rfS, upS_id, h7, h29, Nat.not_lt.mpr h29]
          exact Go.iret X E dX3_deepest_60 ⟨by rw [e9], _, by rw [e9]⟩ rfl
        · --
          have o11 := dpI_lt N (k - 1)
          rw [show k - 1 + 1 = k by omega] at o11
          refine Go.aload_n X 2 dX3_deepest_32 rfl ?_
          refine Go.get X f_X3_deepest_10 0 (v := .ref (ad 1)) rfl rfl dX3_deepest_33 ?_
          refine Go.iload_n X 0 dX3_deepest_36 rfl ?_
          refine Go.callVi X  (c_depthOf g (ad 1) (ad 2) (ad 3) (ad 4) N k (by exact hN) (by first | omega | (split <;> omega))) cal_X0_depthOf [1, 2, 3, 4] rfl rfl gX3_deepest_X0_depthOf (ci := 0) (q0 := 1) rfl rfl rfl rfl rfl dX3_deepest_37 ?_
          have f37_1 := dep_le hN 6 k
          refine Go.aload_n X 2 dX3_deepest_40 rfl ?_
          refine Go.get X f_X3_deepest_10 0 (v := .ref (ad 1)) rfl rfl dX3_deepest_41 ?_
          refine Go.iload_n X 1 dX3_deepest_44 rfl ?_
          refine Go.callVi X  (c_depthOf g (ad 1) (ad 2) (ad 3) (ad 4) N (dpI N k) (by exact hN) (by first | omega | (split <;> omega))) cal_X0_depthOf [1, 2, 3, 4] rfl rfl gX3_deepest_X0_depthOf (ci := 0) (q0 := 1) rfl rfl rfl rfl rfl dX3_deepest_45 ?_
          have f45_2 := dep_le hN 6 (dpI N k)
          refine Go.icmp_leN X 53 dX3_deepest_48 (by decide) (by first | omega | (split <;> omega)) (by first | omega | (split <;> omega)) (fun h48 => ?_) (fun h48 => ?_)
          · --
            refine Go.iinc_0 X (nI (k + 1)) dX3_deepest_53 (by decide) rfl (show nI k + Int32.ofInt 1 = nI (k + 1) from nI_add _ 1) ?_
            refine Go.goto X 21 dX3_deepest_56 (by decide) ?_
            refine Go.lv_1 (congrArg (fun z => Value.int (nI z)) (show dpI N k = dpI N (k + 1) from by rw [dpI_f (Nat.not_lt.mpr h48)])) ?_
            exact ih21 (k + 1) (by first | omega | (split <;> omega)) (by first | omega | (split <;> omega)) (by first | omega | (split <;> omega))
          · --
            refine Go.iload_n X 0 dX3_deepest_51 rfl ?_
            refine Go.istore_n_1 X dX3_deepest_52 (by decide) rfl ?_
            refine Go.iinc_0 X (nI (k + 1)) dX3_deepest_53 (by decide) rfl (show nI k + Int32.ofInt 1 = nI (k + 1) from nI_add _ 1) ?_
            refine Go.goto X 21 dX3_deepest_56 (by decide) ?_
            refine Go.lv_1 (congrArg (fun z => Value.int (nI z)) (show k = dpI N (k + 1) from by rw [dpI_t h48])) ?_
            exact ih21 (k + 1) (by first | omega | (split <;> omega)) (by first | omega | (split <;> omega)) (by first | omega | (split <;> omega))
    refine Go.lv_1 (congrArg (fun z => Value.int (nI z)) (show 0 = dpI N 1 from by rw [dpI_1])) ?_
    exact L21 (sP N - 1 + 1) 1 (by first | omega | (split <;> omega)) (by first | omega | (split <;> omega)) (Nat.lt_succ_self _)
  · --
    refine Go.aload_n X 0 dX3_deepest_10 rfl ?_
    refine Go.bipush X ((-5 : Int32)) dX3_deepest_11 k_bp_m5 ?_
    refine Go.callV0i X (c_refuse_3 g ad N K b z le rf hd ln vl T ts te tk br) cal_X3_refuse gX3_deepest_X3_refuse (ci := 3) (q0 := 0) rfl rfl rfl rfl rfl dX3_deepest_13 ?_
    have e9 : x_deepest (N, K, b, z, le, rf, hd, ln, vl) = ((N, K, b, z, le, inc rf 3, hd, ln, vl), (-5)) := by simp (decide := true) [x_deepest, rfS, upS_id, h7]
    exact Go.iret X E dX3_deepest_16 ⟨by rw [e9], _, by rw [e9]⟩ rfl
set_option maxHeartbeats 4000000 in
set_option maxRecDepth 100000 in
theorem b_asleep (g : gT) (ad : Nat → Nat) (N : Sch) (K : Sch) (b : Bool) (z : Nat) (le : Nat → Nat) (rf : Nat → Int32) (hd : Nat → Int32) (ln : Nat → Nat) (vl : Nat → Nat → Int64) (T : Sch) (ts : Nat) (te : Nat) (tk : Nat) (br : Nat → Nat) (m : Int32) (hN : sOk N) : Ct g yX3_asleep wsX3_asleep 2 45 [.ref (ad 0), .int m] (bxW g ad (N, K, b, z, le, rf, hd, ln, vl) (T, ts, te, tk, br)) (fun v9 w9 => v9 = (some (.int (x_asleep (N, K, b, z, le, rf, hd, ln, vl) m).2)) ∧ ∃ J9, w9 = bxW g ad (x_asleep (N, K, b, z, le, rf, hd, ln, vl) m).1 J9) := by
  refine Ct.start (cc := cX3_asleep) (nL := 4) (ret := (some .int)) (own := RX3) (by decide) rfl rfl rfl ?_
  intro Γ X E
  show Go Γ g 4 (rmC 2 45) 0 0 (bxW g ad (N, K, b, z, le, rf, hd, ln, vl) (T, ts, te, tk, br)) 0 [(0, .ref (ad 0)), (1, .int m)] []
  obtain ⟨o1, o2, o3, o4, o5, o6, o7, o8⟩ := id hN
  have o9 := p2_9 o2
  have o10 := sA_512 hN
  refine Go.aload_n X 0 dX3_asleep_0 rfl ?_
  refine Go.get X f_X3_asleep_10 0 (v := .ref (ad 1)) rfl rfl dX3_asleep_1 ?_
  refine Go.iload_n X 1 dX3_asleep_4 rfl ?_
  refine Go.callVi X  (c_isMorning g (ad 1) (ad 2) (ad 3) (ad 4) N m (by exact hN)) cal_X0_isMorning [1, 2, 3, 4] rfl rfl gX3_asleep_X0_isMorning (ci := 0) (q0 := 1) rfl rfl rfl rfl rfl dX3_asleep_5 ?_
  refine Go.if_neB X 18 dX3_asleep_8 (by decide) (fun h8 => ?_) (fun h8 => ?_)
  · --
    obtain ⟨mk, hmk, rfl⟩ := inb_at (by first | omega | (split <;> omega)) h8
    refine Go.iconst X (nI 0) dX3_asleep_18 k_ic_0 ?_
    refine Go.istore_n_new X dX3_asleep_19 (by decide) rfl ?_
    refine Go.iconst X (nI 0) dX3_asleep_20 k_ic_0 ?_
    refine Go.istore_n_new X dX3_asleep_21 (by decide) rfl ?_
    have L22 : ∀ (f22 : Nat) (k : Nat) (hk : k ≤ sP N) (hf22 : sP N - k < f22), Go Γ g 4 (rmC 2 45) 0 0 (bxW g ad (N, K, b, z, le, rf, hd, ln, vl) (T, ts, te, tk, br)) 22 [(3, .int (nI k)), (2, .int (nI (bts (fun i => slp N i mk) k))), (0, .ref (ad 0)), (1, .int (nI mk))] [] := by
      intro f22
      induction f22 with
      | zero => intro k hk hf22; exact absurd hf22 (Nat.not_lt_zero _)
      | succ f22 ih22 =>
        intro k hk hf22
        refine Go.iload_n X 0 dX3_asleep_22 rfl ?_
        refine Go.aload_n X 2 dX3_asleep_23 rfl ?_
        refine Go.get X f_X3_asleep_10 0 (v := .ref (ad 1)) rfl rfl dX3_asleep_24 ?_
        refine Go.get X f_X3_asleep_123 1 (v := .int (nI (sP N))) rfl rfl dX3_asleep_27 ?_
        refine Go.icmp_geN X 57 dX3_asleep_30 (by decide) (by first | omega | (split <;> omega)) (by first | omega | (split <;> omega)) (fun h30 => ?_) (fun h30 => ?_)
        · --
          refine Go.lv_1 (w := .int (nI (bts (fun i => slp N i mk) (sP N)))) (by rw [show k = sP N by omega]) ?_
          refine Go.iload_n X 1 dX3_asleep_57 rfl ?_
          have e9 : x_asleep (N, K, b, z, le, rf, hd, ln, vl) (nI mk) = ((N, K, b, z, le, rf, hd, ln, vl), (nI (bts (fun i => slp N i mk) (sP N)))) := by simp (decide := true) [x_asleep, rfS, upS_id, h8, h30, Nat.not_lt.mpr h30, nI_clamp (show mk < 2 ^ 31 by omega)]
          exact Go.iret X E dX3_asleep_58 ⟨by rw [e9], _, by rw [e9]⟩ rfl
        · --
          refine Go.aload_n X 2 dX3_asleep_33 rfl ?_
          refine Go.get X f_X3_asleep_10 0 (v := .ref (ad 1)) rfl rfl dX3_asleep_34 ?_
          refine Go.iload_n X 0 dX3_asleep_37 rfl ?_
          refine Go.iload_n X 3 dX3_asleep_38 rfl ?_
          refine Go.callVi X  (c_sleepsOn g (ad 1) (ad 2) (ad 3) (ad 4) N k mk (by exact hN) (by first | omega | (split <;> omega)) (by first | omega | (split <;> omega))) cal_X0_sleepsOn [1, 2, 3, 4] rfl rfl gX3_asleep_X0_sleepsOn (ci := 0) (q0 := 1) rfl rfl rfl rfl rfl dX3_asleep_39 ?_
          refine Go.if_eqB X 51 dX3_asleep_42 (by decide) (fun h42 => ?_) (fun h42 => ?_)
          · --
            refine Go.iinc_0 X (nI (k + 1)) dX3_asleep_51 (by decide) rfl (show nI k + Int32.ofInt 1 = nI (k + 1) from nI_add _ 1) ?_
            refine Go.goto X 22 dX3_asleep_54 (by decide) ?_
            refine Go.lv_1 (congrArg (fun z => Value.int (nI z)) (show bts (fun i => slp N i mk) k = bts (fun i => slp N i mk) (k + 1) from by simp [bts, h42])) ?_
            exact ih22 (k + 1) (by first | omega | (split <;> omega)) (by first | omega | (split <;> omega))
          · --
            refine Go.iload_n X 1 dX3_asleep_45 rfl ?_
            refine Go.iconst X (nI 1) dX3_asleep_46 k_ic_1 ?_
            refine Go.iload_n X 0 dX3_asleep_47 rfl ?_
            refine Go.ishl_e X (nI (2 ^ k)) dX3_asleep_48 (nI_shl1 (by first | omega | (split <;> omega))) ?_
            refine Go.ior_e X (nI ((bts (fun i => slp N i mk) k) ||| (2 ^ k))) dX3_asleep_49 (nI_or _ _) ?_
            refine Go.istore_n_1 X dX3_asleep_50 (by decide) rfl ?_
            refine Go.iinc_0 X (nI (k + 1)) dX3_asleep_51 (by decide) rfl (show nI k + Int32.ofInt 1 = nI (k + 1) from nI_add _ 1) ?_
            refine Go.goto X 22 dX3_asleep_54 (by decide) ?_
            refine Go.lv_1 (congrArg (fun z => Value.int (nI z)) (show (bts (fun i => slp N i mk) k) ||| (2 ^ k) = bts (fun i => slp N i mk) (k + 1) from by simp [bts, h42])) ?_
            exact ih22 (k + 1) (by first | omega | (split <;> omega)) (by first | omega | (split <;> omega))
    refine Go.lv_1 (congrArg (fun z => Value.int (nI z)) (show 0 = bts (fun i => slp N i mk) 0 from by rfl)) ?_
    exact L22 (sP N - 0 + 1) 0 (by first | omega | (split <;> omega)) (Nat.lt_succ_self _)
  · --
    refine Go.aload_n X 0 dX3_asleep_11 rfl ?_
    refine Go.bipush X ((-2 : Int32)) dX3_asleep_12 k_bp_m2 ?_
    refine Go.callV0i X (c_refuse_0 g ad N K b z le rf hd ln vl T ts te tk br) cal_X3_refuse gX3_asleep_X3_refuse (ci := 3) (q0 := 0) rfl rfl rfl rfl rfl dX3_asleep_14 ?_
    have e9 : x_asleep (N, K, b, z, le, rf, hd, ln, vl) m = ((N, K, b, z, le, inc rf 0, hd, ln, vl), (-2)) := by simp (decide := true) [x_asleep, rfS, upS_id, h8]
    exact Go.iret X E dX3_asleep_17 ⟨by rw [e9], _, by rw [e9]⟩ rfl
set_option maxHeartbeats 4000000 in
set_option maxRecDepth 100000 in
theorem b_surprises (g : gT) (ad : Nat → Nat) (N : Sch) (K : Sch) (b : Bool) (z : Nat) (le : Nat → Nat) (rf : Nat → Int32) (hd : Nat → Int32) (ln : Nat → Nat) (vl : Nat → Nat → Int64) (T : Sch) (ts : Nat) (te : Nat) (tk : Nat) (br : Nat → Nat) (hN : sOk N) : Ct g yX3_surprises wsX3_surprises 6 130 [.ref (ad 0)] (bxW g ad (N, K, b, z, le, rf, hd, ln, vl) (T, ts, te, tk, br)) (fun v9 w9 => v9 = (some (.int (x_surprises (N, K, b, z, le, rf, hd, ln, vl)).2)) ∧ ∃ J9, w9 = bxW g ad (x_surprises (N, K, b, z, le, rf, hd, ln, vl)).1 J9) := by
  refine Ct.start (cc := cX3_surprises) (nL := 1) (ret := (some .int)) (own := RX3) (by decide) rfl rfl rfl ?_
  intro Γ X E
  show Go Γ g 1 (rmC 6 130) 0 0 (bxW g ad (N, K, b, z, le, rf, hd, ln, vl) (T, ts, te, tk, br)) 0 [(0, .ref (ad 0))] []
  obtain ⟨o1, o2, o3, o4, o5, o6, o7, o8⟩ := id hN
  have o9 := p2_9 o2
  have o10 := sA_512 hN
  refine Go.aload_n X 0 dX3_surprises_0 rfl ?_
  refine Go.get X f_X3_surprises_10 0 (v := .ref (ad 1)) rfl rfl dX3_surprises_1 ?_
  refine Go.callVi X  (c_bySurprise g (ad 1) (ad 2) (ad 3) (ad 4) N (by exact hN)) cal_X0_bySurprise [1, 2, 3, 4] rfl rfl gX3_surprises_X0_bySurprise (ci := 0) (q0 := 1) rfl rfl rfl rfl rfl dX3_surprises_4 ?_
  have f4_1 := sur_512 hN 6
  have e9 : x_surprises (N, K, b, z, le, rf, hd, ln, vl) = ((N, K, b, z, le, rf, hd, ln, vl), (nI (sur N 6))) := by simp (decide := true) [x_surprises, rfS, upS_id]
  exact Go.iret X E dX3_surprises_7 ⟨by rw [e9], _, by rw [e9]⟩ rfl
set_option maxHeartbeats 4000000 in
set_option maxRecDepth 100000 in
theorem b_longest (g : gT) (ad : Nat → Nat) (N : Sch) (K : Sch) (b : Bool) (z : Nat) (le : Nat → Nat) (rf : Nat → Int32) (hd : Nat → Int32) (ln : Nat → Nat) (vl : Nat → Nat → Int64) (T : Sch) (ts : Nat) (te : Nat) (tk : Nat) (br : Nat → Nat) (hN : sOk N) : Ct g yX3_longest wsX3_longest 6 130 [.ref (ad 0)] (bxW g ad (N, K, b, z, le, rf, hd, ln, vl) (T, ts, te, tk, br)) (fun v9 w9 => v9 = (some (.int (x_longest (N, K, b, z, le, rf, hd, ln, vl)).2)) ∧ ∃ J9, w9 = bxW g ad (x_longest (N, K, b, z, le, rf, hd, ln, vl)).1 J9) := by
  refine Ct.start (cc := cX3_longest) (nL := 5) (ret := (some .int)) (own := RX3) (by decide) rfl rfl rfl ?_
  intro Γ X E
  show Go Γ g 5 (rmC 6 130) 0 0 (bxW g ad (N, K, b, z, le, rf, hd, ln, vl) (T, ts, te, tk, br)) 0 [(0, .ref (ad 0))] []
  obtain ⟨o1, o2, o3, o4, o5, o6, o7, o8⟩ := id hN
  have o9 := p2_9 o2
  have o10 := sA_512 hN
  refine Go.iconst X (nI 0) dX3_longest_0 k_ic_0 ?_
  refine Go.istore_n_new X dX3_longest_1 (by decide) rfl ?_
  refine Go.iconst X (nI 0) dX3_longest_2 k_ic_0 ?_
  refine Go.istore_n_new X dX3_longest_3 (by decide) rfl ?_
  refine Go.aload_n X 2 dX3_longest_4 rfl ?_
  refine Go.get X f_X3_longest_10 0 (v := .ref (ad 1)) rfl rfl dX3_longest_5 ?_
  refine Go.callVi X  (c_bySurprise g (ad 1) (ad 2) (ad 3) (ad 4) N (by exact hN)) cal_X0_bySurprise [1, 2, 3, 4] rfl rfl gX3_longest_X0_bySurprise (ci := 0) (q0 := 1) rfl rfl rfl rfl rfl dX3_longest_8 ?_
  have f8_1 := sur_512 hN 6
  refine Go.istore_n_new X dX3_longest_11 (by decide) rfl ?_
  refine Go.iconst X (nI 0) dX3_longest_12 k_ic_0 ?_
  refine Go.istore_new X dX3_longest_13 (by decide) rfl ?_
  have L15 : ∀ (f15 : Nat) (k : Nat) (hk : k ≤ sN N) (hf15 : sN N - k < f15), Go Γ g 5 (rmC 6 130) 0 0 (bxW g ad (N, K, b, z, le, rf, hd, ln, vl) (T, ts, te, tk, br)) 15 [(4, .int (nI k)), (3, .int (nI (sur N 6))), (2, .int (nI (lonL (sur N 6) k))), (1, .int (nI (lonM (sur N 6) k))), (0, .ref (ad 0))] [] := by
    intro f15
    induction f15 with
    | zero => intro k hk hf15; exact absurd hf15 (Nat.not_lt_zero _)
    | succ f15 ih15 =>
      intro k hk hf15
      refine Go.iload X 0 dX3_longest_15 rfl ?_
      refine Go.aload_n X 4 dX3_longest_17 rfl ?_
      refine Go.get X f_X3_longest_10 0 (v := .ref (ad 1)) rfl rfl dX3_longest_18 ?_
      refine Go.get X f_X3_longest_117 1 (v := .int (nI (sN N))) rfl rfl dX3_longest_21 ?_
      refine Go.icmp_geN X 56 dX3_longest_24 (by decide) (by first | omega | (split <;> omega)) (by first | omega | (split <;> omega)) (fun h24 => ?_) (fun h24 => ?_)
      · --
        refine Go.lv_3 (w := .int (nI (lonM (sur N 6) (sN N)))) (by rw [show k = sN N by omega]) ?_
        refine Go.iload_n X 3 dX3_longest_56 rfl ?_
        have e9 : x_longest (N, K, b, z, le, rf, hd, ln, vl) = ((N, K, b, z, le, rf, hd, ln, vl), (nI (lonM (sur N 6) (sN N)))) := by simp (decide := true) [x_longest, rfS, upS_id, h24, Nat.not_lt.mpr h24]
        exact Go.iret X E dX3_longest_57 ⟨by rw [e9], _, by rw [e9]⟩ rfl
      · --
        have o11 := lonL_le (sur N 6) k
        have o12 := lonM_le (sur N 6) k
        refine Go.iload_n X 1 dX3_longest_27 rfl ?_
        refine Go.iload X 0 dX3_longest_28 rfl ?_
        refine Go.callSi X  (c_isIn g (sur N 6) k (by first | omega | (split <;> omega)) (by first | omega | (split <;> omega))) cal_X3_isIn [] rfl rfl gX3_longest_X3_isIn rfl rfl rfl dX3_longest_30 ?_
        refine Go.if_eqB X 42 dX3_longest_33 (by decide) (fun h33 => ?_) (fun h33 => ?_)
        · --
          refine Go.iconst X (nI 0) dX3_longest_42 k_ic_0 ?_
          refine Go.istore_n_2 X dX3_longest_43 (by decide) rfl ?_
          refine Go.iload_n X 3 dX3_longest_44 rfl ?_
          refine Go.iload_n X 2 dX3_longest_45 rfl ?_
          refine Go.mmax X (nI (max (lonM (sur N 6) k) 0)) (List.mem_of_getElem? (i := 3) (by decide +kernel)) (List.mem_of_getElem? (i := 4) (by decide +kernel)) (List.mem_of_getElem? (i := 5) (by decide +kernel)) (List.mem_of_getElem? (i := 6) (by decide +kernel)) rfl (by exact nmax (by first | omega | (split <;> omega)) (by first | omega | (split <;> omega))) dX3_longest_46 ?_
          refine Go.istore_n_3 X dX3_longest_49 (by decide) rfl ?_
          refine Go.iinc_0 X (nI (k + 1)) dX3_longest_50 (by decide) rfl (show nI k + Int32.ofInt 1 = nI (k + 1) from nI_add _ 1) ?_
          refine Go.goto X 15 dX3_longest_53 (by decide) ?_
          refine Go.lv_2 (congrArg (fun z => Value.int (nI z)) (show 0 = lonL (sur N 6) (k + 1) from by rw [lonL_f h33])) ?_
          refine Go.lv_3 (congrArg (fun z => Value.int (nI z)) (show max (lonM (sur N 6) k) 0 = lonM (sur N 6) (k + 1) from by rw [lonM, lonL_f h33])) ?_
          exact ih15 (k + 1) (by first | omega | (split <;> omega)) (by first | omega | (split <;> omega))
        · --
          refine Go.iload_n X 2 dX3_longest_36 rfl ?_
          refine Go.iconst X (nI 1) dX3_longest_37 k_ic_1 ?_
          refine Go.iadd_e X (nI (lonL (sur N 6) k + 1)) dX3_longest_38 (nI_add _ _) ?_
          refine Go.goto X 43 dX3_longest_39 (by decide) ?_
          refine Go.istore_n_2 X dX3_longest_43 (by decide) rfl ?_
          refine Go.iload_n X 3 dX3_longest_44 rfl ?_
          refine Go.iload_n X 2 dX3_longest_45 rfl ?_
          refine Go.mmax X (nI (max (lonM (sur N 6) k) (lonL (sur N 6) k + 1))) (List.mem_of_getElem? (i := 3) (by decide +kernel)) (List.mem_of_getElem? (i := 4) (by decide +kernel)) (List.mem_of_getElem? (i := 5) (by decide +kernel)) (List.mem_of_getElem? (i := 6) (by decide +kernel)) rfl (by exact nmax (by first | omega | (split <;> omega)) (by first | omega | (split <;> omega))) dX3_longest_46 ?_
          refine Go.istore_n_3 X dX3_longest_49 (by decide) rfl ?_
          refine Go.iinc_0 X (nI (k + 1)) dX3_longest_50 (by decide) rfl (show nI k + Int32.ofInt 1 = nI (k + 1) from nI_add _ 1) ?_
          refine Go.goto X 15 dX3_longest_53 (by decide) ?_
          refine Go.lv_2 (congrArg (fun z => Value.int (nI z)) (show lonL (sur N 6) k + 1 = lonL (sur N 6) (k + 1) from by rw [lonL_t h33])) ?_
          refine Go.lv_3 (congrArg (fun z => Value.int (nI z)) (show max (lonM (sur N 6) k) (lonL (sur N 6) k + 1) = lonM (sur N 6) (k + 1) from by rw [lonM, lonL_t h33])) ?_
          exact ih15 (k + 1) (by first | omega | (split <;> omega)) (by first | omega | (split <;> omega))
  refine Go.lv_2 (congrArg (fun z => Value.int (nI z)) (show 0 = lonL (sur N 6) 0 from by rfl)) ?_
  refine Go.lv_3 (congrArg (fun z => Value.int (nI z)) (show 0 = lonM (sur N 6) 0 from by rfl)) ?_
  exact L15 (sN N - 0 + 1) 0 (by first | omega | (split <;> omega)) (Nat.lt_succ_self _)
set_option maxHeartbeats 4000000 in
set_option maxRecDepth 100000 in
theorem b_odds (g : gT) (ad : Nat → Nat) (N : Sch) (K : Sch) (b : Bool) (z : Nat) (le : Nat → Nat) (rf : Nat → Int32) (hd : Nat → Int32) (ln : Nat → Nat) (vl : Nat → Nat → Int64) (T : Sch) (ts : Nat) (te : Nat) (tk : Nat) (br : Nat → Nat) (m : Int32) (hN : sOk N) : Ct g yX3_odds wsX3_odds 4 84 [.ref (ad 0), .int m] (bxW g ad (N, K, b, z, le, rf, hd, ln, vl) (T, ts, te, tk, br)) (fun v9 w9 => v9 = (some (.int (x_odds (N, K, b, z, le, rf, hd, ln, vl) m).2)) ∧ ∃ J9, w9 = bxW g ad (x_odds (N, K, b, z, le, rf, hd, ln, vl) m).1 J9) := by
  refine Ct.start (cc := cX3_odds) (nL := 2) (ret := (some .int)) (own := RX3) (by decide) rfl rfl rfl ?_
  intro Γ X E
  show Go Γ g 2 (rmC 4 84) 0 0 (bxW g ad (N, K, b, z, le, rf, hd, ln, vl) (T, ts, te, tk, br)) 0 [(0, .ref (ad 0)), (1, .int m)] []
  obtain ⟨o1, o2, o3, o4, o5, o6, o7, o8⟩ := id hN
  have o9 := p2_9 o2
  have o10 := sA_512 hN
  refine Go.aload_n X 0 dX3_odds_0 rfl ?_
  refine Go.get X f_X3_odds_10 0 (v := .ref (ad 1)) rfl rfl dX3_odds_1 ?_
  refine Go.iload_n X 1 dX3_odds_4 rfl ?_
  refine Go.callVi X  (c_isMorning g (ad 1) (ad 2) (ad 3) (ad 4) N m (by exact hN)) cal_X0_isMorning [1, 2, 3, 4] rfl rfl gX3_odds_X0_isMorning (ci := 0) (q0 := 1) rfl rfl rfl rfl rfl dX3_odds_5 ?_
  refine Go.if_neB X 18 dX3_odds_8 (by decide) (fun h8 => ?_) (fun h8 => ?_)
  · --
    obtain ⟨mk, hmk, rfl⟩ := inb_at (by first | omega | (split <;> omega)) h8
    refine Go.aload_n X 0 dX3_odds_18 rfl ?_
    refine Go.get X f_X3_odds_10 0 (v := .ref (ad 1)) rfl rfl dX3_odds_19 ?_
    refine Go.aload_n X 0 dX3_odds_22 rfl ?_
    refine Go.get X f_X3_odds_10 0 (v := .ref (ad 1)) rfl rfl dX3_odds_23 ?_
    refine Go.iload_n X 1 dX3_odds_26 rfl ?_
    refine Go.callVi X  (c_stillOn g (ad 1) (ad 2) (ad 3) (ad 4) N mk (by exact hN) (by first | omega | (split <;> omega))) cal_X0_stillOn [1, 2, 3, 4] rfl rfl gX3_odds_X0_stillOn (ci := 0) (q0 := 1) rfl rfl rfl rfl rfl dX3_odds_27 ?_
    have f27_1 := still_le (sA N) mk
    refine Go.callVi X  (c_weightsOf g (ad 1) (ad 2) (ad 3) (ad 4) N (still (sA N) mk) (by exact hN) (by first | omega | (split <;> omega))) cal_X0_weightsOf [1, 2, 3, 4] rfl rfl gX3_odds_X0_weightsOf (ci := 0) (q0 := 1) rfl rfl rfl rfl rfl dX3_odds_30 ?_
    have f30_2 := wsum_81 hN (still (sA N) mk)
    refine Go.if_neN X 45 dX3_odds_33 (by decide) (by first | omega | (split <;> omega)) (fun h33 => ?_) (fun h33 => ?_)
    · --
      refine Go.aload_n X 0 dX3_odds_45 rfl ?_
      refine Go.get X f_X3_odds_10 0 (v := .ref (ad 1)) rfl rfl dX3_odds_46 ?_
      refine Go.iload_n X 1 dX3_odds_49 rfl ?_
      refine Go.callVi X  (c_oddsOn g (ad 1) (ad 2) (ad 3) (ad 4) N mk (by exact hN) (by first | omega | (split <;> omega))) cal_X0_oddsOn [1, 2, 3, 4] rfl rfl gX3_odds_X0_oddsOn (ci := 0) (q0 := 1) rfl rfl rfl rfl rfl dX3_odds_50 ?_
      have e9 : x_odds (N, K, b, z, le, rf, hd, ln, vl) (nI mk) = ((N, K, b, z, le, rf, hd, ln, vl), (shI (lotN N mk) (wsum (sW N) (still (sA N) mk) (sN N)))) := by simp (decide := true) [x_odds, rfS, upS_id, h8, h33, nI_clamp (show mk < 2 ^ 31 by omega)]
      exact Go.iret X E dX3_odds_53 ⟨by rw [e9], _, by rw [e9]⟩ rfl
    · --
      refine Go.aload_n X 0 dX3_odds_36 rfl ?_
      refine Go.bipush X ((-5 : Int32)) dX3_odds_37 k_bp_m5 ?_
      refine Go.callV0i X (c_refuse_3 g ad N K b z le rf hd ln vl T ts te tk br) cal_X3_refuse gX3_odds_X3_refuse (ci := 3) (q0 := 0) rfl rfl rfl rfl rfl dX3_odds_39 ?_
      refine Go.goto X 53 dX3_odds_42 (by decide) ?_
      have e9 : x_odds (N, K, b, z, le, rf, hd, ln, vl) (nI mk) = ((N, K, b, z, le, inc rf 3, hd, ln, vl), (-5)) := by simp (decide := true) [x_odds, rfS, upS_id, h8, h33, nI_clamp (show mk < 2 ^ 31 by omega)]
      exact Go.iret X E dX3_odds_53 ⟨by rw [e9], _, by rw [e9]⟩ rfl
  · --
    refine Go.aload_n X 0 dX3_odds_11 rfl ?_
    refine Go.bipush X ((-2 : Int32)) dX3_odds_12 k_bp_m2 ?_
    refine Go.callV0i X (c_refuse_0 g ad N K b z le rf hd ln vl T ts te tk br) cal_X3_refuse gX3_odds_X3_refuse (ci := 3) (q0 := 0) rfl rfl rfl rfl rfl dX3_odds_14 ?_
    have e9 : x_odds (N, K, b, z, le, rf, hd, ln, vl) m = ((N, K, b, z, le, inc rf 0, hd, ln, vl), (-2)) := by simp (decide := true) [x_odds, rfS, upS_id, h8]
    exact Go.iret X E dX3_odds_17 ⟨by rw [e9], _, by rw [e9]⟩ rfl
set_option maxHeartbeats 4000000 in
set_option maxRecDepth 100000 in
theorem b_likeliest (g : gT) (ad : Nat → Nat) (N : Sch) (K : Sch) (b : Bool) (z : Nat) (le : Nat → Nat) (rf : Nat → Int32) (hd : Nat → Int32) (ln : Nat → Nat) (vl : Nat → Nat → Int64) (T : Sch) (ts : Nat) (te : Nat) (tk : Nat) (br : Nat → Nat) (hN : sOk N) : Ct g yX3_likeliest wsX3_likeliest 4 84 [.ref (ad 0)] (bxW g ad (N, K, b, z, le, rf, hd, ln, vl) (T, ts, te, tk, br)) (fun v9 w9 => v9 = (some (.int (x_likeliest (N, K, b, z, le, rf, hd, ln, vl)).2)) ∧ ∃ J9, w9 = bxW g ad (x_likeliest (N, K, b, z, le, rf, hd, ln, vl)).1 J9) := by
  refine Ct.start (cc := cX3_likeliest) (nL := 4) (ret := (some .int)) (own := RX3) (by decide) rfl rfl rfl ?_
  intro Γ X E
  show Go Γ g 4 (rmC 4 84) 0 0 (bxW g ad (N, K, b, z, le, rf, hd, ln, vl) (T, ts, te, tk, br)) 0 [(0, .ref (ad 0))] []
  obtain ⟨o1, o2, o3, o4, o5, o6, o7, o8⟩ := id hN
  have o9 := p2_9 o2
  have o10 := sA_512 hN
  refine Go.iconst X ((-1 : Int32)) dX3_likeliest_0 k_ic_m1 ?_
  refine Go.istore_n_new X dX3_likeliest_1 (by decide) rfl ?_
  refine Go.iconst X ((-1 : Int32)) dX3_likeliest_2 k_ic_m1 ?_
  refine Go.istore_n_new X dX3_likeliest_3 (by decide) rfl ?_
  refine Go.iconst X (nI 0) dX3_likeliest_4 k_ic_0 ?_
  refine Go.istore_n_new X dX3_likeliest_5 (by decide) rfl ?_
  have L6 : ∀ (f6 : Nat) (k : Nat) (hk : k ≤ sN N) (hf6 : sN N - k < f6), Go Γ g 4 (rmC 4 84) 0 0 (bxW g ad (N, K, b, z, le, rf, hd, ln, vl) (T, ts, te, tk, br)) 6 [(3, .int (nI k)), (2, .int (likM N k)), (1, .int (likF N k)), (0, .ref (ad 0))] [] := by
    intro f6
    induction f6 with
    | zero => intro k hk hf6; exact absurd hf6 (Nat.not_lt_zero _)
    | succ f6 ih6 =>
      intro k hk hf6
      refine Go.iload_n X 0 dX3_likeliest_6 rfl ?_
      refine Go.aload_n X 3 dX3_likeliest_7 rfl ?_
      refine Go.get X f_X3_likeliest_10 0 (v := .ref (ad 1)) rfl rfl dX3_likeliest_8 ?_
      refine Go.get X f_X3_likeliest_117 1 (v := .int (nI (sN N))) rfl rfl dX3_likeliest_11 ?_
      refine Go.icmp_geN X 46 dX3_likeliest_14 (by decide) (by first | omega | (split <;> omega)) (by first | omega | (split <;> omega)) (fun h14 => ?_) (fun h14 => ?_)
      · --
        refine Go.lv_2 (w := .int (likF N (sN N))) (by rw [show k = sN N by omega]) ?_
        refine Go.iload_n X 2 dX3_likeliest_46 rfl ?_
        refine Go.iconst X ((-1 : Int32)) dX3_likeliest_47 k_ic_m1 ?_
        refine Go.icmp_ne X 60 dX3_likeliest_48 (by decide) (fun h48 => ?_) (fun h48 => ?_)
        · --
          refine Go.iload_n X 2 dX3_likeliest_60 rfl ?_
          have e9 : x_likeliest (N, K, b, z, le, rf, hd, ln, vl) = ((N, K, b, z, le, rf, hd, ln, vl), (likF N (sN N))) := by simp (decide := true) [x_likeliest, rfS, upS_id, h14, h48, Nat.not_lt.mpr h14]
          exact Go.iret X E dX3_likeliest_61 ⟨by rw [e9], _, by rw [e9]⟩ rfl
        · --
          refine Go.aload_n X 3 dX3_likeliest_51 rfl ?_
          refine Go.bipush X ((-5 : Int32)) dX3_likeliest_52 k_bp_m5 ?_
          refine Go.callV0i X (c_refuse_3 g ad N K b z le rf hd ln vl T ts te tk br) cal_X3_refuse gX3_likeliest_X3_refuse (ci := 3) (q0 := 0) rfl rfl rfl rfl rfl dX3_likeliest_54 ?_
          refine Go.goto X 61 dX3_likeliest_57 (by decide) ?_
          have e9 : x_likeliest (N, K, b, z, le, rf, hd, ln, vl) = ((N, K, b, z, le, inc rf 3, hd, ln, vl), (-5)) := by simp (decide := true) [x_likeliest, rfS, upS_id, h14, h48, Nat.not_lt.mpr h14]
          exact Go.iret X E dX3_likeliest_61 ⟨by rw [e9], _, by rw [e9]⟩ rfl
      · --
        refine Go.aload_n X 3 dX3_likeliest_17 rfl ?_
        refine Go.get X f_X3_likeliest_10 0 (v := .ref (ad 1)) rfl rfl dX3_likeliest_18 ?_
        refine Go.iload_n X 0 dX3_likeliest_21 rfl ?_
        refine Go.callVi X  (c_oddsOn g (ad 1) (ad 2) (ad 3) (ad 4) N k (by exact hN) (by first | omega | (split <;> omega))) cal_X0_oddsOn [1, 2, 3, 4] rfl rfl gX3_likeliest_X0_oddsOn (ci := 0) (q0 := 1) rfl rfl rfl rfl rfl dX3_likeliest_22 ?_
        refine Go.iload_n X 1 dX3_likeliest_25 rfl ?_
        refine Go.icmp_le X 40 dX3_likeliest_26 (by decide) (fun h26 => ?_) (fun h26 => ?_)
        · --
          refine Go.iinc_0 X (nI (k + 1)) dX3_likeliest_40 (by decide) rfl (show nI k + Int32.ofInt 1 = nI (k + 1) from nI_add _ 1) ?_
          refine Go.goto X 6 dX3_likeliest_43 (by decide) ?_
          refine Go.lv_1 (congrArg Value.int (show likM N k = likM N (k + 1) from by simp [likF, likM, odI, Int32.not_lt.mpr h26])) ?_
          refine Go.lv_2 (congrArg Value.int (show likF N k = likF N (k + 1) from by simp [likF, likM, odI, Int32.not_lt.mpr h26])) ?_
          exact ih6 (k + 1) (by first | omega | (split <;> omega)) (by first | omega | (split <;> omega))
        · --
          refine Go.aload_n X 3 dX3_likeliest_29 rfl ?_
          refine Go.get X f_X3_likeliest_10 0 (v := .ref (ad 1)) rfl rfl dX3_likeliest_30 ?_
          refine Go.iload_n X 0 dX3_likeliest_33 rfl ?_
          refine Go.callVi X  (c_oddsOn g (ad 1) (ad 2) (ad 3) (ad 4) N k (by exact hN) (by first | omega | (split <;> omega))) cal_X0_oddsOn [1, 2, 3, 4] rfl rfl gX3_likeliest_X0_oddsOn (ci := 0) (q0 := 1) rfl rfl rfl rfl rfl dX3_likeliest_34 ?_
          refine Go.istore_n_1 X dX3_likeliest_37 (by decide) rfl ?_
          refine Go.iload_n X 0 dX3_likeliest_38 rfl ?_
          refine Go.istore_n_2 X dX3_likeliest_39 (by decide) rfl ?_
          refine Go.iinc_0 X (nI (k + 1)) dX3_likeliest_40 (by decide) rfl (show nI k + Int32.ofInt 1 = nI (k + 1) from nI_add _ 1) ?_
          refine Go.goto X 6 dX3_likeliest_43 (by decide) ?_
          refine Go.lv_1 (congrArg Value.int (show shI (lotN N k) (wsum (sW N) (still (sA N) k) (sN N)) = likM N (k + 1) from by simp [likF, likM, odI, Int32.not_le.mp h26])) ?_
          refine Go.lv_2 (show (.int (nI k) : Value) = .int (likF N (k + 1)) from by simp [likF, likM, odI, Int32.not_le.mp h26]) ?_
          exact ih6 (k + 1) (by first | omega | (split <;> omega)) (by first | omega | (split <;> omega))
  refine Go.lv_1 (congrArg Value.int (show (-1) = likM N 0 from by rfl)) ?_
  refine Go.lv_2 (congrArg Value.int (show (-1) = likF N 0 from by rfl)) ?_
  exact L6 (sN N - 0 + 1) 0 (by first | omega | (split <;> omega)) (Nat.lt_succ_self _)
set_option maxHeartbeats 4000000 in
set_option maxRecDepth 100000 in
theorem b_caught (g : gT) (ad : Nat → Nat) (N : Sch) (K : Sch) (b : Bool) (z : Nat) (le : Nat → Nat) (rf : Nat → Int32) (hd : Nat → Int32) (ln : Nat → Nat) (vl : Nat → Nat → Int64) (T : Sch) (ts : Nat) (te : Nat) (tk : Nat) (br : Nat → Nat) (hN : sOk N) : Ct g yX3_caught wsX3_caught 6 130 [.ref (ad 0)] (bxW g ad (N, K, b, z, le, rf, hd, ln, vl) (T, ts, te, tk, br)) (fun v9 w9 => v9 = (some (.int (x_caught (N, K, b, z, le, rf, hd, ln, vl)).2)) ∧ ∃ J9, w9 = bxW g ad (x_caught (N, K, b, z, le, rf, hd, ln, vl)).1 J9) := by
  refine Ct.start (cc := cX3_caught) (nL := 2) (ret := (some .int)) (own := RX3) (by decide) rfl rfl rfl ?_
  intro Γ X E
  show Go Γ g 2 (rmC 6 130) 0 0 (bxW g ad (N, K, b, z, le, rf, hd, ln, vl) (T, ts, te, tk, br)) 0 [(0, .ref (ad 0))] []
  obtain ⟨o1, o2, o3, o4, o5, o6, o7, o8⟩ := id hN
  have o9 := p2_9 o2
  have o10 := sA_512 hN
  refine Go.aload_n X 0 dX3_caught_0 rfl ?_
  refine Go.get X f_X3_caught_10 0 (v := .ref (ad 1)) rfl rfl dX3_caught_1 ?_
  refine Go.aload_n X 0 dX3_caught_4 rfl ?_
  refine Go.get X f_X3_caught_10 0 (v := .ref (ad 1)) rfl rfl dX3_caught_5 ?_
  refine Go.get X f_X3_caught_135 1 (v := .int (nI (sA N))) rfl rfl dX3_caught_8 ?_
  refine Go.callVi X  (c_weightsOf g (ad 1) (ad 2) (ad 3) (ad 4) N (sA N) (by exact hN) (by first | omega | (split <;> omega))) cal_X0_weightsOf [1, 2, 3, 4] rfl rfl gX3_caught_X0_weightsOf (ci := 0) (q0 := 1) rfl rfl rfl rfl rfl dX3_caught_11 ?_
  have f11_1 := wsum_81 hN (sA N)
  refine Go.istore_n_new X dX3_caught_14 (by decide) rfl ?_
  refine Go.iload_n X 0 dX3_caught_15 rfl ?_
  refine Go.if_neN X 26 dX3_caught_16 (by decide) (by first | omega | (split <;> omega)) (fun h16 => ?_) (fun h16 => ?_)
  · --
    refine Go.aload_n X 1 dX3_caught_26 rfl ?_
    refine Go.get X f_X3_caught_10 0 (v := .ref (ad 1)) rfl rfl dX3_caught_27 ?_
    refine Go.aload_n X 1 dX3_caught_30 rfl ?_
    refine Go.get X f_X3_caught_10 0 (v := .ref (ad 1)) rfl rfl dX3_caught_31 ?_
    refine Go.get X f_X3_caught_135 1 (v := .int (nI (sA N))) rfl rfl dX3_caught_34 ?_
    refine Go.aload_n X 1 dX3_caught_37 rfl ?_
    refine Go.get X f_X3_caught_10 0 (v := .ref (ad 1)) rfl rfl dX3_caught_38 ?_
    refine Go.callVi X  (c_bySurprise g (ad 1) (ad 2) (ad 3) (ad 4) N (by exact hN)) cal_X0_bySurprise [1, 2, 3, 4] rfl rfl gX3_caught_X0_bySurprise (ci := 0) (q0 := 1) rfl rfl rfl rfl rfl dX3_caught_41 ?_
    have f41_2 := sur_512 hN 6
    refine Go.iconst X ((-1 : Int32)) dX3_caught_44 k_ic_m1 ?_
    refine Go.ixor_e X (nI (sur N 6) ^^^ (-1)) dX3_caught_45 rfl ?_
    refine Go.iand_e X (nI (dif (sA N) (sur N 6))) dX3_caught_46 (nI_andnot _ _) ?_
    have o11 := dif_le (sA N) (sur N 6)
    refine Go.callVi X  (c_weightsOf g (ad 1) (ad 2) (ad 3) (ad 4) N (dif (sA N) (sur N 6)) (by exact hN) (by first | omega | (split <;> omega))) cal_X0_weightsOf [1, 2, 3, 4] rfl rfl gX3_caught_X0_weightsOf (ci := 0) (q0 := 1) rfl rfl rfl rfl rfl dX3_caught_47 ?_
    have f47_3 := wsum_81 hN (dif (sA N) (sur N 6))
    refine Go.iload_n X 0 dX3_caught_50 rfl ?_
    refine Go.callSi X  (c_shareOf g (wsum (sW N) (dif (sA N) (sur N 6)) (sN N)) (wsum (sW N) (sA N) (sN N)) (by first | omega | (split <;> omega)) (by first | omega | (split <;> omega))) cal_X3_shareOf [] rfl rfl gX3_caught_X3_shareOf rfl rfl rfl dX3_caught_51 ?_
    have e9 : x_caught (N, K, b, z, le, rf, hd, ln, vl) = ((N, K, b, z, le, rf, hd, ln, vl), (shI (wsum (sW N) (dif (sA N) (sur N 6)) (sN N)) (wsum (sW N) (sA N) (sN N)))) := by simp (decide := true) [x_caught, rfS, upS_id, h16]
    exact Go.iret X E dX3_caught_54 ⟨by rw [e9], _, by rw [e9]⟩ rfl
  · --
    refine Go.aload_n X 1 dX3_caught_19 rfl ?_
    refine Go.bipush X ((-5 : Int32)) dX3_caught_20 k_bp_m5 ?_
    refine Go.callV0i X (c_refuse_3 g ad N K b z le rf hd ln vl T ts te tk br) cal_X3_refuse gX3_caught_X3_refuse (ci := 3) (q0 := 0) rfl rfl rfl rfl rfl dX3_caught_22 ?_
    have e9 : x_caught (N, K, b, z, le, rf, hd, ln, vl) = ((N, K, b, z, le, inc rf 3, hd, ln, vl), (-5)) := by simp (decide := true) [x_caught, rfS, upS_id, h16]
    exact Go.iret X E dX3_caught_25 ⟨by rw [e9], _, by rw [e9]⟩ rfl
set_option maxHeartbeats 4000000 in
set_option maxRecDepth 100000 in
theorem b_by (g : gT) (ad : Nat → Nat) (N : Sch) (K : Sch) (b : Bool) (z : Nat) (le : Nat → Nat) (rf : Nat → Int32) (hd : Nat → Int32) (ln : Nat → Nat) (vl : Nat → Nat → Int64) (T : Sch) (ts : Nat) (te : Nat) (tk : Nat) (br : Nat → Nat) (m : Int32) (hN : sOk N) : Ct g yX3_by wsX3_by 2 44 [.ref (ad 0), .int m] (bxW g ad (N, K, b, z, le, rf, hd, ln, vl) (T, ts, te, tk, br)) (fun v9 w9 => v9 = (some (.int (x_by (N, K, b, z, le, rf, hd, ln, vl) m).2)) ∧ ∃ J9, w9 = bxW g ad (x_by (N, K, b, z, le, rf, hd, ln, vl) m).1 J9) := by
  refine Ct.start (cc := cX3_by) (nL := 4) (ret := (some .int)) (own := RX3) (by decide) rfl rfl rfl ?_
  intro Γ X E
  show Go Γ g 4 (rmC 2 44) 0 0 (bxW g ad (N, K, b, z, le, rf, hd, ln, vl) (T, ts, te, tk, br)) 0 [(0, .ref (ad 0)), (1, .int m)] []
  obtain ⟨o1, o2, o3, o4, o5, o6, o7, o8⟩ := id hN
  have o9 := p2_9 o2
  have o10 := sA_512 hN
  refine Go.aload_n X 0 dX3_by_0 rfl ?_
  refine Go.get X f_X3_by_10 0 (v := .ref (ad 1)) rfl rfl dX3_by_1 ?_
  refine Go.iload_n X 1 dX3_by_4 rfl ?_
  refine Go.callVi X  (c_isMorning g (ad 1) (ad 2) (ad 3) (ad 4) N m (by exact hN)) cal_X0_isMorning [1, 2, 3, 4] rfl rfl gX3_by_X0_isMorning (ci := 0) (q0 := 1) rfl rfl rfl rfl rfl dX3_by_5 ?_
  refine Go.if_neB X 18 dX3_by_8 (by decide) (fun h8 => ?_) (fun h8 => ?_)
  · --
    obtain ⟨mk, hmk, rfl⟩ := inb_at (by first | omega | (split <;> omega)) h8
    refine Go.aload_n X 0 dX3_by_18 rfl ?_
    refine Go.get X f_X3_by_10 0 (v := .ref (ad 1)) rfl rfl dX3_by_19 ?_
    refine Go.aload_n X 0 dX3_by_22 rfl ?_
    refine Go.get X f_X3_by_10 0 (v := .ref (ad 1)) rfl rfl dX3_by_23 ?_
    refine Go.get X f_X3_by_135 1 (v := .int (nI (sA N))) rfl rfl dX3_by_26 ?_
    refine Go.callVi X  (c_weightsOf g (ad 1) (ad 2) (ad 3) (ad 4) N (sA N) (by exact hN) (by first | omega | (split <;> omega))) cal_X0_weightsOf [1, 2, 3, 4] rfl rfl gX3_by_X0_weightsOf (ci := 0) (q0 := 1) rfl rfl rfl rfl rfl dX3_by_29 ?_
    have f29_1 := wsum_81 hN (sA N)
    refine Go.istore_n_new X dX3_by_32 (by decide) rfl ?_
    refine Go.iload_n X 0 dX3_by_33 rfl ?_
    refine Go.if_neN X 44 dX3_by_34 (by decide) (by first | omega | (split <;> omega)) (fun h34 => ?_) (fun h34 => ?_)
    · --
      refine Go.aload_n X 1 dX3_by_44 rfl ?_
      refine Go.get X f_X3_by_10 0 (v := .ref (ad 1)) rfl rfl dX3_by_45 ?_
      refine Go.iload_n X 2 dX3_by_48 rfl ?_
      refine Go.callVi X  (c_stillOn g (ad 1) (ad 2) (ad 3) (ad 4) N mk (by exact hN) (by first | omega | (split <;> omega))) cal_X0_stillOn [1, 2, 3, 4] rfl rfl gX3_by_X0_stillOn (ci := 0) (q0 := 1) rfl rfl rfl rfl rfl dX3_by_49 ?_
      have f49_2 := still_le (sA N) mk
      refine Go.iconst X (nI 1) dX3_by_52 k_ic_1 ?_
      refine Go.iload_n X 2 dX3_by_53 rfl ?_
      refine Go.ishl_e X (nI (2 ^ mk)) dX3_by_54 (nI_shl1 (by first | omega | (split <;> omega))) ?_
      refine Go.iconst X ((-1 : Int32)) dX3_by_55 k_ic_m1 ?_
      refine Go.ixor_e X (nI (2 ^ mk) ^^^ (-1)) dX3_by_56 rfl ?_
      refine Go.iand_e X (nI (dif (still (sA N) mk) (2 ^ mk))) dX3_by_57 (nI_andnot _ _) ?_
      refine Go.istore_n_new X dX3_by_58 (by decide) rfl ?_
      refine Go.aload_n X 2 dX3_by_59 rfl ?_
      refine Go.get X f_X3_by_10 0 (v := .ref (ad 1)) rfl rfl dX3_by_60 ?_
      refine Go.aload_n X 2 dX3_by_63 rfl ?_
      refine Go.get X f_X3_by_10 0 (v := .ref (ad 1)) rfl rfl dX3_by_64 ?_
      refine Go.get X f_X3_by_135 1 (v := .int (nI (sA N))) rfl rfl dX3_by_67 ?_
      refine Go.iload_n X 0 dX3_by_70 rfl ?_
      refine Go.iconst X ((-1 : Int32)) dX3_by_71 k_ic_m1 ?_
      refine Go.ixor_e X (nI (dif (still (sA N) mk) (2 ^ mk)) ^^^ (-1)) dX3_by_72 rfl ?_
      refine Go.iand_e X (nI (dif (sA N) (dif (still (sA N) mk) (2 ^ mk)))) dX3_by_73 (nI_andnot _ _) ?_
      have o11 := dif_le (sA N) (dif (still (sA N) mk) (2 ^ mk))
      refine Go.callVi X  (c_weightsOf g (ad 1) (ad 2) (ad 3) (ad 4) N (dif (sA N) (dif (still (sA N) mk) (2 ^ mk))) (by exact hN) (by first | omega | (split <;> omega))) cal_X0_weightsOf [1, 2, 3, 4] rfl rfl gX3_by_X0_weightsOf (ci := 0) (q0 := 1) rfl rfl rfl rfl rfl dX3_by_74 ?_
      have f74_3 := wsum_81 hN (dif (sA N) (dif (still (sA N) mk) (2 ^ mk)))
      refine Go.iload_n X 1 dX3_by_77 rfl ?_
      refine Go.callSi X  (c_shareOf g (wsum (sW N) (dif (sA N) (dif (still (sA N) mk) (2 ^ mk))) (sN N)) (wsum (sW N) (sA N) (sN N)) (by first | omega | (split <;> omega)) (by first | omega | (split <;> omega))) cal_X3_shareOf [] rfl rfl gX3_by_X3_shareOf rfl rfl rfl dX3_by_78 ?_
      have e9 : x_by (N, K, b, z, le, rf, hd, ln, vl) (nI mk) = ((N, K, b, z, le, rf, hd, ln, vl), (shI (wsum (sW N) (dif (sA N) (dif (still (sA N) mk) (2 ^ mk))) (sN N)) (wsum (sW N) (sA N) (sN N)))) := by simp (decide := true) [x_by, rfS, upS_id, h8, h34, nI_clamp (show mk < 2 ^ 31 by omega)]
      exact Go.iret X E dX3_by_81 ⟨by rw [e9], _, by rw [e9]⟩ rfl
    · --
      refine Go.aload_n X 1 dX3_by_37 rfl ?_
      refine Go.bipush X ((-5 : Int32)) dX3_by_38 k_bp_m5 ?_
      refine Go.callV0i X (c_refuse_3 g ad N K b z le rf hd ln vl T ts te tk br) cal_X3_refuse gX3_by_X3_refuse (ci := 3) (q0 := 0) rfl rfl rfl rfl rfl dX3_by_40 ?_
      have e9 : x_by (N, K, b, z, le, rf, hd, ln, vl) (nI mk) = ((N, K, b, z, le, inc rf 3, hd, ln, vl), (-5)) := by simp (decide := true) [x_by, rfS, upS_id, h8, h34, nI_clamp (show mk < 2 ^ 31 by omega)]
      exact Go.iret X E dX3_by_43 ⟨by rw [e9], _, by rw [e9]⟩ rfl
  · --
    refine Go.aload_n X 0 dX3_by_11 rfl ?_
    refine Go.bipush X ((-2 : Int32)) dX3_by_12 k_bp_m2 ?_
    refine Go.callV0i X (c_refuse_0 g ad N K b z le rf hd ln vl T ts te tk br) cal_X3_refuse gX3_by_X3_refuse (ci := 3) (q0 := 0) rfl rfl rfl rfl rfl dX3_by_14 ?_
    have e9 : x_by (N, K, b, z, le, rf, hd, ln, vl) m = ((N, K, b, z, le, inc rf 0, hd, ln, vl), (-2)) := by simp (decide := true) [x_by, rfS, upS_id, h8]
    exact Go.iret X E dX3_by_17 ⟨by rw [e9], _, by rw [e9]⟩ rfl
set_option maxHeartbeats 4000000 in
set_option maxRecDepth 100000 in
theorem b_mean (g : gT) (ad : Nat → Nat) (N : Sch) (K : Sch) (b : Bool) (z : Nat) (le : Nat → Nat) (rf : Nat → Int32) (hd : Nat → Int32) (ln : Nat → Nat) (vl : Nat → Nat → Int64) (T : Sch) (ts : Nat) (te : Nat) (tk : Nat) (br : Nat → Nat) (hN : sOk N) : Ct g yX3_mean wsX3_mean 3 63 [.ref (ad 0)] (bxW g ad (N, K, b, z, le, rf, hd, ln, vl) (T, ts, te, tk, br)) (fun v9 w9 => v9 = (some (.int (x_mean (N, K, b, z, le, rf, hd, ln, vl)).2)) ∧ ∃ J9, w9 = bxW g ad (x_mean (N, K, b, z, le, rf, hd, ln, vl)).1 J9) := by
  refine Ct.start (cc := cX3_mean) (nL := 4) (ret := (some .int)) (own := RX3) (by decide) rfl rfl rfl ?_
  intro Γ X E
  show Go Γ g 4 (rmC 3 63) 0 0 (bxW g ad (N, K, b, z, le, rf, hd, ln, vl) (T, ts, te, tk, br)) 0 [(0, .ref (ad 0))] []
  obtain ⟨o1, o2, o3, o4, o5, o6, o7, o8⟩ := id hN
  have o9 := p2_9 o2
  have o10 := sA_512 hN
  refine Go.aload_n X 0 dX3_mean_0 rfl ?_
  refine Go.get X f_X3_mean_10 0 (v := .ref (ad 1)) rfl rfl dX3_mean_1 ?_
  refine Go.aload_n X 0 dX3_mean_4 rfl ?_
  refine Go.get X f_X3_mean_10 0 (v := .ref (ad 1)) rfl rfl dX3_mean_5 ?_
  refine Go.get X f_X3_mean_135 1 (v := .int (nI (sA N))) rfl rfl dX3_mean_8 ?_
  refine Go.callVi X  (c_weightsOf g (ad 1) (ad 2) (ad 3) (ad 4) N (sA N) (by exact hN) (by first | omega | (split <;> omega))) cal_X0_weightsOf [1, 2, 3, 4] rfl rfl gX3_mean_X0_weightsOf (ci := 0) (q0 := 1) rfl rfl rfl rfl rfl dX3_mean_11 ?_
  have f11_1 := wsum_81 hN (sA N)
  refine Go.istore_n_new X dX3_mean_14 (by decide) rfl ?_
  refine Go.iload_n X 0 dX3_mean_15 rfl ?_
  refine Go.if_neN X 26 dX3_mean_16 (by decide) (by first | omega | (split <;> omega)) (fun h16 => ?_) (fun h16 => ?_)
  · --
    refine Go.iconst X (nI 0) dX3_mean_26 k_ic_0 ?_
    refine Go.istore_n_new X dX3_mean_27 (by decide) rfl ?_
    refine Go.iconst X (nI 0) dX3_mean_28 k_ic_0 ?_
    refine Go.istore_n_new X dX3_mean_29 (by decide) rfl ?_
    have L30 : ∀ (f30 : Nat) (k : Nat) (hk : k ≤ sN N) (hf30 : sN N - k < f30), Go Γ g 4 (rmC 3 63) 0 0 (bxW g ad (N, K, b, z, le, rf, hd, ln, vl) (T, ts, te, tk, br)) 30 [(3, .int (nI k)), (2, .int (nI (meanS N k))), (1, .int (nI (wsum (sW N) (sA N) (sN N)))), (0, .ref (ad 0))] [] := by
      intro f30
      induction f30 with
      | zero => intro k hk hf30; exact absurd hf30 (Nat.not_lt_zero _)
      | succ f30 ih30 =>
        intro k hk hf30
        refine Go.iload_n X 0 dX3_mean_30 rfl ?_
        refine Go.aload_n X 3 dX3_mean_31 rfl ?_
        refine Go.get X f_X3_mean_10 0 (v := .ref (ad 1)) rfl rfl dX3_mean_32 ?_
        refine Go.get X f_X3_mean_117 1 (v := .int (nI (sN N))) rfl rfl dX3_mean_35 ?_
        refine Go.icmp_geN X 60 dX3_mean_38 (by decide) (by first | omega | (split <;> omega)) (by first | omega | (split <;> omega)) (fun h38 => ?_) (fun h38 => ?_)
        · --
          refine Go.lv_1 (w := .int (nI (meanS N (sN N)))) (by rw [show k = sN N by omega]) ?_
          have o11 := meanS_le hN (sN N) o2
          refine Go.sipush X (nI 1000) dX3_mean_60 k_sp_1000 ?_
          refine Go.iload_n X 1 dX3_mean_63 rfl ?_
          refine Go.imul_e X (nI (1000 * (meanS N (sN N)))) dX3_mean_64 (pk_mul _ _) ?_
          refine Go.iload_n X 2 dX3_mean_65 rfl ?_
          refine Go.idiv_e X (nI ((1000 * (meanS N (sN N))) / (wsum (sW N) (sA N) (sN N)))) dX3_mean_66 (nI_ne0 (by first | omega | (split <;> omega)) (by first | omega | (split <;> omega))) (pk_div (by first | omega | (split <;> omega)) (by first | omega | (split <;> omega)) (by first | omega | (split <;> omega))) ?_
          have e9 : x_mean (N, K, b, z, le, rf, hd, ln, vl) = ((N, K, b, z, le, rf, hd, ln, vl), (nI ((1000 * (meanS N (sN N))) / (wsum (sW N) (sA N) (sN N))))) := by simp (decide := true) [x_mean, rfS, upS_id, h16, h38, Nat.not_lt.mpr h38]
          exact Go.iret X E dX3_mean_67 ⟨by rw [e9], _, by rw [e9]⟩ rfl
        · --
          refine Go.iload_n X 1 dX3_mean_41 rfl ?_
          refine Go.iload_n X 0 dX3_mean_42 rfl ?_
          refine Go.aload_n X 3 dX3_mean_43 rfl ?_
          refine Go.get X f_X3_mean_10 0 (v := .ref (ad 1)) rfl rfl dX3_mean_44 ?_
          refine Go.iload_n X 0 dX3_mean_47 rfl ?_
          refine Go.callVi X  (c_lotsOf g (ad 1) (ad 2) (ad 3) (ad 4) N k (by exact hN) (by first | omega | (split <;> omega))) cal_X0_lotsOf [1, 2, 3, 4] rfl rfl gX3_mean_X0_lotsOf (ci := 0) (q0 := 1) rfl rfl rfl rfl rfl dX3_mean_48 ?_
          have f48_2 := lotN_le hN (show k < 9 by omega)
          refine Go.imul_e X (nI (k * (lotN N k))) dX3_mean_51 (pk_mul _ _) ?_
          refine Go.iadd_e X (nI (meanS N k + k * (lotN N k))) dX3_mean_52 (nI_add _ _) ?_
          refine Go.istore_n_1 X dX3_mean_53 (by decide) rfl ?_
          refine Go.iinc_0 X (nI (k + 1)) dX3_mean_54 (by decide) rfl (show nI k + Int32.ofInt 1 = nI (k + 1) from nI_add _ 1) ?_
          refine Go.goto X 30 dX3_mean_57 (by decide) ?_
          refine Go.lv_1 (congrArg (fun z => Value.int (nI z)) (show meanS N k + k * (lotN N k) = meanS N (k + 1) from by rfl)) ?_
          exact ih30 (k + 1) (by first | omega | (split <;> omega)) (by first | omega | (split <;> omega))
    refine Go.lv_1 (congrArg (fun z => Value.int (nI z)) (show 0 = meanS N 0 from by rfl)) ?_
    exact L30 (sN N - 0 + 1) 0 (by first | omega | (split <;> omega)) (Nat.lt_succ_self _)
  · --
    refine Go.aload_n X 1 dX3_mean_19 rfl ?_
    refine Go.bipush X ((-5 : Int32)) dX3_mean_20 k_bp_m5 ?_
    refine Go.callV0i X (c_refuse_3 g ad N K b z le rf hd ln vl T ts te tk br) cal_X3_refuse gX3_mean_X3_refuse (ci := 3) (q0 := 0) rfl rfl rfl rfl rfl dX3_mean_22 ?_
    have e9 : x_mean (N, K, b, z, le, rf, hd, ln, vl) = ((N, K, b, z, le, inc rf 3, hd, ln, vl), (-5)) := by simp (decide := true) [x_mean, rfS, upS_id, h16]
    exact Go.iret X E dX3_mean_25 ⟨by rw [e9], _, by rw [e9]⟩ rfl
set_option maxHeartbeats 4000000 in
set_option maxRecDepth 100000 in
theorem b_gain (g : gT) (ad : Nat → Nat) (N : Sch) (K : Sch) (b : Bool) (z : Nat) (le : Nat → Nat) (rf : Nat → Int32) (hd : Nat → Int32) (ln : Nat → Nat) (vl : Nat → Nat → Int64) (T : Sch) (ts : Nat) (te : Nat) (tk : Nat) (br : Nat → Nat) (m : Int32) (w : Int32) (hN : sOk N) : Ct g yX3_gain wsX3_gain 3 65 [.ref (ad 0), .int m, .int w] (bxW g ad (N, K, b, z, le, rf, hd, ln, vl) (T, ts, te, tk, br)) (fun v9 w9 => v9 = (some (.int (x_gain (N, K, b, z, le, rf, hd, ln, vl) m w).2)) ∧ ∃ J9, w9 = bxW g ad (x_gain (N, K, b, z, le, rf, hd, ln, vl) m w).1 J9) := by
  refine Ct.start (cc := cX3_gain) (nL := 4) (ret := (some .int)) (own := RX3) (by decide) rfl rfl rfl ?_
  intro Γ X E
  show Go Γ g 4 (rmC 3 65) 0 0 (bxW g ad (N, K, b, z, le, rf, hd, ln, vl) (T, ts, te, tk, br)) 0 [(0, .ref (ad 0)), (1, .int m), (2, .int w)] []
  obtain ⟨o1, o2, o3, o4, o5, o6, o7, o8⟩ := id hN
  have o9 := p2_9 o2
  have o10 := sA_512 hN
  refine Go.aload_n X 0 dX3_gain_0 rfl ?_
  refine Go.get X f_X3_gain_10 0 (v := .ref (ad 1)) rfl rfl dX3_gain_1 ?_
  refine Go.iload_n X 1 dX3_gain_4 rfl ?_
  refine Go.callVi X  (c_isMorning g (ad 1) (ad 2) (ad 3) (ad 4) N m (by exact hN)) cal_X0_isMorning [1, 2, 3, 4] rfl rfl gX3_gain_X0_isMorning (ci := 0) (q0 := 1) rfl rfl rfl rfl rfl dX3_gain_5 ?_
  refine Go.if_eqB X 18 dX3_gain_8 (by decide) (fun h8 => ?_) (fun h8 => ?_)
  · --
    refine Go.aload_n X 0 dX3_gain_18 rfl ?_
    refine Go.bipush X ((-2 : Int32)) dX3_gain_19 k_bp_m2 ?_
    refine Go.callV0i X (c_refuseFar_0 g ad N K b z le rf hd ln vl T ts te tk br) cal_X3_refuseFarBelow gX3_gain_X3_refuseFarBelow (ci := 3) (q0 := 0) rfl rfl rfl rfl rfl dX3_gain_21 ?_
    have e9 : x_gain (N, K, b, z, le, rf, hd, ln, vl) m w = ((N, K, b, z, le, inc rf 0, hd, ln, vl), (-10000002)) := by simp (decide := true) [x_gain, rfS, upS_id, h8]
    exact Go.iret X E dX3_gain_24 ⟨by rw [e9], _, by rw [e9]⟩ rfl
  · --
    obtain ⟨mk, hmk, rfl⟩ := inb_at (by first | omega | (split <;> omega)) h8
    refine Go.iload_n X 2 dX3_gain_11 rfl ?_
    refine Go.callSi X  (c_isCoin g w) cal_X3_isCoin [] rfl rfl gX3_gain_X3_isCoin rfl rfl rfl dX3_gain_12 ?_
    refine Go.if_neB X 25 dX3_gain_15 (by decide) (fun h15 => ?_) (fun h15 => ?_)
    · --
      obtain ⟨wk, hwk, rfl⟩ := wi_at (by first | omega | (split <;> omega)) (by first | omega | (split <;> omega)) h15
      refine Go.aload_n X 0 dX3_gain_25 rfl ?_
      refine Go.get X f_X3_gain_10 0 (v := .ref (ad 1)) rfl rfl dX3_gain_26 ?_
      refine Go.aload_n X 0 dX3_gain_29 rfl ?_
      refine Go.get X f_X3_gain_10 0 (v := .ref (ad 1)) rfl rfl dX3_gain_30 ?_
      refine Go.iload_n X 1 dX3_gain_33 rfl ?_
      refine Go.callVi X  (c_stillOn g (ad 1) (ad 2) (ad 3) (ad 4) N mk (by exact hN) (by first | omega | (split <;> omega))) cal_X0_stillOn [1, 2, 3, 4] rfl rfl gX3_gain_X0_stillOn (ci := 0) (q0 := 1) rfl rfl rfl rfl rfl dX3_gain_34 ?_
      have f34_1 := still_le (sA N) mk
      refine Go.callVi X  (c_weightsOf g (ad 1) (ad 2) (ad 3) (ad 4) N (still (sA N) mk) (by exact hN) (by first | omega | (split <;> omega))) cal_X0_weightsOf [1, 2, 3, 4] rfl rfl gX3_gain_X0_weightsOf (ci := 0) (q0 := 1) rfl rfl rfl rfl rfl dX3_gain_37 ?_
      have f37_2 := wsum_81 hN (still (sA N) mk)
      refine Go.istore_n_new X dX3_gain_40 (by decide) rfl ?_
      refine Go.iload_n X 0 dX3_gain_41 rfl ?_
      refine Go.if_neN X 54 dX3_gain_42 (by decide) (by first | omega | (split <;> omega)) (fun h42 => ?_) (fun h42 => ?_)
      · --
        refine Go.aload_n X 1 dX3_gain_54 rfl ?_
        refine Go.get X f_X3_gain_10 0 (v := .ref (ad 1)) rfl rfl dX3_gain_55 ?_
        refine Go.iload_n X 2 dX3_gain_58 rfl ?_
        refine Go.callVi X  (c_lotsOf g (ad 1) (ad 2) (ad 3) (ad 4) N mk (by exact hN) (by first | omega | (split <;> omega))) cal_X0_lotsOf [1, 2, 3, 4] rfl rfl gX3_gain_X0_lotsOf (ci := 0) (q0 := 1) rfl rfl rfl rfl rfl dX3_gain_59 ?_
        have f59_3 := lotN_le hN (show mk < 9 by omega)
        refine Go.iload_n X 3 dX3_gain_62 rfl ?_
        refine Go.iload_n X 0 dX3_gain_63 rfl ?_
        have o11 : lotN N mk * wk ≤ 9 * 40 := Nat.mul_le_mul (lotN_le hN (by omega)) (by omega)
        refine Go.callSi X  (c_wagered g (lotN N mk) wk (wsum (sW N) (still (sA N) mk) (sN N)) (by first | omega | (split <;> omega)) (by first | omega | (split <;> omega)) (by first | omega | (split <;> omega))) cal_X3_wagered [] rfl rfl gX3_gain_X3_wagered rfl rfl rfl dX3_gain_64 ?_
        have e9 : x_gain (N, K, b, z, le, rf, hd, ln, vl) (nI mk) (nI wk) = ((N, K, b, z, le, rf, hd, ln, vl), (wgr (lotN N mk) wk (wsum (sW N) (still (sA N) mk) (sN N)))) := by simp (decide := true) [x_gain, rfS, upS_id, h8, h15, h42, nI_clamp (show mk < 2 ^ 31 by omega), nI_clamp (show wk < 2 ^ 31 by omega)]
        exact Go.iret X E dX3_gain_67 ⟨by rw [e9], _, by rw [e9]⟩ rfl
      · --
        refine Go.aload_n X 1 dX3_gain_45 rfl ?_
        refine Go.bipush X ((-5 : Int32)) dX3_gain_46 k_bp_m5 ?_
        refine Go.callV0i X (c_refuseFar_3 g ad N K b z le rf hd ln vl T ts te tk br) cal_X3_refuseFarBelow gX3_gain_X3_refuseFarBelow (ci := 3) (q0 := 0) rfl rfl rfl rfl rfl dX3_gain_48 ?_
        refine Go.goto X 67 dX3_gain_51 (by decide) ?_
        have e9 : x_gain (N, K, b, z, le, rf, hd, ln, vl) (nI mk) (nI wk) = ((N, K, b, z, le, inc rf 3, hd, ln, vl), (-10000005)) := by simp (decide := true) [x_gain, rfS, upS_id, h8, h15, h42, nI_clamp (show mk < 2 ^ 31 by omega), nI_clamp (show wk < 2 ^ 31 by omega)]
        exact Go.iret X E dX3_gain_67 ⟨by rw [e9], _, by rw [e9]⟩ rfl
    · --
      refine Go.aload_n X 0 dX3_gain_18 rfl ?_
      refine Go.bipush X ((-2 : Int32)) dX3_gain_19 k_bp_m2 ?_
      refine Go.callV0i X (c_refuseFar_0 g ad N K b z le rf hd ln vl T ts te tk br) cal_X3_refuseFarBelow gX3_gain_X3_refuseFarBelow (ci := 3) (q0 := 0) rfl rfl rfl rfl rfl dX3_gain_21 ?_
      have e9 : x_gain (N, K, b, z, le, rf, hd, ln, vl) (nI mk) w = ((N, K, b, z, le, inc rf 0, hd, ln, vl), (-10000002)) := by simp (decide := true) [x_gain, rfS, upS_id, h8, h15, nI_clamp (show mk < 2 ^ 31 by omega)]
      exact Go.iret X E dX3_gain_24 ⟨by rw [e9], _, by rw [e9]⟩ rfl
set_option maxHeartbeats 4000000 in
set_option maxRecDepth 100000 in
theorem c_isNoLoss (g : gT) (ad : Nat → Nat) (N : Sch) (K : Sch) (b : Bool) (z : Nat) (le : Nat → Nat) (rf : Nat → Int32) (hd : Nat → Int32) (ln : Nat → Nat) (vl : Nat → Nat → Int64) (T : Sch) (ts : Nat) (te : Nat) (tk : Nat) (br : Nat → Nat) (m : Nat) (w : Nat) (hN : sOk N) (hm : m < 9) (hw : w ≤ 40) : Cw g yX3_isNoLoss wsX3_isNoLoss 3 63 [.ref (ad 0), .int (nI m), .int (nI w)] (bxW g ad (N, K, b, z, le, rf, hd, ln, vl) (T, ts, te, tk, br)) (some (.int (b2i (noL N m w)))) (bxW g ad (N, K, b, z, le, rf, hd, ln, vl) (T, ts, te, tk, br)) := by
  refine Ct.start (cc := cX3_isNoLoss) (nL := 4) (ret := (some .boolean)) (own := RX3) (by decide) rfl rfl rfl ?_
  intro Γ X E
  show Go Γ g 4 (rmC 3 63) 0 0 (bxW g ad (N, K, b, z, le, rf, hd, ln, vl) (T, ts, te, tk, br)) 0 [(0, .ref (ad 0)), (1, .int (nI m)), (2, .int (nI w))] []
  obtain ⟨o1, o2, o3, o4, o5, o6, o7, o8⟩ := id hN
  have o9 := p2_9 o2
  have o10 := sA_512 hN
  refine Go.aload_n X 0 dX3_isNoLoss_0 rfl ?_
  refine Go.get X f_X3_isNoLoss_10 0 (v := .ref (ad 1)) rfl rfl dX3_isNoLoss_1 ?_
  refine Go.aload_n X 0 dX3_isNoLoss_4 rfl ?_
  refine Go.get X f_X3_isNoLoss_10 0 (v := .ref (ad 1)) rfl rfl dX3_isNoLoss_5 ?_
  refine Go.iload_n X 1 dX3_isNoLoss_8 rfl ?_
  refine Go.callVi X  (c_stillOn g (ad 1) (ad 2) (ad 3) (ad 4) N m (by exact hN) (by first | omega | (split <;> omega))) cal_X0_stillOn [1, 2, 3, 4] rfl rfl gX3_isNoLoss_X0_stillOn (ci := 0) (q0 := 1) rfl rfl rfl rfl rfl dX3_isNoLoss_9 ?_
  have f9_1 := still_le (sA N) m
  refine Go.callVi X  (c_weightsOf g (ad 1) (ad 2) (ad 3) (ad 4) N (still (sA N) m) (by exact hN) (by first | omega | (split <;> omega))) cal_X0_weightsOf [1, 2, 3, 4] rfl rfl gX3_isNoLoss_X0_weightsOf (ci := 0) (q0 := 1) rfl rfl rfl rfl rfl dX3_isNoLoss_12 ?_
  have f12_2 := wsum_81 hN (still (sA N) m)
  refine Go.istore_n_new X dX3_isNoLoss_15 (by decide) rfl ?_
  refine Go.iload_n X 0 dX3_isNoLoss_16 rfl ?_
  refine Go.if_eqN X 40 dX3_isNoLoss_17 (by decide) (by first | omega | (split <;> omega)) (fun h17 => ?_) (fun h17 => ?_)
  · --
    refine Go.iconst X (nI 0) dX3_isNoLoss_40 k_ic_0 ?_
    exact Go.nret X E rfl dX3_isNoLoss_41 ⟨rv (b2i_f (by simp [noL, h17])), rfl⟩ rfl
  · --
    refine Go.aload_n X 1 dX3_isNoLoss_20 rfl ?_
    refine Go.get X f_X3_isNoLoss_10 0 (v := .ref (ad 1)) rfl rfl dX3_isNoLoss_21 ?_
    refine Go.iload_n X 2 dX3_isNoLoss_24 rfl ?_
    refine Go.callVi X  (c_lotsOf g (ad 1) (ad 2) (ad 3) (ad 4) N m (by exact hN) (by first | omega | (split <;> omega))) cal_X0_lotsOf [1, 2, 3, 4] rfl rfl gX3_isNoLoss_X0_lotsOf (ci := 0) (q0 := 1) rfl rfl rfl rfl rfl dX3_isNoLoss_25 ?_
    have f25_3 := lotN_le hN (show m < 9 by omega)
    refine Go.iload_n X 3 dX3_isNoLoss_28 rfl ?_
    refine Go.iload_n X 0 dX3_isNoLoss_29 rfl ?_
    have o11 : lotN N m * w ≤ 9 * 40 := Nat.mul_le_mul (lotN_le hN (by omega)) (by omega)
    refine Go.callSi X  (c_wagered g (lotN N m) w (wsum (sW N) (still (sA N) m) (sN N)) (by first | omega | (split <;> omega)) (by first | omega | (split <;> omega)) (by first | omega | (split <;> omega))) cal_X3_wagered [] rfl rfl gX3_isNoLoss_X3_wagered rfl rfl rfl dX3_isNoLoss_30 ?_
    refine Go.if_lt X 40 dX3_isNoLoss_33 (by decide) (fun h33 => ?_) (fun h33 => ?_)
    · --
      refine Go.iconst X (nI 0) dX3_isNoLoss_40 k_ic_0 ?_
      exact Go.nret X E rfl dX3_isNoLoss_41 ⟨rv (b2i_f (by simp [noL, h17, h33])), rfl⟩ rfl
    · --
      refine Go.iconst X (nI 1) dX3_isNoLoss_36 k_ic_1 ?_
      refine Go.goto X 41 dX3_isNoLoss_37 (by decide) ?_
      exact Go.nret X E rfl dX3_isNoLoss_41 ⟨rv (b2i_t (by simp [noL, h17, h33])), rfl⟩ rfl
set_option maxHeartbeats 4000000 in
set_option maxRecDepth 100000 in
theorem b_bet (g : gT) (ad : Nat → Nat) (N : Sch) (K : Sch) (b : Bool) (z : Nat) (le : Nat → Nat) (rf : Nat → Int32) (hd : Nat → Int32) (ln : Nat → Nat) (vl : Nat → Nat → Int64) (T : Sch) (ts : Nat) (te : Nat) (tk : Nat) (br : Nat → Nat) (w : Int32) (hN : sOk N) : Ct g yX3_bet wsX3_bet 4 86 [.ref (ad 0), .int w] (bxW g ad (N, K, b, z, le, rf, hd, ln, vl) (T, ts, te, tk, br)) (fun v9 w9 => v9 = (some (.int (x_bet (N, K, b, z, le, rf, hd, ln, vl) w).2)) ∧ ∃ J9, w9 = bxW g ad (x_bet (N, K, b, z, le, rf, hd, ln, vl) w).1 J9) := by
  refine Ct.start (cc := cX3_bet) (nL := 3) (ret := (some .int)) (own := RX3) (by decide) rfl rfl rfl ?_
  intro Γ X E
  show Go Γ g 3 (rmC 4 86) 0 0 (bxW g ad (N, K, b, z, le, rf, hd, ln, vl) (T, ts, te, tk, br)) 0 [(0, .ref (ad 0)), (1, .int w)] []
  obtain ⟨o1, o2, o3, o4, o5, o6, o7, o8⟩ := id hN
  have o9 := p2_9 o2
  have o10 := sA_512 hN
  refine Go.iload_n X 1 dX3_bet_0 rfl ?_
  refine Go.callSi X  (c_isCoin g w) cal_X3_isCoin [] rfl rfl gX3_bet_X3_isCoin rfl rfl rfl dX3_bet_1 ?_
  refine Go.if_neB X 14 dX3_bet_4 (by decide) (fun h4 => ?_) (fun h4 => ?_)
  · --
    obtain ⟨wk, hwk, rfl⟩ := wi_at (by first | omega | (split <;> omega)) (by first | omega | (split <;> omega)) h4
    refine Go.iconst X (nI 0) dX3_bet_14 k_ic_0 ?_
    refine Go.istore_n_new X dX3_bet_15 (by decide) rfl ?_
    have L16 : ∀ (f16 : Nat) (k : Nat) (hk : k ≤ sN N) (hq : ∀ j, j < k → ((sA N).testBit j && noL N j wk) = false) (hf16 : sN N - k < f16), Go Γ g 3 (rmC 4 86) 0 0 (bxW g ad (N, K, b, z, le, rf, hd, ln, vl) (T, ts, te, tk, br)) 16 [(2, .int (nI k)), (0, .ref (ad 0)), (1, .int (nI wk))] [] := by
      intro f16
      induction f16 with
      | zero => intro k hk hq hf16; exact absurd hf16 (Nat.not_lt_zero _)
      | succ f16 ih16 =>
        intro k hk hq hf16
        refine Go.iload_n X 0 dX3_bet_16 rfl ?_
        refine Go.aload_n X 1 dX3_bet_17 rfl ?_
        refine Go.get X f_X3_bet_10 0 (v := .ref (ad 1)) rfl rfl dX3_bet_18 ?_
        refine Go.get X f_X3_bet_117 1 (v := .int (nI (sN N))) rfl rfl dX3_bet_21 ?_
        refine Go.icmp_geN X 55 dX3_bet_24 (by decide) (by first | omega | (split <;> omega)) (by first | omega | (split <;> omega)) (fun h24 => ?_) (fun h24 => ?_)
        · --
          refine Go.iconst X ((-1 : Int32)) dX3_bet_55 k_ic_m1 ?_
          have e9 : x_bet (N, K, b, z, le, rf, hd, ln, vl) (nI wk) = ((N, K, b, z, le, rf, hd, ln, vl), (-1)) := by simp only [x_bet, h4, if_true, nI_clamp (show wk < 2 ^ 31 by omega)]; rw [fP_no (fun j hj => hq j (by omega))]
          exact Go.iret X E dX3_bet_56 ⟨by rw [e9], _, by rw [e9]⟩ rfl
        · --
          refine Go.aload_n X 1 dX3_bet_27 rfl ?_
          refine Go.get X f_X3_bet_10 0 (v := .ref (ad 1)) rfl rfl dX3_bet_28 ?_
          refine Go.iload_n X 0 dX3_bet_31 rfl ?_
          refine Go.callVi X  (c_isAllowed g (ad 1) (ad 2) (ad 3) (ad 4) N k (by exact hN) (by first | omega | (split <;> omega))) cal_X0_isAllowed [1, 2, 3, 4] rfl rfl gX3_bet_X0_isAllowed (ci := 0) (q0 := 1) rfl rfl rfl rfl rfl dX3_bet_32 ?_
          refine Go.if_eqB X 49 dX3_bet_35 (by decide) (fun h35 => ?_) (fun h35 => ?_)
          · --
            refine Go.iinc_0 X (nI (k + 1)) dX3_bet_49 (by decide) rfl (show nI k + Int32.ofInt 1 = nI (k + 1) from nI_add _ 1) ?_
            refine Go.goto X 16 dX3_bet_52 (by decide) ?_
            exact ih16 (k + 1) (by first | omega | (split <;> omega)) (by exact fP_s (P := fun m => (sA N).testBit m && noL N m wk) hq (by simp [h35])) (by first | omega | (split <;> omega))
          · --
            refine Go.aload_n X 1 dX3_bet_38 rfl ?_
            refine Go.iload_n X 0 dX3_bet_39 rfl ?_
            refine Go.iload_n X 2 dX3_bet_40 rfl ?_
            refine Go.callV0i X (c_isNoLoss g ad N K b z le rf hd ln vl T ts te tk br k wk (by exact hN) (by first | omega | (split <;> omega)) (by first | omega | (split <;> omega))) cal_X3_isNoLoss gX3_bet_X3_isNoLoss (ci := 3) (q0 := 0) rfl rfl rfl rfl rfl dX3_bet_41 ?_
            refine Go.if_eqB X 49 dX3_bet_44 (by decide) (fun h44 => ?_) (fun h44 => ?_)
            · --
              refine Go.iinc_0 X (nI (k + 1)) dX3_bet_49 (by decide) rfl (show nI k + Int32.ofInt 1 = nI (k + 1) from nI_add _ 1) ?_
              refine Go.goto X 16 dX3_bet_52 (by decide) ?_
              exact ih16 (k + 1) (by first | omega | (split <;> omega)) (by exact fP_s (P := fun m => (sA N).testBit m && noL N m wk) hq (by simp [h44])) (by first | omega | (split <;> omega))
            · --
              refine Go.iload_n X 0 dX3_bet_47 rfl ?_
              have e9 : x_bet (N, K, b, z, le, rf, hd, ln, vl) (nI wk) = ((N, K, b, z, le, rf, hd, ln, vl), (nI k)) := by simp only [x_bet, h4, if_true, nI_clamp (show wk < 2 ^ 31 by omega)]; rw [fP_at (by omega) (by simp [h35, h44]) hq h24]
              exact Go.iret X E dX3_bet_48 ⟨by rw [e9], _, by rw [e9]⟩ rfl
    exact L16 (sN N - 0 + 1) 0 (by first | omega | (split <;> omega)) (by intro j hj; omega) (Nat.lt_succ_self _)
  · --
    refine Go.aload_n X 0 dX3_bet_7 rfl ?_
    refine Go.bipush X ((-2 : Int32)) dX3_bet_8 k_bp_m2 ?_
    refine Go.callV0i X (c_refuse_0 g ad N K b z le rf hd ln vl T ts te tk br) cal_X3_refuse gX3_bet_X3_refuse (ci := 3) (q0 := 0) rfl rfl rfl rfl rfl dX3_bet_10 ?_
    have e9 : x_bet (N, K, b, z, le, rf, hd, ln, vl) w = ((N, K, b, z, le, inc rf 0, hd, ln, vl), (-2)) := by simp (decide := true) [x_bet, rfS, upS_id, h4]
    exact Go.iret X E dX3_bet_13 ⟨by rw [e9], _, by rw [e9]⟩ rfl
set_option maxHeartbeats 4000000 in
set_option maxRecDepth 100000 in
theorem b_fair (g : gT) (ad : Nat → Nat) (N : Sch) (K : Sch) (b : Bool) (z : Nat) (le : Nat → Nat) (rf : Nat → Int32) (hd : Nat → Int32) (ln : Nat → Nat) (vl : Nat → Nat → Int64) (T : Sch) (ts : Nat) (te : Nat) (tk : Nat) (br : Nat → Nat) (m : Int32) (hN : sOk N) : Ct g yX3_fair wsX3_fair 4 86 [.ref (ad 0), .int m] (bxW g ad (N, K, b, z, le, rf, hd, ln, vl) (T, ts, te, tk, br)) (fun v9 w9 => v9 = (some (.int (x_fair (N, K, b, z, le, rf, hd, ln, vl) m).2)) ∧ ∃ J9, w9 = bxW g ad (x_fair (N, K, b, z, le, rf, hd, ln, vl) m).1 J9) := by
  refine Ct.start (cc := cX3_fair) (nL := 3) (ret := (some .int)) (own := RX3) (by decide) rfl rfl rfl ?_
  intro Γ X E
  show Go Γ g 3 (rmC 4 86) 0 0 (bxW g ad (N, K, b, z, le, rf, hd, ln, vl) (T, ts, te, tk, br)) 0 [(0, .ref (ad 0)), (1, .int m)] []
  obtain ⟨o1, o2, o3, o4, o5, o6, o7, o8⟩ := id hN
  have o9 := p2_9 o2
  have o10 := sA_512 hN
  refine Go.aload_n X 0 dX3_fair_0 rfl ?_
  refine Go.get X f_X3_fair_10 0 (v := .ref (ad 1)) rfl rfl dX3_fair_1 ?_
  refine Go.iload_n X 1 dX3_fair_4 rfl ?_
  refine Go.callVi X  (c_isMorning g (ad 1) (ad 2) (ad 3) (ad 4) N m (by exact hN)) cal_X0_isMorning [1, 2, 3, 4] rfl rfl gX3_fair_X0_isMorning (ci := 0) (q0 := 1) rfl rfl rfl rfl rfl dX3_fair_5 ?_
  refine Go.if_neB X 18 dX3_fair_8 (by decide) (fun h8 => ?_) (fun h8 => ?_)
  · --
    obtain ⟨mk, hmk, rfl⟩ := inb_at (by first | omega | (split <;> omega)) h8
    refine Go.iconst X (nI 1) dX3_fair_18 k_ic_1 ?_
    refine Go.istore_n_new X dX3_fair_19 (by decide) rfl ?_
    have L20 : ∀ (f20 : Nat) (k : Nat) (hk : k ≤ 41) (hk1 : 1 ≤ k) (hq : ∀ j, j < k → (decide (1 ≤ j) && noL N mk j) = false) (hf20 : 41 - k < f20), Go Γ g 3 (rmC 4 86) 0 0 (bxW g ad (N, K, b, z, le, rf, hd, ln, vl) (T, ts, te, tk, br)) 20 [(2, .int (nI k)), (0, .ref (ad 0)), (1, .int (nI mk))] [] := by
      intro f20
      induction f20 with
      | zero => intro k hk hk1 hq hf20; exact absurd hf20 (Nat.not_lt_zero _)
      | succ f20 ih20 =>
        intro k hk hk1 hq hf20
        refine Go.iload_n X 0 dX3_fair_20 rfl ?_
        refine Go.bipush X (nI 40) dX3_fair_21 k_bp_40 ?_
        refine Go.icmp_gtN X 43 dX3_fair_23 (by decide) (by first | omega | (split <;> omega)) (by decide) (fun h23 => ?_) (fun h23 => ?_)
        · --
          refine Go.iconst X ((-1 : Int32)) dX3_fair_43 k_ic_m1 ?_
          have e9 : x_fair (N, K, b, z, le, rf, hd, ln, vl) (nI mk) = ((N, K, b, z, le, rf, hd, ln, vl), (-1)) := by simp only [x_fair, h8, if_true, nI_clamp (show mk < 2 ^ 31 by omega)]; rw [fP_no (fun j hj => hq j (by omega))]
          exact Go.iret X E dX3_fair_44 ⟨by rw [e9], _, by rw [e9]⟩ rfl
        · --
          refine Go.aload_n X 1 dX3_fair_26 rfl ?_
          refine Go.iload_n X 2 dX3_fair_27 rfl ?_
          refine Go.iload_n X 0 dX3_fair_28 rfl ?_
          refine Go.callV0i X (c_isNoLoss g ad N K b z le rf hd ln vl T ts te tk br mk k (by exact hN) (by first | omega | (split <;> omega)) (by first | omega | (split <;> omega))) cal_X3_isNoLoss gX3_fair_X3_isNoLoss (ci := 3) (q0 := 0) rfl rfl rfl rfl rfl dX3_fair_29 ?_
          refine Go.if_eqB X 37 dX3_fair_32 (by decide) (fun h32 => ?_) (fun h32 => ?_)
          · --
            refine Go.iinc_0 X (nI (k + 1)) dX3_fair_37 (by decide) rfl (show nI k + Int32.ofInt 1 = nI (k + 1) from nI_add _ 1) ?_
            refine Go.goto X 20 dX3_fair_40 (by decide) ?_
            exact ih20 (k + 1) (by first | omega | (split <;> omega)) (by first | omega | (split <;> omega)) (by exact fP_s (P := fun w => decide (1 ≤ w) && noL N mk w) hq (by simp [h32])) (by first | omega | (split <;> omega))
          · --
            refine Go.iload_n X 0 dX3_fair_35 rfl ?_
            have e9 : x_fair (N, K, b, z, le, rf, hd, ln, vl) (nI mk) = ((N, K, b, z, le, rf, hd, ln, vl), (nI k)) := by simp only [x_fair, h8, if_true, nI_clamp (show mk < 2 ^ 31 by omega)]; rw [fP_at (by omega) (by simp [h32, hk1]) hq (by omega)]
            exact Go.iret X E dX3_fair_36 ⟨by rw [e9], _, by rw [e9]⟩ rfl
    exact L20 (41 - 1 + 1) 1 (by first | omega | (split <;> omega)) (by first | omega | (split <;> omega)) (by intro j hj; rw [decide_eq_false (by omega)]; rfl) (Nat.lt_succ_self _)
  · --
    refine Go.aload_n X 0 dX3_fair_11 rfl ?_
    refine Go.bipush X ((-2 : Int32)) dX3_fair_12 k_bp_m2 ?_
    refine Go.callV0i X (c_refuse_0 g ad N K b z le rf hd ln vl T ts te tk br) cal_X3_refuse gX3_fair_X3_refuse (ci := 3) (q0 := 0) rfl rfl rfl rfl rfl dX3_fair_14 ?_
    have e9 : x_fair (N, K, b, z, le, rf, hd, ln, vl) m = ((N, K, b, z, le, inc rf 0, hd, ln, vl), (-2)) := by simp (decide := true) [x_fair, rfS, upS_id, h8]
    exact Go.iret X E dX3_fair_17 ⟨by rw [e9], _, by rw [e9]⟩ rfl
set_option maxHeartbeats 4000000 in
set_option maxRecDepth 100000 in
theorem b_second (g : gT) (ad : Nat → Nat) (N : Sch) (K : Sch) (b : Bool) (z : Nat) (le : Nat → Nat) (rf : Nat → Int32) (hd : Nat → Int32) (ln : Nat → Nat) (vl : Nat → Nat → Int64) (T : Sch) (ts : Nat) (te : Nat) (tk : Nat) (br : Nat → Nat) (m : Int32) (v : Int32) (hN : sOk N) : Ct g yX3_second wsX3_second 2 44 [.ref (ad 0), .int m, .int v] (bxW g ad (N, K, b, z, le, rf, hd, ln, vl) (T, ts, te, tk, br)) (fun v9 w9 => v9 = (some (.int (x_second (N, K, b, z, le, rf, hd, ln, vl) m v).2)) ∧ ∃ J9, w9 = bxW g ad (x_second (N, K, b, z, le, rf, hd, ln, vl) m v).1 J9) := by
  refine Ct.start (cc := cX3_second) (nL := 5) (ret := (some .int)) (own := RX3) (by decide) rfl rfl rfl ?_
  intro Γ X E
  show Go Γ g 5 (rmC 2 44) 0 0 (bxW g ad (N, K, b, z, le, rf, hd, ln, vl) (T, ts, te, tk, br)) 0 [(0, .ref (ad 0)), (1, .int m), (2, .int v)] []
  obtain ⟨o1, o2, o3, o4, o5, o6, o7, o8⟩ := id hN
  have o9 := p2_9 o2
  have o10 := sA_512 hN
  refine Go.aload_n X 0 dX3_second_0 rfl ?_
  refine Go.get X f_X3_second_10 0 (v := .ref (ad 1)) rfl rfl dX3_second_1 ?_
  refine Go.iload_n X 1 dX3_second_4 rfl ?_
  refine Go.callVi X  (c_isMorning g (ad 1) (ad 2) (ad 3) (ad 4) N m (by exact hN)) cal_X0_isMorning [1, 2, 3, 4] rfl rfl gX3_second_X0_isMorning (ci := 0) (q0 := 1) rfl rfl rfl rfl rfl dX3_second_5 ?_
  refine Go.if_eqB X 21 dX3_second_8 (by decide) (fun h8 => ?_) (fun h8 => ?_)
  · --
    refine Go.aload_n X 0 dX3_second_21 rfl ?_
    refine Go.bipush X ((-2 : Int32)) dX3_second_22 k_bp_m2 ?_
    refine Go.callV0i X (c_refuse_0 g ad N K b z le rf hd ln vl T ts te tk br) cal_X3_refuse gX3_second_X3_refuse (ci := 3) (q0 := 0) rfl rfl rfl rfl rfl dX3_second_24 ?_
    have e9 : x_second (N, K, b, z, le, rf, hd, ln, vl) m v = ((N, K, b, z, le, inc rf 0, hd, ln, vl), (-2)) := by simp (decide := true) [x_second, rfS, upS_id, h8]
    exact Go.iret X E dX3_second_27 ⟨by rw [e9], _, by rw [e9]⟩ rfl
  · --
    obtain ⟨mk, hmk, rfl⟩ := inb_at (by first | omega | (split <;> omega)) h8
    refine Go.iload_n X 2 dX3_second_11 rfl ?_
    refine Go.iconst X (nI 0) dX3_second_12 k_ic_0 ?_
    refine Go.bipush X (nI 8) dX3_second_13 k_bp_8 ?_
    refine Go.callSi X  (c_within_8 g v) cal_X3_isWithin [] rfl rfl gX3_second_X3_isWithin rfl rfl rfl dX3_second_15 ?_
    refine Go.if_neB X 28 dX3_second_18 (by decide) (fun h18 => ?_) (fun h18 => ?_)
    · --
      obtain ⟨vk, hvk, rfl⟩ := inb_at (by first | omega | (split <;> omega)) h18
      refine Go.iconst X (nI 0) dX3_second_28 k_ic_0 ?_
      refine Go.istore_n_new X dX3_second_29 (by decide) rfl ?_
      refine Go.iconst X (nI 0) dX3_second_30 k_ic_0 ?_
      refine Go.istore_new X dX3_second_31 (by decide) rfl ?_
      have L33 : ∀ (f33 : Nat) (k : Nat) (hk : k ≤ sN N) (hf33 : sN N - k < f33), Go Γ g 5 (rmC 2 44) 0 0 (bxW g ad (N, K, b, z, le, rf, hd, ln, vl) (T, ts, te, tk, br)) 33 [(4, .int (nI k)), (3, .int (nI (bts (fun r => (sA N).testBit r && decide (mk < r + vk)) k))), (0, .ref (ad 0)), (1, .int (nI mk)), (2, .int (nI vk))] [] := by
        intro f33
        induction f33 with
        | zero => intro k hk hf33; exact absurd hf33 (Nat.not_lt_zero _)
        | succ f33 ih33 =>
          intro k hk hf33
          refine Go.iload X 0 dX3_second_33 rfl ?_
          refine Go.aload_n X 2 dX3_second_35 rfl ?_
          refine Go.get X f_X3_second_10 0 (v := .ref (ad 1)) rfl rfl dX3_second_36 ?_
          refine Go.get X f_X3_second_117 1 (v := .int (nI (sN N))) rfl rfl dX3_second_39 ?_
          refine Go.icmp_geN X 78 dX3_second_42 (by decide) (by first | omega | (split <;> omega)) (by first | omega | (split <;> omega)) (fun h42 => ?_) (fun h42 => ?_)
          · --
            refine Go.lv_1 (w := .int (nI (bts (fun r => (sA N).testBit r && decide (mk < r + vk)) (sN N)))) (by rw [show k = sN N by omega]) ?_
            refine Go.iload_n X 1 dX3_second_78 rfl ?_
            have e9 : x_second (N, K, b, z, le, rf, hd, ln, vl) (nI mk) (nI vk) = ((N, K, b, z, le, rf, hd, ln, vl), (nI (bts (fun r => (sA N).testBit r && decide (mk < r + vk)) (sN N)))) := by simp (decide := true) [x_second, rfS, upS_id, h8, h18, h42, Nat.not_lt.mpr h42, nI_clamp (show mk < 2 ^ 31 by omega), nI_clamp (show vk < 2 ^ 31 by omega)]
            exact Go.iret X E dX3_second_79 ⟨by rw [e9], _, by rw [e9]⟩ rfl
          · --
            refine Go.aload_n X 2 dX3_second_45 rfl ?_
            refine Go.get X f_X3_second_10 0 (v := .ref (ad 1)) rfl rfl dX3_second_46 ?_
            refine Go.iload X 0 dX3_second_49 rfl ?_
            refine Go.callVi X  (c_isAllowed g (ad 1) (ad 2) (ad 3) (ad 4) N k (by exact hN) (by first | omega | (split <;> omega))) cal_X0_isAllowed [1, 2, 3, 4] rfl rfl gX3_second_X0_isAllowed (ci := 0) (q0 := 1) rfl rfl rfl rfl rfl dX3_second_51 ?_
            refine Go.if_eqB X 72 dX3_second_54 (by decide) (fun h54 => ?_) (fun h54 => ?_)
            · --
              refine Go.iinc_0 X (nI (k + 1)) dX3_second_72 (by decide) rfl (show nI k + Int32.ofInt 1 = nI (k + 1) from nI_add _ 1) ?_
              refine Go.goto X 33 dX3_second_75 (by decide) ?_
              refine Go.lv_1 (congrArg (fun z => Value.int (nI z)) (show bts (fun r => (sA N).testBit r && decide (mk < r + vk)) k = bts (fun r => (sA N).testBit r && decide (mk < r + vk)) (k + 1) from by simp [bts, h54])) ?_
              exact ih33 (k + 1) (by first | omega | (split <;> omega)) (by first | omega | (split <;> omega))
            · --
              refine Go.iload X 0 dX3_second_57 rfl ?_
              refine Go.iload_n X 3 dX3_second_59 rfl ?_
              refine Go.iload_n X 4 dX3_second_60 rfl ?_
              refine Go.isub_e X ((nI mk) - (nI vk)) dX3_second_61 rfl ?_
              refine Go.icmp_le X 72 dX3_second_62 (by decide) (fun h62 => ?_) (fun h62 => ?_)
              · --
                refine Go.iinc_0 X (nI (k + 1)) dX3_second_72 (by decide) rfl (show nI k + Int32.ofInt 1 = nI (k + 1) from nI_add _ 1) ?_
                refine Go.goto X 33 dX3_second_75 (by decide) ?_
                refine Go.lv_1 (congrArg (fun z => Value.int (nI z)) (show bts (fun r => (sA N).testBit r && decide (mk < r + vk)) k = bts (fun r => (sA N).testBit r && decide (mk < r + vk)) (k + 1) from by have q := sec_c mk (by omega) vk (by omega) k (by omega); rw [decide_eq_false (Int32.not_lt.mpr h62)] at q; simp [bts, h54, of_decide_eq_false q.symm])) ?_
                exact ih33 (k + 1) (by first | omega | (split <;> omega)) (by first | omega | (split <;> omega))
              · --
                refine Go.iload_n X 1 dX3_second_65 rfl ?_
                refine Go.iconst X (nI 1) dX3_second_66 k_ic_1 ?_
                refine Go.iload X 0 dX3_second_67 rfl ?_
                refine Go.ishl_e X (nI (2 ^ k)) dX3_second_69 (nI_shl1 (by first | omega | (split <;> omega))) ?_
                refine Go.ior_e X (nI ((bts (fun r => (sA N).testBit r && decide (mk < r + vk)) k) ||| (2 ^ k))) dX3_second_70 (nI_or _ _) ?_
                refine Go.istore_n_1 X dX3_second_71 (by decide) rfl ?_
                refine Go.iinc_0 X (nI (k + 1)) dX3_second_72 (by decide) rfl (show nI k + Int32.ofInt 1 = nI (k + 1) from nI_add _ 1) ?_
                refine Go.goto X 33 dX3_second_75 (by decide) ?_
                refine Go.lv_1 (congrArg (fun z => Value.int (nI z)) (show (bts (fun r => (sA N).testBit r && decide (mk < r + vk)) k) ||| (2 ^ k) = bts (fun r => (sA N).testBit r && decide (mk < r + vk)) (k + 1) from by have q := sec_c mk (by omega) vk (by omega) k (by omega); rw [decide_eq_true (Int32.not_le.mp h62)] at q; simp [bts, h54, of_decide_eq_true q.symm])) ?_
                exact ih33 (k + 1) (by first | omega | (split <;> omega)) (by first | omega | (split <;> omega))
      refine Go.lv_1 (congrArg (fun z => Value.int (nI z)) (show 0 = bts (fun r => (sA N).testBit r && decide (mk < r + vk)) 0 from by rfl)) ?_
      exact L33 (sN N - 0 + 1) 0 (by first | omega | (split <;> omega)) (Nat.lt_succ_self _)
    · --
      refine Go.aload_n X 0 dX3_second_21 rfl ?_
      refine Go.bipush X ((-2 : Int32)) dX3_second_22 k_bp_m2 ?_
      refine Go.callV0i X (c_refuse_0 g ad N K b z le rf hd ln vl T ts te tk br) cal_X3_refuse gX3_second_X3_refuse (ci := 3) (q0 := 0) rfl rfl rfl rfl rfl dX3_second_24 ?_
      have e9 : x_second (N, K, b, z, le, rf, hd, ln, vl) (nI mk) v = ((N, K, b, z, le, inc rf 0, hd, ln, vl), (-2)) := by simp (decide := true) [x_second, rfS, upS_id, h8, h18, nI_clamp (show mk < 2 ^ 31 by omega)]
      exact Go.iret X E dX3_second_27 ⟨by rw [e9], _, by rw [e9]⟩ rfl
set_option maxHeartbeats 4000000 in
set_option maxRecDepth 100000 in
theorem c_full (g : gT) (ad : Nat → Nat) (N : Sch) (K : Sch) (b : Bool) (z : Nat) (le : Nat → Nat) (rf : Nat → Int32) (hd : Nat → Int32) (ln : Nat → Nat) (vl : Nat → Nat → Int64) (T : Sch) (ts : Nat) (te : Nat) (tk : Nat) (br : Nat → Nat)  : Cw g yX3_fullShelves wsX3_fullShelves 0 0 [.ref (ad 0)] (bxW g ad (N, K, b, z, le, rf, hd, ln, vl) (T, ts, te, tk, br)) (some (.int (nI (cnt (fun s => decide (hd s ≠ -1)) 8)))) (bxW g ad (N, K, b, z, le, rf, hd, ln, vl) (T, ts, te, tk, br)) := by
  refine Ct.start (cc := cX3_fullShelves) (nL := 3) (ret := (some .int)) (own := RX3) (by decide) rfl rfl rfl ?_
  intro Γ X E
  show Go Γ g 3 (rmC 0 0) 0 0 (bxW g ad (N, K, b, z, le, rf, hd, ln, vl) (T, ts, te, tk, br)) 0 [(0, .ref (ad 0))] []
  refine Go.iconst X (nI 0) dX3_fullShelves_0 k_ic_0 ?_
  refine Go.istore_n_new X dX3_fullShelves_1 (by decide) rfl ?_
  refine Go.iconst X (nI 0) dX3_fullShelves_2 k_ic_0 ?_
  refine Go.istore_n_new X dX3_fullShelves_3 (by decide) rfl ?_
  have L4 : ∀ (f4 : Nat) (k : Nat) (hk : k ≤ 8) (hf4 : 8 - k < f4), Go Γ g 3 (rmC 0 0) 0 0 (bxW g ad (N, K, b, z, le, rf, hd, ln, vl) (T, ts, te, tk, br)) 4 [(2, .int (nI k)), (1, .int (nI (cnt (fun s => decide (hd s ≠ -1)) k))), (0, .ref (ad 0))] [] := by
    intro f4
    induction f4 with
    | zero => intro k hk hf4; exact absurd hf4 (Nat.not_lt_zero _)
    | succ f4 ih4 =>
      intro k hk hf4
      refine Go.iload_n X 0 dX3_fullShelves_4 rfl ?_
      refine Go.bipush X (nI 8) dX3_fullShelves_5 k_bp_8 ?_
      refine Go.icmp_geN X 32 dX3_fullShelves_7 (by decide) (by first | omega | (split <;> omega)) (by decide) (fun h7 => ?_) (fun h7 => ?_)
      · --
        refine Go.iload_n X 1 dX3_fullShelves_32 rfl ?_
        exact Go.iret X E dX3_fullShelves_33 ⟨rv (congrArg nI (show cnt (fun s => decide (hd s ≠ -1)) k = cnt (fun s => decide (hd s ≠ -1)) 8 from by rw [show k = 8 by omega])), rfl⟩ rfl
      · --
        refine Go.aload_n X 2 dX3_fullShelves_10 rfl ?_
        refine Go.get X f_X3_fullShelves_31 0 (v := .ref (ad 15)) rfl rfl dX3_fullShelves_11 ?_
        refine Go.iload_n X 0 dX3_fullShelves_14 rfl ?_
        refine Go.aald X 15 (x := ad (18 + 2 * k)) rfl (vp_in_nI (by first | omega | (split <;> omega)) (by decide)) (by rw [nI_clamp (by first | omega | (split <;> omega))]) dX3_fullShelves_15 ?_
        refine Go.get X f_X3_fullShelves_76 (18 + 2 * k) (v := .int (hd k)) (bx_sh g ad _ _ (by first | omega | (split <;> omega))) rfl dX3_fullShelves_16 ?_
        refine Go.iconst X ((-1 : Int32)) dX3_fullShelves_19 k_ic_m1 ?_
        refine Go.icmp_eq X 26 dX3_fullShelves_20 (by decide) (fun h20 => ?_) (fun h20 => ?_)
        · --
          refine Go.iinc_0 X (nI (k + 1)) dX3_fullShelves_26 (by decide) rfl (show nI k + Int32.ofInt 1 = nI (k + 1) from nI_add _ 1) ?_
          refine Go.goto X 4 dX3_fullShelves_29 (by decide) ?_
          refine Go.lv_1 (congrArg (fun z => Value.int (nI z)) (show cnt (fun s => decide (hd s ≠ -1)) k = cnt (fun s => decide (hd s ≠ -1)) (k + 1) from by simp [cnt, h20])) ?_
          exact ih4 (k + 1) (by first | omega | (split <;> omega)) (by first | omega | (split <;> omega))
        · --
          refine Go.iinc_1 X (nI (cnt (fun s => decide (hd s ≠ -1)) k + 1)) dX3_fullShelves_23 (by decide) rfl (show nI (cnt (fun s => decide (hd s ≠ -1)) k) + Int32.ofInt 1 = nI (cnt (fun s => decide (hd s ≠ -1)) k + 1) from nI_add _ 1) ?_
          refine Go.iinc_0 X (nI (k + 1)) dX3_fullShelves_26 (by decide) rfl (show nI k + Int32.ofInt 1 = nI (k + 1) from nI_add _ 1) ?_
          refine Go.goto X 4 dX3_fullShelves_29 (by decide) ?_
          refine Go.lv_1 (congrArg (fun z => Value.int (nI z)) (show cnt (fun s => decide (hd s ≠ -1)) k + 1 = cnt (fun s => decide (hd s ≠ -1)) (k + 1) from by simp [cnt, h20])) ?_
          exact ih4 (k + 1) (by first | omega | (split <;> omega)) (by first | omega | (split <;> omega))
  refine Go.lv_1 (congrArg (fun z => Value.int (nI z)) (show 0 = cnt (fun s => decide (hd s ≠ -1)) 0 from by rfl)) ?_
  exact L4 (8 - 0 + 1) 0 (by first | omega | (split <;> omega)) (Nat.lt_succ_self _)
set_option maxHeartbeats 4000000 in
set_option maxRecDepth 100000 in
theorem b_status (g : gT) (ad : Nat → Nat) (N : Sch) (K : Sch) (b : Bool) (z : Nat) (le : Nat → Nat) (rf : Nat → Int32) (hd : Nat → Int32) (ln : Nat → Nat) (vl : Nat → Nat → Int64) (T : Sch) (ts : Nat) (te : Nat) (tk : Nat) (br : Nat → Nat) (w : Int32) (hN : sOk N) : Ct g yX3_status wsX3_status 6 130 [.ref (ad 0), .int w] (bxW g ad (N, K, b, z, le, rf, hd, ln, vl) (T, ts, te, tk, br)) (fun v9 w9 => v9 = (some (.int (x_status (N, K, b, z, le, rf, hd, ln, vl) w).2)) ∧ ∃ J9, w9 = bxW g ad (x_status (N, K, b, z, le, rf, hd, ln, vl) w).1 J9) := by
  refine Ct.start (cc := cX3_status) (nL := 2) (ret := (some .int)) (own := RX3) (by decide) rfl rfl rfl ?_
  intro Γ X E
  show Go Γ g 2 (rmC 6 130) 0 0 (bxW g ad (N, K, b, z, le, rf, hd, ln, vl) (T, ts, te, tk, br)) 0 [(0, .ref (ad 0)), (1, .int w)] []
  obtain ⟨o1, o2, o3, o4, o5, o6, o7, o8⟩ := id hN
  have o9 := p2_9 o2
  have o10 := sA_512 hN
  refine Go.iload_n X 1 dX3_status_0 rfl ?_
  by_cases s1_0 : w = nI 0
  · --
    refine Go.top (congrArg Value.int s1_0) ?_
    refine Go.tableIn X 64 dX3_status_1 (by decide) (by decide) rfl (by decide) ?_
    refine Go.aload_n X 0 dX3_status_64 rfl ?_
    refine Go.get X f_X3_status_10 0 (v := .ref (ad 1)) rfl rfl dX3_status_65 ?_
    refine Go.get X f_X3_status_117 1 (v := .int (nI (sN N))) rfl rfl dX3_status_68 ?_
    have e9 : x_status (N, K, b, z, le, rf, hd, ln, vl) w = ((N, K, b, z, le, rf, hd, ln, vl), (nI (sN N))) := by simp (decide := true) [x_status, rfS, upS_id, s1_0]
    exact Go.iret X E dX3_status_71 ⟨by rw [e9], _, by rw [e9]⟩ rfl
  by_cases s1_1 : w = nI 1
  · --
    refine Go.top (congrArg Value.int s1_1) ?_
    refine Go.tableIn X 72 dX3_status_1 (by decide) (by decide) rfl (by decide) ?_
    refine Go.aload_n X 0 dX3_status_72 rfl ?_
    refine Go.get X f_X3_status_10 0 (v := .ref (ad 1)) rfl rfl dX3_status_73 ?_
    refine Go.get X f_X3_status_123 1 (v := .int (nI (sP N))) rfl rfl dX3_status_76 ?_
    have e9 : x_status (N, K, b, z, le, rf, hd, ln, vl) w = ((N, K, b, z, le, rf, hd, ln, vl), (nI (sP N))) := by simp (decide := true) [x_status, rfS, upS_id, s1_1, s1_0]
    exact Go.iret X E dX3_status_79 ⟨by rw [e9], _, by rw [e9]⟩ rfl
  by_cases s1_2 : w = nI 2
  · --
    refine Go.top (congrArg Value.int s1_2) ?_
    refine Go.tableIn X 80 dX3_status_1 (by decide) (by decide) rfl (by decide) ?_
    refine Go.aload_n X 0 dX3_status_80 rfl ?_
    refine Go.get X f_X3_status_10 0 (v := .ref (ad 1)) rfl rfl dX3_status_81 ?_
    refine Go.get X f_X3_status_141 1 (v := .int (nI (sD N))) rfl rfl dX3_status_84 ?_
    have e9 : x_status (N, K, b, z, le, rf, hd, ln, vl) w = ((N, K, b, z, le, rf, hd, ln, vl), (nI (sD N))) := by simp (decide := true) [x_status, rfS, upS_id, s1_2, s1_0, s1_1]
    exact Go.iret X E dX3_status_87 ⟨by rw [e9], _, by rw [e9]⟩ rfl
  by_cases s1_3 : w = nI 3
  · --
    refine Go.top (congrArg Value.int s1_3) ?_
    refine Go.tableIn X 88 dX3_status_1 (by decide) (by decide) rfl (by decide) ?_
    refine Go.aload_n X 0 dX3_status_88 rfl ?_
    refine Go.get X f_X3_status_10 0 (v := .ref (ad 1)) rfl rfl dX3_status_89 ?_
    refine Go.get X f_X3_status_135 1 (v := .int (nI (sA N))) rfl rfl dX3_status_92 ?_
    have e9 : x_status (N, K, b, z, le, rf, hd, ln, vl) w = ((N, K, b, z, le, rf, hd, ln, vl), (nI (sA N))) := by simp (decide := true) [x_status, rfS, upS_id, s1_3, s1_0, s1_1, s1_2]
    exact Go.iret X E dX3_status_95 ⟨by rw [e9], _, by rw [e9]⟩ rfl
  by_cases s1_4 : w = nI 4
  · --
    refine Go.top (congrArg Value.int s1_4) ?_
    refine Go.tableIn X 96 dX3_status_1 (by decide) (by decide) rfl (by decide) ?_
    refine Go.aload_n X 0 dX3_status_96 rfl ?_
    refine Go.get X f_X3_status_10 0 (v := .ref (ad 1)) rfl rfl dX3_status_97 ?_
    refine Go.aload_n X 0 dX3_status_100 rfl ?_
    refine Go.get X f_X3_status_10 0 (v := .ref (ad 1)) rfl rfl dX3_status_101 ?_
    refine Go.get X f_X3_status_135 1 (v := .int (nI (sA N))) rfl rfl dX3_status_104 ?_
    refine Go.callVi X  (c_weightsOf g (ad 1) (ad 2) (ad 3) (ad 4) N (sA N) (by exact hN) (by first | omega | (split <;> omega))) cal_X0_weightsOf [1, 2, 3, 4] rfl rfl gX3_status_X0_weightsOf (ci := 0) (q0 := 1) rfl rfl rfl rfl rfl dX3_status_107 ?_
    have f107_1 := wsum_81 hN (sA N)
    have e9 : x_status (N, K, b, z, le, rf, hd, ln, vl) w = ((N, K, b, z, le, rf, hd, ln, vl), (nI (wsum (sW N) (sA N) (sN N)))) := by simp (decide := true) [x_status, rfS, upS_id, s1_4, s1_0, s1_1, s1_2, s1_3]
    exact Go.iret X E dX3_status_110 ⟨by rw [e9], _, by rw [e9]⟩ rfl
  by_cases s1_5 : w = nI 5
  · --
    refine Go.top (congrArg Value.int s1_5) ?_
    refine Go.tableIn X 111 dX3_status_1 (by decide) (by decide) rfl (by decide) ?_
    refine Go.aload_n X 0 dX3_status_111 rfl ?_
    refine Go.get X f_X3_status_10 0 (v := .ref (ad 1)) rfl rfl dX3_status_112 ?_
    refine Go.get X f_X3_status_290 1 (v := .int (sT N)) rfl rfl dX3_status_115 ?_
    have e9 : x_status (N, K, b, z, le, rf, hd, ln, vl) w = ((N, K, b, z, le, rf, hd, ln, vl), (sT N)) := by simp (decide := true) [x_status, rfS, upS_id, s1_5, s1_0, s1_1, s1_2, s1_3, s1_4]
    exact Go.iret X E dX3_status_118 ⟨by rw [e9], _, by rw [e9]⟩ rfl
  by_cases s1_6 : w = nI 6
  · --
    refine Go.top (congrArg Value.int s1_6) ?_
    refine Go.tableIn X 119 dX3_status_1 (by decide) (by decide) rfl (by decide) ?_
    refine Go.aload_n X 0 dX3_status_119 rfl ?_
    refine Go.get X f_X3_status_10 0 (v := .ref (ad 1)) rfl rfl dX3_status_120 ?_
    refine Go.get X f_X3_status_293 1 (v := .int (sF N)) rfl rfl dX3_status_123 ?_
    have e9 : x_status (N, K, b, z, le, rf, hd, ln, vl) w = ((N, K, b, z, le, rf, hd, ln, vl), (sF N)) := by simp (decide := true) [x_status, rfS, upS_id, s1_6, s1_0, s1_1, s1_2, s1_3, s1_4, s1_5]
    exact Go.iret X E dX3_status_126 ⟨by rw [e9], _, by rw [e9]⟩ rfl
  by_cases s1_7 : w = nI 7
  · --
    refine Go.top (congrArg Value.int s1_7) ?_
    refine Go.tableIn X 127 dX3_status_1 (by decide) (by decide) rfl (by decide) ?_
    refine Go.aload_n X 0 dX3_status_127 rfl ?_
    refine Go.get X f_X3_status_10 0 (v := .ref (ad 1)) rfl rfl dX3_status_128 ?_
    refine Go.get X f_X3_status_287 1 (v := .int (sX N)) rfl rfl dX3_status_131 ?_
    have e9 : x_status (N, K, b, z, le, rf, hd, ln, vl) w = ((N, K, b, z, le, rf, hd, ln, vl), (sX N)) := by simp (decide := true) [x_status, rfS, upS_id, s1_7, s1_0, s1_1, s1_2, s1_3, s1_4, s1_5, s1_6]
    exact Go.iret X E dX3_status_134 ⟨by rw [e9], _, by rw [e9]⟩ rfl
  by_cases s1_8 : w = nI 8
  · --
    refine Go.top (congrArg Value.int s1_8) ?_
    refine Go.tableIn X 135 dX3_status_1 (by decide) (by decide) rfl (by decide) ?_
    refine Go.aload_n X 0 dX3_status_135 rfl ?_
    refine Go.get X f_X3_status_25 0 (v := .ref (ad 13)) rfl rfl dX3_status_136 ?_
    refine Go.get X f_X3_status_173 13 (v := .int (nI z)) rfl rfl dX3_status_139 ?_
    have e9 : x_status (N, K, b, z, le, rf, hd, ln, vl) w = ((N, K, b, z, le, rf, hd, ln, vl), (nI z)) := by simp (decide := true) [x_status, rfS, upS_id, s1_8, s1_0, s1_1, s1_2, s1_3, s1_4, s1_5, s1_6, s1_7]
    exact Go.iret X E dX3_status_142 ⟨by rw [e9], _, by rw [e9]⟩ rfl
  by_cases s1_9 : w = nI 9
  · --
    refine Go.top (congrArg Value.int s1_9) ?_
    refine Go.tableIn X 143 dX3_status_1 (by decide) (by decide) rfl (by decide) ?_
    refine Go.aload_n X 0 dX3_status_143 rfl ?_
    refine Go.get X f_X3_status_10 0 (v := .ref (ad 1)) rfl rfl dX3_status_144 ?_
    refine Go.get X f_X3_status_162 1 (v := .int (sG N)) rfl rfl dX3_status_147 ?_
    have e9 : x_status (N, K, b, z, le, rf, hd, ln, vl) w = ((N, K, b, z, le, rf, hd, ln, vl), (sG N)) := by simp (decide := true) [x_status, rfS, upS_id, s1_9, s1_0, s1_1, s1_2, s1_3, s1_4, s1_5, s1_6, s1_7, s1_8]
    exact Go.iret X E dX3_status_150 ⟨by rw [e9], _, by rw [e9]⟩ rfl
  by_cases s1_10 : w = nI 10
  · --
    refine Go.top (congrArg Value.int s1_10) ?_
    refine Go.tableIn X 151 dX3_status_1 (by decide) (by decide) rfl (by decide) ?_
    refine Go.aload_n X 0 dX3_status_151 rfl ?_
    refine Go.callV0i X (c_full g ad N K b z le rf hd ln vl T ts te tk br) cal_X3_fullShelves gX3_status_X3_fullShelves (ci := 3) (q0 := 0) rfl rfl rfl rfl rfl dX3_status_152 ?_
    have e9 : x_status (N, K, b, z, le, rf, hd, ln, vl) w = ((N, K, b, z, le, rf, hd, ln, vl), (nI (cnt (fun s => decide (hd s ≠ -1)) 8))) := by simp (decide := true) [x_status, rfS, upS_id, s1_10, s1_0, s1_1, s1_2, s1_3, s1_4, s1_5, s1_6, s1_7, s1_8, s1_9]
    exact Go.iret X E dX3_status_155 ⟨by rw [e9], _, by rw [e9]⟩ rfl
  by_cases s1_11 : w = nI 11
  · --
    refine Go.top (congrArg Value.int s1_11) ?_
    refine Go.tableIn X 156 dX3_status_1 (by decide) (by decide) rfl (by decide) ?_
    refine Go.aload_n X 0 dX3_status_156 rfl ?_
    refine Go.get X f_X3_status_10 0 (v := .ref (ad 1)) rfl rfl dX3_status_157 ?_
    refine Go.callVi X  (c_bySurprise g (ad 1) (ad 2) (ad 3) (ad 4) N (by exact hN)) cal_X0_bySurprise [1, 2, 3, 4] rfl rfl gX3_status_X0_bySurprise (ci := 0) (q0 := 1) rfl rfl rfl rfl rfl dX3_status_160 ?_
    have f160_2 := sur_512 hN 6
    have e9 : x_status (N, K, b, z, le, rf, hd, ln, vl) w = ((N, K, b, z, le, rf, hd, ln, vl), (nI (sur N 6))) := by simp (decide := true) [x_status, rfS, upS_id, s1_11, s1_0, s1_1, s1_2, s1_3, s1_4, s1_5, s1_6, s1_7, s1_8, s1_9, s1_10]
    exact Go.iret X E dX3_status_163 ⟨by rw [e9], _, by rw [e9]⟩ rfl
  have t1_0 := ne_toInt (k := 0) s1_0 (by decide); have t1_1 := ne_toInt (k := 1) s1_1 (by decide); have t1_2 := ne_toInt (k := 2) s1_2 (by decide); have t1_3 := ne_toInt (k := 3) s1_3 (by decide); have t1_4 := ne_toInt (k := 4) s1_4 (by decide); have t1_5 := ne_toInt (k := 5) s1_5 (by decide); have t1_6 := ne_toInt (k := 6) s1_6 (by decide); have t1_7 := ne_toInt (k := 7) s1_7 (by decide); have t1_8 := ne_toInt (k := 8) s1_8 (by decide); have t1_9 := ne_toInt (k := 9) s1_9 (by decide); have t1_10 := ne_toInt (k := 10) s1_10 (by decide); have t1_11 := ne_toInt (k := 11) s1_11 (by decide)
  refine Go.tableOut X 164 dX3_status_1 (by omega) (by decide) ?_
  refine Go.iload_n X 1 dX3_status_164 rfl ?_
  refine Go.bipush X (nI 12) dX3_status_165 k_bp_12 ?_
  refine Go.bipush X (nI 16) dX3_status_167 k_bp_16 ?_
  refine Go.callSi X  (c_isWithin g w (nI 12) (nI 16)) cal_X3_isWithin [] rfl rfl gX3_status_X3_isWithin rfl rfl rfl dX3_status_169 ?_
  refine Go.if_eqB X 187 dX3_status_172 (by decide) (fun h172 => ?_) (fun h172 => ?_)
  · --
    refine Go.iconst X ((-1 : Int32)) dX3_status_187 k_ic_m1 ?_
    have e9 : x_status (N, K, b, z, le, rf, hd, ln, vl) w = ((N, K, b, z, le, rf, hd, ln, vl), (-1)) := by simp (decide := true) [x_status, rfS, upS_id, s1_0, s1_1, s1_2, s1_3, s1_4, s1_5, s1_6, s1_7, s1_8, s1_9, s1_10, s1_11, h172]
    exact Go.iret X E dX3_status_188 ⟨by rw [e9], _, by rw [e9]⟩ rfl
  · --
    obtain ⟨wk, hwk, rfl⟩ := wi_at (by first | omega | (split <;> omega)) (by first | omega | (split <;> omega)) h172
    refine Go.aload_n X 0 dX3_status_175 rfl ?_
    refine Go.get X f_X3_status_35 0 (v := .ref (ad 16)) rfl rfl dX3_status_176 ?_
    refine Go.iload_n X 1 dX3_status_179 rfl ?_
    refine Go.bipush X (nI 12) dX3_status_180 k_bp_12 ?_
    refine Go.isub_e X (nI (wk - 12)) dX3_status_182 (pk_sub (by first | omega | (split <;> omega))) ?_
    refine Go.ialdF X 16 (f := rf) rfl (by first | omega | (split <;> omega)) rfl dX3_status_183 ?_
    refine Go.goto X 188 dX3_status_184 (by decide) ?_
    have e9 : x_status (N, K, b, z, le, rf, hd, ln, vl) (nI wk) = ((N, K, b, z, le, rf, hd, ln, vl), (rf (wk - 12))) := by simp (decide := true) [x_status, rfS, upS_id, s1_0, s1_1, s1_2, s1_3, s1_4, s1_5, s1_6, s1_7, s1_8, s1_9, s1_10, s1_11, h172, nI_clamp (show wk < 2 ^ 31 by omega)]
    exact Go.iret X E dX3_status_188 ⟨by rw [e9], _, by rw [e9]⟩ rfl
set_option maxHeartbeats 4000000 in
set_option maxRecDepth 100000 in
theorem b_ring (g : gT) (ad : Nat → Nat) (N : Sch) (K : Sch) (b : Bool) (z : Nat) (le : Nat → Nat) (rf : Nat → Int32) (hd : Nat → Int32) (ln : Nat → Nat) (vl : Nat → Nat → Int64) (T : Sch) (ts : Nat) (te : Nat) (tk : Nat) (br : Nat → Nat) (hN : sOk N) : Ct g yX3_ring wsX3_ring 7 154 [.ref (ad 0)] (bxW g ad (N, K, b, z, le, rf, hd, ln, vl) (T, ts, te, tk, br)) (fun v9 w9 => v9 = (some (.int (x_ring (N, K, b, z, le, rf, hd, ln, vl)).2)) ∧ ∃ J9, w9 = bxW g ad (x_ring (N, K, b, z, le, rf, hd, ln, vl)).1 J9) := by
  refine Ct.start (cc := cX3_ring) (nL := 1) (ret := (some .int)) (own := RX3) (by decide) rfl rfl rfl ?_
  intro Γ X E
  show Go Γ g 1 (rmC 7 154) 0 0 (bxW g ad (N, K, b, z, le, rf, hd, ln, vl) (T, ts, te, tk, br)) 0 [(0, .ref (ad 0))] []
  obtain ⟨o1, o2, o3, o4, o5, o6, o7, o8⟩ := id hN
  have o9 := p2_9 o2
  have o10 := sA_512 hN
  refine Go.aload_n X 0 dX3_ring_0 rfl ?_
  refine Go.get X f_X3_ring_10 0 (v := .ref (ad 1)) rfl rfl dX3_ring_1 ?_
  refine Go.aload_n X 0 dX3_ring_4 rfl ?_
  refine Go.get X f_X3_ring_10 0 (v := .ref (ad 1)) rfl rfl dX3_ring_5 ?_
  refine Go.get X f_X3_ring_135 1 (v := .int (nI (sA N))) rfl rfl dX3_ring_8 ?_
  refine Go.callVi X  (c_weightsOf g (ad 1) (ad 2) (ad 3) (ad 4) N (sA N) (by exact hN) (by first | omega | (split <;> omega))) cal_X0_weightsOf [1, 2, 3, 4] rfl rfl gX3_ring_X0_weightsOf (ci := 0) (q0 := 1) rfl rfl rfl rfl rfl dX3_ring_11 ?_
  have f11_1 := wsum_81 hN (sA N)
  refine Go.if_neN X 26 dX3_ring_14 (by decide) (by first | omega | (split <;> omega)) (fun h14 => ?_) (fun h14 => ?_)
  · --
    refine Go.aload_n X 0 dX3_ring_26 rfl ?_
    refine Go.get X f_X3_ring_10 0 (v := .ref (ad 1)) rfl rfl dX3_ring_27 ?_
    refine Go.callViw X (c_goThroughTerm g (ad 1) (ad 2) (ad 3) (ad 4) N (by exact hN) (by first | omega | (split <;> omega))) cal_X0_goThroughTerm [1, 2, 3, 4] rfl rfl gX3_ring_X0_goThroughTerm (ci := 0) (q0 := 1) rfl rfl rfl rfl rfl dX3_ring_30 (M9 := bxW g ad (trmS N, K, b, z, le, rf, hd, ln, vl) (T, ts, te, tk, br)) rfl ?_
    have f30_2 := pkS_lt (show 0 < wsum (sW N) (sA N) (sN N) by omega)
    have e9 : x_ring (N, K, b, z, le, rf, hd, ln, vl) = ((trmS N, K, b, z, le, rf, hd, ln, vl), (nI (pkS N))) := by simp (decide := true) [x_ring, rfS, upS_id, h14]
    exact Go.iret X E dX3_ring_33 ⟨by rw [e9], _, by rw [e9]⟩ rfl
  · --
    refine Go.aload_n X 0 dX3_ring_17 rfl ?_
    refine Go.bipush X ((-5 : Int32)) dX3_ring_18 k_bp_m5 ?_
    refine Go.callV0i X (c_refuse_3 g ad N K b z le rf hd ln vl T ts te tk br) cal_X3_refuse gX3_ring_X3_refuse (ci := 3) (q0 := 0) rfl rfl rfl rfl rfl dX3_ring_20 ?_
    refine Go.goto X 33 dX3_ring_23 (by decide) ?_
    have e9 : x_ring (N, K, b, z, le, rf, hd, ln, vl) = ((N, K, b, z, le, inc rf 3, hd, ln, vl), (-5)) := by simp (decide := true) [x_ring, rfS, upS_id, h14]
    exact Go.iret X E dX3_ring_33 ⟨by rw [e9], _, by rw [e9]⟩ rfl
set_option maxHeartbeats 4000000 in
set_option maxRecDepth 100000 in
theorem b_rings (g : gT) (ad : Nat → Nat) (N : Sch) (K : Sch) (b : Bool) (z : Nat) (le : Nat → Nat) (rf : Nat → Int32) (hd : Nat → Int32) (ln : Nat → Nat) (vl : Nat → Nat → Int64) (T : Sch) (ts : Nat) (te : Nat) (tk : Nat) (br : Nat → Nat) (n : Int32) (hN : sOk N) : Ct g yX3_rings wsX3_rings 7 154 [.ref (ad 0), .int n] (bxW g ad (N, K, b, z, le, rf, hd, ln, vl) (T, ts, te, tk, br)) (fun v9 w9 => v9 = (some (.int (x_rings (N, K, b, z, le, rf, hd, ln, vl) n).2)) ∧ ∃ J9, w9 = bxW g ad (x_rings (N, K, b, z, le, rf, hd, ln, vl) n).1 J9) := by
  refine Ct.start (cc := cX3_rings) (nL := 4) (ret := (some .int)) (own := RX3) (by decide) rfl rfl rfl ?_
  intro Γ X E
  show Go Γ g 4 (rmC 7 154) 0 0 (bxW g ad (N, K, b, z, le, rf, hd, ln, vl) (T, ts, te, tk, br)) 0 [(0, .ref (ad 0)), (1, .int n)] []
  obtain ⟨o1, o2, o3, o4, o5, o6, o7, o8⟩ := id hN
  have o9 := p2_9 o2
  have o10 := sA_512 hN
  refine Go.iload_n X 1 dX3_rings_0 rfl ?_
  refine Go.iconst X (nI 1) dX3_rings_1 k_ic_1 ?_
  refine Go.bipush X (nI 40) dX3_rings_2 k_bp_40 ?_
  refine Go.callSi X  (c_isWithin g n (nI 1) (nI 40)) cal_X3_isWithin [] rfl rfl gX3_rings_X3_isWithin rfl rfl rfl dX3_rings_4 ?_
  refine Go.if_neB X 17 dX3_rings_7 (by decide) (fun h7 => ?_) (fun h7 => ?_)
  · --
    obtain ⟨nk, hnk, rfl⟩ := wi_at (by first | omega | (split <;> omega)) (by first | omega | (split <;> omega)) h7
    refine Go.aload_n X 0 dX3_rings_17 rfl ?_
    refine Go.get X f_X3_rings_10 0 (v := .ref (ad 1)) rfl rfl dX3_rings_18 ?_
    refine Go.aload_n X 0 dX3_rings_21 rfl ?_
    refine Go.get X f_X3_rings_10 0 (v := .ref (ad 1)) rfl rfl dX3_rings_22 ?_
    refine Go.get X f_X3_rings_135 1 (v := .int (nI (sA N))) rfl rfl dX3_rings_25 ?_
    refine Go.callVi X  (c_weightsOf g (ad 1) (ad 2) (ad 3) (ad 4) N (sA N) (by exact hN) (by first | omega | (split <;> omega))) cal_X0_weightsOf [1, 2, 3, 4] rfl rfl gX3_rings_X0_weightsOf (ci := 0) (q0 := 1) rfl rfl rfl rfl rfl dX3_rings_28 ?_
    have f28_1 := wsum_81 hN (sA N)
    refine Go.if_neN X 41 dX3_rings_31 (by decide) (by first | omega | (split <;> omega)) (fun h31 => ?_) (fun h31 => ?_)
    · --
      refine Go.aload_n X 0 dX3_rings_41 rfl ?_
      refine Go.get X f_X3_rings_10 0 (v := .ref (ad 1)) rfl rfl dX3_rings_42 ?_
      refine Go.get X f_X3_rings_287 1 (v := .int (sX N)) rfl rfl dX3_rings_45 ?_
      refine Go.istore_n_new X dX3_rings_48 (by decide) rfl ?_
      refine Go.iconst X (nI 0) dX3_rings_49 k_ic_0 ?_
      refine Go.istore_n_new X dX3_rings_50 (by decide) rfl ?_
      have L51 : ∀ (f51 : Nat) (k : Nat) (hk : k ≤ nk) (hf51 : nk - k < f51), Go Γ g 4 (rmC 7 154) 0 0 (bxW g ad (trmN N k, K, b, z, le, rf, hd, ln, vl) (T, ts, te, tk, br)) 51 [(3, .int (nI k)), (2, .int (sX N)), (0, .ref (ad 0)), (1, .int (nI nk))] [] := by
        intro f51
        induction f51 with
        | zero => intro k hk hf51; exact absurd hf51 (Nat.not_lt_zero _)
        | succ f51 ih51 =>
          intro k hk hf51
          refine Go.iload_n X 0 dX3_rings_51 rfl ?_
          refine Go.iload_n X 3 dX3_rings_52 rfl ?_
          refine Go.icmp_geN X 70 dX3_rings_53 (by decide) (by first | omega | (split <;> omega)) (by first | omega | (split <;> omega)) (fun h53 => ?_) (fun h53 => ?_)
          · --
            have e70 : k = nk := by omega
            refine Go.conv (M1 := bxW g ad (trmN N nk, K, b, z, le, rf, hd, ln, vl) (T, ts, te, tk, br)) ?_ (by rw [e70]) rfl rfl
            refine Go.aload_n X 2 dX3_rings_70 rfl ?_
            refine Go.get X f_X3_rings_10 0 (v := .ref (ad 1)) rfl rfl dX3_rings_71 ?_
            refine Go.get X f_X3_rings_287 1 (v := .int (sX (trmN N nk))) rfl rfl dX3_rings_74 ?_
            refine Go.iload_n X 1 dX3_rings_77 rfl ?_
            refine Go.isub_e X ((sX (trmN N nk)) - (sX N)) dX3_rings_78 rfl ?_
            have e9 : x_rings (N, K, b, z, le, rf, hd, ln, vl) (nI nk) = ((trmN N nk, K, b, z, le, rf, hd, ln, vl), ((sX (trmN N nk)) - (sX N))) := by simp (decide := true) [x_rings, rfS, upS_id, h7, h31, h53, Nat.not_lt.mpr h53, nI_clamp (show nk < 2 ^ 31 by omega)]
            exact Go.iret X E dX3_rings_79 ⟨by rw [e9], _, by rw [e9]⟩ rfl
          · --
            have t1 := trmN_ok hN k
            have t2 : 0 < wsum (sW (trmN N k)) (sA (trmN N k)) (sN (trmN N k)) := by have t := trmN_w N k; unfold wal at t; omega
            refine Go.aload_n X 2 dX3_rings_56 rfl ?_
            refine Go.get X f_X3_rings_10 0 (v := .ref (ad 1)) rfl rfl dX3_rings_57 ?_
            have z60 : sOk (trmN N k) := by exact t1
            refine Go.callViw X (c_goThroughTerm g (ad 1) (ad 2) (ad 3) (ad 4) (trmN N k) (by exact z60) (by exact t2)) cal_X0_goThroughTerm [1, 2, 3, 4] rfl rfl gX3_rings_X0_goThroughTerm (ci := 0) (q0 := 1) rfl rfl rfl rfl rfl dX3_rings_60 (M9 := bxW g ad (trmS (trmN N k), K, b, z, le, rf, hd, ln, vl) (T, ts, te, tk, br)) rfl ?_
            have f60_2 := pkS_lt (show 0 < wsum (sW (trmN N k)) (sA (trmN N k)) (sN (trmN N k)) by omega)
            refine Go.pop X dX3_rings_63 rfl ?_
            refine Go.iinc_0 X (nI (k + 1)) dX3_rings_64 (by decide) rfl (show nI k + Int32.ofInt 1 = nI (k + 1) from nI_add _ 1) ?_
            refine Go.goto X 51 dX3_rings_67 (by decide) ?_
            refine Go.conv (M1 := bxW g ad (trmN N (k + 1), K, b, z, le, rf, hd, ln, vl) (T, ts, te, tk, br)) ?_ (by rfl) rfl rfl
            exact ih51 (k + 1) (by first | omega | (split <;> omega)) (by first | omega | (split <;> omega))
      refine Go.conv (M1 := bxW g ad (trmN N 0, K, b, z, le, rf, hd, ln, vl) (T, ts, te, tk, br)) ?_ (by rfl) rfl rfl
      exact L51 (nk - 0 + 1) 0 (by first | omega | (split <;> omega)) (Nat.lt_succ_self _)
    · --
      refine Go.aload_n X 0 dX3_rings_34 rfl ?_
      refine Go.bipush X ((-5 : Int32)) dX3_rings_35 k_bp_m5 ?_
      refine Go.callV0i X (c_refuse_3 g ad N K b z le rf hd ln vl T ts te tk br) cal_X3_refuse gX3_rings_X3_refuse (ci := 3) (q0 := 0) rfl rfl rfl rfl rfl dX3_rings_37 ?_
      have e9 : x_rings (N, K, b, z, le, rf, hd, ln, vl) (nI nk) = ((N, K, b, z, le, inc rf 3, hd, ln, vl), (-5)) := by simp (decide := true) [x_rings, rfS, upS_id, h7, h31, nI_clamp (show nk < 2 ^ 31 by omega)]
      exact Go.iret X E dX3_rings_40 ⟨by rw [e9], _, by rw [e9]⟩ rfl
  · --
    refine Go.aload_n X 0 dX3_rings_10 rfl ?_
    refine Go.bipush X ((-2 : Int32)) dX3_rings_11 k_bp_m2 ?_
    refine Go.callV0i X (c_refuse_0 g ad N K b z le rf hd ln vl T ts te tk br) cal_X3_refuse gX3_rings_X3_refuse (ci := 3) (q0 := 0) rfl rfl rfl rfl rfl dX3_rings_13 ?_
    have e9 : x_rings (N, K, b, z, le, rf, hd, ln, vl) n = ((N, K, b, z, le, inc rf 0, hd, ln, vl), (-2)) := by simp (decide := true) [x_rings, rfS, upS_id, h7]
    exact Go.iret X E dX3_rings_16 ⟨by rw [e9], _, by rw [e9]⟩ rfl
