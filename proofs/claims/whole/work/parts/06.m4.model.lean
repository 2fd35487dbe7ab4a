/-! 06.m4.model -/
theorem f_X4_noRow_7 : FL wsX4_noRow RX4 7 4 0 := ⟨RX4, TX4, 27, rfl, fun _ h => List.mem_cons_of_mem _ (List.mem_append_right _ h), by decide, List.mem_of_getElem? (i := 1) (by decide +kernel)⟩
theorem cal_X4_no : Cal yX4_no wsX4_no cX4_no 2 (some .int) RX4 1 := ⟨⟨_, rfl⟩, by decide +kernel⟩
theorem f_X4_row_7 : FL wsX4_row RX4 7 4 0 := ⟨RX4, TX4, 27, rfl, fun _ h => List.mem_cons_of_mem _ (List.mem_append_right _ h), by decide, List.mem_of_getElem? (i := 1) (by decide +kernel)⟩
theorem f_X4_row_13 : FL wsX4_row RX4 13 4 1 := ⟨RX4, TX4, 27, rfl, fun _ h => List.mem_cons_of_mem _ (List.mem_append_right _ h), by decide, List.mem_of_getElem? (i := 2) (by decide +kernel)⟩
theorem f_X4_row_16 : FL wsX4_row RX4 16 4 2 := ⟨RX4, TX4, 27, rfl, fun _ h => List.mem_cons_of_mem _ (List.mem_append_right _ h), by decide, List.mem_of_getElem? (i := 3) (by decide +kernel)⟩
theorem cal_X4_isRow : Cal yX4_isRow wsX4_isRow cX4_isRow 2 (some .boolean) RX4 1 := ⟨⟨_, rfl⟩, by decide +kernel⟩
theorem f_X4_element_13 : FL wsX4_element RX4 13 4 1 := ⟨RX4, TX4, 27, rfl, fun _ h => List.mem_cons_of_mem _ (List.mem_append_right _ h), by decide, List.mem_of_getElem? (i := 1) (by decide +kernel)⟩
theorem f_X4_element_16 : FL wsX4_element RX4 16 4 2 := ⟨RX4, TX4, 27, rfl, fun _ h => List.mem_cons_of_mem _ (List.mem_append_right _ h), by decide, List.mem_of_getElem? (i := 2) (by decide +kernel)⟩
theorem f_X4_holds_7 : FL wsX4_holds RX4 7 4 0 := ⟨RX4, TX4, 27, rfl, fun _ h => List.mem_cons_of_mem _ (List.mem_append_right _ h), by decide, List.mem_of_getElem? (i := 1) (by decide +kernel)⟩
theorem cal_X4_noRow : Cal yX4_noRow wsX4_noRow cX4_noRow 2 (some .int) RX4 1 := ⟨⟨_, rfl⟩, by decide +kernel⟩
theorem f_X4_set_13 : FL wsX4_set RX4 13 4 1 := ⟨RX4, TX4, 27, rfl, fun _ h => List.mem_cons_of_mem _ (List.mem_append_right _ h), by decide, List.mem_of_getElem? (i := 1) (by decide +kernel)⟩
theorem f_X4_set_7 : FL wsX4_set RX4 7 4 0 := ⟨RX4, TX4, 27, rfl, fun _ h => List.mem_cons_of_mem _ (List.mem_append_right _ h), by decide, List.mem_of_getElem? (i := 2) (by decide +kernel)⟩
theorem f_X4_set_16 : FL wsX4_set RX4 16 4 2 := ⟨RX4, TX4, 27, rfl, fun _ h => List.mem_cons_of_mem _ (List.mem_append_right _ h), by decide, List.mem_of_getElem? (i := 3) (by decide +kernel)⟩
theorem f_X4_show_7 : FL wsX4_show RX4 7 4 0 := ⟨RX4, TX4, 27, rfl, fun _ h => List.mem_cons_of_mem _ (List.mem_append_right _ h), by decide, List.mem_of_getElem? (i := 1) (by decide +kernel)⟩
theorem cal_X4_isOne : Cal yX4_isOne wsX4_isOne cX4_isOne 2 (some .boolean) RX4 1 := ⟨⟨_, rfl⟩, by decide +kernel⟩
theorem f_X4_freshTerm_66 : FL wsX4_freshTerm RX4 66 4 3 := ⟨RX4, TX4, 27, rfl, fun _ h => List.mem_cons_of_mem _ (List.mem_append_right _ h), by decide, List.mem_of_getElem? (i := 1) (by decide +kernel)⟩
theorem fp_4_3 : FP 4 3 .int := ⟨RX4, TX4, 27, tyX4, rfl, tyX4_ok, nmX4, rfl, by decide +kernel⟩
theorem f_X4_freshTerm_111 : FL wsX4_freshTerm RX4 111 4 4 := ⟨RX4, TX4, 27, rfl, fun _ h => List.mem_cons_of_mem _ (List.mem_append_right _ h), by decide, List.mem_of_getElem? (i := 2) (by decide +kernel)⟩
theorem fp_4_4 : FP 4 4 .int := ⟨RX4, TX4, 27, tyX4, rfl, tyX4_ok, nmX4, rfl, by decide +kernel⟩
theorem f_X4_freshTerm_20 : FL wsX4_freshTerm RX4 20 4 5 := ⟨RX4, TX4, 27, rfl, fun _ h => List.mem_cons_of_mem _ (List.mem_append_right _ h), by decide, List.mem_of_getElem? (i := 3) (by decide +kernel)⟩
theorem f_X4_term_66 : FL wsX4_term RX4 66 4 3 := ⟨RX4, TX4, 27, rfl, fun _ h => List.mem_cons_of_mem _ (List.mem_append_right _ h), by decide, List.mem_of_getElem? (i := 1) (by decide +kernel)⟩
theorem cal_X4_freshTerm : Cal yX4_freshTerm wsX4_freshTerm cX4_freshTerm 3 none RX4 1 := ⟨⟨_, rfl⟩, by decide +kernel⟩
theorem f_X4_newOne_23 : FL wsX4_newOne RX4 23 4 8 := ⟨RX4, TX4, 27, rfl, fun _ h => List.mem_cons_of_mem _ (List.mem_append_right _ h), by decide, List.mem_of_getElem? (i := 1) (by decide +kernel)⟩
theorem f_X4_newOne_59 : FL wsX4_newOne RX4 59 4 7 := ⟨RX4, TX4, 27, rfl, fun _ h => List.mem_cons_of_mem _ (List.mem_append_right _ h), by decide, List.mem_of_getElem? (i := 2) (by decide +kernel)⟩
theorem f_X4_newOne_26 : FL wsX4_newOne RX4 26 4 9 := ⟨RX4, TX4, 27, rfl, fun _ h => List.mem_cons_of_mem _ (List.mem_append_right _ h), by decide, List.mem_of_getElem? (i := 3) (by decide +kernel)⟩
theorem fp_4_7 : FP 4 7 .int := ⟨RX4, TX4, 27, tyX4, rfl, tyX4_ok, nmX4, rfl, by decide +kernel⟩
theorem f_X4_person_59 : FL wsX4_person RX4 59 4 7 := ⟨RX4, TX4, 27, rfl, fun _ h => List.mem_cons_of_mem _ (List.mem_append_right _ h), by decide, List.mem_of_getElem? (i := 1) (by decide +kernel)⟩
theorem cal_X4_newOne : Cal yX4_newOne wsX4_newOne cX4_newOne 3 (some .int) RX4 2 := ⟨⟨_, rfl⟩, by decide +kernel⟩
theorem cal_X4_isMorning : Cal yX4_isMorning wsX4_isMorning cX4_isMorning 2 (some .boolean) RX4 1 := ⟨⟨_, rfl⟩, by decide +kernel⟩
theorem f_X4_allow_111 : FL wsX4_allow RX4 111 4 4 := ⟨RX4, TX4, 27, rfl, fun _ h => List.mem_cons_of_mem _ (List.mem_append_right _ h), by decide, List.mem_of_getElem? (i := 1) (by decide +kernel)⟩
theorem f_X4_weight_20 : FL wsX4_weight RX4 20 4 5 := ⟨RX4, TX4, 27, rfl, fun _ h => List.mem_cons_of_mem _ (List.mem_append_right _ h), by decide, List.mem_of_getElem? (i := 1) (by decide +kernel)⟩
theorem f_X4_say_48 : FL wsX4_say RX4 48 4 6 := ⟨RX4, TX4, 27, rfl, fun _ h => List.mem_cons_of_mem _ (List.mem_append_right _ h), by decide, List.mem_of_getElem? (i := 1) (by decide +kernel)⟩
theorem fp_4_6 : FP 4 6 .int := ⟨RX4, TX4, 27, tyX4, rfl, tyX4_ok, nmX4, rfl, by decide +kernel⟩
theorem f_X4_unsay_48 : FL wsX4_unsay RX4 48 4 6 := ⟨RX4, TX4, 27, rfl, fun _ h => List.mem_cons_of_mem _ (List.mem_append_right _ h), by decide, List.mem_of_getElem? (i := 1) (by decide +kernel)⟩
theorem f_X4_learn_26 : FL wsX4_learn RX4 26 4 9 := ⟨RX4, TX4, 27, rfl, fun _ h => List.mem_cons_of_mem _ (List.mem_append_right _ h), by decide, List.mem_of_getElem? (i := 1) (by decide +kernel)⟩
theorem f_X4_seed_52 : FL wsX4_seed RX4 52 4 13 := ⟨RX4, TX4, 27, rfl, fun _ h => List.mem_cons_of_mem _ (List.mem_append_right _ h), by decide, List.mem_of_getElem? (i := 1) (by decide +kernel)⟩
theorem fp_4_13 : FP 4 13 .int := ⟨RX4, TX4, 27, tyX4, rfl, tyX4_ok, nmX4, rfl, by decide +kernel⟩
theorem f_X4_wipe_124 : FL wsX4_wipe RX4 124 4 15 := ⟨RX4, TX4, 27, rfl, fun _ h => List.mem_cons_of_mem _ (List.mem_append_right _ h), by decide, List.mem_of_getElem? (i := 1) (by decide +kernel)⟩
theorem fp_4_15 : FP 4 15 .int := ⟨RX4, TX4, 27, tyX4, rfl, tyX4_ok, nmX4, rfl, by decide +kernel⟩
theorem f_X4_feed_124 : FL wsX4_feed RX4 124 4 15 := ⟨RX4, TX4, 27, rfl, fun _ h => List.mem_cons_of_mem _ (List.mem_append_right _ h), by decide, List.mem_of_getElem? (i := 1) (by decide +kernel)⟩
theorem f_X4_feed_29 : FL wsX4_feed RX4 29 4 16 := ⟨RX4, TX4, 27, rfl, fun _ h => List.mem_cons_of_mem _ (List.mem_append_right _ h), by decide, List.mem_of_getElem? (i := 2) (by decide +kernel)⟩
theorem f_X4_hint_66 : FL wsX4_hint RX4 66 4 3 := ⟨RX4, TX4, 27, rfl, fun _ h => List.mem_cons_of_mem _ (List.mem_append_right _ h), by decide, List.mem_of_getElem? (i := 1) (by decide +kernel)⟩
theorem f_X4_hint_111 : FL wsX4_hint RX4 111 4 4 := ⟨RX4, TX4, 27, rfl, fun _ h => List.mem_cons_of_mem _ (List.mem_append_right _ h), by decide, List.mem_of_getElem? (i := 2) (by decide +kernel)⟩
theorem f_X4_leave_59 : FL wsX4_leave RX4 59 4 7 := ⟨RX4, TX4, 27, rfl, fun _ h => List.mem_cons_of_mem _ (List.mem_append_right _ h), by decide, List.mem_of_getElem? (i := 1) (by decide +kernel)⟩
theorem f_X4_leave_7 : FL wsX4_leave RX4 7 4 0 := ⟨RX4, TX4, 27, rfl, fun _ h => List.mem_cons_of_mem _ (List.mem_append_right _ h), by decide, List.mem_of_getElem? (i := 2) (by decide +kernel)⟩
theorem f_X4_keep_66 : FL wsX4_keep RX4 66 4 3 := ⟨RX4, TX4, 27, rfl, fun _ h => List.mem_cons_of_mem _ (List.mem_append_right _ h), by decide, List.mem_of_getElem? (i := 4) (by decide +kernel)⟩
theorem f_X4_keep_111 : FL wsX4_keep RX4 111 4 4 := ⟨RX4, TX4, 27, rfl, fun _ h => List.mem_cons_of_mem _ (List.mem_append_right _ h), by decide, List.mem_of_getElem? (i := 5) (by decide +kernel)⟩
theorem f_X4_keep_59 : FL wsX4_keep RX4 59 4 7 := ⟨RX4, TX4, 27, rfl, fun _ h => List.mem_cons_of_mem _ (List.mem_append_right _ h), by decide, List.mem_of_getElem? (i := 6) (by decide +kernel)⟩
theorem f_X4_keep_48 : FL wsX4_keep RX4 48 4 6 := ⟨RX4, TX4, 27, rfl, fun _ h => List.mem_cons_of_mem _ (List.mem_append_right _ h), by decide, List.mem_of_getElem? (i := 7) (by decide +kernel)⟩
theorem f_X4_keep_268 : FL wsX4_keep RX4 268 4 10 := ⟨RX4, TX4, 27, rfl, fun _ h => List.mem_cons_of_mem _ (List.mem_append_right _ h), by decide, List.mem_of_getElem? (i := 8) (by decide +kernel)⟩
theorem f_X4_keep_262 : FL wsX4_keep RX4 262 4 11 := ⟨RX4, TX4, 27, rfl, fun _ h => List.mem_cons_of_mem _ (List.mem_append_right _ h), by decide, List.mem_of_getElem? (i := 9) (by decide +kernel)⟩
theorem f_X4_keep_265 : FL wsX4_keep RX4 265 4 12 := ⟨RX4, TX4, 27, rfl, fun _ h => List.mem_cons_of_mem _ (List.mem_append_right _ h), by decide, List.mem_of_getElem? (i := 10) (by decide +kernel)⟩
theorem f_X4_keep_52 : FL wsX4_keep RX4 52 4 13 := ⟨RX4, TX4, 27, rfl, fun _ h => List.mem_cons_of_mem _ (List.mem_append_right _ h), by decide, List.mem_of_getElem? (i := 11) (by decide +kernel)⟩
theorem f_X4_keep_23 : FL wsX4_keep RX4 23 4 8 := ⟨RX4, TX4, 27, rfl, fun _ h => List.mem_cons_of_mem _ (List.mem_append_right _ h), by decide, List.mem_of_getElem? (i := 2) (by decide +kernel)⟩
theorem f_X4_keep_26 : FL wsX4_keep RX4 26 4 9 := ⟨RX4, TX4, 27, rfl, fun _ h => List.mem_cons_of_mem _ (List.mem_append_right _ h), by decide, List.mem_of_getElem? (i := 3) (by decide +kernel)⟩
theorem f_X4_keep_20 : FL wsX4_keep RX4 20 4 5 := ⟨RX4, TX4, 27, rfl, fun _ h => List.mem_cons_of_mem _ (List.mem_append_right _ h), by decide, List.mem_of_getElem? (i := 1) (by decide +kernel)⟩
theorem f_X4_again_66 : FL wsX4_again RX4 66 4 3 := ⟨RX4, TX4, 27, rfl, fun _ h => List.mem_cons_of_mem _ (List.mem_append_right _ h), by decide, List.mem_of_getElem? (i := 4) (by decide +kernel)⟩
theorem f_X4_again_111 : FL wsX4_again RX4 111 4 4 := ⟨RX4, TX4, 27, rfl, fun _ h => List.mem_cons_of_mem _ (List.mem_append_right _ h), by decide, List.mem_of_getElem? (i := 5) (by decide +kernel)⟩
theorem f_X4_again_59 : FL wsX4_again RX4 59 4 7 := ⟨RX4, TX4, 27, rfl, fun _ h => List.mem_cons_of_mem _ (List.mem_append_right _ h), by decide, List.mem_of_getElem? (i := 6) (by decide +kernel)⟩
theorem f_X4_again_48 : FL wsX4_again RX4 48 4 6 := ⟨RX4, TX4, 27, rfl, fun _ h => List.mem_cons_of_mem _ (List.mem_append_right _ h), by decide, List.mem_of_getElem? (i := 7) (by decide +kernel)⟩
theorem f_X4_again_268 : FL wsX4_again RX4 268 4 10 := ⟨RX4, TX4, 27, rfl, fun _ h => List.mem_cons_of_mem _ (List.mem_append_right _ h), by decide, List.mem_of_getElem? (i := 8) (by decide +kernel)⟩
theorem fp_4_10 : FP 4 10 .int := ⟨RX4, TX4, 27, tyX4, rfl, tyX4_ok, nmX4, rfl, by decide +kernel⟩
theorem f_X4_again_262 : FL wsX4_again RX4 262 4 11 := ⟨RX4, TX4, 27, rfl, fun _ h => List.mem_cons_of_mem _ (List.mem_append_right _ h), by decide, List.mem_of_getElem? (i := 9) (by decide +kernel)⟩
theorem fp_4_11 : FP 4 11 .int := ⟨RX4, TX4, 27, tyX4, rfl, tyX4_ok, nmX4, rfl, by decide +kernel⟩
theorem f_X4_again_265 : FL wsX4_again RX4 265 4 12 := ⟨RX4, TX4, 27, rfl, fun _ h => List.mem_cons_of_mem _ (List.mem_append_right _ h), by decide, List.mem_of_getElem? (i := 10) (by decide +kernel)⟩
theorem fp_4_12 : FP 4 12 .int := ⟨RX4, TX4, 27, tyX4, rfl, tyX4_ok, nmX4, rfl, by decide +kernel⟩
theorem f_X4_again_52 : FL wsX4_again RX4 52 4 13 := ⟨RX4, TX4, 27, rfl, fun _ h => List.mem_cons_of_mem _ (List.mem_append_right _ h), by decide, List.mem_of_getElem? (i := 11) (by decide +kernel)⟩
theorem f_X4_again_23 : FL wsX4_again RX4 23 4 8 := ⟨RX4, TX4, 27, rfl, fun _ h => List.mem_cons_of_mem _ (List.mem_append_right _ h), by decide, List.mem_of_getElem? (i := 2) (by decide +kernel)⟩
theorem f_X4_again_26 : FL wsX4_again RX4 26 4 9 := ⟨RX4, TX4, 27, rfl, fun _ h => List.mem_cons_of_mem _ (List.mem_append_right _ h), by decide, List.mem_of_getElem? (i := 3) (by decide +kernel)⟩
theorem f_X4_again_20 : FL wsX4_again RX4 20 4 5 := ⟨RX4, TX4, 27, rfl, fun _ h => List.mem_cons_of_mem _ (List.mem_append_right _ h), by decide, List.mem_of_getElem? (i := 1) (by decide +kernel)⟩
theorem f_X4_image_274 : FL wsX4_image RX4 274 4 22 := ⟨RX4, TX4, 27, rfl, fun _ h => List.mem_cons_of_mem _ (List.mem_append_right _ h), by decide, List.mem_of_getElem? (i := 1) (by decide +kernel)⟩
theorem fp_4_22 : FP 4 22 .boolean := ⟨RX4, TX4, 27, tyX4, rfl, tyX4_ok, nmX4, rfl, by decide +kernel⟩
theorem f_X4_image_35 : FL wsX4_image RX4 35 4 23 := ⟨RX4, TX4, 27, rfl, fun _ h => List.mem_cons_of_mem _ (List.mem_append_right _ h), by decide, List.mem_of_getElem? (i := 2) (by decide +kernel)⟩
theorem cal_X4_keep : Cal yX4_keep wsX4_keep cX4_keep 3 none RX4 1 := ⟨⟨_, rfl⟩, by decide +kernel⟩
theorem f_X4_back_274 : FL wsX4_back RX4 274 4 22 := ⟨RX4, TX4, 27, rfl, fun _ h => List.mem_cons_of_mem _ (List.mem_append_right _ h), by decide, List.mem_of_getElem? (i := 1) (by decide +kernel)⟩
theorem f_X4_back_35 : FL wsX4_back RX4 35 4 23 := ⟨RX4, TX4, 27, rfl, fun _ h => List.mem_cons_of_mem _ (List.mem_append_right _ h), by decide, List.mem_of_getElem? (i := 2) (by decide +kernel)⟩
theorem cal_X4_again : Cal yX4_again wsX4_again cX4_again 3 none RX4 1 := ⟨⟨_, rfl⟩, by decide +kernel⟩
theorem f_X4_back_7 : FL wsX4_back RX4 7 4 0 := ⟨RX4, TX4, 27, rfl, fun _ h => List.mem_cons_of_mem _ (List.mem_append_right _ h), by decide, List.mem_of_getElem? (i := 3) (by decide +kernel)⟩
theorem f_X4_back_59 : FL wsX4_back RX4 59 4 7 := ⟨RX4, TX4, 27, rfl, fun _ h => List.mem_cons_of_mem _ (List.mem_append_right _ h), by decide, List.mem_of_getElem? (i := 4) (by decide +kernel)⟩
theorem f_X4_status_66 : FL wsX4_status RX4 66 4 3 := ⟨RX4, TX4, 27, rfl, fun _ h => List.mem_cons_of_mem _ (List.mem_append_right _ h), by decide, List.mem_of_getElem? (i := 1) (by decide +kernel)⟩
theorem f_X4_status_59 : FL wsX4_status RX4 59 4 7 := ⟨RX4, TX4, 27, rfl, fun _ h => List.mem_cons_of_mem _ (List.mem_append_right _ h), by decide, List.mem_of_getElem? (i := 2) (by decide +kernel)⟩
theorem f_X4_status_48 : FL wsX4_status RX4 48 4 6 := ⟨RX4, TX4, 27, rfl, fun _ h => List.mem_cons_of_mem _ (List.mem_append_right _ h), by decide, List.mem_of_getElem? (i := 3) (by decide +kernel)⟩
theorem f_X4_status_111 : FL wsX4_status RX4 111 4 4 := ⟨RX4, TX4, 27, rfl, fun _ h => List.mem_cons_of_mem _ (List.mem_append_right _ h), by decide, List.mem_of_getElem? (i := 4) (by decide +kernel)⟩
theorem f_X4_status_268 : FL wsX4_status RX4 268 4 10 := ⟨RX4, TX4, 27, rfl, fun _ h => List.mem_cons_of_mem _ (List.mem_append_right _ h), by decide, List.mem_of_getElem? (i := 5) (by decide +kernel)⟩
theorem f_X4_status_262 : FL wsX4_status RX4 262 4 11 := ⟨RX4, TX4, 27, rfl, fun _ h => List.mem_cons_of_mem _ (List.mem_append_right _ h), by decide, List.mem_of_getElem? (i := 6) (by decide +kernel)⟩
theorem f_X4_status_265 : FL wsX4_status RX4 265 4 12 := ⟨RX4, TX4, 27, rfl, fun _ h => List.mem_cons_of_mem _ (List.mem_append_right _ h), by decide, List.mem_of_getElem? (i := 7) (by decide +kernel)⟩
theorem f_X4_status_124 : FL wsX4_status RX4 124 4 15 := ⟨RX4, TX4, 27, rfl, fun _ h => List.mem_cons_of_mem _ (List.mem_append_right _ h), by decide, List.mem_of_getElem? (i := 8) (by decide +kernel)⟩
theorem f_X4_status_52 : FL wsX4_status RX4 52 4 13 := ⟨RX4, TX4, 27, rfl, fun _ h => List.mem_cons_of_mem _ (List.mem_append_right _ h), by decide, List.mem_of_getElem? (i := 9) (by decide +kernel)⟩
theorem f_X4_status_7 : FL wsX4_status RX4 7 4 0 := ⟨RX4, TX4, 27, rfl, fun _ h => List.mem_cons_of_mem _ (List.mem_append_right _ h), by decide, List.mem_of_getElem? (i := 10) (by decide +kernel)⟩
theorem cal_X4_bySurprise : Cal yX4_bySurprise wsX4_bySurprise cX4_bySurprise 3 (some .int) RX4 0 := ⟨⟨_, rfl⟩, by decide +kernel⟩
theorem f_X4_status_32 : FL wsX4_status RX4 32 4 21 := ⟨RX4, TX4, 27, rfl, fun _ h => List.mem_cons_of_mem _ (List.mem_append_right _ h), by decide, List.mem_of_getElem? (i := 11) (by decide +kernel)⟩
theorem k_bp_21 : (Int8.ofInt (21)).toInt32 = nI 21 := by decide
theorem k_bp_22 : (Int8.ofInt (22)).toInt32 = nI 22 := by decide
theorem k_bp_23 : (Int8.ofInt (23)).toInt32 = nI 23 := by decide
theorem k_bp_24 : (Int8.ofInt (24)).toInt32 = nI 24 := by decide
theorem k_bp_25 : (Int8.ofInt (25)).toInt32 = nI 25 := by decide
theorem k_bp_26 : (Int8.ofInt (26)).toInt32 = nI 26 := by decide
theorem k_bp_27 : (Int8.ofInt (27)).toInt32 = nI 27 := by decide
theorem k_bp_15 : (Int8.ofInt (15)).toInt32 = nI 15 := by decide
theorem d_within_7 (g : gT) (v : Int32) : Cw g yX4_within wsX4_within 0 0 [.int v, .int (nI 0), .int (nI 7)] ([]) (some (.int (b2i (inb v 8)))) ([]) := by
  rw [← wi_inb (x := v) (n := 8) (by decide) (by decide)]
  exact d_within g v (nI 0) (nI 7)
theorem d_within_4 (g : gT) (v : Int32) : Cw g yX4_within wsX4_within 0 0 [.int v, .int (nI 0), .int (nI 4)] ([]) (some (.int (b2i (inb v 5)))) ([]) := by
  rw [← wi_inb (x := v) (n := 5) (by decide) (by decide)]
  exact d_within g v (nI 0) (nI 4)
theorem d_within_40 (g : gT) (v : Int32) : Cw g yX4_within wsX4_within 0 0 [.int v, .int (nI 0), .int (nI 40)] ([]) (some (.int (b2i (inb v 41)))) ([]) := by
  rw [← wi_inb (x := v) (n := 41) (by decide) (by decide)]
  exact d_within g v (nI 0) (nI 40)
theorem d_within_5 (g : gT) (v : Int32) : Cw g yX4_within wsX4_within 0 0 [.int v, .int (nI 0), .int (nI 5)] ([]) (some (.int (b2i (inb v 6)))) ([]) := by
  rw [← wi_inb (x := v) (n := 6) (by decide) (by decide)]
  exact d_within g v (nI 0) (nI 5)
theorem d_within_9 (g : gT) (v : Int32) : Cw g yX4_within wsX4_within 0 0 [.int v, .int (nI 0), .int (nI 9)] ([]) (some (.int (b2i (inb v 10)))) ([]) := by
  rw [← wi_inb (x := v) (n := 10) (by decide) (by decide)]
  exact d_within g v (nI 0) (nI 9)
theorem d_within_8 (g : gT) (v : Int32) : Cw g yX4_within wsX4_within 0 0 [.int v, .int (nI 0), .int (nI 8)] ([]) (some (.int (b2i (inb v 9)))) ([]) := by
  rw [← wi_inb (x := v) (n := 9) (by decide) (by decide)]
  exact d_within g v (nI 0) (nI 8)
theorem d_within_3 (g : gT) (v : Int32) : Cw g yX4_within wsX4_within 0 0 [.int v, .int (nI 0), .int (nI 3)] ([]) (some (.int (b2i (inb v 4)))) ([]) := by
  rw [← wi_inb (x := v) (n := 4) (by decide) (by decide)]
  exact d_within g v (nI 0) (nI 3)
theorem d_within_1 (g : gT) (v : Int32) : Cw g yX4_within wsX4_within 0 0 [.int v, .int (nI 0), .int (nI 1)] ([]) (some (.int (b2i (inb v 2)))) ([]) := by
  rw [← wi_inb (x := v) (n := 2) (by decide) (by decide)]
  exact d_within g v (nI 0) (nI 1)
theorem d_within_255 (g : gT) (v : Int32) : Cw g yX4_within wsX4_within 0 0 [.int v, .int (nI 0), .int (nI 255)] ([]) (some (.int (b2i (inb v 256)))) ([]) := by
  rw [← wi_inb (x := v) (n := 256) (by decide) (by decide)]
  exact d_within g v (nI 0) (nI 255)
set_option maxHeartbeats 4000000 in
set_option maxRecDepth 100000 in
theorem d_noRow (g : gT) (ad : Nat → Nat) (N : Sch) (K : Sch) (b : Bool) (z : Nat) (le : Nat → Nat) (rf : Nat → Int32) (hd : Nat → Int32) (ln : Nat → Nat) (vl : Nat → Nat → Int64) (aw : Nat) (at1 : Nat) (tk : Nat) (so : Int32) (va : Int32) (lm : Nat → Nat) (ol : Nat → Int32) (ah : Nat → Int32) (lt : Int32) (lo : Nat → Int32) (s : Int32) (hN : sOk N) (hH : hOk (sP N) hd) : Cw g yX4_noRow wsX4_noRow 1 22 [.ref (ad 0), .int s] (mdW g ad (N, K, b, z, le, rf, hd, ln, vl) (aw, at1, tk, so, va, lm, ol, ah, lt, lo)) (some (.int (rrS hd s))) (mdW g ad (N, K, b, z, le, rf, hd, ln, vl) (aw, at1, tk, so, va, lm, ol, ah, lt, lo)) := by
  refine Ct.start (cc := cX4_noRow) (nL := 2) (ret := (some .int)) (own := RX4) (by decide) rfl rfl rfl ?_
  intro Γ X E
  show Go Γ g 2 (rmC 1 22) 0 0 (mdW g ad (N, K, b, z, le, rf, hd, ln, vl) (aw, at1, tk, so, va, lm, ol, ah, lt, lo)) 0 [(0, .ref (ad 0)), (1, .int s)] []
  obtain ⟨o1, o2, o3, o4, o5, o6, o7, o8⟩ := id hN
  have o9 := p2_9 o2
  have o10 := sA_512 hN
  refine Go.iload_n X 1 dX4_noRow_0 rfl ?_
  refine Go.iconst X (nI 0) dX4_noRow_1 k_ic_0 ?_
  refine Go.bipush X (nI 7) dX4_noRow_2 k_bp_7 ?_
  refine Go.callSi X  (d_within_7 g s) cal_X4_within [] rfl rfl gX4_noRow_X4_within rfl rfl rfl dX4_noRow_4 ?_
  refine Go.if_neB X 13 dX4_noRow_7 (by decide) (fun h7 => ?_) (fun h7 => ?_)
  · --
    obtain ⟨sk, hsk, rfl⟩ := inb_at (by first | omega | (split <;> omega)) h7
    refine Go.aload_n X 0 dX4_noRow_13 rfl ?_
    refine Go.get X f_X4_noRow_7 0 (v := .ref (ad 1)) rfl rfl dX4_noRow_14 ?_
    refine Go.iload_n X 1 dX4_noRow_17 rfl ?_
    refine Go.ialdF X 1 (f := hd) rfl (by first | omega | (split <;> omega)) rfl dX4_noRow_18 ?_
    refine Go.iconst X (nI 4) dX4_noRow_19 k_ic_4 ?_
    refine Go.icmp_le X 26 dX4_noRow_20 (by decide) (fun h20 => ?_) (fun h20 => ?_)
    · --
      refine Go.aload_n X 0 dX4_noRow_26 rfl ?_
      refine Go.get X f_X4_noRow_7 0 (v := .ref (ad 1)) rfl rfl dX4_noRow_27 ?_
      refine Go.iload_n X 1 dX4_noRow_30 rfl ?_
      refine Go.ialdF X 1 (f := hd) rfl (by first | omega | (split <;> omega)) rfl dX4_noRow_31 ?_
      refine Go.if_ge X 40 dX4_noRow_32 (by decide) (fun h32 => ?_) (fun h32 => ?_)
      · --
        refine Go.iconst X (nI 0) dX4_noRow_40 k_ic_0 ?_
        exact Go.iret X E dX4_noRow_41 ⟨rv (show (nI 0) = rrS hd (nI sk) from by exact rr_0 o6 hH (by omega) h20 h32), rfl⟩ rfl
      · --
        refine Go.bipush X ((-4 : Int32)) dX4_noRow_35 k_bp_m4 ?_
        refine Go.goto X 41 dX4_noRow_37 (by decide) ?_
        exact Go.iret X E dX4_noRow_41 ⟨rv (show (-4) = rrS hd (nI sk) from by exact rr_4 o6 hH (by omega) h32), rfl⟩ rfl
    · --
      refine Go.bipush X ((-3 : Int32)) dX4_noRow_23 k_bp_m3 ?_
      exact Go.iret X E dX4_noRow_25 ⟨rv (show (-3) = rrS hd (nI sk) from by exact rr_3 o6 hH (by omega) h20), rfl⟩ rfl
  · --
    refine Go.bipush X ((-2 : Int32)) dX4_noRow_10 k_bp_m2 ?_
    exact Go.iret X E dX4_noRow_12 ⟨rv (show (-2) = rrS hd s from by exact rr_2 h7), rfl⟩ rfl
set_option maxHeartbeats 4000000 in
set_option maxRecDepth 100000 in
theorem e_row (g : gT) (ad : Nat → Nat) (N : Sch) (K : Sch) (b : Bool) (z : Nat) (le : Nat → Nat) (rf : Nat → Int32) (hd : Nat → Int32) (ln : Nat → Nat) (vl : Nat → Nat → Int64) (at1 : Nat) (tk : Nat) (so : Int32) (va : Int32) (lm : Nat → Nat) (ol : Nat → Int32) (ah : Nat → Int32) (lt : Int32) (lo : Nat → Int32) (s : Int32) (d : Int32) (n : Int32) (hm : mOk (N, K, b, z, le, rf, hd, ln, vl) (6, at1, tk, so, va, lm, ol, ah, lt, lo)) : Ct g yX4_row wsX4_row 1 22 [.ref (ad 0), .int s, .int d, .int n] (mdW g ad (N, K, b, z, le, rf, hd, ln, vl) (6, at1, tk, so, va, lm, ol, ah, lt, lo)) (fun v9 w9 => v9 = (some (.int (x_row (N, K, b, z, le, rf, hd, ln, vl) s d n).2)) ∧ ∃ J9, mOk (x_row (N, K, b, z, le, rf, hd, ln, vl) s d n).1 J9 ∧ w9 = mdW g ad (x_row (N, K, b, z, le, rf, hd, ln, vl) s d n).1 J9) := by
  refine Ct.start (cc := cX4_row) (nL := 5) (ret := (some .int)) (own := RX4) (by decide) rfl rfl rfl ?_
  intro Γ X E
  show Go Γ g 5 (rmC 1 22) 0 0 (mdW g ad (N, K, b, z, le, rf, hd, ln, vl) (6, at1, tk, so, va, lm, ol, ah, lt, lo)) 0 [(0, .ref (ad 0)), (1, .int s), (2, .int d), (3, .int n)] []
  refine Go.iload_n X 1 dX4_row_0 rfl ?_
  refine Go.iconst X (nI 0) dX4_row_1 k_ic_0 ?_
  refine Go.bipush X (nI 7) dX4_row_2 k_bp_7 ?_
  refine Go.callSi X  (d_within_7 g s) cal_X4_within [] rfl rfl gX4_row_X4_within rfl rfl rfl dX4_row_4 ?_
  refine Go.if_eqB X 29 dX4_row_7 (by decide) (fun h7 => ?_) (fun h7 => ?_)
  · --
    refine Go.aload_n X 0 dX4_row_29 rfl ?_
    refine Go.bipush X ((-2 : Int32)) dX4_row_30 k_bp_m2 ?_
    refine Go.callV0i X (d_no_0 g ad N K b z le rf hd ln vl 6 at1 tk so va lm ol ah lt lo) cal_X4_no gX4_row_X4_no (ci := 4) (q0 := 0) rfl rfl rfl rfl rfl dX4_row_32 ?_
    have e9 : x_row (N, K, b, z, le, rf, hd, ln, vl) s d n = ((N, K, b, z, le, inc rf 0, hd, ln, vl), (-2)) := by simp (decide := true) [x_row, rfS, upS_id, h7]
    have m9 : mOk (N, K, b, z, le, inc rf 0, hd, ln, vl) (6, at1, tk, so, va, lm, ol, ah, lt, lo) := ⟨rfl, hm.2.1, hm.2.2⟩
    exact Go.iret X E dX4_row_35 ⟨by rw [e9], _, by rw [e9]; exact m9, by rw [e9]⟩ rfl
  · --
    obtain ⟨sk, hsk, rfl⟩ := inb_at (by first | omega | (split <;> omega)) h7
    refine Go.iload_n X 2 dX4_row_10 rfl ?_
    refine Go.iconst X (nI 0) dX4_row_11 k_ic_0 ?_
    refine Go.iconst X (nI 4) dX4_row_12 k_ic_4 ?_
    refine Go.callSi X  (d_within_4 g d) cal_X4_within [] rfl rfl gX4_row_X4_within rfl rfl rfl dX4_row_13 ?_
    refine Go.if_eqB X 29 dX4_row_16 (by decide) (fun h16 => ?_) (fun h16 => ?_)
    · --
      refine Go.aload_n X 0 dX4_row_29 rfl ?_
      refine Go.bipush X ((-2 : Int32)) dX4_row_30 k_bp_m2 ?_
      refine Go.callV0i X (d_no_0 g ad N K b z le rf hd ln vl 6 at1 tk so va lm ol ah lt lo) cal_X4_no gX4_row_X4_no (ci := 4) (q0 := 0) rfl rfl rfl rfl rfl dX4_row_32 ?_
      have e9 : x_row (N, K, b, z, le, rf, hd, ln, vl) (nI sk) d n = ((N, K, b, z, le, inc rf 0, hd, ln, vl), (-2)) := by simp (decide := true) [x_row, rfS, upS_id, h7, h16, nI_clamp (show sk < 2 ^ 31 by omega)]
      have m9 : mOk (N, K, b, z, le, inc rf 0, hd, ln, vl) (6, at1, tk, so, va, lm, ol, ah, lt, lo) := ⟨rfl, hm.2.1, hm.2.2⟩
      exact Go.iret X E dX4_row_35 ⟨by rw [e9], _, by rw [e9]; exact m9, by rw [e9]⟩ rfl
    · --
      obtain ⟨dk, hdk, rfl⟩ := inb_at (by first | omega | (split <;> omega)) h16
      refine Go.iload_n X 3 dX4_row_19 rfl ?_
      refine Go.iconst X (nI 0) dX4_row_20 k_ic_0 ?_
      refine Go.bipush X (nI 40) dX4_row_21 k_bp_40 ?_
      refine Go.callSi X  (d_within_40 g n) cal_X4_within [] rfl rfl gX4_row_X4_within rfl rfl rfl dX4_row_23 ?_
      refine Go.if_neB X 36 dX4_row_26 (by decide) (fun h26 => ?_) (fun h26 => ?_)
      · --
        obtain ⟨nk, hnk, rfl⟩ := inb_at (by first | omega | (split <;> omega)) h26
        refine Go.aload_n X 0 dX4_row_36 rfl ?_
        refine Go.get X f_X4_row_7 0 (v := .ref (ad 1)) rfl rfl dX4_row_37 ?_
        refine Go.iload_n X 1 dX4_row_40 rfl ?_
        refine Go.iload_n X 2 dX4_row_41 rfl ?_
        refine Go.iastFM X 1 (mdW g ad (N, K, b, z, le, rf, upS hd sk (nI dk), ln, vl) (6, at1, tk, so, va, lm, ol, ah, lt, lo)) (f := hd) rfl (by first | omega | (split <;> omega)) rfl dX4_row_42 rfl ?_
        refine Go.aload_n X 0 dX4_row_43 rfl ?_
        refine Go.get X f_X4_row_13 0 (v := .ref (ad 2)) rfl rfl dX4_row_44 ?_
        refine Go.iload_n X 1 dX4_row_47 rfl ?_
        refine Go.iload_n X 3 dX4_row_48 rfl ?_
        refine Go.iastNM X 2 (mdW g ad (N, K, b, z, le, rf, upS hd sk (nI dk), ln, vl) (6, at1, tk, so, va, updN lm sk nk, ol, ah, lt, lo)) (w := lm) rfl (by first | omega | (split <;> omega)) rfl dX4_row_49 rfl ?_
        refine Go.iconst X (nI 0) dX4_row_50 k_ic_0 ?_
        refine Go.istore_new X dX4_row_51 (by decide) rfl ?_
        have L53 : ∀ (f53 : Nat) (k : Nat) (hk : k ≤ 40) (hf53 : 40 - k < f53), Go Γ g 5 (rmC 1 22) 0 0 (mdW g ad (N, K, b, z, le, rf, upS hd sk (nI dk), ln, upS vl sk (fillJ (vl sk) k)) (6, at1, tk, so, va, updN lm sk nk, ol, ah, lt, lo)) 53 [(4, .int (nI k)), (0, .ref (ad 0)), (1, .int (nI sk)), (2, .int (nI dk)), (3, .int (nI nk))] [] := by
          intro f53
          induction f53 with
          | zero => intro k hk hf53; exact absurd hf53 (Nat.not_lt_zero _)
          | succ f53 ih53 =>
            intro k hk hf53
            refine Go.iload X 0 dX4_row_53 rfl ?_
            refine Go.bipush X (nI 40) dX4_row_55 k_bp_40 ?_
            refine Go.icmp_geN X 79 dX4_row_57 (by decide) (by first | omega | (split <;> omega)) (by decide) (fun h57 => ?_) (fun h57 => ?_)
            · --
              refine Go.conv (M1 := mdW g ad (N, K, b, z, le, rf, upS hd sk (nI dk), ln, upS vl sk zeroJ) (6, at1, tk, so, va, updN lm sk nk, ol, ah, lt, lo)) ?_ (by rw [show k = 40 by omega]; exact mdW_z _ _ _ _ _ _ _ _ _ _ _ _ _) rfl rfl
              refine Go.conv (M1 := mdW g ad (N, K, b, z, le, rf, upS hd sk (nI dk), upS ln sk nk, upS vl sk zeroJ) (6, at1, tk, so, va, updN lm sk nk, ol, ah, lt, lo)) ?_ (by rfl) rfl rfl
              refine Go.iconst X (nI 1) dX4_row_79 k_ic_1 ?_
              have e9 : x_row (N, K, b, z, le, rf, hd, ln, vl) (nI sk) (nI dk) (nI nk) = ((N, K, b, z, le, rf, upS hd sk (nI dk), upS ln sk nk, upS vl sk zeroJ), (nI 1)) := by simp (decide := true) [x_row, rfS, upS_id, h7, h16, h26, h57, Nat.not_lt.mpr h57, nI_clamp (show sk < 2 ^ 31 by omega), nI_clamp (show dk < 2 ^ 31 by omega), nI_clamp (show nk < 2 ^ 31 by omega)]
              have m9 : mOk (N, K, b, z, le, rf, upS hd sk (nI dk), upS ln sk nk, upS vl sk zeroJ) (6, at1, tk, so, va, updN lm sk nk, ol, ah, lt, lo) := ⟨rfl, fl_row hm.2.1 sk (nI dk) nk, hm.2.2⟩
              exact Go.iret X E dX4_row_80 ⟨by rw [e9], _, by rw [e9]; exact m9, by rw [e9]⟩ rfl
            · --
              refine Go.aload_n X 1 dX4_row_60 rfl ?_
              refine Go.get X f_X4_row_16 0 (v := .ref (ad 3)) rfl rfl dX4_row_61 ?_
              refine Go.bipush X (nI 40) dX4_row_64 k_bp_40 ?_
              refine Go.iload_n X 2 dX4_row_66 rfl ?_
              refine Go.imul_e X (nI (40 * sk)) dX4_row_67 (pk_mul _ _) ?_
              refine Go.iload X 0 dX4_row_68 rfl ?_
              refine Go.iadd_e X (nI (40 * sk + k)) dX4_row_70 (nI_add _ _) ?_
              refine Go.lconst X (0) dX4_row_71 rfl ?_
              refine Go.lastFM X 3 (mdW g ad (N, K, b, z, le, rf, upS hd sk (nI dk), ln, upS (upS vl sk (fillJ (vl sk) k)) sk (vp_updL ((upS vl sk (fillJ (vl sk) k)) sk) k 0)) (6, at1, tk, so, va, updN lm sk nk, ol, ah, lt, lo)) (f := row3 (upS vl sk (fillJ (vl sk) k))) rfl (by first | omega | (split <;> omega)) rfl dX4_row_72 (mdW_row g ad _ _ _ _ _ _ _ _ _ _ _ (by first | omega | (split <;> omega))) ?_
              refine Go.iinc_0 X (nI (k + 1)) dX4_row_73 (by decide) rfl (show nI k + Int32.ofInt 1 = nI (k + 1) from nI_add _ 1) ?_
              refine Go.goto X 53 dX4_row_76 (by decide) ?_
              refine Go.conv (M1 := mdW g ad (N, K, b, z, le, rf, upS hd sk (nI dk), ln, upS vl sk (fillJ (vl sk) (k + 1))) (6, at1, tk, so, va, updN lm sk nk, ol, ah, lt, lo)) ?_ (by simp only [upS_at, upS_up, fillJ_s]) rfl rfl
              exact ih53 (k + 1) (by first | omega | (split <;> omega)) (by first | omega | (split <;> omega))
        refine Go.conv (M1 := mdW g ad (N, K, b, z, le, rf, upS hd sk (nI dk), ln, upS vl sk (fillJ (vl sk) 0)) (6, at1, tk, so, va, updN lm sk nk, ol, ah, lt, lo)) ?_ (by rw [fillJ_0, upS_id]) rfl rfl
        exact L53 (40 - 0 + 1) 0 (by first | omega | (split <;> omega)) (Nat.lt_succ_self _)
      · --
        refine Go.aload_n X 0 dX4_row_29 rfl ?_
        refine Go.bipush X ((-2 : Int32)) dX4_row_30 k_bp_m2 ?_
        refine Go.callV0i X (d_no_0 g ad N K b z le rf hd ln vl 6 at1 tk so va lm ol ah lt lo) cal_X4_no gX4_row_X4_no (ci := 4) (q0 := 0) rfl rfl rfl rfl rfl dX4_row_32 ?_
        have e9 : x_row (N, K, b, z, le, rf, hd, ln, vl) (nI sk) (nI dk) n = ((N, K, b, z, le, inc rf 0, hd, ln, vl), (-2)) := by simp (decide := true) [x_row, rfS, upS_id, h7, h16, h26, nI_clamp (show sk < 2 ^ 31 by omega), nI_clamp (show dk < 2 ^ 31 by omega)]
        have m9 : mOk (N, K, b, z, le, inc rf 0, hd, ln, vl) (6, at1, tk, so, va, lm, ol, ah, lt, lo) := ⟨rfl, hm.2.1, hm.2.2⟩
        exact Go.iret X E dX4_row_35 ⟨by rw [e9], _, by rw [e9]; exact m9, by rw [e9]⟩ rfl
set_option maxHeartbeats 4000000 in
set_option maxRecDepth 100000 in
theorem e_element (g : gT) (ad : Nat → Nat) (N : Sch) (K : Sch) (b : Bool) (z : Nat) (le : Nat → Nat) (rf : Nat → Int32) (hd : Nat → Int32) (ln : Nat → Nat) (vl : Nat → Nat → Int64) (at1 : Nat) (tk : Nat) (so : Int32) (va : Int32) (lm : Nat → Nat) (ol : Nat → Int32) (ah : Nat → Int32) (lt : Int32) (lo : Nat → Int32) (s : Int32) (i : Int32) (hl : ∀ s, s < 8 → ln s ≤ 40) (hm : mOk (N, K, b, z, le, rf, hd, ln, vl) (6, at1, tk, so, va, lm, ol, ah, lt, lo)) : Ct g yX4_element wsX4_element 2 43 [.ref (ad 0), .int s, .int i] (mdW g ad (N, K, b, z, le, rf, hd, ln, vl) (6, at1, tk, so, va, lm, ol, ah, lt, lo)) (fun v9 w9 => v9 = (some (.long (x_element (N, K, b, z, le, rf, hd, ln, vl) s i).2)) ∧ ∃ J9, mOk (x_element (N, K, b, z, le, rf, hd, ln, vl) s i).1 J9 ∧ w9 = mdW g ad (x_element (N, K, b, z, le, rf, hd, ln, vl) s i).1 J9) := by
  refine Ct.start (cc := cX4_element) (nL := 3) (ret := (some .long)) (own := RX4) (by decide) rfl rfl rfl ?_
  intro Γ X E
  show Go Γ g 3 (rmC 2 43) 0 0 (mdW g ad (N, K, b, z, le, rf, hd, ln, vl) (6, at1, tk, so, va, lm, ol, ah, lt, lo)) 0 [(0, .ref (ad 0)), (1, .int s), (2, .int i)] []
  refine Go.iload_n X 1 dX4_element_0 rfl ?_
  refine Go.iconst X (nI 0) dX4_element_1 k_ic_0 ?_
  refine Go.bipush X (nI 7) dX4_element_2 k_bp_7 ?_
  refine Go.callSi X  (d_within_7 g s) cal_X4_within [] rfl rfl gX4_element_X4_within rfl rfl rfl dX4_element_4 ?_
  refine Go.if_eqB X 48 dX4_element_7 (by decide) (fun h7 => ?_) (fun h7 => ?_)
  · --
    refine Go.lconst X (0) dX4_element_48 rfl ?_
    have e9 : x_element (N, K, b, z, le, rf, hd, ln, vl) s i = ((N, K, b, z, le, rf, hd, ln, vl), 0) := by simp (decide := true) [x_element, rfS, upS_id, h7]
    have m9 : mOk (N, K, b, z, le, rf, hd, ln, vl) (6, at1, tk, so, va, lm, ol, ah, lt, lo) := ⟨rfl, hm.2.1, hm.2.2⟩
    exact Go.lret X E dX4_element_49 ⟨by rw [e9], _, by rw [e9]; exact m9, by rw [e9]⟩ rfl
  · --
    obtain ⟨sk, hsk, rfl⟩ := inb_at (by first | omega | (split <;> omega)) h7
    refine Go.aload_n X 0 dX4_element_10 rfl ?_
    refine Go.iload_n X 1 dX4_element_11 rfl ?_
    refine Go.callV0i X (d_isRow g ad N K b z le rf hd ln vl 6 at1 tk so va lm ol ah lt lo sk (by first | omega | (split <;> omega))) cal_X4_isRow gX4_element_X4_isRow (ci := 4) (q0 := 0) rfl rfl rfl rfl rfl dX4_element_12 ?_
    refine Go.if_eqB X 48 dX4_element_15 (by decide) (fun h15 => ?_) (fun h15 => ?_)
    · --
      refine Go.lconst X (0) dX4_element_48 rfl ?_
      have e9 : x_element (N, K, b, z, le, rf, hd, ln, vl) (nI sk) i = ((N, K, b, z, le, rf, hd, ln, vl), 0) := by simp (decide := true) [x_element, rfS, upS_id, h7, h15, nI_clamp (show sk < 2 ^ 31 by omega)]
      have m9 : mOk (N, K, b, z, le, rf, hd, ln, vl) (6, at1, tk, so, va, lm, ol, ah, lt, lo) := ⟨rfl, hm.2.1, hm.2.2⟩
      exact Go.lret X E dX4_element_49 ⟨by rw [e9], _, by rw [e9]; exact m9, by rw [e9]⟩ rfl
    · --
      refine Go.iload_n X 2 dX4_element_18 rfl ?_
      refine Go.iconst X (nI 0) dX4_element_19 k_ic_0 ?_
      refine Go.aload_n X 0 dX4_element_20 rfl ?_
      refine Go.get X f_X4_element_13 0 (v := .ref (ad 2)) rfl rfl dX4_element_21 ?_
      refine Go.iload_n X 1 dX4_element_24 rfl ?_
      refine Go.ialdN X 2 (w := lm) rfl (by first | omega | (split <;> omega)) rfl dX4_element_25 ?_
      have hlk := hl sk hsk
      refine Go.top (w := .int (nI (ln sk))) (by exact congrArg (fun z => Value.int (nI z)) (hm.2.1 sk hsk h15)) ?_
      refine Go.iconst X (nI 1) dX4_element_26 k_ic_1 ?_
      refine Go.isub_e X ((nI (ln sk)) - (nI 1)) dX4_element_27 rfl ?_
      refine Go.callSi X  (d_within g i (nI 0) ((nI (ln sk)) - (nI 1))) cal_X4_within [] rfl rfl gX4_element_X4_within rfl rfl rfl dX4_element_28 ?_
      refine Go.top (w := .int (b2i (inb i (ln sk)))) (by rw [wi_inb0 (by omega)]) ?_
      refine Go.if_eqB X 48 dX4_element_31 (by decide) (fun h31 => ?_) (fun h31 => ?_)
      · --
        refine Go.lconst X (0) dX4_element_48 rfl ?_
        have e9 : x_element (N, K, b, z, le, rf, hd, ln, vl) (nI sk) i = ((N, K, b, z, le, rf, hd, ln, vl), 0) := by simp (decide := true) [x_element, rfS, upS_id, h7, h15, h31, nI_clamp (show sk < 2 ^ 31 by omega)]
        have m9 : mOk (N, K, b, z, le, rf, hd, ln, vl) (6, at1, tk, so, va, lm, ol, ah, lt, lo) := ⟨rfl, hm.2.1, hm.2.2⟩
        exact Go.lret X E dX4_element_49 ⟨by rw [e9], _, by rw [e9]; exact m9, by rw [e9]⟩ rfl
      · --
        obtain ⟨ik, hik, rfl⟩ := inb_at (by first | omega | (split <;> omega)) h31
        refine Go.aload_n X 0 dX4_element_34 rfl ?_
        refine Go.get X f_X4_element_16 0 (v := .ref (ad 3)) rfl rfl dX4_element_35 ?_
        refine Go.bipush X (nI 40) dX4_element_38 k_bp_40 ?_
        refine Go.iload_n X 1 dX4_element_40 rfl ?_
        refine Go.imul_e X (nI (40 * sk)) dX4_element_41 (pk_mul _ _) ?_
        refine Go.iload_n X 2 dX4_element_42 rfl ?_
        refine Go.iadd_e X (nI (40 * sk + ik)) dX4_element_43 (nI_add _ _) ?_
        refine Go.laldF X 3 (f := row3 vl) rfl (by first | omega | (split <;> omega)) rfl dX4_element_44 ?_
        refine Go.top (w := .long (vl sk ik)) (congrArg Value.long (row3_at _ (by first | omega | (split <;> omega)))) ?_
        refine Go.goto X 49 dX4_element_45 (by decide) ?_
        have e9 : x_element (N, K, b, z, le, rf, hd, ln, vl) (nI sk) (nI ik) = ((N, K, b, z, le, rf, hd, ln, vl), vl sk ik) := by simp (decide := true) [x_element, rfS, upS_id, h7, h15, h31, nI_clamp (show sk < 2 ^ 31 by omega), nI_clamp (show ik < 2 ^ 31 by omega)]
        have m9 : mOk (N, K, b, z, le, rf, hd, ln, vl) (6, at1, tk, so, va, lm, ol, ah, lt, lo) := ⟨rfl, hm.2.1, hm.2.2⟩
        exact Go.lret X E dX4_element_49 ⟨by rw [e9], _, by rw [e9]; exact m9, by rw [e9]⟩ rfl
set_option maxHeartbeats 4000000 in
set_option maxRecDepth 100000 in
theorem e_holds (g : gT) (ad : Nat → Nat) (N : Sch) (K : Sch) (b : Bool) (z : Nat) (le : Nat → Nat) (rf : Nat → Int32) (hd : Nat → Int32) (ln : Nat → Nat) (vl : Nat → Nat → Int64) (at1 : Nat) (tk : Nat) (so : Int32) (va : Int32) (lm : Nat → Nat) (ol : Nat → Int32) (ah : Nat → Int32) (lt : Int32) (lo : Nat → Int32) (s : Int32) (hm : mOk (N, K, b, z, le, rf, hd, ln, vl) (6, at1, tk, so, va, lm, ol, ah, lt, lo)) : Ct g yX4_holds wsX4_holds 1 22 [.ref (ad 0), .int s] (mdW g ad (N, K, b, z, le, rf, hd, ln, vl) (6, at1, tk, so, va, lm, ol, ah, lt, lo)) (fun v9 w9 => v9 = (some (.int (x_holds (N, K, b, z, le, rf, hd, ln, vl) s).2)) ∧ ∃ J9, mOk (x_holds (N, K, b, z, le, rf, hd, ln, vl) s).1 J9 ∧ w9 = mdW g ad (x_holds (N, K, b, z, le, rf, hd, ln, vl) s).1 J9) := by
  refine Ct.start (cc := cX4_holds) (nL := 2) (ret := (some .int)) (own := RX4) (by decide) rfl rfl rfl ?_
  intro Γ X E
  show Go Γ g 2 (rmC 1 22) 0 0 (mdW g ad (N, K, b, z, le, rf, hd, ln, vl) (6, at1, tk, so, va, lm, ol, ah, lt, lo)) 0 [(0, .ref (ad 0)), (1, .int s)] []
  refine Go.iload_n X 1 dX4_holds_0 rfl ?_
  refine Go.iconst X (nI 0) dX4_holds_1 k_ic_0 ?_
  refine Go.bipush X (nI 7) dX4_holds_2 k_bp_7 ?_
  refine Go.callSi X  (d_within_7 g s) cal_X4_within [] rfl rfl gX4_holds_X4_within rfl rfl rfl dX4_holds_4 ?_
  refine Go.if_eqB X 19 dX4_holds_7 (by decide) (fun h7 => ?_) (fun h7 => ?_)
  · --
    refine Go.iconst X ((-1 : Int32)) dX4_holds_19 k_ic_m1 ?_
    have e9 : x_holds (N, K, b, z, le, rf, hd, ln, vl) s = ((N, K, b, z, le, rf, hd, ln, vl), (-1)) := by simp (decide := true) [x_holds, rfS, upS_id, h7]
    have m9 : mOk (N, K, b, z, le, rf, hd, ln, vl) (6, at1, tk, so, va, lm, ol, ah, lt, lo) := ⟨rfl, hm.2.1, hm.2.2⟩
    exact Go.iret X E dX4_holds_20 ⟨by rw [e9], _, by rw [e9]; exact m9, by rw [e9]⟩ rfl
  · --
    obtain ⟨sk, hsk, rfl⟩ := inb_at (by first | omega | (split <;> omega)) h7
    refine Go.aload_n X 0 dX4_holds_10 rfl ?_
    refine Go.get X f_X4_holds_7 0 (v := .ref (ad 1)) rfl rfl dX4_holds_11 ?_
    refine Go.iload_n X 1 dX4_holds_14 rfl ?_
    refine Go.ialdF X 1 (f := hd) rfl (by first | omega | (split <;> omega)) rfl dX4_holds_15 ?_
    refine Go.goto X 20 dX4_holds_16 (by decide) ?_
    have e9 : x_holds (N, K, b, z, le, rf, hd, ln, vl) (nI sk) = ((N, K, b, z, le, rf, hd, ln, vl), (hd sk)) := by simp (decide := true) [x_holds, rfS, upS_id, h7, nI_clamp (show sk < 2 ^ 31 by omega)]
    have m9 : mOk (N, K, b, z, le, rf, hd, ln, vl) (6, at1, tk, so, va, lm, ol, ah, lt, lo) := ⟨rfl, hm.2.1, hm.2.2⟩
    exact Go.iret X E dX4_holds_20 ⟨by rw [e9], _, by rw [e9]; exact m9, by rw [e9]⟩ rfl
set_option maxHeartbeats 4000000 in
set_option maxRecDepth 100000 in
theorem e_set (g : gT) (ad : Nat → Nat) (N : Sch) (K : Sch) (b : Bool) (z : Nat) (le : Nat → Nat) (rf : Nat → Int32) (hd : Nat → Int32) (ln : Nat → Nat) (vl : Nat → Nat → Int64) (at1 : Nat) (tk : Nat) (so : Int32) (va : Int32) (lm : Nat → Nat) (ol : Nat → Int32) (ah : Nat → Int32) (lt : Int32) (lo : Nat → Int32) (s : Int32) (i : Int32) (v : Int64) (hN : sOk N) (hH : hOk (sP N) hd) (hl : ∀ s, s < 8 → ln s ≤ 40) (hm : mOk (N, K, b, z, le, rf, hd, ln, vl) (6, at1, tk, so, va, lm, ol, ah, lt, lo)) : Ct g yX4_set wsX4_set 2 43 [.ref (ad 0), .int s, .int i, .long v] (mdW g ad (N, K, b, z, le, rf, hd, ln, vl) (6, at1, tk, so, va, lm, ol, ah, lt, lo)) (fun v9 w9 => v9 = (some (.int (x_set (N, K, b, z, le, rf, hd, ln, vl) s i v).2)) ∧ ∃ J9, mOk (x_set (N, K, b, z, le, rf, hd, ln, vl) s i v).1 J9 ∧ w9 = mdW g ad (x_set (N, K, b, z, le, rf, hd, ln, vl) s i v).1 J9) := by
  refine Ct.start (cc := cX4_set) (nL := 8) (ret := (some .int)) (own := RX4) (by decide) rfl rfl rfl ?_
  intro Γ X E
  show Go Γ g 8 (rmC 2 43) 0 0 (mdW g ad (N, K, b, z, le, rf, hd, ln, vl) (6, at1, tk, so, va, lm, ol, ah, lt, lo)) 0 [(0, .ref (ad 0)), (1, .int s), (2, .int i), (3, .long v)] []
  obtain ⟨o1, o2, o3, o4, o5, o6, o7, o8⟩ := id hN
  have o9 := p2_9 o2
  have o10 := sA_512 hN
  refine Go.aload_n X 0 dX4_set_0 rfl ?_
  refine Go.iload_n X 1 dX4_set_1 rfl ?_
  refine Go.callV0i X (d_noRow g ad N K b z le rf hd ln vl 6 at1 tk so va lm ol ah lt lo s (by exact hN) (by exact hH)) cal_X4_noRow gX4_set_X4_noRow (ci := 4) (q0 := 0) rfl rfl rfl rfl rfl dX4_set_2 ?_
  rcases rr_c hd s with ⟨q1, q9⟩ | ⟨sk, hsk, rfl, q0, q1, q9⟩ | ⟨sk, hsk, rfl, q0, q1, q2, q9⟩ | ⟨sk, hsk, rfl, q0, q1, q2, q9⟩
  · --
    refine Go.top (w := .int (-2)) (by rw [q9]) ?_
    refine Go.istore_new X dX4_set_5 (by decide) rfl ?_
    refine Go.iload X 0 dX4_set_7 rfl ?_
    refine Go.if_ge X 19 dX4_set_9 (by decide) (fun h => absurd h (by decide)) (fun _ => ?_)
    refine Go.aload_n X 1 dX4_set_12 rfl ?_
    refine Go.iload X 0 dX4_set_13 rfl ?_
    refine Go.callV0i X (d_no_0 g ad N K b z le rf hd ln vl 6 at1 tk so va lm ol ah lt lo) cal_X4_no gX4_set_X4_no (ci := 4) (q0 := 0) rfl rfl rfl rfl rfl dX4_set_15 ?_
    have e9 : x_set (N, K, b, z, le, rf, hd, ln, vl) s i v = ((N, K, b, z, le, inc rf 0, hd, ln, vl), (-2)) := by simp (decide := true) [x_set, rfS, upS_id, q1]
    have m9 : mOk (N, K, b, z, le, inc rf 0, hd, ln, vl) (6, at1, tk, so, va, lm, ol, ah, lt, lo) := ⟨rfl, hm.2.1, hm.2.2⟩
    exact Go.iret X E dX4_set_18 ⟨by rw [e9], _, by rw [e9]; exact m9, by rw [e9]⟩ rfl
  · --
    refine Go.top (w := .int (-3)) (by rw [q9]) ?_
    refine Go.istore_new X dX4_set_5 (by decide) rfl ?_
    refine Go.iload X 0 dX4_set_7 rfl ?_
    refine Go.if_ge X 19 dX4_set_9 (by decide) (fun h => absurd h (by decide)) (fun _ => ?_)
    refine Go.aload_n X 1 dX4_set_12 rfl ?_
    refine Go.iload X 0 dX4_set_13 rfl ?_
    refine Go.callV0i X (d_no_1 g ad N K b z le rf hd ln vl 6 at1 tk so va lm ol ah lt lo) cal_X4_no gX4_set_X4_no (ci := 4) (q0 := 0) rfl rfl rfl rfl rfl dX4_set_15 ?_
    have e9 : x_set (N, K, b, z, le, rf, hd, ln, vl) (nI sk) i v = ((N, K, b, z, le, inc rf 1, hd, ln, vl), (-3)) := by simp (decide := true) [x_set, rfS, upS_id, q0, q1, nI_clamp (show sk < 2 ^ 31 by omega)]
    have m9 : mOk (N, K, b, z, le, inc rf 1, hd, ln, vl) (6, at1, tk, so, va, lm, ol, ah, lt, lo) := ⟨rfl, hm.2.1, hm.2.2⟩
    exact Go.iret X E dX4_set_18 ⟨by rw [e9], _, by rw [e9]; exact m9, by rw [e9]⟩ rfl
  · --
    refine Go.top (w := .int (nI 0)) (by rw [q9]) ?_
    refine Go.istore_new X dX4_set_5 (by decide) rfl ?_
    refine Go.iload X 0 dX4_set_7 rfl ?_
    refine Go.if_ge X 19 dX4_set_9 (by decide) (fun _ => ?_) (fun h => absurd (by decide) h)
    refine Go.iload_n X 3 dX4_set_19 rfl ?_
    refine Go.iconst X (nI 0) dX4_set_20 k_ic_0 ?_
    refine Go.aload_n X 1 dX4_set_21 rfl ?_
    refine Go.get X f_X4_set_13 0 (v := .ref (ad 2)) rfl rfl dX4_set_22 ?_
    refine Go.iload_n X 2 dX4_set_25 rfl ?_
    refine Go.ialdN X 2 (w := lm) rfl (by first | omega | (split <;> omega)) rfl dX4_set_26 ?_
    have hlk := hl sk hsk
    refine Go.top (w := .int (nI (ln sk))) (by exact congrArg (fun z => Value.int (nI z)) (hm.2.1 sk hsk q2)) ?_
    refine Go.iconst X (nI 1) dX4_set_27 k_ic_1 ?_
    refine Go.isub_e X ((nI (ln sk)) - (nI 1)) dX4_set_28 rfl ?_
    refine Go.callSi X  (d_within g i (nI 0) ((nI (ln sk)) - (nI 1))) cal_X4_within [] rfl rfl gX4_set_X4_within rfl rfl rfl dX4_set_29 ?_
    refine Go.top (w := .int (b2i (inb i (ln sk)))) (by rw [wi_inb0 (by omega)]) ?_
    refine Go.if_neB X 42 dX4_set_32 (by decide) (fun h32 => ?_) (fun h32 => ?_)
    · --
      obtain ⟨ik, hik, rfl⟩ := inb_at (by first | omega | (split <;> omega)) h32
      refine Go.lload_n X 4 dX4_set_42 rfl ?_
      refine Go.lstore_new X dX4_set_43 (by decide) rfl ?_
      refine Go.aload_n X 2 dX4_set_45 rfl ?_
      refine Go.get X f_X4_set_7 0 (v := .ref (ad 1)) rfl rfl dX4_set_46 ?_
      refine Go.iload_n X 3 dX4_set_49 rfl ?_
      refine Go.ialdF X 1 (f := hd) rfl (by first | omega | (split <;> omega)) rfl dX4_set_50 ?_
      refine Go.if_ne X 60 dX4_set_51 (by decide) (fun h51 => ?_) (fun h51 => ?_)
      · --
        refine Go.aload_n X 2 dX4_set_60 rfl ?_
        refine Go.get X f_X4_set_7 0 (v := .ref (ad 1)) rfl rfl dX4_set_61 ?_
        refine Go.iload_n X 3 dX4_set_64 rfl ?_
        refine Go.ialdF X 1 (f := hd) rfl (by first | omega | (split <;> omega)) rfl dX4_set_65 ?_
        refine Go.iconst X (nI 1) dX4_set_66 k_ic_1 ?_
        refine Go.icmp_ne X 76 dX4_set_67 (by decide) (fun h67 => ?_) (fun h67 => ?_)
        · --
          refine Go.aload_n X 2 dX4_set_76 rfl ?_
          refine Go.get X f_X4_set_7 0 (v := .ref (ad 1)) rfl rfl dX4_set_77 ?_
          refine Go.iload_n X 3 dX4_set_80 rfl ?_
          refine Go.ialdF X 1 (f := hd) rfl (by first | omega | (split <;> omega)) rfl dX4_set_81 ?_
          refine Go.iconst X (nI 2) dX4_set_82 k_ic_2 ?_
          refine Go.icmp_ne X 91 dX4_set_83 (by decide) (fun h83 => ?_) (fun h83 => ?_)
          · --
            refine Go.aload_n X 2 dX4_set_91 rfl ?_
            refine Go.get X f_X4_set_7 0 (v := .ref (ad 1)) rfl rfl dX4_set_92 ?_
            refine Go.iload_n X 3 dX4_set_95 rfl ?_
            refine Go.ialdF X 1 (f := hd) rfl (by first | omega | (split <;> omega)) rfl dX4_set_96 ?_
            refine Go.iconst X (nI 4) dX4_set_97 k_ic_4 ?_
            refine Go.icmp_ne X 114 dX4_set_98 (by decide) (fun h98 => ?_) (fun h98 => ?_)
            · --
              refine Go.aload_n X 2 dX4_set_114 rfl ?_
              refine Go.get X f_X4_set_16 0 (v := .ref (ad 3)) rfl rfl dX4_set_115 ?_
              refine Go.bipush X (nI 40) dX4_set_118 k_bp_40 ?_
              refine Go.iload_n X 3 dX4_set_120 rfl ?_
              refine Go.imul_e X (nI (40 * sk)) dX4_set_121 (pk_mul _ _) ?_
              refine Go.iload_n X 4 dX4_set_122 rfl ?_
              refine Go.iadd_e X (nI (40 * sk + ik)) dX4_set_123 (nI_add _ _) ?_
              refine Go.lload X 0 dX4_set_124 rfl ?_
              refine Go.top (w := .long (cutS (hd sk) v)) (by rw [cutS, if_neg (fun q => h51 (q.trans nI_0)), if_neg h67, if_neg h83, if_neg h98]) ?_
              refine Go.lastFM X 3 (mdW g ad (N, K, b, z, le, rf, hd, ln, upS vl sk (vp_updL (vl sk) ik (cutS (hd sk) v))) (6, at1, tk, so, va, lm, ol, ah, lt, lo)) (f := row3 vl) rfl (by first | omega | (split <;> omega)) rfl dX4_set_126 (mdW_row g ad _ _ _ _ _ _ _ _ _ _ _ (by first | omega | (split <;> omega))) ?_
              refine Go.iconst X (nI 1) dX4_set_127 k_ic_1 ?_
              have e9 : x_set (N, K, b, z, le, rf, hd, ln, vl) (nI sk) (nI ik) v = ((N, K, b, z, le, rf, hd, ln, upS vl sk (vp_updL (vl sk) ik (cutS (hd sk) v))), (nI 1)) := by simp only [x_set, q0, q1, q2, h32, if_true, if_false, nI_clamp (show sk < 2 ^ 31 by omega), nI_clamp (show ik < 2 ^ 31 by omega)]
              have m9 : mOk (N, K, b, z, le, rf, hd, ln, upS vl sk (vp_updL (vl sk) ik (cutS (hd sk) v))) (6, at1, tk, so, va, lm, ol, ah, lt, lo) := ⟨rfl, hm.2.1, hm.2.2⟩
              exact Go.iret X E dX4_set_128 ⟨by rw [e9], _, by rw [e9]; exact m9, by rw [e9]⟩ rfl
            · --
              refine Go.lload_n X 5 dX4_set_101 rfl ?_
              refine Go.lconst X (0) dX4_set_102 rfl ?_
              refine Go.lcmp X dX4_set_103 ?_
              refine Go.if_eq X 111 dX4_set_104 (by decide) (fun h104 => ?_) (fun h104 => ?_)
              · --
                refine Go.lconst X (0) dX4_set_111 rfl ?_
                refine Go.lstore_0 X dX4_set_112 (by decide) rfl ?_
                refine Go.aload_n X 2 dX4_set_114 rfl ?_
                refine Go.get X f_X4_set_16 0 (v := .ref (ad 3)) rfl rfl dX4_set_115 ?_
                refine Go.bipush X (nI 40) dX4_set_118 k_bp_40 ?_
                refine Go.iload_n X 3 dX4_set_120 rfl ?_
                refine Go.imul_e X (nI (40 * sk)) dX4_set_121 (pk_mul _ _) ?_
                refine Go.iload_n X 4 dX4_set_122 rfl ?_
                refine Go.iadd_e X (nI (40 * sk + ik)) dX4_set_123 (nI_add _ _) ?_
                refine Go.lload X 0 dX4_set_124 rfl ?_
                refine Go.top (w := .long (cutS (hd sk) v)) (by rw [cutS, if_neg (fun q => h51 (q.trans nI_0)), if_neg h67, if_neg h83, if_pos h98, if_pos (lc0 h104)]) ?_
                refine Go.lastFM X 3 (mdW g ad (N, K, b, z, le, rf, hd, ln, upS vl sk (vp_updL (vl sk) ik (cutS (hd sk) v))) (6, at1, tk, so, va, lm, ol, ah, lt, lo)) (f := row3 vl) rfl (by first | omega | (split <;> omega)) rfl dX4_set_126 (mdW_row g ad _ _ _ _ _ _ _ _ _ _ _ (by first | omega | (split <;> omega))) ?_
                refine Go.iconst X (nI 1) dX4_set_127 k_ic_1 ?_
                have e9 : x_set (N, K, b, z, le, rf, hd, ln, vl) (nI sk) (nI ik) v = ((N, K, b, z, le, rf, hd, ln, upS vl sk (vp_updL (vl sk) ik (cutS (hd sk) v))), (nI 1)) := by simp only [x_set, q0, q1, q2, h32, if_true, if_false, nI_clamp (show sk < 2 ^ 31 by omega), nI_clamp (show ik < 2 ^ 31 by omega)]
                have m9 : mOk (N, K, b, z, le, rf, hd, ln, upS vl sk (vp_updL (vl sk) ik (cutS (hd sk) v))) (6, at1, tk, so, va, lm, ol, ah, lt, lo) := ⟨rfl, hm.2.1, hm.2.2⟩
                exact Go.iret X E dX4_set_128 ⟨by rw [e9], _, by rw [e9]; exact m9, by rw [e9]⟩ rfl
              · --
                refine Go.lconst X (1) dX4_set_107 rfl ?_
                refine Go.goto X 112 dX4_set_108 (by decide) ?_
                refine Go.lstore_0 X dX4_set_112 (by decide) rfl ?_
                refine Go.aload_n X 2 dX4_set_114 rfl ?_
                refine Go.get X f_X4_set_16 0 (v := .ref (ad 3)) rfl rfl dX4_set_115 ?_
                refine Go.bipush X (nI 40) dX4_set_118 k_bp_40 ?_
                refine Go.iload_n X 3 dX4_set_120 rfl ?_
                refine Go.imul_e X (nI (40 * sk)) dX4_set_121 (pk_mul _ _) ?_
                refine Go.iload_n X 4 dX4_set_122 rfl ?_
                refine Go.iadd_e X (nI (40 * sk + ik)) dX4_set_123 (nI_add _ _) ?_
                refine Go.lload X 0 dX4_set_124 rfl ?_
                refine Go.top (w := .long (cutS (hd sk) v)) (by rw [cutS, if_neg (fun q => h51 (q.trans nI_0)), if_neg h67, if_neg h83, if_pos h98, if_neg (lc1 h104)]) ?_
                refine Go.lastFM X 3 (mdW g ad (N, K, b, z, le, rf, hd, ln, upS vl sk (vp_updL (vl sk) ik (cutS (hd sk) v))) (6, at1, tk, so, va, lm, ol, ah, lt, lo)) (f := row3 vl) rfl (by first | omega | (split <;> omega)) rfl dX4_set_126 (mdW_row g ad _ _ _ _ _ _ _ _ _ _ _ (by first | omega | (split <;> omega))) ?_
                refine Go.iconst X (nI 1) dX4_set_127 k_ic_1 ?_
                have e9 : x_set (N, K, b, z, le, rf, hd, ln, vl) (nI sk) (nI ik) v = ((N, K, b, z, le, rf, hd, ln, upS vl sk (vp_updL (vl sk) ik (cutS (hd sk) v))), (nI 1)) := by simp only [x_set, q0, q1, q2, h32, if_true, if_false, nI_clamp (show sk < 2 ^ 31 by omega), nI_clamp (show ik < 2 ^ 31 by omega)]
                have m9 : mOk (N, K, b, z, le, rf, hd, ln, upS vl sk (vp_updL (vl sk) ik (cutS (hd sk) v))) (6, at1, tk, so, va, lm, ol, ah, lt, lo) := ⟨rfl, hm.2.1, hm.2.2⟩
                exact Go.iret X E dX4_set_128 ⟨by rw [e9], _, by rw [e9]; exact m9, by rw [e9]⟩ rfl
          · --
            refine Go.lload_n X 5 dX4_set_86 rfl ?_
            refine Go.l2i X ((v).toInt32) dX4_set_87 rfl ?_
            refine Go.i2l X ((((v).toInt32) : Int32).toInt64) dX4_set_88 rfl ?_
            refine Go.lstore_0 X dX4_set_89 (by decide) rfl ?_
            refine Go.aload_n X 2 dX4_set_91 rfl ?_
            refine Go.get X f_X4_set_7 0 (v := .ref (ad 1)) rfl rfl dX4_set_92 ?_
            refine Go.iload_n X 3 dX4_set_95 rfl ?_
            refine Go.ialdF X 1 (f := hd) rfl (by first | omega | (split <;> omega)) rfl dX4_set_96 ?_
            refine Go.iconst X (nI 4) dX4_set_97 k_ic_4 ?_
            refine Go.icmp_ne X 114 dX4_set_98 (by decide) (fun h98 => ?_) (fun h98 => ?_)
            · --
              refine Go.aload_n X 2 dX4_set_114 rfl ?_
              refine Go.get X f_X4_set_16 0 (v := .ref (ad 3)) rfl rfl dX4_set_115 ?_
              refine Go.bipush X (nI 40) dX4_set_118 k_bp_40 ?_
              refine Go.iload_n X 3 dX4_set_120 rfl ?_
              refine Go.imul_e X (nI (40 * sk)) dX4_set_121 (pk_mul _ _) ?_
              refine Go.iload_n X 4 dX4_set_122 rfl ?_
              refine Go.iadd_e X (nI (40 * sk + ik)) dX4_set_123 (nI_add _ _) ?_
              refine Go.lload X 0 dX4_set_124 rfl ?_
              refine Go.top (w := .long (cutS (hd sk) v)) (by rw [cutS, if_neg (fun q => h51 (q.trans nI_0)), if_neg h67, if_pos h83]) ?_
              refine Go.lastFM X 3 (mdW g ad (N, K, b, z, le, rf, hd, ln, upS vl sk (vp_updL (vl sk) ik (cutS (hd sk) v))) (6, at1, tk, so, va, lm, ol, ah, lt, lo)) (f := row3 vl) rfl (by first | omega | (split <;> omega)) rfl dX4_set_126 (mdW_row g ad _ _ _ _ _ _ _ _ _ _ _ (by first | omega | (split <;> omega))) ?_
              refine Go.iconst X (nI 1) dX4_set_127 k_ic_1 ?_
              have e9 : x_set (N, K, b, z, le, rf, hd, ln, vl) (nI sk) (nI ik) v = ((N, K, b, z, le, rf, hd, ln, upS vl sk (vp_updL (vl sk) ik (cutS (hd sk) v))), (nI 1)) := by simp only [x_set, q0, q1, q2, h32, if_true, if_false, nI_clamp (show sk < 2 ^ 31 by omega), nI_clamp (show ik < 2 ^ 31 by omega)]
              have m9 : mOk (N, K, b, z, le, rf, hd, ln, upS vl sk (vp_updL (vl sk) ik (cutS (hd sk) v))) (6, at1, tk, so, va, lm, ol, ah, lt, lo) := ⟨rfl, hm.2.1, hm.2.2⟩
              exact Go.iret X E dX4_set_128 ⟨by rw [e9], _, by rw [e9]; exact m9, by rw [e9]⟩ rfl
            · --
              exact absurd (h83.symm.trans h98) (by decide)
        · --
          refine Go.lload_n X 5 dX4_set_70 rfl ?_
          refine Go.l2i X ((v).toInt32) dX4_set_71 rfl ?_
          refine Go.i2s X ((((v).toInt32) : Int32).toInt16.toInt32) dX4_set_72 rfl ?_
          refine Go.i2l X ((((((v).toInt32) : Int32).toInt16.toInt32) : Int32).toInt64) dX4_set_73 rfl ?_
          refine Go.lstore_0 X dX4_set_74 (by decide) rfl ?_
          refine Go.aload_n X 2 dX4_set_76 rfl ?_
          refine Go.get X f_X4_set_7 0 (v := .ref (ad 1)) rfl rfl dX4_set_77 ?_
          refine Go.iload_n X 3 dX4_set_80 rfl ?_
          refine Go.ialdF X 1 (f := hd) rfl (by first | omega | (split <;> omega)) rfl dX4_set_81 ?_
          refine Go.iconst X (nI 2) dX4_set_82 k_ic_2 ?_
          refine Go.icmp_ne X 91 dX4_set_83 (by decide) (fun h83 => ?_) (fun h83 => ?_)
          · --
            refine Go.aload_n X 2 dX4_set_91 rfl ?_
            refine Go.get X f_X4_set_7 0 (v := .ref (ad 1)) rfl rfl dX4_set_92 ?_
            refine Go.iload_n X 3 dX4_set_95 rfl ?_
            refine Go.ialdF X 1 (f := hd) rfl (by first | omega | (split <;> omega)) rfl dX4_set_96 ?_
            refine Go.iconst X (nI 4) dX4_set_97 k_ic_4 ?_
            refine Go.icmp_ne X 114 dX4_set_98 (by decide) (fun h98 => ?_) (fun h98 => ?_)
            · --
              refine Go.aload_n X 2 dX4_set_114 rfl ?_
              refine Go.get X f_X4_set_16 0 (v := .ref (ad 3)) rfl rfl dX4_set_115 ?_
              refine Go.bipush X (nI 40) dX4_set_118 k_bp_40 ?_
              refine Go.iload_n X 3 dX4_set_120 rfl ?_
              refine Go.imul_e X (nI (40 * sk)) dX4_set_121 (pk_mul _ _) ?_
              refine Go.iload_n X 4 dX4_set_122 rfl ?_
              refine Go.iadd_e X (nI (40 * sk + ik)) dX4_set_123 (nI_add _ _) ?_
              refine Go.lload X 0 dX4_set_124 rfl ?_
              refine Go.top (w := .long (cutS (hd sk) v)) (by rw [cutS, if_neg (fun q => h51 (q.trans nI_0)), if_pos h67]) ?_
              refine Go.lastFM X 3 (mdW g ad (N, K, b, z, le, rf, hd, ln, upS vl sk (vp_updL (vl sk) ik (cutS (hd sk) v))) (6, at1, tk, so, va, lm, ol, ah, lt, lo)) (f := row3 vl) rfl (by first | omega | (split <;> omega)) rfl dX4_set_126 (mdW_row g ad _ _ _ _ _ _ _ _ _ _ _ (by first | omega | (split <;> omega))) ?_
              refine Go.iconst X (nI 1) dX4_set_127 k_ic_1 ?_
              have e9 : x_set (N, K, b, z, le, rf, hd, ln, vl) (nI sk) (nI ik) v = ((N, K, b, z, le, rf, hd, ln, upS vl sk (vp_updL (vl sk) ik (cutS (hd sk) v))), (nI 1)) := by simp only [x_set, q0, q1, q2, h32, if_true, if_false, nI_clamp (show sk < 2 ^ 31 by omega), nI_clamp (show ik < 2 ^ 31 by omega)]
              have m9 : mOk (N, K, b, z, le, rf, hd, ln, upS vl sk (vp_updL (vl sk) ik (cutS (hd sk) v))) (6, at1, tk, so, va, lm, ol, ah, lt, lo) := ⟨rfl, hm.2.1, hm.2.2⟩
              exact Go.iret X E dX4_set_128 ⟨by rw [e9], _, by rw [e9]; exact m9, by rw [e9]⟩ rfl
            · --
              exact absurd (h67.symm.trans h98) (by decide)
          · --
            exact absurd (h67.symm.trans h83) (by decide)
      · --
        refine Go.lload_n X 5 dX4_set_54 rfl ?_
        refine Go.l2i X ((v).toInt32) dX4_set_55 rfl ?_
        refine Go.i2b X ((((v).toInt32) : Int32).toInt8.toInt32) dX4_set_56 rfl ?_
        refine Go.i2l X ((((((v).toInt32) : Int32).toInt8.toInt32) : Int32).toInt64) dX4_set_57 rfl ?_
        refine Go.lstore_0 X dX4_set_58 (by decide) rfl ?_
        refine Go.aload_n X 2 dX4_set_60 rfl ?_
        refine Go.get X f_X4_set_7 0 (v := .ref (ad 1)) rfl rfl dX4_set_61 ?_
        refine Go.iload_n X 3 dX4_set_64 rfl ?_
        refine Go.ialdF X 1 (f := hd) rfl (by first | omega | (split <;> omega)) rfl dX4_set_65 ?_
        refine Go.iconst X (nI 1) dX4_set_66 k_ic_1 ?_
        refine Go.icmp_ne X 76 dX4_set_67 (by decide) (fun h67 => ?_) (fun h67 => ?_)
        · --
          refine Go.aload_n X 2 dX4_set_76 rfl ?_
          refine Go.get X f_X4_set_7 0 (v := .ref (ad 1)) rfl rfl dX4_set_77 ?_
          refine Go.iload_n X 3 dX4_set_80 rfl ?_
          refine Go.ialdF X 1 (f := hd) rfl (by first | omega | (split <;> omega)) rfl dX4_set_81 ?_
          refine Go.iconst X (nI 2) dX4_set_82 k_ic_2 ?_
          refine Go.icmp_ne X 91 dX4_set_83 (by decide) (fun h83 => ?_) (fun h83 => ?_)
          · --
            refine Go.aload_n X 2 dX4_set_91 rfl ?_
            refine Go.get X f_X4_set_7 0 (v := .ref (ad 1)) rfl rfl dX4_set_92 ?_
            refine Go.iload_n X 3 dX4_set_95 rfl ?_
            refine Go.ialdF X 1 (f := hd) rfl (by first | omega | (split <;> omega)) rfl dX4_set_96 ?_
            refine Go.iconst X (nI 4) dX4_set_97 k_ic_4 ?_
            refine Go.icmp_ne X 114 dX4_set_98 (by decide) (fun h98 => ?_) (fun h98 => ?_)
            · --
              refine Go.aload_n X 2 dX4_set_114 rfl ?_
              refine Go.get X f_X4_set_16 0 (v := .ref (ad 3)) rfl rfl dX4_set_115 ?_
              refine Go.bipush X (nI 40) dX4_set_118 k_bp_40 ?_
              refine Go.iload_n X 3 dX4_set_120 rfl ?_
              refine Go.imul_e X (nI (40 * sk)) dX4_set_121 (pk_mul _ _) ?_
              refine Go.iload_n X 4 dX4_set_122 rfl ?_
              refine Go.iadd_e X (nI (40 * sk + ik)) dX4_set_123 (nI_add _ _) ?_
              refine Go.lload X 0 dX4_set_124 rfl ?_
              refine Go.top (w := .long (cutS (hd sk) v)) (by rw [cutS, if_pos (h51.trans nI_0.symm)]) ?_
              refine Go.lastFM X 3 (mdW g ad (N, K, b, z, le, rf, hd, ln, upS vl sk (vp_updL (vl sk) ik (cutS (hd sk) v))) (6, at1, tk, so, va, lm, ol, ah, lt, lo)) (f := row3 vl) rfl (by first | omega | (split <;> omega)) rfl dX4_set_126 (mdW_row g ad _ _ _ _ _ _ _ _ _ _ _ (by first | omega | (split <;> omega))) ?_
              refine Go.iconst X (nI 1) dX4_set_127 k_ic_1 ?_
              have e9 : x_set (N, K, b, z, le, rf, hd, ln, vl) (nI sk) (nI ik) v = ((N, K, b, z, le, rf, hd, ln, upS vl sk (vp_updL (vl sk) ik (cutS (hd sk) v))), (nI 1)) := by simp only [x_set, q0, q1, q2, h32, if_true, if_false, nI_clamp (show sk < 2 ^ 31 by omega), nI_clamp (show ik < 2 ^ 31 by omega)]
              have m9 : mOk (N, K, b, z, le, rf, hd, ln, upS vl sk (vp_updL (vl sk) ik (cutS (hd sk) v))) (6, at1, tk, so, va, lm, ol, ah, lt, lo) := ⟨rfl, hm.2.1, hm.2.2⟩
              exact Go.iret X E dX4_set_128 ⟨by rw [e9], _, by rw [e9]; exact m9, by rw [e9]⟩ rfl
            · --
              exact absurd (h51.symm.trans h98) (by decide)
          · --
            exact absurd (h51.symm.trans h83) (by decide)
        · --
          exact absurd (h51.symm.trans h67) (by decide)
    · --
      refine Go.aload_n X 1 dX4_set_35 rfl ?_
      refine Go.bipush X ((-2 : Int32)) dX4_set_36 k_bp_m2 ?_
      refine Go.callV0i X (d_no_0 g ad N K b z le rf hd ln vl 6 at1 tk so va lm ol ah lt lo) cal_X4_no gX4_set_X4_no (ci := 4) (q0 := 0) rfl rfl rfl rfl rfl dX4_set_38 ?_
      have e9 : x_set (N, K, b, z, le, rf, hd, ln, vl) (nI sk) i v = ((N, K, b, z, le, inc rf 0, hd, ln, vl), (-2)) := by simp (decide := true) [x_set, rfS, upS_id, q0, q1, q2, h32, nI_clamp (show sk < 2 ^ 31 by omega)]
      have m9 : mOk (N, K, b, z, le, inc rf 0, hd, ln, vl) (6, at1, tk, so, va, lm, ol, ah, lt, lo) := ⟨rfl, hm.2.1, hm.2.2⟩
      exact Go.iret X E dX4_set_41 ⟨by rw [e9], _, by rw [e9]; exact m9, by rw [e9]⟩ rfl
  · --
    refine Go.top (w := .int (-4)) (by rw [q9]) ?_
    refine Go.istore_new X dX4_set_5 (by decide) rfl ?_
    refine Go.iload X 0 dX4_set_7 rfl ?_
    refine Go.if_ge X 19 dX4_set_9 (by decide) (fun h => absurd h (by decide)) (fun _ => ?_)
    refine Go.aload_n X 1 dX4_set_12 rfl ?_
    refine Go.iload X 0 dX4_set_13 rfl ?_
    refine Go.callV0i X (d_no_2 g ad N K b z le rf hd ln vl 6 at1 tk so va lm ol ah lt lo) cal_X4_no gX4_set_X4_no (ci := 4) (q0 := 0) rfl rfl rfl rfl rfl dX4_set_15 ?_
    have e9 : x_set (N, K, b, z, le, rf, hd, ln, vl) (nI sk) i v = ((N, K, b, z, le, inc rf 2, hd, ln, vl), (-4)) := by simp (decide := true) [x_set, rfS, upS_id, q0, q1, q2, nI_clamp (show sk < 2 ^ 31 by omega)]
    have m9 : mOk (N, K, b, z, le, inc rf 2, hd, ln, vl) (6, at1, tk, so, va, lm, ol, ah, lt, lo) := ⟨rfl, hm.2.1, hm.2.2⟩
    exact Go.iret X E dX4_set_18 ⟨by rw [e9], _, by rw [e9]; exact m9, by rw [e9]⟩ rfl
set_option maxHeartbeats 4000000 in
set_option maxRecDepth 100000 in
theorem e_show (g : gT) (ad : Nat → Nat) (N : Sch) (K : Sch) (b : Bool) (z : Nat) (le : Nat → Nat) (rf : Nat → Int32) (hd : Nat → Int32) (ln : Nat → Nat) (vl : Nat → Nat → Int64) (at1 : Nat) (tk : Nat) (so : Int32) (va : Int32) (lm : Nat → Nat) (ol : Nat → Int32) (ah : Nat → Int32) (lt : Int32) (lo : Nat → Int32) (s : Int32) (i : Int32) (hN : sOk N) (hH : hOk (sP N) hd) (hm : mOk (N, K, b, z, le, rf, hd, ln, vl) (6, at1, tk, so, va, lm, ol, ah, lt, lo)) : Ct g yX4_show wsX4_show 2 43 [.ref (ad 0), .int s, .int i] (mdW g ad (N, K, b, z, le, rf, hd, ln, vl) (6, at1, tk, so, va, lm, ol, ah, lt, lo)) (fun v9 w9 => v9 = (some (.int (x_show (N, K, b, z, le, rf, hd, ln, vl) s i).2)) ∧ ∃ J9, mOk (x_show (N, K, b, z, le, rf, hd, ln, vl) s i).1 J9 ∧ w9 = mdW g ad (x_show (N, K, b, z, le, rf, hd, ln, vl) s i).1 J9) := by
  refine Ct.start (cc := cX4_show) (nL := 3) (ret := (some .int)) (own := RX4) (by decide) rfl rfl rfl ?_
  intro Γ X E
  show Go Γ g 3 (rmC 2 43) 0 0 (mdW g ad (N, K, b, z, le, rf, hd, ln, vl) (6, at1, tk, so, va, lm, ol, ah, lt, lo)) 0 [(0, .ref (ad 0)), (1, .int s), (2, .int i)] []
  obtain ⟨o1, o2, o3, o4, o5, o6, o7, o8⟩ := id hN
  have o9 := p2_9 o2
  have o10 := sA_512 hN
  refine Go.iload_n X 1 dX4_show_0 rfl ?_
  refine Go.iconst X (nI 0) dX4_show_1 k_ic_0 ?_
  refine Go.bipush X (nI 7) dX4_show_2 k_bp_7 ?_
  refine Go.callSi X  (d_within_7 g s) cal_X4_within [] rfl rfl gX4_show_X4_within rfl rfl rfl dX4_show_4 ?_
  refine Go.if_eqB X 23 dX4_show_7 (by decide) (fun h7 => ?_) (fun h7 => ?_)
  · --
    refine Go.aload_n X 0 dX4_show_23 rfl ?_
    refine Go.bipush X ((-2 : Int32)) dX4_show_24 k_bp_m2 ?_
    refine Go.callV0i X (d_no_0 g ad N K b z le rf hd ln vl 6 at1 tk so va lm ol ah lt lo) cal_X4_no gX4_show_X4_no (ci := 4) (q0 := 0) rfl rfl rfl rfl rfl dX4_show_26 ?_
    have e9 : x_show (N, K, b, z, le, rf, hd, ln, vl) s i = ((N, K, b, z, le, inc rf 0, hd, ln, vl), (-2)) := by simp (decide := true) [x_show, rfS, upS_id, h7]
    have m9 : mOk (N, K, b, z, le, inc rf 0, hd, ln, vl) (6, at1, tk, so, va, lm, ol, ah, lt, lo) := ⟨rfl, hm.2.1, hm.2.2⟩
    exact Go.iret X E dX4_show_29 ⟨by rw [e9], _, by rw [e9]; exact m9, by rw [e9]⟩ rfl
  · --
    obtain ⟨sk, hsk, rfl⟩ := inb_at (by first | omega | (split <;> omega)) h7
    refine Go.iload_n X 2 dX4_show_10 rfl ?_
    refine Go.iconst X ((-1 : Int32)) dX4_show_11 k_ic_m1 ?_
    refine Go.icmp_eq X 30 dX4_show_12 (by decide) (fun h12 => ?_) (fun h12 => ?_)
    · --
      refine Go.lv_2 (w := .int (-1)) (by rw [h12]) ?_
      refine Go.aload_n X 0 dX4_show_30 rfl ?_
      refine Go.get X f_X4_show_7 0 (v := .ref (ad 1)) rfl rfl dX4_show_31 ?_
      refine Go.iload_n X 1 dX4_show_34 rfl ?_
      refine Go.iload_n X 2 dX4_show_35 rfl ?_
      refine Go.iconst X ((-1 : Int32)) dX4_show_36 k_ic_m1 ?_
      refine Go.icmp_ne X 44 dX4_show_37 (by decide) (fun h => absurd h (by decide)) (fun _ => ?_)
      refine Go.iconst X ((-1 : Int32)) dX4_show_40 k_ic_m1 ?_
      refine Go.goto X 48 dX4_show_41 (by decide) ?_
      refine Go.iastFM X 1 (mdW g ad (N, K, b, z, le, rf, upS hd sk (-1), ln, vl) (6, at1, tk, so, va, lm, ol, ah, lt, lo)) (f := hd) rfl (by first | omega | (split <;> omega)) rfl dX4_show_48 rfl ?_
      refine Go.conv (M1 := mdW g ad (N, K, b, z, le, rf, upS hd sk (-1), upS ln sk 0, vl) (6, at1, tk, so, va, lm, ol, ah, lt, lo)) ?_ (by rfl) rfl rfl
      refine Go.iconst X (nI 1) dX4_show_49 k_ic_1 ?_
      have e9 : x_show (N, K, b, z, le, rf, hd, ln, vl) (nI sk) i = ((N, K, b, z, le, rf, upS hd sk (-1), upS ln sk 0, vl), (nI 1)) := by simp (decide := true) [x_show, rfS, upS_id, h7, h12, nI_clamp (show sk < 2 ^ 31 by omega)]
      have m9 : mOk (N, K, b, z, le, rf, upS hd sk (-1), upS ln sk 0, vl) (6, at1, tk, so, va, lm, ol, ah, lt, lo) := ⟨rfl, fl_show hm.2.1 sk (inb_m1 5), hm.2.2⟩
      exact Go.iret X E dX4_show_50 ⟨by rw [e9], _, by rw [e9]; exact m9, by rw [e9]⟩ rfl
    · --
      refine Go.aload_n X 0 dX4_show_15 rfl ?_
      refine Go.iload_n X 2 dX4_show_16 rfl ?_
      refine Go.callV0i X (d_isOne g ad N K b z le rf hd ln vl 6 at1 tk so va lm ol ah lt lo i (by exact hN)) cal_X4_isOne gX4_show_X4_isOne (ci := 4) (q0 := 0) rfl rfl rfl rfl rfl dX4_show_17 ?_
      refine Go.if_neB X 30 dX4_show_20 (by decide) (fun h20 => ?_) (fun h20 => ?_)
      · --
        obtain ⟨ik, hik, rfl⟩ := inb_at (by first | omega | (split <;> omega)) h20
        refine Go.aload_n X 0 dX4_show_30 rfl ?_
        refine Go.get X f_X4_show_7 0 (v := .ref (ad 1)) rfl rfl dX4_show_31 ?_
        refine Go.iload_n X 1 dX4_show_34 rfl ?_
        refine Go.iload_n X 2 dX4_show_35 rfl ?_
        refine Go.iconst X ((-1 : Int32)) dX4_show_36 k_ic_m1 ?_
        refine Go.icmp_ne X 44 dX4_show_37 (by decide) (fun h37 => ?_) (fun h37 => ?_)
        · --
          refine Go.bipush X (nI 10) dX4_show_44 k_bp_10 ?_
          refine Go.iload_n X 2 dX4_show_46 rfl ?_
          refine Go.iadd_e X (nI (10 + ik)) dX4_show_47 (nI_add _ _) ?_
          refine Go.iastFM X 1 (mdW g ad (N, K, b, z, le, rf, upS hd sk (nI (10 + ik)), ln, vl) (6, at1, tk, so, va, lm, ol, ah, lt, lo)) (f := hd) rfl (by first | omega | (split <;> omega)) rfl dX4_show_48 rfl ?_
          refine Go.conv (M1 := mdW g ad (N, K, b, z, le, rf, upS hd sk (nI (10 + ik)), upS ln sk 0, vl) (6, at1, tk, so, va, lm, ol, ah, lt, lo)) ?_ (by rfl) rfl rfl
          refine Go.iconst X (nI 1) dX4_show_49 k_ic_1 ?_
          have e9 : x_show (N, K, b, z, le, rf, hd, ln, vl) (nI sk) (nI ik) = ((N, K, b, z, le, rf, upS hd sk (nI (10 + ik)), upS ln sk 0, vl), (nI 1)) := by simp (decide := true) [x_show, rfS, upS_id, h7, h12, h20, h37, nI_clamp (show sk < 2 ^ 31 by omega), nI_clamp (show ik < 2 ^ 31 by omega)]
          have m9 : mOk (N, K, b, z, le, rf, upS hd sk (nI (10 + ik)), upS ln sk 0, vl) (6, at1, tk, so, va, lm, ol, ah, lt, lo) := ⟨rfl, fl_show hm.2.1 sk (inb_10 (by omega)), hm.2.2⟩
          exact Go.iret X E dX4_show_50 ⟨by rw [e9], _, by rw [e9]; exact m9, by rw [e9]⟩ rfl
        · --
          exact absurd h37.symm (m1_ne (by omega))
      · --
        refine Go.aload_n X 0 dX4_show_23 rfl ?_
        refine Go.bipush X ((-2 : Int32)) dX4_show_24 k_bp_m2 ?_
        refine Go.callV0i X (d_no_0 g ad N K b z le rf hd ln vl 6 at1 tk so va lm ol ah lt lo) cal_X4_no gX4_show_X4_no (ci := 4) (q0 := 0) rfl rfl rfl rfl rfl dX4_show_26 ?_
        have e9 : x_show (N, K, b, z, le, rf, hd, ln, vl) (nI sk) i = ((N, K, b, z, le, inc rf 0, hd, ln, vl), (-2)) := by simp (decide := true) [x_show, rfS, upS_id, h7, h12, h20, nI_clamp (show sk < 2 ^ 31 by omega)]
        have m9 : mOk (N, K, b, z, le, inc rf 0, hd, ln, vl) (6, at1, tk, so, va, lm, ol, ah, lt, lo) := ⟨rfl, hm.2.1, hm.2.2⟩
        exact Go.iret X E dX4_show_29 ⟨by rw [e9], _, by rw [e9]; exact m9, by rw [e9]⟩ rfl
set_option maxHeartbeats 4000000 in
set_option maxRecDepth 100000 in
theorem d_freshTerm (g : gT) (ad : Nat → Nat) (N : Sch) (K : Sch) (b : Bool) (z : Nat) (le : Nat → Nat) (rf : Nat → Int32) (hd : Nat → Int32) (ln : Nat → Nat) (vl : Nat → Nat → Int64) (aw : Nat) (at1 : Nat) (tk : Nat) (so : Int32) (va : Int32) (lm : Nat → Nat) (ol : Nat → Int32) (ah : Nat → Int32) (lt : Int32) (lo : Nat → Int32) (n : Nat) (hn : n ≤ 9) : Cw g yX4_freshTerm wsX4_freshTerm 0 0 [.ref (ad 0), .int (nI n)] (mdW g ad (N, K, b, z, le, rf, hd, ln, vl) (aw, at1, tk, so, va, lm, ol, ah, lt, lo)) none (mdW g ad (bgT N n, K, b, z, le, rf, hd, ln, vl) (aw, at1, tk, so, va, lm, ol, ah, lt, lo)) := by
  refine Ct.start (cc := cX4_freshTerm) (nL := 3) (ret := none) (own := RX4) (by decide) rfl rfl rfl ?_
  intro Γ X E
  show Go Γ g 3 (rmC 0 0) 0 0 (mdW g ad (N, K, b, z, le, rf, hd, ln, vl) (aw, at1, tk, so, va, lm, ol, ah, lt, lo)) 0 [(0, .ref (ad 0)), (1, .int (nI n))] []
  refine Go.aload_n X 0 dX4_freshTerm_0 rfl ?_
  refine Go.iload_n X 1 dX4_freshTerm_1 rfl ?_
  refine Go.putM X f_X4_freshTerm_66 fp_4_3 0 (mdW g ad ((n, sA N, sW N, sD N, sP N, sK N, sO N, sG N, sT N, sF N, sX N), K, b, z, le, rf, hd, ln, vl) (aw, at1, tk, so, va, lm, ol, ah, lt, lo)) rfl rfl rfl rfl dX4_freshTerm_2 rfl ?_
  refine Go.aload_n X 0 dX4_freshTerm_5 rfl ?_
  refine Go.iconst X (nI 1) dX4_freshTerm_6 k_ic_1 ?_
  refine Go.iload_n X 1 dX4_freshTerm_7 rfl ?_
  refine Go.ishl_e X (nI (2 ^ n)) dX4_freshTerm_8 (nI_shl1 (by first | omega | (split <;> omega))) ?_
  have o11 := Nat.one_le_two_pow (n := n)
  refine Go.iconst X (nI 1) dX4_freshTerm_9 k_ic_1 ?_
  refine Go.isub_e X (nI (2 ^ n - 1)) dX4_freshTerm_10 (pk_sub (by first | omega | (split <;> omega))) ?_
  refine Go.putM X f_X4_freshTerm_111 fp_4_4 0 (mdW g ad ((n, 2 ^ n - 1, sW N, sD N, sP N, sK N, sO N, sG N, sT N, sF N, sX N), K, b, z, le, rf, hd, ln, vl) (aw, at1, tk, so, va, lm, ol, ah, lt, lo)) rfl rfl rfl rfl dX4_freshTerm_11 rfl ?_
  refine Go.iconst X (nI 0) dX4_freshTerm_14 k_ic_0 ?_
  refine Go.istore_n_new X dX4_freshTerm_15 (by decide) rfl ?_
  have L16 : ∀ (f16 : Nat) (k : Nat) (hk : k ≤ 9) (hf16 : 9 - k < f16), Go Γ g 3 (rmC 0 0) 0 0 (mdW g ad ((n, 2 ^ n - 1, fillN (sW N) 1 k, sD N, sP N, sK N, sO N, sG N, sT N, sF N, sX N), K, b, z, le, rf, hd, ln, vl) (aw, at1, tk, so, va, lm, ol, ah, lt, lo)) 16 [(2, .int (nI k)), (0, .ref (ad 0)), (1, .int (nI n))] [] := by
    intro f16
    induction f16 with
    | zero => intro k hk hf16; exact absurd hf16 (Nat.not_lt_zero _)
    | succ f16 ih16 =>
      intro k hk hf16
      refine Go.iload_n X 0 dX4_freshTerm_16 rfl ?_
      refine Go.bipush X (nI 9) dX4_freshTerm_17 k_bp_9 ?_
      refine Go.icmp_geN X 35 dX4_freshTerm_19 (by decide) (by first | omega | (split <;> omega)) (by decide) (fun h19 => ?_) (fun h19 => ?_)
      · --
        refine Go.ext (q := 4) (f := aN (fillN (sW N) 1 k)) (f1 := aN one9) (M1 := mdW g ad ((n, 2 ^ n - 1, one9, sD N, sP N, sK N, sO N, sG N, sT N, sF N, sX N), K, b, z, le, rf, hd, ln, vl) (aw, at1, tk, so, va, lm, ol, ah, lt, lo)) rfl (fun i hi => by simp [aN, fillN, one9, show i < k by omega]) rfl ?_
        exact Go.vret X E dX4_freshTerm_35 ⟨rfl, (by rfl)⟩ rfl
      · --
        refine Go.aload_n X 1 dX4_freshTerm_22 rfl ?_
        refine Go.get X f_X4_freshTerm_20 0 (v := .ref (ad 4)) rfl rfl dX4_freshTerm_23 ?_
        refine Go.iload_n X 0 dX4_freshTerm_26 rfl ?_
        refine Go.iconst X (nI 1) dX4_freshTerm_27 k_ic_1 ?_
        refine Go.iastNM X 4 (mdW g ad ((n, 2 ^ n - 1, updN (fillN (sW N) 1 k) k 1, sD N, sP N, sK N, sO N, sG N, sT N, sF N, sX N), K, b, z, le, rf, hd, ln, vl) (aw, at1, tk, so, va, lm, ol, ah, lt, lo)) (w := fillN (sW N) 1 k) rfl (by first | omega | (split <;> omega)) rfl dX4_freshTerm_28 rfl ?_
        refine Go.iinc_0 X (nI (k + 1)) dX4_freshTerm_29 (by decide) rfl (show nI k + Int32.ofInt 1 = nI (k + 1) from nI_add _ 1) ?_
        refine Go.goto X 16 dX4_freshTerm_32 (by decide) ?_
        refine Go.conv (M1 := mdW g ad ((n, 2 ^ n - 1, fillN (sW N) 1 (k + 1), sD N, sP N, sK N, sO N, sG N, sT N, sF N, sX N), K, b, z, le, rf, hd, ln, vl) (aw, at1, tk, so, va, lm, ol, ah, lt, lo)) ?_ (by rw [fill_s]) rfl rfl
        exact ih16 (k + 1) (by first | omega | (split <;> omega)) (by first | omega | (split <;> omega))
  refine Go.conv (M1 := mdW g ad ((n, 2 ^ n - 1, fillN (sW N) 1 0, sD N, sP N, sK N, sO N, sG N, sT N, sF N, sX N), K, b, z, le, rf, hd, ln, vl) (aw, at1, tk, so, va, lm, ol, ah, lt, lo)) ?_ (by rw [fill_0]) rfl rfl
  exact L16 (9 - 0 + 1) 0 (by first | omega | (split <;> omega)) (Nat.lt_succ_self _)
set_option maxHeartbeats 4000000 in
set_option maxRecDepth 100000 in
theorem e_term (g : gT) (ad : Nat → Nat) (N : Sch) (K : Sch) (b : Bool) (z : Nat) (le : Nat → Nat) (rf : Nat → Int32) (hd : Nat → Int32) (ln : Nat → Nat) (vl : Nat → Nat → Int64) (at1 : Nat) (tk : Nat) (so : Int32) (va : Int32) (lm : Nat → Nat) (ol : Nat → Int32) (ah : Nat → Int32) (lt : Int32) (lo : Nat → Int32) (n : Int32) (hN : sOk N) (hH : hOk (sP N) hd) (hm : mOk (N, K, b, z, le, rf, hd, ln, vl) (6, at1, tk, so, va, lm, ol, ah, lt, lo)) : Ct g yX4_term wsX4_term 1 22 [.ref (ad 0), .int n] (mdW g ad (N, K, b, z, le, rf, hd, ln, vl) (6, at1, tk, so, va, lm, ol, ah, lt, lo)) (fun v9 w9 => v9 = (some (.int (x_term (N, K, b, z, le, rf, hd, ln, vl) n).2)) ∧ ∃ J9, mOk (x_term (N, K, b, z, le, rf, hd, ln, vl) n).1 J9 ∧ w9 = mdW g ad (x_term (N, K, b, z, le, rf, hd, ln, vl) n).1 J9) := by
  refine Ct.start (cc := cX4_term) (nL := 3) (ret := (some .int)) (own := RX4) (by decide) rfl rfl rfl ?_
  intro Γ X E
  show Go Γ g 3 (rmC 1 22) 0 0 (mdW g ad (N, K, b, z, le, rf, hd, ln, vl) (6, at1, tk, so, va, lm, ol, ah, lt, lo)) 0 [(0, .ref (ad 0)), (1, .int n)] []
  obtain ⟨o1, o2, o3, o4, o5, o6, o7, o8⟩ := id hN
  have o9 := p2_9 o2
  have o10 := sA_512 hN
  refine Go.iload_n X 1 dX4_term_0 rfl ?_
  refine Go.iconst X (nI 1) dX4_term_1 k_ic_1 ?_
  refine Go.bipush X (nI 9) dX4_term_2 k_bp_9 ?_
  refine Go.callSi X  (d_within g n (nI 1) (nI 9)) cal_X4_within [] rfl rfl gX4_term_X4_within rfl rfl rfl dX4_term_4 ?_
  refine Go.if_neB X 17 dX4_term_7 (by decide) (fun h7 => ?_) (fun h7 => ?_)
  · --
    obtain ⟨nk, hnk, rfl⟩ := wi_at (by first | omega | (split <;> omega)) (by first | omega | (split <;> omega)) h7
    refine Go.aload_n X 0 dX4_term_17 rfl ?_
    refine Go.get X f_X4_term_66 0 (v := .int (nI (sN N))) rfl rfl dX4_term_18 ?_
    refine Go.istore_n_new X dX4_term_21 (by decide) rfl ?_
    refine Go.aload_n X 1 dX4_term_22 rfl ?_
    refine Go.iload_n X 2 dX4_term_23 rfl ?_
    refine Go.callV0v X (d_freshTerm g ad N K b z le rf hd ln vl 6 at1 tk so va lm ol ah lt lo nk (by first | omega | (split <;> omega))) cal_X4_freshTerm gX4_term_X4_freshTerm (ci := 4) (q0 := 0) rfl rfl rfl rfl rfl dX4_term_24 ?_
    refine Go.iload_n X 0 dX4_term_27 rfl ?_
    have e9 : x_term (N, K, b, z, le, rf, hd, ln, vl) (nI nk) = ((bgT N nk, K, b, z, le, rf, hd, ln, vl), (nI (sN N))) := by simp (decide := true) [x_term, rfS, upS_id, h7, nI_clamp (show nk < 2 ^ 31 by omega), bgT]
    have m9 : mOk (bgT N nk, K, b, z, le, rf, hd, ln, vl) (6, at1, tk, so, va, lm, ol, ah, lt, lo) := ⟨rfl, hm.2.1, hm.2.2⟩
    exact Go.iret X E dX4_term_28 ⟨by rw [e9], _, by rw [e9]; exact m9, by rw [e9]⟩ rfl
  · --
    refine Go.aload_n X 0 dX4_term_10 rfl ?_
    refine Go.bipush X ((-2 : Int32)) dX4_term_11 k_bp_m2 ?_
    refine Go.callV0i X (d_no_0 g ad N K b z le rf hd ln vl 6 at1 tk so va lm ol ah lt lo) cal_X4_no gX4_term_X4_no (ci := 4) (q0 := 0) rfl rfl rfl rfl rfl dX4_term_13 ?_
    have e9 : x_term (N, K, b, z, le, rf, hd, ln, vl) n = ((N, K, b, z, le, inc rf 0, hd, ln, vl), (-2)) := by simp (decide := true) [x_term, rfS, upS_id, h7, bgT]
    have m9 : mOk (N, K, b, z, le, inc rf 0, hd, ln, vl) (6, at1, tk, so, va, lm, ol, ah, lt, lo) := ⟨rfl, hm.2.1, hm.2.2⟩
    exact Go.iret X E dX4_term_16 ⟨by rw [e9], _, by rw [e9]; exact m9, by rw [e9]⟩ rfl
set_option maxHeartbeats 4000000 in
set_option maxRecDepth 100000 in
theorem d_newOne (g : gT) (ad : Nat → Nat) (N : Sch) (K : Sch) (b : Bool) (z : Nat) (le : Nat → Nat) (rf : Nat → Int32) (hd : Nat → Int32) (ln : Nat → Nat) (vl : Nat → Nat → Int64) (aw : Nat) (at1 : Nat) (tk : Nat) (so : Int32) (va : Int32) (lm : Nat → Nat) (ol : Nat → Int32) (ah : Nat → Int32) (lt : Int32) (lo : Nat → Int32) (k : Nat) (u : Nat) (hp : sP N < 6) : Cw g yX4_newOne wsX4_newOne 0 0 [.ref (ad 0), .int (nI k), .int (nI u)] (mdW g ad (N, K, b, z, le, rf, hd, ln, vl) (aw, at1, tk, so, va, lm, ol, ah, lt, lo)) (some (.int (nI (sP N)))) (mdW g ad (adS N k u, K, b, z, le, rf, hd, ln, vl) (aw, at1, tk, so, va, lm, ol, ah, lt, lo)) := by
  refine Ct.start (cc := cX4_newOne) (nL := 3) (ret := (some .int)) (own := RX4) (by decide) rfl rfl rfl ?_
  intro Γ X E
  show Go Γ g 3 (rmC 0 0) 0 0 (mdW g ad (N, K, b, z, le, rf, hd, ln, vl) (aw, at1, tk, so, va, lm, ol, ah, lt, lo)) 0 [(0, .ref (ad 0)), (1, .int (nI k)), (2, .int (nI u))] []
  refine Go.aload_n X 0 dX4_newOne_0 rfl ?_
  refine Go.get X f_X4_newOne_23 0 (v := .ref (ad 5)) rfl rfl dX4_newOne_1 ?_
  refine Go.aload_n X 0 dX4_newOne_4 rfl ?_
  refine Go.get X f_X4_newOne_59 0 (v := .int (nI (sP N))) rfl rfl dX4_newOne_5 ?_
  refine Go.iload_n X 1 dX4_newOne_8 rfl ?_
  refine Go.iastNM X 5 (mdW g ad ((sN N, sA N, sW N, sD N, sP N, updN (sK N) (sP N) k, sO N, sG N, sT N, sF N, sX N), K, b, z, le, rf, hd, ln, vl) (aw, at1, tk, so, va, lm, ol, ah, lt, lo)) (w := sK N) rfl (by first | omega | (split <;> omega)) rfl dX4_newOne_9 rfl ?_
  refine Go.aload_n X 0 dX4_newOne_10 rfl ?_
  refine Go.get X f_X4_newOne_26 0 (v := .ref (ad 6)) rfl rfl dX4_newOne_11 ?_
  refine Go.aload_n X 0 dX4_newOne_14 rfl ?_
  refine Go.get X f_X4_newOne_59 0 (v := .int (nI (sP N))) rfl rfl dX4_newOne_15 ?_
  refine Go.iload_n X 2 dX4_newOne_18 rfl ?_
  refine Go.iastNM X 6 (mdW g ad ((sN N, sA N, sW N, sD N, sP N, updN (sK N) (sP N) k, updN (sO N) (sP N) u, sG N, sT N, sF N, sX N), K, b, z, le, rf, hd, ln, vl) (aw, at1, tk, so, va, lm, ol, ah, lt, lo)) (w := sO N) rfl (by first | omega | (split <;> omega)) rfl dX4_newOne_19 rfl ?_
  refine Go.aload_n X 0 dX4_newOne_20 rfl ?_
  refine Go.dup X dX4_newOne_21 rfl ?_
  refine Go.get X f_X4_newOne_59 0 (v := .int (nI (sP N))) rfl rfl dX4_newOne_22 ?_
  refine Go.dup_x1 X dX4_newOne_25 rfl rfl ?_
  refine Go.iconst X (nI 1) dX4_newOne_26 k_ic_1 ?_
  refine Go.iadd_e X (nI (sP N + 1)) dX4_newOne_27 (nI_add _ _) ?_
  refine Go.putM X f_X4_newOne_59 fp_4_7 0 (mdW g ad ((sN N, sA N, sW N, sD N, sP N + 1, updN (sK N) (sP N) k, updN (sO N) (sP N) u, sG N, sT N, sF N, sX N), K, b, z, le, rf, hd, ln, vl) (aw, at1, tk, so, va, lm, ol, ah, lt, lo)) rfl rfl rfl rfl dX4_newOne_28 rfl ?_
  exact Go.iret X E dX4_newOne_31 ⟨rfl, (by rfl)⟩ rfl
set_option maxHeartbeats 4000000 in
set_option maxRecDepth 100000 in
theorem e_person (g : gT) (ad : Nat → Nat) (N : Sch) (K : Sch) (b : Bool) (z : Nat) (le : Nat → Nat) (rf : Nat → Int32) (hd : Nat → Int32) (ln : Nat → Nat) (vl : Nat → Nat → Int64) (at1 : Nat) (tk : Nat) (so : Int32) (va : Int32) (lm : Nat → Nat) (ol : Nat → Int32) (ah : Nat → Int32) (lt : Int32) (lo : Nat → Int32) (k : Int32) (a : Int32) (hN : sOk N) (hH : hOk (sP N) hd) (hm : mOk (N, K, b, z, le, rf, hd, ln, vl) (6, at1, tk, so, va, lm, ol, ah, lt, lo)) : Ct g yX4_person wsX4_person 1 22 [.ref (ad 0), .int k, .int a] (mdW g ad (N, K, b, z, le, rf, hd, ln, vl) (6, at1, tk, so, va, lm, ol, ah, lt, lo)) (fun v9 w9 => v9 = (some (.int (x_person (N, K, b, z, le, rf, hd, ln, vl) k a).2)) ∧ ∃ J9, mOk (x_person (N, K, b, z, le, rf, hd, ln, vl) k a).1 J9 ∧ w9 = mdW g ad (x_person (N, K, b, z, le, rf, hd, ln, vl) k a).1 J9) := by
  refine Ct.start (cc := cX4_person) (nL := 3) (ret := (some .int)) (own := RX4) (by decide) rfl rfl rfl ?_
  intro Γ X E
  show Go Γ g 3 (rmC 1 22) 0 0 (mdW g ad (N, K, b, z, le, rf, hd, ln, vl) (6, at1, tk, so, va, lm, ol, ah, lt, lo)) 0 [(0, .ref (ad 0)), (1, .int k), (2, .int a)] []
  obtain ⟨o1, o2, o3, o4, o5, o6, o7, o8⟩ := id hN
  have o9 := p2_9 o2
  have o10 := sA_512 hN
  refine Go.iload_n X 1 dX4_person_0 rfl ?_
  refine Go.iconst X (nI 0) dX4_person_1 k_ic_0 ?_
  refine Go.iconst X (nI 5) dX4_person_2 k_ic_5 ?_
  refine Go.callSi X  (d_within_5 g k) cal_X4_within [] rfl rfl gX4_person_X4_within rfl rfl rfl dX4_person_3 ?_
  refine Go.if_eqB X 19 dX4_person_6 (by decide) (fun h6 => ?_) (fun h6 => ?_)
  · --
    refine Go.aload_n X 0 dX4_person_19 rfl ?_
    refine Go.bipush X ((-2 : Int32)) dX4_person_20 k_bp_m2 ?_
    refine Go.callV0i X (d_no_0 g ad N K b z le rf hd ln vl 6 at1 tk so va lm ol ah lt lo) cal_X4_no gX4_person_X4_no (ci := 4) (q0 := 0) rfl rfl rfl rfl rfl dX4_person_22 ?_
    have e9 : x_person (N, K, b, z, le, rf, hd, ln, vl) k a = ((N, K, b, z, le, inc rf 0, hd, ln, vl), (-2)) := by simp (decide := true) [x_person, rfS, upS_id, h6, adS]
    have m9 : mOk (N, K, b, z, le, inc rf 0, hd, ln, vl) (6, at1, tk, so, va, lm, ol, ah, lt, lo) := ⟨rfl, hm.2.1, hm.2.2⟩
    exact Go.iret X E dX4_person_25 ⟨by rw [e9], _, by rw [e9]; exact m9, by rw [e9]⟩ rfl
  · --
    obtain ⟨kk, hkk, rfl⟩ := inb_at (by first | omega | (split <;> omega)) h6
    refine Go.iload_n X 2 dX4_person_9 rfl ?_
    refine Go.iconst X (nI 0) dX4_person_10 k_ic_0 ?_
    refine Go.bipush X (nI 9) dX4_person_11 k_bp_9 ?_
    refine Go.callSi X  (d_within_9 g a) cal_X4_within [] rfl rfl gX4_person_X4_within rfl rfl rfl dX4_person_13 ?_
    refine Go.if_neB X 26 dX4_person_16 (by decide) (fun h16 => ?_) (fun h16 => ?_)
    · --
      obtain ⟨ak, hak, rfl⟩ := inb_at (by first | omega | (split <;> omega)) h16
      refine Go.aload_n X 0 dX4_person_26 rfl ?_
      refine Go.get X f_X4_person_59 0 (v := .int (nI (sP N))) rfl rfl dX4_person_27 ?_
      refine Go.bipush X (nI 6) dX4_person_30 k_bp_6 ?_
      refine Go.icmp_neN X 44 dX4_person_32 (by decide) (by first | omega | (split <;> omega)) (by decide) (fun h32 => ?_) (fun h32 => ?_)
      · --
        refine Go.aload_n X 0 dX4_person_44 rfl ?_
        refine Go.iload_n X 1 dX4_person_45 rfl ?_
        refine Go.iload_n X 2 dX4_person_46 rfl ?_
        refine Go.callV0i X (d_newOne g ad N K b z le rf hd ln vl 6 at1 tk so va lm ol ah lt lo kk ak (by first | omega | (split <;> omega))) cal_X4_newOne gX4_person_X4_newOne (ci := 4) (q0 := 0) rfl rfl rfl rfl rfl dX4_person_47 ?_
        have e9 : x_person (N, K, b, z, le, rf, hd, ln, vl) (nI kk) (nI ak) = ((adS N kk ak, K, b, z, le, rf, hd, ln, vl), (nI (sP N))) := by simp [x_person, rfS, h6, h16, show sP N < 6 by omega, nI_clamp (show kk < 2 ^ 31 by omega), nI_clamp (show ak < 2 ^ 31 by omega)]
        have m9 : mOk (adS N kk ak, K, b, z, le, rf, hd, ln, vl) (6, at1, tk, so, va, lm, ol, ah, lt, lo) := ⟨rfl, hm.2.1, hm.2.2⟩
        exact Go.iret X E dX4_person_50 ⟨by rw [e9], _, by rw [e9]; exact m9, by rw [e9]⟩ rfl
      · --
        refine Go.aload_n X 0 dX4_person_35 rfl ?_
        refine Go.bipush X ((-6 : Int32)) dX4_person_36 k_bp_m6 ?_
        refine Go.callV0i X (d_no_4 g ad N K b z le rf hd ln vl 6 at1 tk so va lm ol ah lt lo) cal_X4_no gX4_person_X4_no (ci := 4) (q0 := 0) rfl rfl rfl rfl rfl dX4_person_38 ?_
        refine Go.goto X 50 dX4_person_41 (by decide) ?_
        have e9 : x_person (N, K, b, z, le, rf, hd, ln, vl) (nI kk) (nI ak) = ((N, K, b, z, le, inc rf 4, hd, ln, vl), (-6)) := by simp [x_person, rfS, h6, h16, show ¬ sP N < 6 by omega, nI_clamp (show kk < 2 ^ 31 by omega), nI_clamp (show ak < 2 ^ 31 by omega)]
        have m9 : mOk (N, K, b, z, le, inc rf 4, hd, ln, vl) (6, at1, tk, so, va, lm, ol, ah, lt, lo) := ⟨rfl, hm.2.1, hm.2.2⟩
        exact Go.iret X E dX4_person_50 ⟨by rw [e9], _, by rw [e9]; exact m9, by rw [e9]⟩ rfl
    · --
      refine Go.aload_n X 0 dX4_person_19 rfl ?_
      refine Go.bipush X ((-2 : Int32)) dX4_person_20 k_bp_m2 ?_
      refine Go.callV0i X (d_no_0 g ad N K b z le rf hd ln vl 6 at1 tk so va lm ol ah lt lo) cal_X4_no gX4_person_X4_no (ci := 4) (q0 := 0) rfl rfl rfl rfl rfl dX4_person_22 ?_
      have e9 : x_person (N, K, b, z, le, rf, hd, ln, vl) (nI kk) a = ((N, K, b, z, le, inc rf 0, hd, ln, vl), (-2)) := by simp (decide := true) [x_person, rfS, upS_id, h6, h16, nI_clamp (show kk < 2 ^ 31 by omega), adS]
      have m9 : mOk (N, K, b, z, le, inc rf 0, hd, ln, vl) (6, at1, tk, so, va, lm, ol, ah, lt, lo) := ⟨rfl, hm.2.1, hm.2.2⟩
      exact Go.iret X E dX4_person_25 ⟨by rw [e9], _, by rw [e9]; exact m9, by rw [e9]⟩ rfl
set_option maxHeartbeats 4000000 in
set_option maxRecDepth 100000 in
theorem e_allow (g : gT) (ad : Nat → Nat) (N : Sch) (K : Sch) (b : Bool) (z : Nat) (le : Nat → Nat) (rf : Nat → Int32) (hd : Nat → Int32) (ln : Nat → Nat) (vl : Nat → Nat → Int64) (at1 : Nat) (tk : Nat) (so : Int32) (va : Int32) (lm : Nat → Nat) (ol : Nat → Int32) (ah : Nat → Int32) (lt : Int32) (lo : Nat → Int32) (m : Int32) (is : Bool) (hN : sOk N) (hH : hOk (sP N) hd) (hm : mOk (N, K, b, z, le, rf, hd, ln, vl) (6, at1, tk, so, va, lm, ol, ah, lt, lo)) : Ct g yX4_allow wsX4_allow 2 43 [.ref (ad 0), .int m, .int (b2i is)] (mdW g ad (N, K, b, z, le, rf, hd, ln, vl) (6, at1, tk, so, va, lm, ol, ah, lt, lo)) (fun v9 w9 => v9 = (some (.int (x_allow (N, K, b, z, le, rf, hd, ln, vl) m is).2)) ∧ ∃ J9, mOk (x_allow (N, K, b, z, le, rf, hd, ln, vl) m is).1 J9 ∧ w9 = mdW g ad (x_allow (N, K, b, z, le, rf, hd, ln, vl) m is).1 J9) := by
  refine Ct.start (cc := cX4_allow) (nL := 3) (ret := (some .int)) (own := RX4) (by decide) rfl rfl rfl ?_
  intro Γ X E
  show Go Γ g 3 (rmC 2 43) 0 0 (mdW g ad (N, K, b, z, le, rf, hd, ln, vl) (6, at1, tk, so, va, lm, ol, ah, lt, lo)) 0 [(0, .ref (ad 0)), (1, .int m), (2, .int (b2i is))] []
  obtain ⟨o1, o2, o3, o4, o5, o6, o7, o8⟩ := id hN
  have o9 := p2_9 o2
  have o10 := sA_512 hN
  refine Go.aload_n X 0 dX4_allow_0 rfl ?_
  refine Go.iload_n X 1 dX4_allow_1 rfl ?_
  refine Go.callV0i X (d_isMorning g ad N K b z le rf hd ln vl 6 at1 tk so va lm ol ah lt lo m (by exact hN)) cal_X4_isMorning gX4_allow_X4_isMorning (ci := 4) (q0 := 0) rfl rfl rfl rfl rfl dX4_allow_2 ?_
  refine Go.if_neB X 15 dX4_allow_5 (by decide) (fun h5 => ?_) (fun h5 => ?_)
  · --
    obtain ⟨mk, hmk, rfl⟩ := inb_at (by first | omega | (split <;> omega)) h5
    refine Go.aload_n X 0 dX4_allow_15 rfl ?_
    refine Go.get X f_X4_allow_111 0 (v := .int (nI (sA N))) rfl rfl dX4_allow_16 ?_
    refine Go.iload_n X 1 dX4_allow_19 rfl ?_
    refine Go.callSi X  (d_has g (sA N) mk (by first | omega | (split <;> omega)) (by first | omega | (split <;> omega))) cal_X4_has [] rfl rfl gX4_allow_X4_has rfl rfl rfl dX4_allow_20 ?_
    refine Go.iload_n X 2 dX4_allow_23 rfl ?_
    refine Go.icmp_ne X 29 dX4_allow_24 (by decide) (fun h24 => ?_) (fun h24 => ?_)
    · --
      refine Go.aload_n X 0 dX4_allow_29 rfl ?_
      refine Go.dup X dX4_allow_30 rfl ?_
      refine Go.get X f_X4_allow_111 0 (v := .int (nI (sA N))) rfl rfl dX4_allow_31 ?_
      refine Go.iconst X (nI 1) dX4_allow_34 k_ic_1 ?_
      refine Go.iload_n X 1 dX4_allow_35 rfl ?_
      refine Go.ishl_e X (nI (2 ^ mk)) dX4_allow_36 (nI_shl1 (by first | omega | (split <;> omega))) ?_
      refine Go.ixor_e X (nI ((sA N) ^^^ (2 ^ mk))) dX4_allow_37 (nI_xor _ _) ?_
      refine Go.putM X f_X4_allow_111 fp_4_4 0 (mdW g ad ((sN N, (sA N) ^^^ (2 ^ mk), sW N, sD N, sP N, sK N, sO N, sG N, sT N, sF N, sX N), K, b, z, le, rf, hd, ln, vl) (6, at1, tk, so, va, lm, ol, ah, lt, lo)) rfl rfl rfl rfl dX4_allow_38 rfl ?_
      refine Go.iconst X (nI 1) dX4_allow_41 k_ic_1 ?_
      have e9 : x_allow (N, K, b, z, le, rf, hd, ln, vl) (nI mk) is = (((sN N, (sA N) ^^^ (2 ^ mk), sW N, sD N, sP N, sK N, sO N, sG N, sT N, sF N, sX N), K, b, z, le, rf, hd, ln, vl), (nI 1)) := by simp [x_allow, h5, show ¬ (sA N).testBit mk = is from fun e => h24 (congrArg b2i e), nI_clamp (show mk < 2 ^ 31 by omega)]
      have m9 : mOk ((sN N, (sA N) ^^^ (2 ^ mk), sW N, sD N, sP N, sK N, sO N, sG N, sT N, sF N, sX N), K, b, z, le, rf, hd, ln, vl) (6, at1, tk, so, va, lm, ol, ah, lt, lo) := ⟨rfl, hm.2.1, hm.2.2⟩
      exact Go.iret X E dX4_allow_42 ⟨by rw [e9], _, by rw [e9]; exact m9, by rw [e9]⟩ rfl
    · --
      refine Go.iconst X (nI 0) dX4_allow_27 k_ic_0 ?_
      have e9 : x_allow (N, K, b, z, le, rf, hd, ln, vl) (nI mk) is = ((N, K, b, z, le, rf, hd, ln, vl), (nI 0)) := by simp [x_allow, h5, b2i_inj h24, nI_clamp (show mk < 2 ^ 31 by omega)]
      have m9 : mOk (N, K, b, z, le, rf, hd, ln, vl) (6, at1, tk, so, va, lm, ol, ah, lt, lo) := ⟨rfl, hm.2.1, hm.2.2⟩
      exact Go.iret X E dX4_allow_28 ⟨by rw [e9], _, by rw [e9]; exact m9, by rw [e9]⟩ rfl
  · --
    refine Go.aload_n X 0 dX4_allow_8 rfl ?_
    refine Go.bipush X ((-2 : Int32)) dX4_allow_9 k_bp_m2 ?_
    refine Go.callV0i X (d_no_0 g ad N K b z le rf hd ln vl 6 at1 tk so va lm ol ah lt lo) cal_X4_no gX4_allow_X4_no (ci := 4) (q0 := 0) rfl rfl rfl rfl rfl dX4_allow_11 ?_
    have e9 : x_allow (N, K, b, z, le, rf, hd, ln, vl) m is = ((N, K, b, z, le, inc rf 0, hd, ln, vl), (-2)) := by simp (decide := true) [x_allow, rfS, upS_id, h5]
    have m9 : mOk (N, K, b, z, le, inc rf 0, hd, ln, vl) (6, at1, tk, so, va, lm, ol, ah, lt, lo) := ⟨rfl, hm.2.1, hm.2.2⟩
    exact Go.iret X E dX4_allow_14 ⟨by rw [e9], _, by rw [e9]; exact m9, by rw [e9]⟩ rfl
set_option maxHeartbeats 4000000 in
set_option maxRecDepth 100000 in
theorem e_weight (g : gT) (ad : Nat → Nat) (N : Sch) (K : Sch) (b : Bool) (z : Nat) (le : Nat → Nat) (rf : Nat → Int32) (hd : Nat → Int32) (ln : Nat → Nat) (vl : Nat → Nat → Int64) (at1 : Nat) (tk : Nat) (so : Int32) (va : Int32) (lm : Nat → Nat) (ol : Nat → Int32) (ah : Nat → Int32) (lt : Int32) (lo : Nat → Int32) (m : Int32) (v : Int32) (hN : sOk N) (hH : hOk (sP N) hd) (hm : mOk (N, K, b, z, le, rf, hd, ln, vl) (6, at1, tk, so, va, lm, ol, ah, lt, lo)) : Ct g yX4_weight wsX4_weight 2 43 [.ref (ad 0), .int m, .int v] (mdW g ad (N, K, b, z, le, rf, hd, ln, vl) (6, at1, tk, so, va, lm, ol, ah, lt, lo)) (fun v9 w9 => v9 = (some (.int (x_weight (N, K, b, z, le, rf, hd, ln, vl) m v).2)) ∧ ∃ J9, mOk (x_weight (N, K, b, z, le, rf, hd, ln, vl) m v).1 J9 ∧ w9 = mdW g ad (x_weight (N, K, b, z, le, rf, hd, ln, vl) m v).1 J9) := by
  refine Ct.start (cc := cX4_weight) (nL := 4) (ret := (some .int)) (own := RX4) (by decide) rfl rfl rfl ?_
  intro Γ X E
  show Go Γ g 4 (rmC 2 43) 0 0 (mdW g ad (N, K, b, z, le, rf, hd, ln, vl) (6, at1, tk, so, va, lm, ol, ah, lt, lo)) 0 [(0, .ref (ad 0)), (1, .int m), (2, .int v)] []
  obtain ⟨o1, o2, o3, o4, o5, o6, o7, o8⟩ := id hN
  have o9 := p2_9 o2
  have o10 := sA_512 hN
  refine Go.aload_n X 0 dX4_weight_0 rfl ?_
  refine Go.iload_n X 1 dX4_weight_1 rfl ?_
  refine Go.callV0i X (d_isMorning g ad N K b z le rf hd ln vl 6 at1 tk so va lm ol ah lt lo m (by exact hN)) cal_X4_isMorning gX4_weight_X4_isMorning (ci := 4) (q0 := 0) rfl rfl rfl rfl rfl dX4_weight_2 ?_
  refine Go.if_eqB X 18 dX4_weight_5 (by decide) (fun h5 => ?_) (fun h5 => ?_)
  · --
    refine Go.aload_n X 0 dX4_weight_18 rfl ?_
    refine Go.bipush X ((-2 : Int32)) dX4_weight_19 k_bp_m2 ?_
    refine Go.callV0i X (d_no_0 g ad N K b z le rf hd ln vl 6 at1 tk so va lm ol ah lt lo) cal_X4_no gX4_weight_X4_no (ci := 4) (q0 := 0) rfl rfl rfl rfl rfl dX4_weight_21 ?_
    have e9 : x_weight (N, K, b, z, le, rf, hd, ln, vl) m v = ((N, K, b, z, le, inc rf 0, hd, ln, vl), (-2)) := by simp (decide := true) [x_weight, rfS, upS_id, h5]
    have m9 : mOk (N, K, b, z, le, inc rf 0, hd, ln, vl) (6, at1, tk, so, va, lm, ol, ah, lt, lo) := ⟨rfl, hm.2.1, hm.2.2⟩
    exact Go.iret X E dX4_weight_24 ⟨by rw [e9], _, by rw [e9]; exact m9, by rw [e9]⟩ rfl
  · --
    obtain ⟨mk, hmk, rfl⟩ := inb_at (by first | omega | (split <;> omega)) h5
    refine Go.iload_n X 2 dX4_weight_8 rfl ?_
    refine Go.iconst X (nI 0) dX4_weight_9 k_ic_0 ?_
    refine Go.bipush X (nI 9) dX4_weight_10 k_bp_9 ?_
    refine Go.callSi X  (d_within_9 g v) cal_X4_within [] rfl rfl gX4_weight_X4_within rfl rfl rfl dX4_weight_12 ?_
    refine Go.if_neB X 25 dX4_weight_15 (by decide) (fun h15 => ?_) (fun h15 => ?_)
    · --
      obtain ⟨vk, hvk, rfl⟩ := inb_at (by first | omega | (split <;> omega)) h15
      refine Go.aload_n X 0 dX4_weight_25 rfl ?_
      refine Go.get X f_X4_weight_20 0 (v := .ref (ad 4)) rfl rfl dX4_weight_26 ?_
      refine Go.iload_n X 1 dX4_weight_29 rfl ?_
      refine Go.ialdN X 4 (w := sW N) rfl (by first | omega | (split <;> omega)) rfl dX4_weight_30 ?_
      refine Go.istore_n_new X dX4_weight_31 (by decide) rfl ?_
      refine Go.aload_n X 1 dX4_weight_32 rfl ?_
      refine Go.get X f_X4_weight_20 0 (v := .ref (ad 4)) rfl rfl dX4_weight_33 ?_
      refine Go.iload_n X 2 dX4_weight_36 rfl ?_
      refine Go.iload_n X 3 dX4_weight_37 rfl ?_
      refine Go.iastNM X 4 (mdW g ad ((sN N, sA N, updN (sW N) mk vk, sD N, sP N, sK N, sO N, sG N, sT N, sF N, sX N), K, b, z, le, rf, hd, ln, vl) (6, at1, tk, so, va, lm, ol, ah, lt, lo)) (w := sW N) rfl (by first | omega | (split <;> omega)) rfl dX4_weight_38 rfl ?_
      refine Go.iload_n X 0 dX4_weight_39 rfl ?_
      have e9 : x_weight (N, K, b, z, le, rf, hd, ln, vl) (nI mk) (nI vk) = (((sN N, sA N, updN (sW N) mk vk, sD N, sP N, sK N, sO N, sG N, sT N, sF N, sX N), K, b, z, le, rf, hd, ln, vl), (nI ((sW N) mk))) := by simp (decide := true) [x_weight, rfS, upS_id, h5, h15, nI_clamp (show mk < 2 ^ 31 by omega), nI_clamp (show vk < 2 ^ 31 by omega)]
      have m9 : mOk ((sN N, sA N, updN (sW N) mk vk, sD N, sP N, sK N, sO N, sG N, sT N, sF N, sX N), K, b, z, le, rf, hd, ln, vl) (6, at1, tk, so, va, lm, ol, ah, lt, lo) := ⟨rfl, hm.2.1, hm.2.2⟩
      exact Go.iret X E dX4_weight_40 ⟨by rw [e9], _, by rw [e9]; exact m9, by rw [e9]⟩ rfl
    · --
      refine Go.aload_n X 0 dX4_weight_18 rfl ?_
      refine Go.bipush X ((-2 : Int32)) dX4_weight_19 k_bp_m2 ?_
      refine Go.callV0i X (d_no_0 g ad N K b z le rf hd ln vl 6 at1 tk so va lm ol ah lt lo) cal_X4_no gX4_weight_X4_no (ci := 4) (q0 := 0) rfl rfl rfl rfl rfl dX4_weight_21 ?_
      have e9 : x_weight (N, K, b, z, le, rf, hd, ln, vl) (nI mk) v = ((N, K, b, z, le, inc rf 0, hd, ln, vl), (-2)) := by simp (decide := true) [x_weight, rfS, upS_id, h5, h15, nI_clamp (show mk < 2 ^ 31 by omega)]
      have m9 : mOk (N, K, b, z, le, inc rf 0, hd, ln, vl) (6, at1, tk, so, va, lm, ol, ah, lt, lo) := ⟨rfl, hm.2.1, hm.2.2⟩
      exact Go.iret X E dX4_weight_24 ⟨by rw [e9], _, by rw [e9]; exact m9, by rw [e9]⟩ rfl
set_option maxHeartbeats 4000000 in
set_option maxRecDepth 100000 in
theorem e_say (g : gT) (ad : Nat → Nat) (N : Sch) (K : Sch) (b : Bool) (z : Nat) (le : Nat → Nat) (rf : Nat → Int32) (hd : Nat → Int32) (ln : Nat → Nat) (vl : Nat → Nat → Int64) (at1 : Nat) (tk : Nat) (so : Int32) (va : Int32) (lm : Nat → Nat) (ol : Nat → Int32) (ah : Nat → Int32) (lt : Int32) (lo : Nat → Int32) (hN : sOk N) (hH : hOk (sP N) hd) (hm : mOk (N, K, b, z, le, rf, hd, ln, vl) (6, at1, tk, so, va, lm, ol, ah, lt, lo)) : Ct g yX4_say wsX4_say 1 21 [.ref (ad 0)] (mdW g ad (N, K, b, z, le, rf, hd, ln, vl) (6, at1, tk, so, va, lm, ol, ah, lt, lo)) (fun v9 w9 => v9 = (some (.int (x_say (N, K, b, z, le, rf, hd, ln, vl)).2)) ∧ ∃ J9, mOk (x_say (N, K, b, z, le, rf, hd, ln, vl)).1 J9 ∧ w9 = mdW g ad (x_say (N, K, b, z, le, rf, hd, ln, vl)).1 J9) := by
  refine Ct.start (cc := cX4_say) (nL := 1) (ret := (some .int)) (own := RX4) (by decide) rfl rfl rfl ?_
  intro Γ X E
  show Go Γ g 1 (rmC 1 21) 0 0 (mdW g ad (N, K, b, z, le, rf, hd, ln, vl) (6, at1, tk, so, va, lm, ol, ah, lt, lo)) 0 [(0, .ref (ad 0))] []
  obtain ⟨o1, o2, o3, o4, o5, o6, o7, o8⟩ := id hN
  have o9 := p2_9 o2
  have o10 := sA_512 hN
  refine Go.aload_n X 0 dX4_say_0 rfl ?_
  refine Go.get X f_X4_say_48 0 (v := .int (nI (sD N))) rfl rfl dX4_say_1 ?_
  refine Go.bipush X (nI 9) dX4_say_4 k_bp_9 ?_
  refine Go.icmp_neN X 18 dX4_say_6 (by decide) (by first | omega | (split <;> omega)) (by decide) (fun h6 => ?_) (fun h6 => ?_)
  · --
    refine Go.aload_n X 0 dX4_say_18 rfl ?_
    refine Go.dup X dX4_say_19 rfl ?_
    refine Go.get X f_X4_say_48 0 (v := .int (nI (sD N))) rfl rfl dX4_say_20 ?_
    refine Go.iconst X (nI 1) dX4_say_23 k_ic_1 ?_
    refine Go.iadd_e X (nI (sD N + 1)) dX4_say_24 (nI_add _ _) ?_
    refine Go.dup_x1 X dX4_say_25 rfl rfl ?_
    refine Go.putM X f_X4_say_48 fp_4_6 0 (mdW g ad ((sN N, sA N, sW N, sD N + 1, sP N, sK N, sO N, sG N, sT N, sF N, sX N), K, b, z, le, rf, hd, ln, vl) (6, at1, tk, so, va, lm, ol, ah, lt, lo)) rfl rfl rfl rfl dX4_say_26 rfl ?_
    have e9 : x_say (N, K, b, z, le, rf, hd, ln, vl) = (((sN N, sA N, sW N, sD N + 1, sP N, sK N, sO N, sG N, sT N, sF N, sX N), K, b, z, le, rf, hd, ln, vl), (nI (sD N + 1))) := by simp [x_say, rfS, show sD N < 9 by omega]
    have m9 : mOk ((sN N, sA N, sW N, sD N + 1, sP N, sK N, sO N, sG N, sT N, sF N, sX N), K, b, z, le, rf, hd, ln, vl) (6, at1, tk, so, va, lm, ol, ah, lt, lo) := ⟨rfl, hm.2.1, hm.2.2⟩
    exact Go.iret X E dX4_say_29 ⟨by rw [e9], _, by rw [e9]; exact m9, by rw [e9]⟩ rfl
  · --
    refine Go.aload_n X 0 dX4_say_9 rfl ?_
    refine Go.bipush X ((-6 : Int32)) dX4_say_10 k_bp_m6 ?_
    refine Go.callV0i X (d_no_4 g ad N K b z le rf hd ln vl 6 at1 tk so va lm ol ah lt lo) cal_X4_no gX4_say_X4_no (ci := 4) (q0 := 0) rfl rfl rfl rfl rfl dX4_say_12 ?_
    refine Go.goto X 29 dX4_say_15 (by decide) ?_
    have e9 : x_say (N, K, b, z, le, rf, hd, ln, vl) = ((N, K, b, z, le, inc rf 4, hd, ln, vl), (-6)) := by simp [x_say, rfS, show ¬ sD N < 9 by omega]
    have m9 : mOk (N, K, b, z, le, inc rf 4, hd, ln, vl) (6, at1, tk, so, va, lm, ol, ah, lt, lo) := ⟨rfl, hm.2.1, hm.2.2⟩
    exact Go.iret X E dX4_say_29 ⟨by rw [e9], _, by rw [e9]; exact m9, by rw [e9]⟩ rfl
set_option maxHeartbeats 4000000 in
set_option maxRecDepth 100000 in
theorem e_unsay (g : gT) (ad : Nat → Nat) (N : Sch) (K : Sch) (b : Bool) (z : Nat) (le : Nat → Nat) (rf : Nat → Int32) (hd : Nat → Int32) (ln : Nat → Nat) (vl : Nat → Nat → Int64) (at1 : Nat) (tk : Nat) (so : Int32) (va : Int32) (lm : Nat → Nat) (ol : Nat → Int32) (ah : Nat → Int32) (lt : Int32) (lo : Nat → Int32) (v : Int32) (hN : sOk N) (hH : hOk (sP N) hd) (hm : mOk (N, K, b, z, le, rf, hd, ln, vl) (6, at1, tk, so, va, lm, ol, ah, lt, lo)) : Ct g yX4_unsay wsX4_unsay 1 22 [.ref (ad 0), .int v] (mdW g ad (N, K, b, z, le, rf, hd, ln, vl) (6, at1, tk, so, va, lm, ol, ah, lt, lo)) (fun v9 w9 => v9 = (some (.int (x_unsay (N, K, b, z, le, rf, hd, ln, vl) v).2)) ∧ ∃ J9, mOk (x_unsay (N, K, b, z, le, rf, hd, ln, vl) v).1 J9 ∧ w9 = mdW g ad (x_unsay (N, K, b, z, le, rf, hd, ln, vl) v).1 J9) := by
  refine Ct.start (cc := cX4_unsay) (nL := 3) (ret := (some .int)) (own := RX4) (by decide) rfl rfl rfl ?_
  intro Γ X E
  show Go Γ g 3 (rmC 1 22) 0 0 (mdW g ad (N, K, b, z, le, rf, hd, ln, vl) (6, at1, tk, so, va, lm, ol, ah, lt, lo)) 0 [(0, .ref (ad 0)), (1, .int v)] []
  obtain ⟨o1, o2, o3, o4, o5, o6, o7, o8⟩ := id hN
  have o9 := p2_9 o2
  have o10 := sA_512 hN
  refine Go.iload_n X 1 dX4_unsay_0 rfl ?_
  refine Go.iconst X (nI 0) dX4_unsay_1 k_ic_0 ?_
  refine Go.bipush X (nI 9) dX4_unsay_2 k_bp_9 ?_
  refine Go.callSi X  (d_within_9 g v) cal_X4_within [] rfl rfl gX4_unsay_X4_within rfl rfl rfl dX4_unsay_4 ?_
  refine Go.if_neB X 17 dX4_unsay_7 (by decide) (fun h7 => ?_) (fun h7 => ?_)
  · --
    obtain ⟨vk, hvk, rfl⟩ := inb_at (by first | omega | (split <;> omega)) h7
    refine Go.aload_n X 0 dX4_unsay_17 rfl ?_
    refine Go.get X f_X4_unsay_48 0 (v := .int (nI (sD N))) rfl rfl dX4_unsay_18 ?_
    refine Go.istore_n_new X dX4_unsay_21 (by decide) rfl ?_
    refine Go.aload_n X 1 dX4_unsay_22 rfl ?_
    refine Go.iload_n X 2 dX4_unsay_23 rfl ?_
    refine Go.putM X f_X4_unsay_48 fp_4_6 0 (mdW g ad ((sN N, sA N, sW N, vk, sP N, sK N, sO N, sG N, sT N, sF N, sX N), K, b, z, le, rf, hd, ln, vl) (6, at1, tk, so, va, lm, ol, ah, lt, lo)) rfl rfl rfl rfl dX4_unsay_24 rfl ?_
    refine Go.iload_n X 0 dX4_unsay_27 rfl ?_
    have e9 : x_unsay (N, K, b, z, le, rf, hd, ln, vl) (nI vk) = (((sN N, sA N, sW N, vk, sP N, sK N, sO N, sG N, sT N, sF N, sX N), K, b, z, le, rf, hd, ln, vl), (nI (sD N))) := by simp (decide := true) [x_unsay, rfS, upS_id, h7, nI_clamp (show vk < 2 ^ 31 by omega)]
    have m9 : mOk ((sN N, sA N, sW N, vk, sP N, sK N, sO N, sG N, sT N, sF N, sX N), K, b, z, le, rf, hd, ln, vl) (6, at1, tk, so, va, lm, ol, ah, lt, lo) := ⟨rfl, hm.2.1, hm.2.2⟩
    exact Go.iret X E dX4_unsay_28 ⟨by rw [e9], _, by rw [e9]; exact m9, by rw [e9]⟩ rfl
  · --
    refine Go.aload_n X 0 dX4_unsay_10 rfl ?_
    refine Go.bipush X ((-2 : Int32)) dX4_unsay_11 k_bp_m2 ?_
    refine Go.callV0i X (d_no_0 g ad N K b z le rf hd ln vl 6 at1 tk so va lm ol ah lt lo) cal_X4_no gX4_unsay_X4_no (ci := 4) (q0 := 0) rfl rfl rfl rfl rfl dX4_unsay_13 ?_
    have e9 : x_unsay (N, K, b, z, le, rf, hd, ln, vl) v = ((N, K, b, z, le, inc rf 0, hd, ln, vl), (-2)) := by simp (decide := true) [x_unsay, rfS, upS_id, h7]
    have m9 : mOk (N, K, b, z, le, inc rf 0, hd, ln, vl) (6, at1, tk, so, va, lm, ol, ah, lt, lo) := ⟨rfl, hm.2.1, hm.2.2⟩
    exact Go.iret X E dX4_unsay_16 ⟨by rw [e9], _, by rw [e9]; exact m9, by rw [e9]⟩ rfl
set_option maxHeartbeats 4000000 in
set_option maxRecDepth 100000 in
theorem e_learn (g : gT) (ad : Nat → Nat) (N : Sch) (K : Sch) (b : Bool) (z : Nat) (le : Nat → Nat) (rf : Nat → Int32) (hd : Nat → Int32) (ln : Nat → Nat) (vl : Nat → Nat → Int64) (at1 : Nat) (tk : Nat) (so : Int32) (va : Int32) (lm : Nat → Nat) (ol : Nat → Int32) (ah : Nat → Int32) (lt : Int32) (lo : Nat → Int32) (i : Int32) (v : Int32) (hN : sOk N) (hH : hOk (sP N) hd) (hm : mOk (N, K, b, z, le, rf, hd, ln, vl) (6, at1, tk, so, va, lm, ol, ah, lt, lo)) : Ct g yX4_learn wsX4_learn 2 43 [.ref (ad 0), .int i, .int v] (mdW g ad (N, K, b, z, le, rf, hd, ln, vl) (6, at1, tk, so, va, lm, ol, ah, lt, lo)) (fun v9 w9 => v9 = (some (.int (x_learn (N, K, b, z, le, rf, hd, ln, vl) i v).2)) ∧ ∃ J9, mOk (x_learn (N, K, b, z, le, rf, hd, ln, vl) i v).1 J9 ∧ w9 = mdW g ad (x_learn (N, K, b, z, le, rf, hd, ln, vl) i v).1 J9) := by
  refine Ct.start (cc := cX4_learn) (nL := 4) (ret := (some .int)) (own := RX4) (by decide) rfl rfl rfl ?_
  intro Γ X E
  show Go Γ g 4 (rmC 2 43) 0 0 (mdW g ad (N, K, b, z, le, rf, hd, ln, vl) (6, at1, tk, so, va, lm, ol, ah, lt, lo)) 0 [(0, .ref (ad 0)), (1, .int i), (2, .int v)] []
  obtain ⟨o1, o2, o3, o4, o5, o6, o7, o8⟩ := id hN
  have o9 := p2_9 o2
  have o10 := sA_512 hN
  refine Go.aload_n X 0 dX4_learn_0 rfl ?_
  refine Go.iload_n X 1 dX4_learn_1 rfl ?_
  refine Go.callV0i X (d_isOne g ad N K b z le rf hd ln vl 6 at1 tk so va lm ol ah lt lo i (by exact hN)) cal_X4_isOne gX4_learn_X4_isOne (ci := 4) (q0 := 0) rfl rfl rfl rfl rfl dX4_learn_2 ?_
  refine Go.if_eqB X 18 dX4_learn_5 (by decide) (fun h5 => ?_) (fun h5 => ?_)
  · --
    refine Go.aload_n X 0 dX4_learn_18 rfl ?_
    refine Go.bipush X ((-2 : Int32)) dX4_learn_19 k_bp_m2 ?_
    refine Go.callV0i X (d_no_0 g ad N K b z le rf hd ln vl 6 at1 tk so va lm ol ah lt lo) cal_X4_no gX4_learn_X4_no (ci := 4) (q0 := 0) rfl rfl rfl rfl rfl dX4_learn_21 ?_
    have e9 : x_learn (N, K, b, z, le, rf, hd, ln, vl) i v = ((N, K, b, z, le, inc rf 0, hd, ln, vl), (-2)) := by simp (decide := true) [x_learn, rfS, upS_id, h5]
    have m9 : mOk (N, K, b, z, le, inc rf 0, hd, ln, vl) (6, at1, tk, so, va, lm, ol, ah, lt, lo) := ⟨rfl, hm.2.1, hm.2.2⟩
    exact Go.iret X E dX4_learn_24 ⟨by rw [e9], _, by rw [e9]; exact m9, by rw [e9]⟩ rfl
  · --
    obtain ⟨ik, hik, rfl⟩ := inb_at (by first | omega | (split <;> omega)) h5
    refine Go.iload_n X 2 dX4_learn_8 rfl ?_
    refine Go.iconst X (nI 0) dX4_learn_9 k_ic_0 ?_
    refine Go.bipush X (nI 9) dX4_learn_10 k_bp_9 ?_
    refine Go.callSi X  (d_within_9 g v) cal_X4_within [] rfl rfl gX4_learn_X4_within rfl rfl rfl dX4_learn_12 ?_
    refine Go.if_neB X 25 dX4_learn_15 (by decide) (fun h15 => ?_) (fun h15 => ?_)
    · --
      obtain ⟨vk, hvk, rfl⟩ := inb_at (by first | omega | (split <;> omega)) h15
      refine Go.aload_n X 0 dX4_learn_25 rfl ?_
      refine Go.get X f_X4_learn_26 0 (v := .ref (ad 6)) rfl rfl dX4_learn_26 ?_
      refine Go.iload_n X 1 dX4_learn_29 rfl ?_
      refine Go.ialdN X 6 (w := sO N) rfl (by first | omega | (split <;> omega)) rfl dX4_learn_30 ?_
      refine Go.istore_n_new X dX4_learn_31 (by decide) rfl ?_
      refine Go.aload_n X 1 dX4_learn_32 rfl ?_
      refine Go.get X f_X4_learn_26 0 (v := .ref (ad 6)) rfl rfl dX4_learn_33 ?_
      refine Go.iload_n X 2 dX4_learn_36 rfl ?_
      refine Go.iload_n X 3 dX4_learn_37 rfl ?_
      refine Go.iastNM X 6 (mdW g ad ((sN N, sA N, sW N, sD N, sP N, sK N, updN (sO N) ik vk, sG N, sT N, sF N, sX N), K, b, z, le, rf, hd, ln, vl) (6, at1, tk, so, va, lm, ol, ah, lt, lo)) (w := sO N) rfl (by first | omega | (split <;> omega)) rfl dX4_learn_38 rfl ?_
      refine Go.iload_n X 0 dX4_learn_39 rfl ?_
      have e9 : x_learn (N, K, b, z, le, rf, hd, ln, vl) (nI ik) (nI vk) = (((sN N, sA N, sW N, sD N, sP N, sK N, updN (sO N) ik vk, sG N, sT N, sF N, sX N), K, b, z, le, rf, hd, ln, vl), (nI ((sO N) ik))) := by simp (decide := true) [x_learn, rfS, upS_id, h5, h15, nI_clamp (show ik < 2 ^ 31 by omega), nI_clamp (show vk < 2 ^ 31 by omega)]
      have m9 : mOk ((sN N, sA N, sW N, sD N, sP N, sK N, updN (sO N) ik vk, sG N, sT N, sF N, sX N), K, b, z, le, rf, hd, ln, vl) (6, at1, tk, so, va, lm, ol, ah, lt, lo) := ⟨rfl, hm.2.1, hm.2.2⟩
      exact Go.iret X E dX4_learn_40 ⟨by rw [e9], _, by rw [e9]; exact m9, by rw [e9]⟩ rfl
    · --
      refine Go.aload_n X 0 dX4_learn_18 rfl ?_
      refine Go.bipush X ((-2 : Int32)) dX4_learn_19 k_bp_m2 ?_
      refine Go.callV0i X (d_no_0 g ad N K b z le rf hd ln vl 6 at1 tk so va lm ol ah lt lo) cal_X4_no gX4_learn_X4_no (ci := 4) (q0 := 0) rfl rfl rfl rfl rfl dX4_learn_21 ?_
      have e9 : x_learn (N, K, b, z, le, rf, hd, ln, vl) (nI ik) v = ((N, K, b, z, le, inc rf 0, hd, ln, vl), (-2)) := by simp (decide := true) [x_learn, rfS, upS_id, h5, h15, nI_clamp (show ik < 2 ^ 31 by omega)]
      have m9 : mOk (N, K, b, z, le, inc rf 0, hd, ln, vl) (6, at1, tk, so, va, lm, ol, ah, lt, lo) := ⟨rfl, hm.2.1, hm.2.2⟩
      exact Go.iret X E dX4_learn_24 ⟨by rw [e9], _, by rw [e9]; exact m9, by rw [e9]⟩ rfl
set_option maxHeartbeats 4000000 in
set_option maxRecDepth 100000 in
theorem e_seed (g : gT) (ad : Nat → Nat) (N : Sch) (K : Sch) (b : Bool) (z : Nat) (le : Nat → Nat) (rf : Nat → Int32) (hd : Nat → Int32) (ln : Nat → Nat) (vl : Nat → Nat → Int64) (at1 : Nat) (tk : Nat) (so : Int32) (va : Int32) (lm : Nat → Nat) (ol : Nat → Int32) (ah : Nat → Int32) (lt : Int32) (lo : Nat → Int32) (v : Int32) (hm : mOk (N, K, b, z, le, rf, hd, ln, vl) (6, at1, tk, so, va, lm, ol, ah, lt, lo)) : Ct g yX4_seed wsX4_seed 0 0 [.ref (ad 0), .int v] (mdW g ad (N, K, b, z, le, rf, hd, ln, vl) (6, at1, tk, so, va, lm, ol, ah, lt, lo)) (fun v9 w9 => v9 = (some (.int (x_seed (N, K, b, z, le, rf, hd, ln, vl) v).2)) ∧ ∃ J9, mOk (x_seed (N, K, b, z, le, rf, hd, ln, vl) v).1 J9 ∧ w9 = mdW g ad (x_seed (N, K, b, z, le, rf, hd, ln, vl) v).1 J9) := by
  refine Ct.start (cc := cX4_seed) (nL := 3) (ret := (some .int)) (own := RX4) (by decide) rfl rfl rfl ?_
  intro Γ X E
  show Go Γ g 3 (rmC 0 0) 0 0 (mdW g ad (N, K, b, z, le, rf, hd, ln, vl) (6, at1, tk, so, va, lm, ol, ah, lt, lo)) 0 [(0, .ref (ad 0)), (1, .int v)] []
  refine Go.aload_n X 0 dX4_seed_0 rfl ?_
  refine Go.get X f_X4_seed_52 0 (v := .int (sG N)) rfl rfl dX4_seed_1 ?_
  refine Go.istore_n_new X dX4_seed_4 (by decide) rfl ?_
  refine Go.aload_n X 1 dX4_seed_5 rfl ?_
  refine Go.iload_n X 2 dX4_seed_6 rfl ?_
  refine Go.putM X f_X4_seed_52 fp_4_13 0 (mdW g ad ((sN N, sA N, sW N, sD N, sP N, sK N, sO N, v, sT N, sF N, sX N), K, b, z, le, rf, hd, ln, vl) (6, at1, tk, so, va, lm, ol, ah, lt, lo)) rfl rfl rfl rfl dX4_seed_7 rfl ?_
  refine Go.iload_n X 0 dX4_seed_10 rfl ?_
  have e9 : x_seed (N, K, b, z, le, rf, hd, ln, vl) v = (((sN N, sA N, sW N, sD N, sP N, sK N, sO N, v, sT N, sF N, sX N), K, b, z, le, rf, hd, ln, vl), (sG N)) := by simp (decide := true) [x_seed, rfS, upS_id]
  have m9 : mOk ((sN N, sA N, sW N, sD N, sP N, sK N, sO N, v, sT N, sF N, sX N), K, b, z, le, rf, hd, ln, vl) (6, at1, tk, so, va, lm, ol, ah, lt, lo) := ⟨rfl, hm.2.1, hm.2.2⟩
  exact Go.iret X E dX4_seed_11 ⟨by rw [e9], _, by rw [e9]; exact m9, by rw [e9]⟩ rfl
set_option maxHeartbeats 4000000 in
set_option maxRecDepth 100000 in
theorem e_wipe (g : gT) (ad : Nat → Nat) (N : Sch) (K : Sch) (b : Bool) (z : Nat) (le : Nat → Nat) (rf : Nat → Int32) (hd : Nat → Int32) (ln : Nat → Nat) (vl : Nat → Nat → Int64) (at1 : Nat) (tk : Nat) (so : Int32) (va : Int32) (lm : Nat → Nat) (ol : Nat → Int32) (ah : Nat → Int32) (lt : Int32) (lo : Nat → Int32) (hm : mOk (N, K, b, z, le, rf, hd, ln, vl) (6, at1, tk, so, va, lm, ol, ah, lt, lo)) : Ct g yX4_wipe wsX4_wipe 0 0 [.ref (ad 0)] (mdW g ad (N, K, b, z, le, rf, hd, ln, vl) (6, at1, tk, so, va, lm, ol, ah, lt, lo)) (fun v9 w9 => v9 = (some (.int (x_wipe (N, K, b, z, le, rf, hd, ln, vl)).2)) ∧ ∃ J9, mOk (x_wipe (N, K, b, z, le, rf, hd, ln, vl)).1 J9 ∧ w9 = mdW g ad (x_wipe (N, K, b, z, le, rf, hd, ln, vl)).1 J9) := by
  refine Ct.start (cc := cX4_wipe) (nL := 2) (ret := (some .int)) (own := RX4) (by decide) rfl rfl rfl ?_
  intro Γ X E
  show Go Γ g 2 (rmC 0 0) 0 0 (mdW g ad (N, K, b, z, le, rf, hd, ln, vl) (6, at1, tk, so, va, lm, ol, ah, lt, lo)) 0 [(0, .ref (ad 0))] []
  refine Go.aload_n X 0 dX4_wipe_0 rfl ?_
  refine Go.get X f_X4_wipe_124 0 (v := .int (nI z)) rfl rfl dX4_wipe_1 ?_
  refine Go.istore_n_new X dX4_wipe_4 (by decide) rfl ?_
  refine Go.aload_n X 1 dX4_wipe_5 rfl ?_
  refine Go.iconst X (nI 0) dX4_wipe_6 k_ic_0 ?_
  refine Go.putM X f_X4_wipe_124 fp_4_15 0 (mdW g ad (N, K, b, 0, le, rf, hd, ln, vl) (6, at1, tk, so, va, lm, ol, ah, lt, lo)) rfl rfl rfl rfl dX4_wipe_7 rfl ?_
  refine Go.iload_n X 0 dX4_wipe_10 rfl ?_
  have e9 : x_wipe (N, K, b, z, le, rf, hd, ln, vl) = ((N, K, b, 0, le, rf, hd, ln, vl), (nI z)) := by simp (decide := true) [x_wipe, rfS, upS_id]
  have m9 : mOk (N, K, b, 0, le, rf, hd, ln, vl) (6, at1, tk, so, va, lm, ol, ah, lt, lo) := ⟨rfl, hm.2.1, hm.2.2⟩
  exact Go.iret X E dX4_wipe_11 ⟨by rw [e9], _, by rw [e9]; exact m9, by rw [e9]⟩ rfl
set_option maxHeartbeats 4000000 in
set_option maxRecDepth 100000 in
theorem e_feed (g : gT) (ad : Nat → Nat) (N : Sch) (K : Sch) (b : Bool) (z : Nat) (le : Nat → Nat) (rf : Nat → Int32) (hd : Nat → Int32) (ln : Nat → Nat) (vl : Nat → Nat → Int64) (at1 : Nat) (tk : Nat) (so : Int32) (va : Int32) (lm : Nat → Nat) (ol : Nat → Int32) (ah : Nat → Int32) (lt : Int32) (lo : Nat → Int32) (v : Int32) (hz : z ≤ 250) (hm : mOk (N, K, b, z, le, rf, hd, ln, vl) (6, at1, tk, so, va, lm, ol, ah, lt, lo)) : Ct g yX4_feed wsX4_feed 1 22 [.ref (ad 0), .int v] (mdW g ad (N, K, b, z, le, rf, hd, ln, vl) (6, at1, tk, so, va, lm, ol, ah, lt, lo)) (fun v9 w9 => v9 = (some (.int (x_feed (N, K, b, z, le, rf, hd, ln, vl) v).2)) ∧ ∃ J9, mOk (x_feed (N, K, b, z, le, rf, hd, ln, vl) v).1 J9 ∧ w9 = mdW g ad (x_feed (N, K, b, z, le, rf, hd, ln, vl) v).1 J9) := by
  refine Ct.start (cc := cX4_feed) (nL := 2) (ret := (some .int)) (own := RX4) (by decide) rfl rfl rfl ?_
  intro Γ X E
  show Go Γ g 2 (rmC 1 22) 0 0 (mdW g ad (N, K, b, z, le, rf, hd, ln, vl) (6, at1, tk, so, va, lm, ol, ah, lt, lo)) 0 [(0, .ref (ad 0)), (1, .int v)] []
  refine Go.iload_n X 1 dX4_feed_0 rfl ?_
  refine Go.iconst X (nI 0) dX4_feed_1 k_ic_0 ?_
  refine Go.sipush X (nI 255) dX4_feed_2 k_sp_255 ?_
  refine Go.callSi X  (d_within_255 g v) cal_X4_within [] rfl rfl gX4_feed_X4_within rfl rfl rfl dX4_feed_5 ?_
  refine Go.if_neB X 18 dX4_feed_8 (by decide) (fun h8 => ?_) (fun h8 => ?_)
  · --
    obtain ⟨vk, hvk, rfl⟩ := inb_at (by first | omega | (split <;> omega)) h8
    refine Go.aload_n X 0 dX4_feed_18 rfl ?_
    refine Go.get X f_X4_feed_124 0 (v := .int (nI z)) rfl rfl dX4_feed_19 ?_
    refine Go.sipush X (nI 250) dX4_feed_22 k_sp_250 ?_
    refine Go.icmp_neN X 35 dX4_feed_25 (by decide) (by first | omega | (split <;> omega)) (by decide) (fun h25 => ?_) (fun h25 => ?_)
    · --
      refine Go.aload_n X 0 dX4_feed_35 rfl ?_
      refine Go.get X f_X4_feed_29 0 (v := .ref (ad 7)) rfl rfl dX4_feed_36 ?_
      refine Go.aload_n X 0 dX4_feed_39 rfl ?_
      refine Go.dup X dX4_feed_40 rfl ?_
      refine Go.get X f_X4_feed_124 0 (v := .int (nI z)) rfl rfl dX4_feed_41 ?_
      refine Go.dup_x1 X dX4_feed_44 rfl rfl ?_
      refine Go.iconst X (nI 1) dX4_feed_45 k_ic_1 ?_
      refine Go.iadd_e X (nI (z + 1)) dX4_feed_46 (nI_add _ _) ?_
      refine Go.putM X f_X4_feed_124 fp_4_15 0 (mdW g ad (N, K, b, z + 1, le, rf, hd, ln, vl) (6, at1, tk, so, va, lm, ol, ah, lt, lo)) rfl rfl rfl rfl dX4_feed_47 rfl ?_
      refine Go.iload_n X 1 dX4_feed_50 rfl ?_
      refine Go.iastNM X 7 (mdW g ad (N, K, b, z + 1, updN le z vk, rf, hd, ln, vl) (6, at1, tk, so, va, lm, ol, ah, lt, lo)) (w := le) rfl (by first | omega | (split <;> omega)) rfl dX4_feed_51 rfl ?_
      refine Go.aload_n X 0 dX4_feed_52 rfl ?_
      refine Go.get X f_X4_feed_124 0 (v := .int (nI (z + 1))) rfl rfl dX4_feed_53 ?_
      have e9 : x_feed (N, K, b, z, le, rf, hd, ln, vl) (nI vk) = ((N, K, b, z + 1, updN le z vk, rf, hd, ln, vl), (nI (z + 1))) := by simp [x_feed, rfS, h8, show z < 250 by omega, nI_clamp (show vk < 2 ^ 31 by omega)]
      have m9 : mOk (N, K, b, z + 1, updN le z vk, rf, hd, ln, vl) (6, at1, tk, so, va, lm, ol, ah, lt, lo) := ⟨rfl, hm.2.1, hm.2.2⟩
      exact Go.iret X E dX4_feed_56 ⟨by rw [e9], _, by rw [e9]; exact m9, by rw [e9]⟩ rfl
    · --
      refine Go.aload_n X 0 dX4_feed_28 rfl ?_
      refine Go.bipush X ((-6 : Int32)) dX4_feed_29 k_bp_m6 ?_
      refine Go.callV0i X (d_no_4 g ad N K b z le rf hd ln vl 6 at1 tk so va lm ol ah lt lo) cal_X4_no gX4_feed_X4_no (ci := 4) (q0 := 0) rfl rfl rfl rfl rfl dX4_feed_31 ?_
      have e9 : x_feed (N, K, b, z, le, rf, hd, ln, vl) (nI vk) = ((N, K, b, z, le, inc rf 4, hd, ln, vl), (-6)) := by simp [x_feed, rfS, h8, show ¬ z < 250 by omega, nI_clamp (show vk < 2 ^ 31 by omega)]
      have m9 : mOk (N, K, b, z, le, inc rf 4, hd, ln, vl) (6, at1, tk, so, va, lm, ol, ah, lt, lo) := ⟨rfl, hm.2.1, hm.2.2⟩
      exact Go.iret X E dX4_feed_34 ⟨by rw [e9], _, by rw [e9]; exact m9, by rw [e9]⟩ rfl
  · --
    refine Go.aload_n X 0 dX4_feed_11 rfl ?_
    refine Go.bipush X ((-2 : Int32)) dX4_feed_12 k_bp_m2 ?_
    refine Go.callV0i X (d_no_0 g ad N K b z le rf hd ln vl 6 at1 tk so va lm ol ah lt lo) cal_X4_no gX4_feed_X4_no (ci := 4) (q0 := 0) rfl rfl rfl rfl rfl dX4_feed_14 ?_
    have e9 : x_feed (N, K, b, z, le, rf, hd, ln, vl) v = ((N, K, b, z, le, inc rf 0, hd, ln, vl), (-2)) := by simp (decide := true) [x_feed, rfS, upS_id, h8]
    have m9 : mOk (N, K, b, z, le, inc rf 0, hd, ln, vl) (6, at1, tk, so, va, lm, ol, ah, lt, lo) := ⟨rfl, hm.2.1, hm.2.2⟩
    exact Go.iret X E dX4_feed_17 ⟨by rw [e9], _, by rw [e9]; exact m9, by rw [e9]⟩ rfl
set_option maxHeartbeats 4000000 in
set_option maxRecDepth 100000 in
theorem e_hint (g : gT) (ad : Nat → Nat) (N : Sch) (K : Sch) (b : Bool) (z : Nat) (le : Nat → Nat) (rf : Nat → Int32) (hd : Nat → Int32) (ln : Nat → Nat) (vl : Nat → Nat → Int64) (at1 : Nat) (tk : Nat) (so : Int32) (va : Int32) (lm : Nat → Nat) (ol : Nat → Int32) (ah : Nat → Int32) (lt : Int32) (lo : Nat → Int32) (x : Int32) (hN : sOk N) (hH : hOk (sP N) hd) (hm : mOk (N, K, b, z, le, rf, hd, ln, vl) (6, at1, tk, so, va, lm, ol, ah, lt, lo)) : Ct g yX4_hint wsX4_hint 1 22 [.ref (ad 0), .int x] (mdW g ad (N, K, b, z, le, rf, hd, ln, vl) (6, at1, tk, so, va, lm, ol, ah, lt, lo)) (fun v9 w9 => v9 = (some (.int (x_hint (N, K, b, z, le, rf, hd, ln, vl) x).2)) ∧ ∃ J9, mOk (x_hint (N, K, b, z, le, rf, hd, ln, vl) x).1 J9 ∧ w9 = mdW g ad (x_hint (N, K, b, z, le, rf, hd, ln, vl) x).1 J9) := by
  refine Ct.start (cc := cX4_hint) (nL := 2) (ret := (some .int)) (own := RX4) (by decide) rfl rfl rfl ?_
  intro Γ X E
  show Go Γ g 2 (rmC 1 22) 0 0 (mdW g ad (N, K, b, z, le, rf, hd, ln, vl) (6, at1, tk, so, va, lm, ol, ah, lt, lo)) 0 [(0, .ref (ad 0)), (1, .int x)] []
  obtain ⟨o1, o2, o3, o4, o5, o6, o7, o8⟩ := id hN
  have o9 := p2_9 o2
  have o10 := sA_512 hN
  refine Go.iload_n X 1 dX4_hint_0 rfl ?_
  refine Go.iconst X (nI 0) dX4_hint_1 k_ic_0 ?_
  refine Go.iconst X (nI 1) dX4_hint_2 k_ic_1 ?_
  refine Go.aload_n X 0 dX4_hint_3 rfl ?_
  refine Go.get X f_X4_hint_66 0 (v := .int (nI (sN N))) rfl rfl dX4_hint_4 ?_
  refine Go.ishl_e X (nI (2 ^ (sN N))) dX4_hint_7 (nI_shl1 (by first | omega | (split <;> omega))) ?_
  refine Go.iconst X (nI 1) dX4_hint_8 k_ic_1 ?_
  refine Go.isub_e X ((nI (2 ^ (sN N))) - (nI 1)) dX4_hint_9 rfl ?_
  refine Go.callSi X  (d_within g x (nI 0) ((nI (2 ^ (sN N))) - (nI 1))) cal_X4_within [] rfl rfl gX4_hint_X4_within rfl rfl rfl dX4_hint_10 ?_
  refine Go.top (w := .int (b2i (hinO N x))) (by rw [hin_wi N o2]) ?_
  refine Go.if_neB X 23 dX4_hint_13 (by decide) (fun h13 => ?_) (fun h13 => ?_)
  · --
    have q0 : hinO N x = true := h13
    obtain ⟨xk, hxk, rfl⟩ := hin_at o2 q0
    refine Go.aload_n X 0 dX4_hint_23 rfl ?_
    refine Go.dup X dX4_hint_24 rfl ?_
    refine Go.get X f_X4_hint_111 0 (v := .int (nI (sA N))) rfl rfl dX4_hint_25 ?_
    refine Go.iload_n X 1 dX4_hint_28 rfl ?_
    refine Go.iand_e X (nI ((sA N) &&& xk)) dX4_hint_29 (nI_and _ _) ?_
    refine Go.putM X f_X4_hint_111 fp_4_4 0 (mdW g ad ((sN N, (sA N) &&& xk, sW N, sD N, sP N, sK N, sO N, sG N, sT N, sF N, sX N), K, b, z, le, rf, hd, ln, vl) (6, at1, tk, so, va, lm, ol, ah, lt, lo)) rfl rfl rfl rfl dX4_hint_30 rfl ?_
    refine Go.aload_n X 0 dX4_hint_33 rfl ?_
    refine Go.get X f_X4_hint_111 0 (v := .int (nI ((sA N) &&& xk))) rfl rfl dX4_hint_34 ?_
    have o11 : sA N &&& xk ≤ sA N := Nat.and_le_left
    refine Go.callSi X  (c_bitCount g ((sA N) &&& xk) (by first | omega | (split <;> omega))) cal_J6_bitCount_0f7a4 [] rfl rfl gX4_hint_J6_bitCount_0f7a4 rfl rfl rfl dX4_hint_37 ?_
    have e9 : x_hint (N, K, b, z, le, rf, hd, ln, vl) (nI xk) = (((sN N, (sA N) &&& xk, sW N, sD N, sP N, sK N, sO N, sG N, sT N, sF N, sX N), K, b, z, le, rf, hd, ln, vl), (nI (bcn ((sA N) &&& xk)))) := by simp [x_hint, rfS, q0, nI_clamp (show xk < 2 ^ 31 by omega)]
    have m9 : mOk ((sN N, (sA N) &&& xk, sW N, sD N, sP N, sK N, sO N, sG N, sT N, sF N, sX N), K, b, z, le, rf, hd, ln, vl) (6, at1, tk, so, va, lm, ol, ah, lt, lo) := ⟨rfl, hm.2.1, hm.2.2⟩
    exact Go.iret X E dX4_hint_40 ⟨by rw [e9], _, by rw [e9]; exact m9, by rw [e9]⟩ rfl
  · --
    have q0 : hinO N x = false := h13
    refine Go.aload_n X 0 dX4_hint_16 rfl ?_
    refine Go.bipush X ((-2 : Int32)) dX4_hint_17 k_bp_m2 ?_
    refine Go.callV0i X (d_no_0 g ad N K b z le rf hd ln vl 6 at1 tk so va lm ol ah lt lo) cal_X4_no gX4_hint_X4_no (ci := 4) (q0 := 0) rfl rfl rfl rfl rfl dX4_hint_19 ?_
    have e9 : x_hint (N, K, b, z, le, rf, hd, ln, vl) x = ((N, K, b, z, le, inc rf 0, hd, ln, vl), (-2)) := by simp [x_hint, rfS, q0]
    have m9 : mOk (N, K, b, z, le, inc rf 0, hd, ln, vl) (6, at1, tk, so, va, lm, ol, ah, lt, lo) := ⟨rfl, hm.2.1, hm.2.2⟩
    exact Go.iret X E dX4_hint_22 ⟨by rw [e9], _, by rw [e9]; exact m9, by rw [e9]⟩ rfl
set_option maxHeartbeats 4000000 in
set_option maxRecDepth 100000 in
theorem e_leave (g : gT) (ad : Nat → Nat) (N : Sch) (K : Sch) (b : Bool) (z : Nat) (le : Nat → Nat) (rf : Nat → Int32) (hd : Nat → Int32) (ln : Nat → Nat) (vl : Nat → Nat → Int64) (at1 : Nat) (tk : Nat) (so : Int32) (va : Int32) (lm : Nat → Nat) (ol : Nat → Int32) (ah : Nat → Int32) (lt : Int32) (lo : Nat → Int32) (hN : sOk N) (hH : hOk (sP N) hd) (hm : mOk (N, K, b, z, le, rf, hd, ln, vl) (6, at1, tk, so, va, lm, ol, ah, lt, lo)) : Ct g yX4_leave wsX4_leave 1 21 [.ref (ad 0)] (mdW g ad (N, K, b, z, le, rf, hd, ln, vl) (6, at1, tk, so, va, lm, ol, ah, lt, lo)) (fun v9 w9 => v9 = (some (.int (x_leave (N, K, b, z, le, rf, hd, ln, vl)).2)) ∧ ∃ J9, mOk (x_leave (N, K, b, z, le, rf, hd, ln, vl)).1 J9 ∧ w9 = mdW g ad (x_leave (N, K, b, z, le, rf, hd, ln, vl)).1 J9) := by
  refine Ct.start (cc := cX4_leave) (nL := 2) (ret := (some .int)) (own := RX4) (by decide) rfl rfl rfl ?_
  intro Γ X E
  show Go Γ g 2 (rmC 1 21) 0 0 (mdW g ad (N, K, b, z, le, rf, hd, ln, vl) (6, at1, tk, so, va, lm, ol, ah, lt, lo)) 0 [(0, .ref (ad 0))] []
  obtain ⟨o1, o2, o3, o4, o5, o6, o7, o8⟩ := id hN
  have o9 := p2_9 o2
  have o10 := sA_512 hN
  refine Go.aload_n X 0 dX4_leave_0 rfl ?_
  refine Go.get X f_X4_leave_59 0 (v := .int (nI (sP N))) rfl rfl dX4_leave_1 ?_
  refine Go.if_neN X 14 dX4_leave_4 (by decide) (by first | omega | (split <;> omega)) (fun h4 => ?_) (fun h4 => ?_)
  · --
    have q0 : hOk (sP N - 1 + 1) hd := by rw [show sP N - 1 + 1 = sP N by omega]; exact hH
    refine Go.aload_n X 0 dX4_leave_14 rfl ?_
    refine Go.dup X dX4_leave_15 rfl ?_
    refine Go.get X f_X4_leave_59 0 (v := .int (nI (sP N))) rfl rfl dX4_leave_16 ?_
    refine Go.iconst X (nI 1) dX4_leave_19 k_ic_1 ?_
    refine Go.isub_e X (nI (sP N - 1)) dX4_leave_20 (pk_sub (by first | omega | (split <;> omega))) ?_
    refine Go.putM X f_X4_leave_59 fp_4_7 0 (mdW g ad ((sN N, sA N, sW N, sD N, sP N - 1, sK N, sO N, sG N, sT N, sF N, sX N), K, b, z, le, rf, hd, ln, vl) (6, at1, tk, so, va, lm, ol, ah, lt, lo)) rfl rfl rfl rfl dX4_leave_21 rfl ?_
    refine Go.iconst X (nI 0) dX4_leave_24 k_ic_0 ?_
    refine Go.istore_n_new X dX4_leave_25 (by decide) rfl ?_
    have L26 : ∀ (f26 : Nat) (k : Nat) (hk : k ≤ 8) (hf26 : 8 - k < f26), Go Γ g 2 (rmC 1 21) 0 0 (mdW g ad ((sN N, sA N, sW N, sD N, sP N - 1, sK N, sO N, sG N, sT N, sF N, sX N), K, b, z, le, rf, gone (sP N - 1) hd k, ln, vl) (6, at1, tk, so, va, lm, ol, ah, lt, lo)) 26 [(1, .int (nI k)), (0, .ref (ad 0))] [] := by
      intro f26
      induction f26 with
      | zero => intro k hk hf26; exact absurd hf26 (Nat.not_lt_zero _)
      | succ f26 ih26 =>
        intro k hk hf26
        refine Go.iload_n X 0 dX4_leave_26 rfl ?_
        refine Go.bipush X (nI 8) dX4_leave_27 k_bp_8 ?_
        refine Go.icmp_geN X 61 dX4_leave_29 (by decide) (by first | omega | (split <;> omega)) (by decide) (fun h29 => ?_) (fun h29 => ?_)
        · --
          refine Go.conv (M1 := mdW g ad ((sN N, sA N, sW N, sD N, sP N - 1, sK N, sO N, sG N, sT N, sF N, sX N), K, b, z, le, rf, gone (sP N - 1) hd 8, ln, vl) (6, at1, tk, so, va, lm, ol, ah, lt, lo)) ?_ (by rw [show k = 8 by omega]) rfl rfl
          refine Go.conv (M1 := mdW g ad ((sN N, sA N, sW N, sD N, sP N - 1, sK N, sO N, sG N, sT N, sF N, sX N), K, b, z, le, rf, gone (sP N - 1) hd 8, gonL (sP N - 1) hd ln 8, vl) (6, at1, tk, so, va, lm, ol, ah, lt, lo)) ?_ (by rfl) rfl rfl
          refine Go.conv (M1 := mdW g ad ((sN N, sA N, sW N, sD N, sP N - 1, shf (sK N) (sP N - 1) (sP N), shf (sO N) (sP N - 1) (sP N), sG N, sT N, sF N, sX N), K, b, z, le, rf, gone (sP N - 1) hd 8, gonL (sP N - 1) hd ln 8, vl) (6, at1, tk, so, va, lm, ol, ah, lt, lo)) ?_ (by rw [shf_l _ (by omega), shf_l _ (by omega)]) rfl rfl
          refine Go.aload_n X 1 dX4_leave_61 rfl ?_
          refine Go.get X f_X4_leave_59 0 (v := .int (nI (sP N - 1))) rfl rfl dX4_leave_62 ?_
          have e9 : x_leave (N, K, b, z, le, rf, hd, ln, vl) = (((sN N, sA N, sW N, sD N, sP N - 1, shf (sK N) (sP N - 1) (sP N), shf (sO N) (sP N - 1) (sP N), sG N, sT N, sF N, sX N), K, b, z, le, rf, gone (sP N - 1) hd 8, gonL (sP N - 1) hd ln 8, vl), (nI (sP N - 1))) := by simp (decide := true) [x_leave, rfS, upS_id, h4, h29, Nat.not_lt.mpr h29]
          have m9 : mOk ((sN N, sA N, sW N, sD N, sP N - 1, shf (sK N) (sP N - 1) (sP N), shf (sO N) (sP N - 1) (sP N), sG N, sT N, sF N, sX N), K, b, z, le, rf, gone (sP N - 1) hd 8, gonL (sP N - 1) hd ln 8, vl) (6, at1, tk, so, va, lm, ol, ah, lt, lo) := ⟨rfl, fl_gone hm.2.1 (sP N - 1) 8, hm.2.2⟩
          exact Go.iret X E dX4_leave_65 ⟨by rw [e9], _, by rw [e9]; exact m9, by rw [e9]⟩ rfl
        · --
          refine Go.aload_n X 1 dX4_leave_32 rfl ?_
          refine Go.get X f_X4_leave_7 0 (v := .ref (ad 1)) rfl rfl dX4_leave_33 ?_
          refine Go.iload_n X 0 dX4_leave_36 rfl ?_
          refine Go.ialdF X 1 (f := gone (sP N - 1) hd k) rfl (by first | omega | (split <;> omega)) rfl dX4_leave_37 ?_
          refine Go.bipush X (nI 10) dX4_leave_38 k_bp_10 ?_
          refine Go.aload_n X 1 dX4_leave_40 rfl ?_
          refine Go.get X f_X4_leave_59 0 (v := .int (nI (sP N - 1))) rfl rfl dX4_leave_41 ?_
          refine Go.iadd_e X (nI (10 + (sP N - 1))) dX4_leave_44 (nI_add _ _) ?_
          refine Go.icmp_ne X 55 dX4_leave_45 (by decide) (fun h45 => ?_) (fun h45 => ?_)
          · --
            refine Go.iinc_0 X (nI (k + 1)) dX4_leave_55 (by decide) rfl (show nI k + Int32.ofInt 1 = nI (k + 1) from nI_add _ 1) ?_
            refine Go.goto X 26 dX4_leave_58 (by decide) ?_
            refine Go.conv (M1 := mdW g ad ((sN N, sA N, sW N, sD N, sP N - 1, sK N, sO N, sG N, sT N, sF N, sX N), K, b, z, le, rf, gone (sP N - 1) hd (k + 1), ln, vl) (6, at1, tk, so, va, lm, ol, ah, lt, lo)) ?_ (by rw [gone_n (by omega) q0 (by omega) h45]) rfl rfl
            exact ih26 (k + 1) (by first | omega | (split <;> omega)) (by first | omega | (split <;> omega))
          · --
            refine Go.aload_n X 1 dX4_leave_48 rfl ?_
            refine Go.get X f_X4_leave_7 0 (v := .ref (ad 1)) rfl rfl dX4_leave_49 ?_
            refine Go.iload_n X 0 dX4_leave_52 rfl ?_
            refine Go.iconst X ((-1 : Int32)) dX4_leave_53 k_ic_m1 ?_
            refine Go.iastFM X 1 (mdW g ad ((sN N, sA N, sW N, sD N, sP N - 1, sK N, sO N, sG N, sT N, sF N, sX N), K, b, z, le, rf, upS (gone (sP N - 1) hd k) k (-1), ln, vl) (6, at1, tk, so, va, lm, ol, ah, lt, lo)) (f := gone (sP N - 1) hd k) rfl (by first | omega | (split <;> omega)) rfl dX4_leave_54 rfl ?_
            refine Go.iinc_0 X (nI (k + 1)) dX4_leave_55 (by decide) rfl (show nI k + Int32.ofInt 1 = nI (k + 1) from nI_add _ 1) ?_
            refine Go.goto X 26 dX4_leave_58 (by decide) ?_
            refine Go.conv (M1 := mdW g ad ((sN N, sA N, sW N, sD N, sP N - 1, sK N, sO N, sG N, sT N, sF N, sX N), K, b, z, le, rf, gone (sP N - 1) hd (k + 1), ln, vl) (6, at1, tk, so, va, lm, ol, ah, lt, lo)) ?_ (by rw [gone_y (by omega) q0 (by omega) h45]) rfl rfl
            exact ih26 (k + 1) (by first | omega | (split <;> omega)) (by first | omega | (split <;> omega))
    refine Go.conv (M1 := mdW g ad ((sN N, sA N, sW N, sD N, sP N - 1, sK N, sO N, sG N, sT N, sF N, sX N), K, b, z, le, rf, gone (sP N - 1) hd 0, ln, vl) (6, at1, tk, so, va, lm, ol, ah, lt, lo)) ?_ (by rw [gone_0]) rfl rfl
    exact L26 (8 - 0 + 1) 0 (by first | omega | (split <;> omega)) (Nat.lt_succ_self _)
  · --
    refine Go.aload_n X 0 dX4_leave_7 rfl ?_
    refine Go.bipush X ((-5 : Int32)) dX4_leave_8 k_bp_m5 ?_
    refine Go.callV0i X (d_no_3 g ad N K b z le rf hd ln vl 6 at1 tk so va lm ol ah lt lo) cal_X4_no gX4_leave_X4_no (ci := 4) (q0 := 0) rfl rfl rfl rfl rfl dX4_leave_10 ?_
    have e9 : x_leave (N, K, b, z, le, rf, hd, ln, vl) = ((N, K, b, z, le, inc rf 3, hd, ln, vl), (-5)) := by simp (decide := true) [x_leave, rfS, upS_id, h4]
    have m9 : mOk (N, K, b, z, le, inc rf 3, hd, ln, vl) (6, at1, tk, so, va, lm, ol, ah, lt, lo) := ⟨rfl, hm.2.1, hm.2.2⟩
    exact Go.iret X E dX4_leave_13 ⟨by rw [e9], _, by rw [e9]; exact m9, by rw [e9]⟩ rfl
set_option maxHeartbeats 4000000 in
set_option maxRecDepth 100000 in
theorem d_keep_old (g : gT) (ad : Nat → Nat) (N : Sch) (K : Sch) (b : Bool) (z : Nat) (le : Nat → Nat) (rf : Nat → Int32) (hd : Nat → Int32) (ln : Nat → Nat) (vl : Nat → Nat → Int64) (aw : Nat) (at1 : Nat) (tk : Nat) (so : Int32) (va : Int32) (lm : Nat → Nat) (ol : Nat → Int32) (ah : Nat → Int32) (lt : Int32) (lo : Nat → Int32) (hN : sOk N) : Cw g yX4_keep wsX4_keep 0 0 [.ref (ad 0), .ref (ad 9)] (mdW g ad (N, K, b, z, le, rf, hd, ln, vl) (aw, at1, tk, so, va, lm, ol, ah, lt, lo)) none (mdW g ad (N, K, b, z, le, rf, hd, ln, vl) (aw, at1, tk, so, va, lm, encK N, ah, lt, lo)) := by
  refine Ct.start (cc := cX4_keep) (nL := 3) (ret := none) (own := RX4) (by decide) rfl rfl rfl ?_
  intro Γ X E
  show Go Γ g 3 (rmC 0 0) 0 0 (mdW g ad (N, K, b, z, le, rf, hd, ln, vl) (aw, at1, tk, so, va, lm, ol, ah, lt, lo)) 0 [(0, .ref (ad 0)), (1, .ref (ad 9))] []
  obtain ⟨o1, o2, o3, o4, o5, o6, o7, o8⟩ := id hN
  have o9 := p2_9 o2
  have o10 := sA_512 hN
  refine Go.iconst X (nI 0) dX4_keep_0 k_ic_0 ?_
  refine Go.istore_n_new X dX4_keep_1 (by decide) rfl ?_
  have L2 : ∀ (f2 : Nat) (k : Nat) (f : Nat → Int32) (hk : k ≤ 9) (hf : ∀ j, j < k → f j = encK N j) (hf2 : 9 - k < f2), Go Γ g 3 (rmC 0 0) 0 0 (mdW g ad (N, K, b, z, le, rf, hd, ln, vl) (aw, at1, tk, so, va, lm, f, ah, lt, lo)) 2 [(2, .int (nI k)), (0, .ref (ad 0)), (1, .ref (ad 9))] [] := by
    intro f2
    induction f2 with
    | zero => intro k f hk hf hf2; exact absurd hf2 (Nat.not_lt_zero _)
    | succ f2 ih2 =>
      intro k f hk hf hf2
      refine Go.iload_n X 0 dX4_keep_2 rfl ?_
      refine Go.bipush X (nI 9) dX4_keep_3 k_bp_9 ?_
      refine Go.icmp_geN X 23 dX4_keep_5 (by decide) (by first | omega | (split <;> omega)) (by decide) (fun h5 => ?_) (fun h5 => ?_)
      · --
        refine Go.iconst X (nI 0) dX4_keep_23 k_ic_0 ?_
        refine Go.istore_n_0 X dX4_keep_24 (by decide) rfl ?_
        have L25 : ∀ (f25 : Nat) (k : Nat) (f : Nat → Int32) (hk : k ≤ 6) (hf : ∀ j, j < 9 + k ∨ (15 ≤ j ∧ j < 15 + k) → f j = encK N j) (hf25 : 6 - k < f25), Go Γ g 3 (rmC 0 0) 0 0 (mdW g ad (N, K, b, z, le, rf, hd, ln, vl) (aw, at1, tk, so, va, lm, f, ah, lt, lo)) 25 [(2, .int (nI k)), (0, .ref (ad 0)), (1, .ref (ad 9))] [] := by
          intro f25
          induction f25 with
          | zero => intro k f hk hf hf25; exact absurd hf25 (Nat.not_lt_zero _)
          | succ f25 ih25 =>
            intro k f hk hf hf25
            refine Go.iload_n X 0 dX4_keep_25 rfl ?_
            refine Go.bipush X (nI 6) dX4_keep_26 k_bp_6 ?_
            refine Go.icmp_geN X 61 dX4_keep_28 (by decide) (by first | omega | (split <;> omega)) (by decide) (fun h28 => ?_) (fun h28 => ?_)
            · --
              refine Go.aload_n X 2 dX4_keep_61 rfl ?_
              refine Go.bipush X (nI 21) dX4_keep_62 k_bp_21 ?_
              refine Go.aload_n X 1 dX4_keep_64 rfl ?_
              refine Go.get X f_X4_keep_66 0 (v := .int (nI (sN N))) rfl rfl dX4_keep_65 ?_
              refine Go.iastFM X 9 (mdW g ad (N, K, b, z, le, rf, hd, ln, vl) (aw, at1, tk, so, va, lm, upd f 21 (nI (sN N)), ah, lt, lo)) (f := f) rfl (by first | omega | (split <;> omega)) rfl dX4_keep_68 rfl ?_
              refine Go.aload_n X 2 dX4_keep_69 rfl ?_
              refine Go.bipush X (nI 22) dX4_keep_70 k_bp_22 ?_
              refine Go.aload_n X 1 dX4_keep_72 rfl ?_
              refine Go.get X f_X4_keep_111 0 (v := .int (nI (sA N))) rfl rfl dX4_keep_73 ?_
              refine Go.iastFM X 9 (mdW g ad (N, K, b, z, le, rf, hd, ln, vl) (aw, at1, tk, so, va, lm, upd (upd f 21 (nI (sN N))) 22 (nI (sA N)), ah, lt, lo)) (f := upd f 21 (nI (sN N))) rfl (by first | omega | (split <;> omega)) rfl dX4_keep_76 rfl ?_
              refine Go.aload_n X 2 dX4_keep_77 rfl ?_
              refine Go.bipush X (nI 23) dX4_keep_78 k_bp_23 ?_
              refine Go.bipush X (nI 10) dX4_keep_80 k_bp_10 ?_
              refine Go.aload_n X 1 dX4_keep_82 rfl ?_
              refine Go.get X f_X4_keep_59 0 (v := .int (nI (sP N))) rfl rfl dX4_keep_83 ?_
              refine Go.imul_e X (nI (10 * (sP N))) dX4_keep_86 (pk_mul _ _) ?_
              refine Go.aload_n X 1 dX4_keep_87 rfl ?_
              refine Go.get X f_X4_keep_48 0 (v := .int (nI (sD N))) rfl rfl dX4_keep_88 ?_
              refine Go.iadd_e X (nI (10 * (sP N) + sD N)) dX4_keep_91 (nI_add _ _) ?_
              refine Go.iastFM X 9 (mdW g ad (N, K, b, z, le, rf, hd, ln, vl) (aw, at1, tk, so, va, lm, upd (upd (upd f 21 (nI (sN N))) 22 (nI (sA N))) 23 (nI (10 * (sP N) + sD N)), ah, lt, lo)) (f := upd (upd f 21 (nI (sN N))) 22 (nI (sA N))) rfl (by first | omega | (split <;> omega)) rfl dX4_keep_92 rfl ?_
              refine Go.aload_n X 2 dX4_keep_93 rfl ?_
              refine Go.bipush X (nI 24) dX4_keep_94 k_bp_24 ?_
              refine Go.aload_n X 1 dX4_keep_96 rfl ?_
              refine Go.get X f_X4_keep_268 0 (v := .int (sT N)) rfl rfl dX4_keep_97 ?_
              refine Go.iastFM X 9 (mdW g ad (N, K, b, z, le, rf, hd, ln, vl) (aw, at1, tk, so, va, lm, upd (upd (upd (upd f 21 (nI (sN N))) 22 (nI (sA N))) 23 (nI (10 * (sP N) + sD N))) 24 (sT N), ah, lt, lo)) (f := upd (upd (upd f 21 (nI (sN N))) 22 (nI (sA N))) 23 (nI (10 * (sP N) + sD N))) rfl (by first | omega | (split <;> omega)) rfl dX4_keep_100 rfl ?_
              refine Go.aload_n X 2 dX4_keep_101 rfl ?_
              refine Go.bipush X (nI 25) dX4_keep_102 k_bp_25 ?_
              refine Go.aload_n X 1 dX4_keep_104 rfl ?_
              refine Go.get X f_X4_keep_262 0 (v := .int (sF N)) rfl rfl dX4_keep_105 ?_
              refine Go.iastFM X 9 (mdW g ad (N, K, b, z, le, rf, hd, ln, vl) (aw, at1, tk, so, va, lm, upd (upd (upd (upd (upd f 21 (nI (sN N))) 22 (nI (sA N))) 23 (nI (10 * (sP N) + sD N))) 24 (sT N)) 25 (sF N), ah, lt, lo)) (f := upd (upd (upd (upd f 21 (nI (sN N))) 22 (nI (sA N))) 23 (nI (10 * (sP N) + sD N))) 24 (sT N)) rfl (by first | omega | (split <;> omega)) rfl dX4_keep_108 rfl ?_
              refine Go.aload_n X 2 dX4_keep_109 rfl ?_
              refine Go.bipush X (nI 26) dX4_keep_110 k_bp_26 ?_
              refine Go.aload_n X 1 dX4_keep_112 rfl ?_
              refine Go.get X f_X4_keep_265 0 (v := .int (sX N)) rfl rfl dX4_keep_113 ?_
              refine Go.iastFM X 9 (mdW g ad (N, K, b, z, le, rf, hd, ln, vl) (aw, at1, tk, so, va, lm, upd (upd (upd (upd (upd (upd f 21 (nI (sN N))) 22 (nI (sA N))) 23 (nI (10 * (sP N) + sD N))) 24 (sT N)) 25 (sF N)) 26 (sX N), ah, lt, lo)) (f := upd (upd (upd (upd (upd f 21 (nI (sN N))) 22 (nI (sA N))) 23 (nI (10 * (sP N) + sD N))) 24 (sT N)) 25 (sF N)) rfl (by first | omega | (split <;> omega)) rfl dX4_keep_116 rfl ?_
              refine Go.aload_n X 2 dX4_keep_117 rfl ?_
              refine Go.bipush X (nI 27) dX4_keep_118 k_bp_27 ?_
              refine Go.aload_n X 1 dX4_keep_120 rfl ?_
              refine Go.get X f_X4_keep_52 0 (v := .int (sG N)) rfl rfl dX4_keep_121 ?_
              refine Go.iastFM X 9 (mdW g ad (N, K, b, z, le, rf, hd, ln, vl) (aw, at1, tk, so, va, lm, upd (upd (upd (upd (upd (upd (upd f 21 (nI (sN N))) 22 (nI (sA N))) 23 (nI (10 * (sP N) + sD N))) 24 (sT N)) 25 (sF N)) 26 (sX N)) 27 (sG N), ah, lt, lo)) (f := upd (upd (upd (upd (upd (upd f 21 (nI (sN N))) 22 (nI (sA N))) 23 (nI (10 * (sP N) + sD N))) 24 (sT N)) 25 (sF N)) 26 (sX N)) rfl (by first | omega | (split <;> omega)) rfl dX4_keep_124 rfl ?_
              refine Go.ext (q := 9) (f := upd (upd (upd (upd (upd (upd (upd f 21 (nI (sN N))) 22 (nI (sA N))) 23 (nI (10 * (sP N) + sD N))) 24 (sT N)) 25 (sF N)) 26 (sX N)) 27 (sG N)) (f1 := encK N) (M1 := mdW g ad (N, K, b, z, le, rf, hd, ln, vl) (aw, at1, tk, so, va, lm, encK N, ah, lt, lo)) rfl (fun i hi => by exact ke_3 (fun j hj => hf j (by omega)) i hi) rfl ?_
              exact Go.vret X E dX4_keep_125 ⟨rfl, rfl⟩ rfl
            · --
              refine Go.aload_n X 2 dX4_keep_31 rfl ?_
              refine Go.bipush X (nI 9) dX4_keep_32 k_bp_9 ?_
              refine Go.iload_n X 0 dX4_keep_34 rfl ?_
              refine Go.iadd_e X (nI (9 + k)) dX4_keep_35 (nI_add _ _) ?_
              refine Go.aload_n X 1 dX4_keep_36 rfl ?_
              refine Go.get X f_X4_keep_23 0 (v := .ref (ad 5)) rfl rfl dX4_keep_37 ?_
              refine Go.iload_n X 0 dX4_keep_40 rfl ?_
              refine Go.ialdN X 5 (w := sK N) rfl (by first | omega | (split <;> omega)) rfl dX4_keep_41 ?_
              refine Go.iastFM X 9 (mdW g ad (N, K, b, z, le, rf, hd, ln, vl) (aw, at1, tk, so, va, lm, upd f (9 + k) (nI ((sK N) k)), ah, lt, lo)) (f := f) rfl (by first | omega | (split <;> omega)) rfl dX4_keep_42 rfl ?_
              refine Go.aload_n X 2 dX4_keep_43 rfl ?_
              refine Go.bipush X (nI 15) dX4_keep_44 k_bp_15 ?_
              refine Go.iload_n X 0 dX4_keep_46 rfl ?_
              refine Go.iadd_e X (nI (15 + k)) dX4_keep_47 (nI_add _ _) ?_
              refine Go.aload_n X 1 dX4_keep_48 rfl ?_
              refine Go.get X f_X4_keep_26 0 (v := .ref (ad 6)) rfl rfl dX4_keep_49 ?_
              refine Go.iload_n X 0 dX4_keep_52 rfl ?_
              refine Go.ialdN X 6 (w := sO N) rfl (by first | omega | (split <;> omega)) rfl dX4_keep_53 ?_
              refine Go.iastFM X 9 (mdW g ad (N, K, b, z, le, rf, hd, ln, vl) (aw, at1, tk, so, va, lm, upd (upd f (9 + k) (nI ((sK N) k))) (15 + k) (nI ((sO N) k)), ah, lt, lo)) (f := upd f (9 + k) (nI ((sK N) k))) rfl (by first | omega | (split <;> omega)) rfl dX4_keep_54 rfl ?_
              refine Go.iinc_0 X (nI (k + 1)) dX4_keep_55 (by decide) rfl (show nI k + Int32.ofInt 1 = nI (k + 1) from nI_add _ 1) ?_
              refine Go.goto X 25 dX4_keep_58 (by decide) ?_
              refine Go.conv (M1 := mdW g ad (N, K, b, z, le, rf, hd, ln, vl) (aw, at1, tk, so, va, lm, (upd (upd f (9 + k) (nI (sK N k))) (15 + k) (nI (sO N k))), ah, lt, lo)) ?_ (by rfl) rfl rfl
              exact ih25 (k + 1) (upd (upd f (9 + k) (nI (sK N k))) (15 + k) (nI (sO N k))) (by first | omega | (split <;> omega)) (by exact ke_2 (by omega) hf) (by first | omega | (split <;> omega))
        refine Go.conv (M1 := mdW g ad (N, K, b, z, le, rf, hd, ln, vl) (aw, at1, tk, so, va, lm, f, ah, lt, lo)) ?_ (by rfl) rfl rfl
        exact L25 (6 - 0 + 1) 0 f (by first | omega | (split <;> omega)) (by intro j hj; exact hf j (by omega)) (Nat.lt_succ_self _)
      · --
        refine Go.aload_n X 2 dX4_keep_8 rfl ?_
        refine Go.iload_n X 0 dX4_keep_9 rfl ?_
        refine Go.aload_n X 1 dX4_keep_10 rfl ?_
        refine Go.get X f_X4_keep_20 0 (v := .ref (ad 4)) rfl rfl dX4_keep_11 ?_
        refine Go.iload_n X 0 dX4_keep_14 rfl ?_
        refine Go.ialdN X 4 (w := sW N) rfl (by first | omega | (split <;> omega)) rfl dX4_keep_15 ?_
        refine Go.iastFM X 9 (mdW g ad (N, K, b, z, le, rf, hd, ln, vl) (aw, at1, tk, so, va, lm, upd f k (nI ((sW N) k)), ah, lt, lo)) (f := f) rfl (by first | omega | (split <;> omega)) rfl dX4_keep_16 rfl ?_
        refine Go.iinc_0 X (nI (k + 1)) dX4_keep_17 (by decide) rfl (show nI k + Int32.ofInt 1 = nI (k + 1) from nI_add _ 1) ?_
        refine Go.goto X 2 dX4_keep_20 (by decide) ?_
        refine Go.conv (M1 := mdW g ad (N, K, b, z, le, rf, hd, ln, vl) (aw, at1, tk, so, va, lm, (upd f k (nI (sW N k))), ah, lt, lo)) ?_ (by rfl) rfl rfl
        exact ih2 (k + 1) (upd f k (nI (sW N k))) (by first | omega | (split <;> omega)) (by exact ke_1 (by omega) hf) (by first | omega | (split <;> omega))
  refine Go.conv (M1 := mdW g ad (N, K, b, z, le, rf, hd, ln, vl) (aw, at1, tk, so, va, lm, ol, ah, lt, lo)) ?_ (by rfl) rfl rfl
  exact L2 (9 - 0 + 1) 0 ol (by first | omega | (split <;> omega)) (by intro j hj; omega) (Nat.lt_succ_self _)
set_option maxHeartbeats 4000000 in
set_option maxRecDepth 100000 in
theorem d_again_old (g : gT) (ad : Nat → Nat) (N : Sch) (K : Sch) (b : Bool) (z : Nat) (le : Nat → Nat) (rf : Nat → Int32) (hd : Nat → Int32) (ln : Nat → Nat) (vl : Nat → Nat → Int64) (aw : Nat) (at1 : Nat) (tk : Nat) (so : Int32) (va : Int32) (lm : Nat → Nat) (ol : Nat → Int32) (ah : Nat → Int32) (lt : Int32) (lo : Nat → Int32) (Q : Sch) (hQ : sOk Q) (hq : ∀ j, j < 28 → ol j = encK Q j) : Cw g yX4_again wsX4_again 0 0 [.ref (ad 0), .ref (ad 9)] (mdW g ad (N, K, b, z, le, rf, hd, ln, vl) (aw, at1, tk, so, va, lm, ol, ah, lt, lo)) none (mdW g ad (Q, K, b, z, le, rf, hd, ln, vl) (aw, at1, tk, so, va, lm, ol, ah, lt, lo)) := by
  refine Ct.start (cc := cX4_again) (nL := 3) (ret := none) (own := RX4) (by decide) rfl rfl rfl ?_
  intro Γ X E
  show Go Γ g 3 (rmC 0 0) 0 0 (mdW g ad (N, K, b, z, le, rf, hd, ln, vl) (aw, at1, tk, so, va, lm, ol, ah, lt, lo)) 0 [(0, .ref (ad 0)), (1, .ref (ad 9))] []
  obtain ⟨p1, p2, p3, p4, p5, p6, p7, p8⟩ := id hQ
  have p9 := sA_512 hQ
  refine Go.iconst X (nI 0) dX4_again_0 k_ic_0 ?_
  refine Go.istore_n_new X dX4_again_1 (by decide) rfl ?_
  have L2 : ∀ (f2 : Nat) (k : Nat) (w : Nat → Nat) (hk : k ≤ 9) (hw : ∀ j, j < k → w j = sW Q j) (hf2 : 9 - k < f2), Go Γ g 3 (rmC 0 0) 0 0 (mdW g ad ((sN N, sA N, w, sD N, sP N, sK N, sO N, sG N, sT N, sF N, sX N), K, b, z, le, rf, hd, ln, vl) (aw, at1, tk, so, va, lm, ol, ah, lt, lo)) 2 [(2, .int (nI k)), (0, .ref (ad 0)), (1, .ref (ad 9))] [] := by
    intro f2
    induction f2 with
    | zero => intro k w hk hw hf2; exact absurd hf2 (Nat.not_lt_zero _)
    | succ f2 ih2 =>
      intro k w hk hw hf2
      refine Go.iload_n X 0 dX4_again_2 rfl ?_
      refine Go.bipush X (nI 9) dX4_again_3 k_bp_9 ?_
      refine Go.icmp_geN X 23 dX4_again_5 (by decide) (by first | omega | (split <;> omega)) (by decide) (fun h5 => ?_) (fun h5 => ?_)
      · --
        refine Go.ext (q := 4) (f := aN w) (f1 := aN (sW Q)) (M1 := mdW g ad ((sN N, sA N, sW Q, sD N, sP N, sK N, sO N, sG N, sT N, sF N, sX N), K, b, z, le, rf, hd, ln, vl) (aw, at1, tk, so, va, lm, ol, ah, lt, lo)) rfl (fun i hi => by exact congrArg nI (hw i (by omega))) rfl ?_
        refine Go.iconst X (nI 0) dX4_again_23 k_ic_0 ?_
        refine Go.istore_n_0 X dX4_again_24 (by decide) rfl ?_
        have L25 : ∀ (f25 : Nat) (k : Nat) (u : Nat → Nat) (v : Nat → Nat) (hk : k ≤ 6) (hu : ∀ j, j < k → u j = sK Q j) (hv : ∀ j, j < k → v j = sO Q j) (hf25 : 6 - k < f25), Go Γ g 3 (rmC 0 0) 0 0 (mdW g ad ((sN N, sA N, sW Q, sD N, sP N, u, v, sG N, sT N, sF N, sX N), K, b, z, le, rf, hd, ln, vl) (aw, at1, tk, so, va, lm, ol, ah, lt, lo)) 25 [(2, .int (nI k)), (0, .ref (ad 0)), (1, .ref (ad 9))] [] := by
          intro f25
          induction f25 with
          | zero => intro k u v hk hu hv hf25; exact absurd hf25 (Nat.not_lt_zero _)
          | succ f25 ih25 =>
            intro k u v hk hu hv hf25
            refine Go.iload_n X 0 dX4_again_25 rfl ?_
            refine Go.bipush X (nI 6) dX4_again_26 k_bp_6 ?_
            refine Go.icmp_geN X 61 dX4_again_28 (by decide) (by first | omega | (split <;> omega)) (by decide) (fun h28 => ?_) (fun h28 => ?_)
            · --
              refine Go.ext (q := 5) (f := aN u) (f1 := aN (sK Q)) (M1 := mdW g ad ((sN N, sA N, sW Q, sD N, sP N, sK Q, v, sG N, sT N, sF N, sX N), K, b, z, le, rf, hd, ln, vl) (aw, at1, tk, so, va, lm, ol, ah, lt, lo)) rfl (fun i hi => by exact congrArg nI (hu i (by omega))) rfl ?_
              refine Go.ext (q := 6) (f := aN v) (f1 := aN (sO Q)) (M1 := mdW g ad ((sN N, sA N, sW Q, sD N, sP N, sK Q, sO Q, sG N, sT N, sF N, sX N), K, b, z, le, rf, hd, ln, vl) (aw, at1, tk, so, va, lm, ol, ah, lt, lo)) rfl (fun i hi => by exact congrArg nI (hv i (by omega))) rfl ?_
              refine Go.aload_n X 1 dX4_again_61 rfl ?_
              refine Go.aload_n X 2 dX4_again_62 rfl ?_
              refine Go.bipush X (nI 21) dX4_again_63 k_bp_21 ?_
              refine Go.ialdF X 9 (f := ol) rfl (by first | omega | (split <;> omega)) rfl dX4_again_65 ?_
              refine Go.top (w := .int (nI (sN Q))) (by rw [hq 21 (by decide)]; rfl) ?_
              refine Go.putM X f_X4_again_66 fp_4_3 0 (mdW g ad ((sN Q, sA N, sW Q, sD N, sP N, sK Q, sO Q, sG N, sT N, sF N, sX N), K, b, z, le, rf, hd, ln, vl) (aw, at1, tk, so, va, lm, ol, ah, lt, lo)) rfl rfl rfl rfl dX4_again_66 rfl ?_
              refine Go.aload_n X 1 dX4_again_69 rfl ?_
              refine Go.aload_n X 2 dX4_again_70 rfl ?_
              refine Go.bipush X (nI 22) dX4_again_71 k_bp_22 ?_
              refine Go.ialdF X 9 (f := ol) rfl (by first | omega | (split <;> omega)) rfl dX4_again_73 ?_
              refine Go.top (w := .int (nI (sA Q))) (by rw [hq 22 (by decide)]; rfl) ?_
              refine Go.putM X f_X4_again_111 fp_4_4 0 (mdW g ad ((sN Q, sA Q, sW Q, sD N, sP N, sK Q, sO Q, sG N, sT N, sF N, sX N), K, b, z, le, rf, hd, ln, vl) (aw, at1, tk, so, va, lm, ol, ah, lt, lo)) rfl rfl rfl rfl dX4_again_74 rfl ?_
              refine Go.aload_n X 1 dX4_again_77 rfl ?_
              refine Go.aload_n X 2 dX4_again_78 rfl ?_
              refine Go.bipush X (nI 23) dX4_again_79 k_bp_23 ?_
              refine Go.ialdF X 9 (f := ol) rfl (by first | omega | (split <;> omega)) rfl dX4_again_81 ?_
              refine Go.top (w := .int (nI (10 * sP Q + sD Q))) (by rw [hq 23 (by decide)]; rfl) ?_
              refine Go.bipush X (nI 10) dX4_again_82 k_bp_10 ?_
              refine Go.idiv_e X (nI ((10 * sP Q + sD Q) / 10)) dX4_again_84 (nI_ne0 (by first | omega | (split <;> omega)) (by first | omega | (split <;> omega))) (pk_div (by first | omega | (split <;> omega)) (by first | omega | (split <;> omega)) (by first | omega | (split <;> omega))) ?_
              refine Go.top (w := .int (nI (sP Q))) (by rw [show (10 * sP Q + sD Q) / 10 = sP Q by omega]) ?_
              refine Go.putM X f_X4_again_59 fp_4_7 0 (mdW g ad ((sN Q, sA Q, sW Q, sD N, sP Q, sK Q, sO Q, sG N, sT N, sF N, sX N), K, b, z, le, rf, hd, ln, vl) (aw, at1, tk, so, va, lm, ol, ah, lt, lo)) rfl rfl rfl rfl dX4_again_85 rfl ?_
              refine Go.aload_n X 1 dX4_again_88 rfl ?_
              refine Go.aload_n X 2 dX4_again_89 rfl ?_
              refine Go.bipush X (nI 23) dX4_again_90 k_bp_23 ?_
              refine Go.ialdF X 9 (f := ol) rfl (by first | omega | (split <;> omega)) rfl dX4_again_92 ?_
              refine Go.top (w := .int (nI (10 * sP Q + sD Q))) (by rw [hq 23 (by decide)]; rfl) ?_
              refine Go.bipush X (nI 10) dX4_again_93 k_bp_10 ?_
              refine Go.irem_e X (nI ((10 * sP Q + sD Q) % 10)) dX4_again_95 (nI_ne0 (by first | omega | (split <;> omega)) (by first | omega | (split <;> omega))) (pk_rem (by first | omega | (split <;> omega)) (by first | omega | (split <;> omega)) (by first | omega | (split <;> omega))) ?_
              refine Go.top (w := .int (nI (sD Q))) (by rw [show (10 * sP Q + sD Q) % 10 = sD Q by omega]) ?_
              refine Go.putM X f_X4_again_48 fp_4_6 0 (mdW g ad ((sN Q, sA Q, sW Q, sD Q, sP Q, sK Q, sO Q, sG N, sT N, sF N, sX N), K, b, z, le, rf, hd, ln, vl) (aw, at1, tk, so, va, lm, ol, ah, lt, lo)) rfl rfl rfl rfl dX4_again_96 rfl ?_
              refine Go.aload_n X 1 dX4_again_99 rfl ?_
              refine Go.aload_n X 2 dX4_again_100 rfl ?_
              refine Go.bipush X (nI 24) dX4_again_101 k_bp_24 ?_
              refine Go.ialdF X 9 (f := ol) rfl (by first | omega | (split <;> omega)) rfl dX4_again_103 ?_
              refine Go.top (w := .int (sT Q)) (by rw [hq 24 (by decide)]; rfl) ?_
              refine Go.putM X f_X4_again_268 fp_4_10 0 (mdW g ad ((sN Q, sA Q, sW Q, sD Q, sP Q, sK Q, sO Q, sG N, sT Q, sF N, sX N), K, b, z, le, rf, hd, ln, vl) (aw, at1, tk, so, va, lm, ol, ah, lt, lo)) rfl rfl rfl rfl dX4_again_104 rfl ?_
              refine Go.aload_n X 1 dX4_again_107 rfl ?_
              refine Go.aload_n X 2 dX4_again_108 rfl ?_
              refine Go.bipush X (nI 25) dX4_again_109 k_bp_25 ?_
              refine Go.ialdF X 9 (f := ol) rfl (by first | omega | (split <;> omega)) rfl dX4_again_111 ?_
              refine Go.top (w := .int (sF Q)) (by rw [hq 25 (by decide)]; rfl) ?_
              refine Go.putM X f_X4_again_262 fp_4_11 0 (mdW g ad ((sN Q, sA Q, sW Q, sD Q, sP Q, sK Q, sO Q, sG N, sT Q, sF Q, sX N), K, b, z, le, rf, hd, ln, vl) (aw, at1, tk, so, va, lm, ol, ah, lt, lo)) rfl rfl rfl rfl dX4_again_112 rfl ?_
              refine Go.aload_n X 1 dX4_again_115 rfl ?_
              refine Go.aload_n X 2 dX4_again_116 rfl ?_
              refine Go.bipush X (nI 26) dX4_again_117 k_bp_26 ?_
              refine Go.ialdF X 9 (f := ol) rfl (by first | omega | (split <;> omega)) rfl dX4_again_119 ?_
              refine Go.top (w := .int (sX Q)) (by rw [hq 26 (by decide)]; rfl) ?_
              refine Go.putM X f_X4_again_265 fp_4_12 0 (mdW g ad ((sN Q, sA Q, sW Q, sD Q, sP Q, sK Q, sO Q, sG N, sT Q, sF Q, sX Q), K, b, z, le, rf, hd, ln, vl) (aw, at1, tk, so, va, lm, ol, ah, lt, lo)) rfl rfl rfl rfl dX4_again_120 rfl ?_
              refine Go.aload_n X 1 dX4_again_123 rfl ?_
              refine Go.aload_n X 2 dX4_again_124 rfl ?_
              refine Go.bipush X (nI 27) dX4_again_125 k_bp_27 ?_
              refine Go.ialdF X 9 (f := ol) rfl (by first | omega | (split <;> omega)) rfl dX4_again_127 ?_
              refine Go.top (w := .int (sG Q)) (by rw [hq 27 (by decide)]; rfl) ?_
              refine Go.putM X f_X4_again_52 fp_4_13 0 (mdW g ad ((sN Q, sA Q, sW Q, sD Q, sP Q, sK Q, sO Q, sG Q, sT Q, sF Q, sX Q), K, b, z, le, rf, hd, ln, vl) (aw, at1, tk, so, va, lm, ol, ah, lt, lo)) rfl rfl rfl rfl dX4_again_128 rfl ?_
              exact Go.vret X E dX4_again_131 ⟨rfl, (by rfl)⟩ rfl
            · --
              refine Go.aload_n X 1 dX4_again_31 rfl ?_
              refine Go.get X f_X4_again_23 0 (v := .ref (ad 5)) rfl rfl dX4_again_32 ?_
              refine Go.iload_n X 0 dX4_again_35 rfl ?_
              refine Go.aload_n X 2 dX4_again_36 rfl ?_
              refine Go.bipush X (nI 9) dX4_again_37 k_bp_9 ?_
              refine Go.iload_n X 0 dX4_again_39 rfl ?_
              refine Go.iadd_e X (nI (9 + k)) dX4_again_40 (nI_add _ _) ?_
              refine Go.ialdF X 9 (f := ol) rfl (by first | omega | (split <;> omega)) rfl dX4_again_41 ?_
              refine Go.top (w := .int (nI (sK Q k))) (by rw [hq (9 + k) (by omega), ec_k Q (by omega)]) ?_
              refine Go.iastNM X 5 (mdW g ad ((sN N, sA N, sW Q, sD N, sP N, updN u k (sK Q k), v, sG N, sT N, sF N, sX N), K, b, z, le, rf, hd, ln, vl) (aw, at1, tk, so, va, lm, ol, ah, lt, lo)) (w := u) rfl (by first | omega | (split <;> omega)) rfl dX4_again_42 rfl ?_
              refine Go.aload_n X 1 dX4_again_43 rfl ?_
              refine Go.get X f_X4_again_26 0 (v := .ref (ad 6)) rfl rfl dX4_again_44 ?_
              refine Go.iload_n X 0 dX4_again_47 rfl ?_
              refine Go.aload_n X 2 dX4_again_48 rfl ?_
              refine Go.bipush X (nI 15) dX4_again_49 k_bp_15 ?_
              refine Go.iload_n X 0 dX4_again_51 rfl ?_
              refine Go.iadd_e X (nI (15 + k)) dX4_again_52 (nI_add _ _) ?_
              refine Go.ialdF X 9 (f := ol) rfl (by first | omega | (split <;> omega)) rfl dX4_again_53 ?_
              refine Go.top (w := .int (nI (sO Q k))) (by rw [hq (15 + k) (by omega), ec_o Q (by omega)]) ?_
              refine Go.iastNM X 6 (mdW g ad ((sN N, sA N, sW Q, sD N, sP N, updN u k (sK Q k), updN v k (sO Q k), sG N, sT N, sF N, sX N), K, b, z, le, rf, hd, ln, vl) (aw, at1, tk, so, va, lm, ol, ah, lt, lo)) (w := v) rfl (by first | omega | (split <;> omega)) rfl dX4_again_54 rfl ?_
              refine Go.iinc_0 X (nI (k + 1)) dX4_again_55 (by decide) rfl (show nI k + Int32.ofInt 1 = nI (k + 1) from nI_add _ 1) ?_
              refine Go.goto X 25 dX4_again_58 (by decide) ?_
              refine Go.conv (M1 := mdW g ad ((sN N, sA N, sW Q, sD N, sP N, (updN u k (sK Q k)), (updN v k (sO Q k)), sG N, sT N, sF N, sX N), K, b, z, le, rf, hd, ln, vl) (aw, at1, tk, so, va, lm, ol, ah, lt, lo)) ?_ (by rfl) rfl rfl
              exact ih25 (k + 1) (updN u k (sK Q k)) (updN v k (sO Q k)) (by first | omega | (split <;> omega)) (by exact up_w hu) (by exact up_w hv) (by first | omega | (split <;> omega))
        refine Go.conv (M1 := mdW g ad ((sN N, sA N, sW Q, sD N, sP N, (sK N), (sO N), sG N, sT N, sF N, sX N), K, b, z, le, rf, hd, ln, vl) (aw, at1, tk, so, va, lm, ol, ah, lt, lo)) ?_ (by rfl) rfl rfl
        exact L25 (6 - 0 + 1) 0 (sK N) (sO N) (by first | omega | (split <;> omega)) (by intro j hj; omega) (by intro j hj; omega) (Nat.lt_succ_self _)
      · --
        refine Go.aload_n X 1 dX4_again_8 rfl ?_
        refine Go.get X f_X4_again_20 0 (v := .ref (ad 4)) rfl rfl dX4_again_9 ?_
        refine Go.iload_n X 0 dX4_again_12 rfl ?_
        refine Go.aload_n X 2 dX4_again_13 rfl ?_
        refine Go.iload_n X 0 dX4_again_14 rfl ?_
        refine Go.ialdF X 9 (f := ol) rfl (by first | omega | (split <;> omega)) rfl dX4_again_15 ?_
        refine Go.top (w := .int (nI (sW Q k))) (by rw [hq k (by omega), ec_w Q (by omega)]) ?_
        refine Go.iastNM X 4 (mdW g ad ((sN N, sA N, updN w k (sW Q k), sD N, sP N, sK N, sO N, sG N, sT N, sF N, sX N), K, b, z, le, rf, hd, ln, vl) (aw, at1, tk, so, va, lm, ol, ah, lt, lo)) (w := w) rfl (by first | omega | (split <;> omega)) rfl dX4_again_16 rfl ?_
        refine Go.iinc_0 X (nI (k + 1)) dX4_again_17 (by decide) rfl (show nI k + Int32.ofInt 1 = nI (k + 1) from nI_add _ 1) ?_
        refine Go.goto X 2 dX4_again_20 (by decide) ?_
        refine Go.conv (M1 := mdW g ad ((sN N, sA N, (updN w k (sW Q k)), sD N, sP N, sK N, sO N, sG N, sT N, sF N, sX N), K, b, z, le, rf, hd, ln, vl) (aw, at1, tk, so, va, lm, ol, ah, lt, lo)) ?_ (by rfl) rfl rfl
        exact ih2 (k + 1) (updN w k (sW Q k)) (by first | omega | (split <;> omega)) (by exact up_w hw) (by first | omega | (split <;> omega))
  refine Go.conv (M1 := mdW g ad ((sN N, sA N, (sW N), sD N, sP N, sK N, sO N, sG N, sT N, sF N, sX N), K, b, z, le, rf, hd, ln, vl) (aw, at1, tk, so, va, lm, ol, ah, lt, lo)) ?_ (by rfl) rfl rfl
  exact L2 (9 - 0 + 1) 0 (sW N) (by first | omega | (split <;> omega)) (by intro j hj; omega) (Nat.lt_succ_self _)
set_option maxHeartbeats 4000000 in
set_option maxRecDepth 100000 in
theorem d_keep_ahead (g : gT) (ad : Nat → Nat) (N : Sch) (K : Sch) (b : Bool) (z : Nat) (le : Nat → Nat) (rf : Nat → Int32) (hd : Nat → Int32) (ln : Nat → Nat) (vl : Nat → Nat → Int64) (aw : Nat) (at1 : Nat) (tk : Nat) (so : Int32) (va : Int32) (lm : Nat → Nat) (ol : Nat → Int32) (ah : Nat → Int32) (lt : Int32) (lo : Nat → Int32) (hN : sOk N) : Cw g yX4_keep wsX4_keep 0 0 [.ref (ad 0), .ref (ad 10)] (mdW g ad (N, K, b, z, le, rf, hd, ln, vl) (aw, at1, tk, so, va, lm, ol, ah, lt, lo)) none (mdW g ad (N, K, b, z, le, rf, hd, ln, vl) (aw, at1, tk, so, va, lm, ol, encK N, lt, lo)) := by
  refine Ct.start (cc := cX4_keep) (nL := 3) (ret := none) (own := RX4) (by decide) rfl rfl rfl ?_
  intro Γ X E
  show Go Γ g 3 (rmC 0 0) 0 0 (mdW g ad (N, K, b, z, le, rf, hd, ln, vl) (aw, at1, tk, so, va, lm, ol, ah, lt, lo)) 0 [(0, .ref (ad 0)), (1, .ref (ad 10))] []
  obtain ⟨o1, o2, o3, o4, o5, o6, o7, o8⟩ := id hN
  have o9 := p2_9 o2
  have o10 := sA_512 hN
  refine Go.iconst X (nI 0) dX4_keep_0 k_ic_0 ?_
  refine Go.istore_n_new X dX4_keep_1 (by decide) rfl ?_
  have L2 : ∀ (f2 : Nat) (k : Nat) (f : Nat → Int32) (hk : k ≤ 9) (hf : ∀ j, j < k → f j = encK N j) (hf2 : 9 - k < f2), Go Γ g 3 (rmC 0 0) 0 0 (mdW g ad (N, K, b, z, le, rf, hd, ln, vl) (aw, at1, tk, so, va, lm, ol, f, lt, lo)) 2 [(2, .int (nI k)), (0, .ref (ad 0)), (1, .ref (ad 10))] [] := by
    intro f2
    induction f2 with
    | zero => intro k f hk hf hf2; exact absurd hf2 (Nat.not_lt_zero _)
    | succ f2 ih2 =>
      intro k f hk hf hf2
      refine Go.iload_n X 0 dX4_keep_2 rfl ?_
      refine Go.bipush X (nI 9) dX4_keep_3 k_bp_9 ?_
      refine Go.icmp_geN X 23 dX4_keep_5 (by decide) (by first | omega | (split <;> omega)) (by decide) (fun h5 => ?_) (fun h5 => ?_)
      · --
        refine Go.iconst X (nI 0) dX4_keep_23 k_ic_0 ?_
        refine Go.istore_n_0 X dX4_keep_24 (by decide) rfl ?_
        have L25 : ∀ (f25 : Nat) (k : Nat) (f : Nat → Int32) (hk : k ≤ 6) (hf : ∀ j, j < 9 + k ∨ (15 ≤ j ∧ j < 15 + k) → f j = encK N j) (hf25 : 6 - k < f25), Go Γ g 3 (rmC 0 0) 0 0 (mdW g ad (N, K, b, z, le, rf, hd, ln, vl) (aw, at1, tk, so, va, lm, ol, f, lt, lo)) 25 [(2, .int (nI k)), (0, .ref (ad 0)), (1, .ref (ad 10))] [] := by
          intro f25
          induction f25 with
          | zero => intro k f hk hf hf25; exact absurd hf25 (Nat.not_lt_zero _)
          | succ f25 ih25 =>
            intro k f hk hf hf25
            refine Go.iload_n X 0 dX4_keep_25 rfl ?_
            refine Go.bipush X (nI 6) dX4_keep_26 k_bp_6 ?_
            refine Go.icmp_geN X 61 dX4_keep_28 (by decide) (by first | omega | (split <;> omega)) (by decide) (fun h28 => ?_) (fun h28 => ?_)
            · --
              refine Go.aload_n X 2 dX4_keep_61 rfl ?_
              refine Go.bipush X (nI 21) dX4_keep_62 k_bp_21 ?_
              refine Go.aload_n X 1 dX4_keep_64 rfl ?_
              refine Go.get X f_X4_keep_66 0 (v := .int (nI (sN N))) rfl rfl dX4_keep_65 ?_
              refine Go.iastFM X 10 (mdW g ad (N, K, b, z, le, rf, hd, ln, vl) (aw, at1, tk, so, va, lm, ol, upd f 21 (nI (sN N)), lt, lo)) (f := f) rfl (by first | omega | (split <;> omega)) rfl dX4_keep_68 rfl ?_
              refine Go.aload_n X 2 dX4_keep_69 rfl ?_
              refine Go.bipush X (nI 22) dX4_keep_70 k_bp_22 ?_
              refine Go.aload_n X 1 dX4_keep_72 rfl ?_
              refine Go.get X f_X4_keep_111 0 (v := .int (nI (sA N))) rfl rfl dX4_keep_73 ?_
              refine Go.iastFM X 10 (mdW g ad (N, K, b, z, le, rf, hd, ln, vl) (aw, at1, tk, so, va, lm, ol, upd (upd f 21 (nI (sN N))) 22 (nI (sA N)), lt, lo)) (f := upd f 21 (nI (sN N))) rfl (by first | omega | (split <;> omega)) rfl dX4_keep_76 rfl ?_
              refine Go.aload_n X 2 dX4_keep_77 rfl ?_
              refine Go.bipush X (nI 23) dX4_keep_78 k_bp_23 ?_
              refine Go.bipush X (nI 10) dX4_keep_80 k_bp_10 ?_
              refine Go.aload_n X 1 dX4_keep_82 rfl ?_
              refine Go.get X f_X4_keep_59 0 (v := .int (nI (sP N))) rfl rfl dX4_keep_83 ?_
              refine Go.imul_e X (nI (10 * (sP N))) dX4_keep_86 (pk_mul _ _) ?_
              refine Go.aload_n X 1 dX4_keep_87 rfl ?_
              refine Go.get X f_X4_keep_48 0 (v := .int (nI (sD N))) rfl rfl dX4_keep_88 ?_
              refine Go.iadd_e X (nI (10 * (sP N) + sD N)) dX4_keep_91 (nI_add _ _) ?_
              refine Go.iastFM X 10 (mdW g ad (N, K, b, z, le, rf, hd, ln, vl) (aw, at1, tk, so, va, lm, ol, upd (upd (upd f 21 (nI (sN N))) 22 (nI (sA N))) 23 (nI (10 * (sP N) + sD N)), lt, lo)) (f := upd (upd f 21 (nI (sN N))) 22 (nI (sA N))) rfl (by first | omega | (split <;> omega)) rfl dX4_keep_92 rfl ?_
              refine Go.aload_n X 2 dX4_keep_93 rfl ?_
              refine Go.bipush X (nI 24) dX4_keep_94 k_bp_24 ?_
              refine Go.aload_n X 1 dX4_keep_96 rfl ?_
              refine Go.get X f_X4_keep_268 0 (v := .int (sT N)) rfl rfl dX4_keep_97 ?_
              refine Go.iastFM X 10 (mdW g ad (N, K, b, z, le, rf, hd, ln, vl) (aw, at1, tk, so, va, lm, ol, upd (upd (upd (upd f 21 (nI (sN N))) 22 (nI (sA N))) 23 (nI (10 * (sP N) + sD N))) 24 (sT N), lt, lo)) (f := upd (upd (upd f 21 (nI (sN N))) 22 (nI (sA N))) 23 (nI (10 * (sP N) + sD N))) rfl (by first | omega | (split <;> omega)) rfl dX4_keep_100 rfl ?_
              refine Go.aload_n X 2 dX4_keep_101 rfl ?_
              refine Go.bipush X (nI 25) dX4_keep_102 k_bp_25 ?_
              refine Go.aload_n X 1 dX4_keep_104 rfl ?_
              refine Go.get X f_X4_keep_262 0 (v := .int (sF N)) rfl rfl dX4_keep_105 ?_
              refine Go.iastFM X 10 (mdW g ad (N, K, b, z, le, rf, hd, ln, vl) (aw, at1, tk, so, va, lm, ol, upd (upd (upd (upd (upd f 21 (nI (sN N))) 22 (nI (sA N))) 23 (nI (10 * (sP N) + sD N))) 24 (sT N)) 25 (sF N), lt, lo)) (f := upd (upd (upd (upd f 21 (nI (sN N))) 22 (nI (sA N))) 23 (nI (10 * (sP N) + sD N))) 24 (sT N)) rfl (by first | omega | (split <;> omega)) rfl dX4_keep_108 rfl ?_
              refine Go.aload_n X 2 dX4_keep_109 rfl ?_
              refine Go.bipush X (nI 26) dX4_keep_110 k_bp_26 ?_
              refine Go.aload_n X 1 dX4_keep_112 rfl ?_
              refine Go.get X f_X4_keep_265 0 (v := .int (sX N)) rfl rfl dX4_keep_113 ?_
              refine Go.iastFM X 10 (mdW g ad (N, K, b, z, le, rf, hd, ln, vl) (aw, at1, tk, so, va, lm, ol, upd (upd (upd (upd (upd (upd f 21 (nI (sN N))) 22 (nI (sA N))) 23 (nI (10 * (sP N) + sD N))) 24 (sT N)) 25 (sF N)) 26 (sX N), lt, lo)) (f := upd (upd (upd (upd (upd f 21 (nI (sN N))) 22 (nI (sA N))) 23 (nI (10 * (sP N) + sD N))) 24 (sT N)) 25 (sF N)) rfl (by first | omega | (split <;> omega)) rfl dX4_keep_116 rfl ?_
              refine Go.aload_n X 2 dX4_keep_117 rfl ?_
              refine Go.bipush X (nI 27) dX4_keep_118 k_bp_27 ?_
              refine Go.aload_n X 1 dX4_keep_120 rfl ?_
              refine Go.get X f_X4_keep_52 0 (v := .int (sG N)) rfl rfl dX4_keep_121 ?_
              refine Go.iastFM X 10 (mdW g ad (N, K, b, z, le, rf, hd, ln, vl) (aw, at1, tk, so, va, lm, ol, upd (upd (upd (upd (upd (upd (upd f 21 (nI (sN N))) 22 (nI (sA N))) 23 (nI (10 * (sP N) + sD N))) 24 (sT N)) 25 (sF N)) 26 (sX N)) 27 (sG N), lt, lo)) (f := upd (upd (upd (upd (upd (upd f 21 (nI (sN N))) 22 (nI (sA N))) 23 (nI (10 * (sP N) + sD N))) 24 (sT N)) 25 (sF N)) 26 (sX N)) rfl (by first | omega | (split <;> omega)) rfl dX4_keep_124 rfl ?_
              refine Go.ext (q := 10) (f := upd (upd (upd (upd (upd (upd (upd f 21 (nI (sN N))) 22 (nI (sA N))) 23 (nI (10 * (sP N) + sD N))) 24 (sT N)) 25 (sF N)) 26 (sX N)) 27 (sG N)) (f1 := encK N) (M1 := mdW g ad (N, K, b, z, le, rf, hd, ln, vl) (aw, at1, tk, so, va, lm, ol, encK N, lt, lo)) rfl (fun i hi => by exact ke_3 (fun j hj => hf j (by omega)) i hi) rfl ?_
              exact Go.vret X E dX4_keep_125 ⟨rfl, rfl⟩ rfl
            · --
              refine Go.aload_n X 2 dX4_keep_31 rfl ?_
              refine Go.bipush X (nI 9) dX4_keep_32 k_bp_9 ?_
              refine Go.iload_n X 0 dX4_keep_34 rfl ?_
              refine Go.iadd_e X (nI (9 + k)) dX4_keep_35 (nI_add _ _) ?_
              refine Go.aload_n X 1 dX4_keep_36 rfl ?_
              refine Go.get X f_X4_keep_23 0 (v := .ref (ad 5)) rfl rfl dX4_keep_37 ?_
              refine Go.iload_n X 0 dX4_keep_40 rfl ?_
              refine Go.ialdN X 5 (w := sK N) rfl (by first | omega | (split <;> omega)) rfl dX4_keep_41 ?_
              refine Go.iastFM X 10 (mdW g ad (N, K, b, z, le, rf, hd, ln, vl) (aw, at1, tk, so, va, lm, ol, upd f (9 + k) (nI ((sK N) k)), lt, lo)) (f := f) rfl (by first | omega | (split <;> omega)) rfl dX4_keep_42 rfl ?_
              refine Go.aload_n X 2 dX4_keep_43 rfl ?_
              refine Go.bipush X (nI 15) dX4_keep_44 k_bp_15 ?_
              refine Go.iload_n X 0 dX4_keep_46 rfl ?_
              refine Go.iadd_e X (nI (15 + k)) dX4_keep_47 (nI_add _ _) ?_
              refine Go.aload_n X 1 dX4_keep_48 rfl ?_
              refine Go.get X f_X4_keep_26 0 (v := .ref (ad 6)) rfl rfl dX4_keep_49 ?_
              refine Go.iload_n X 0 dX4_keep_52 rfl ?_
              refine Go.ialdN X 6 (w := sO N) rfl (by first | omega | (split <;> omega)) rfl dX4_keep_53 ?_
              refine Go.iastFM X 10 (mdW g ad (N, K, b, z, le, rf, hd, ln, vl) (aw, at1, tk, so, va, lm, ol, upd (upd f (9 + k) (nI ((sK N) k))) (15 + k) (nI ((sO N) k)), lt, lo)) (f := upd f (9 + k) (nI ((sK N) k))) rfl (by first | omega | (split <;> omega)) rfl dX4_keep_54 rfl ?_
              refine Go.iinc_0 X (nI (k + 1)) dX4_keep_55 (by decide) rfl (show nI k + Int32.ofInt 1 = nI (k + 1) from nI_add _ 1) ?_
              refine Go.goto X 25 dX4_keep_58 (by decide) ?_
              refine Go.conv (M1 := mdW g ad (N, K, b, z, le, rf, hd, ln, vl) (aw, at1, tk, so, va, lm, ol, (upd (upd f (9 + k) (nI (sK N k))) (15 + k) (nI (sO N k))), lt, lo)) ?_ (by rfl) rfl rfl
              exact ih25 (k + 1) (upd (upd f (9 + k) (nI (sK N k))) (15 + k) (nI (sO N k))) (by first | omega | (split <;> omega)) (by exact ke_2 (by omega) hf) (by first | omega | (split <;> omega))
        refine Go.conv (M1 := mdW g ad (N, K, b, z, le, rf, hd, ln, vl) (aw, at1, tk, so, va, lm, ol, f, lt, lo)) ?_ (by rfl) rfl rfl
        exact L25 (6 - 0 + 1) 0 f (by first | omega | (split <;> omega)) (by intro j hj; exact hf j (by omega)) (Nat.lt_succ_self _)
      · --
        refine Go.aload_n X 2 dX4_keep_8 rfl ?_
        refine Go.iload_n X 0 dX4_keep_9 rfl ?_
        refine Go.aload_n X 1 dX4_keep_10 rfl ?_
        refine Go.get X f_X4_keep_20 0 (v := .ref (ad 4)) rfl rfl dX4_keep_11 ?_
        refine Go.iload_n X 0 dX4_keep_14 rfl ?_
        refine Go.ialdN X 4 (w := sW N) rfl (by first | omega | (split <;> omega)) rfl dX4_keep_15 ?_
        refine Go.iastFM X 10 (mdW g ad (N, K, b, z, le, rf, hd, ln, vl) (aw, at1, tk, so, va, lm, ol, upd f k (nI ((sW N) k)), lt, lo)) (f := f) rfl (by first | omega | (split <;> omega)) rfl dX4_keep_16 rfl ?_
        refine Go.iinc_0 X (nI (k + 1)) dX4_keep_17 (by decide) rfl (show nI k + Int32.ofInt 1 = nI (k + 1) from nI_add _ 1) ?_
        refine Go.goto X 2 dX4_keep_20 (by decide) ?_
        refine Go.conv (M1 := mdW g ad (N, K, b, z, le, rf, hd, ln, vl) (aw, at1, tk, so, va, lm, ol, (upd f k (nI (sW N k))), lt, lo)) ?_ (by rfl) rfl rfl
        exact ih2 (k + 1) (upd f k (nI (sW N k))) (by first | omega | (split <;> omega)) (by exact ke_1 (by omega) hf) (by first | omega | (split <;> omega))
  refine Go.conv (M1 := mdW g ad (N, K, b, z, le, rf, hd, ln, vl) (aw, at1, tk, so, va, lm, ol, ah, lt, lo)) ?_ (by rfl) rfl rfl
  exact L2 (9 - 0 + 1) 0 ah (by first | omega | (split <;> omega)) (by intro j hj; omega) (Nat.lt_succ_self _)
set_option maxHeartbeats 4000000 in
set_option maxRecDepth 100000 in
theorem d_again_ahead (g : gT) (ad : Nat → Nat) (N : Sch) (K : Sch) (b : Bool) (z : Nat) (le : Nat → Nat) (rf : Nat → Int32) (hd : Nat → Int32) (ln : Nat → Nat) (vl : Nat → Nat → Int64) (aw : Nat) (at1 : Nat) (tk : Nat) (so : Int32) (va : Int32) (lm : Nat → Nat) (ol : Nat → Int32) (ah : Nat → Int32) (lt : Int32) (lo : Nat → Int32) (Q : Sch) (hQ : sOk Q) (hq : ∀ j, j < 28 → ah j = encK Q j) : Cw g yX4_again wsX4_again 0 0 [.ref (ad 0), .ref (ad 10)] (mdW g ad (N, K, b, z, le, rf, hd, ln, vl) (aw, at1, tk, so, va, lm, ol, ah, lt, lo)) none (mdW g ad (Q, K, b, z, le, rf, hd, ln, vl) (aw, at1, tk, so, va, lm, ol, ah, lt, lo)) := by
  refine Ct.start (cc := cX4_again) (nL := 3) (ret := none) (own := RX4) (by decide) rfl rfl rfl ?_
  intro Γ X E
  show Go Γ g 3 (rmC 0 0) 0 0 (mdW g ad (N, K, b, z, le, rf, hd, ln, vl) (aw, at1, tk, so, va, lm, ol, ah, lt, lo)) 0 [(0, .ref (ad 0)), (1, .ref (ad 10))] []
  obtain ⟨p1, p2, p3, p4, p5, p6, p7, p8⟩ := id hQ
  have p9 := sA_512 hQ
  refine Go.iconst X (nI 0) dX4_again_0 k_ic_0 ?_
  refine Go.istore_n_new X dX4_again_1 (by decide) rfl ?_
  have L2 : ∀ (f2 : Nat) (k : Nat) (w : Nat → Nat) (hk : k ≤ 9) (hw : ∀ j, j < k → w j = sW Q j) (hf2 : 9 - k < f2), Go Γ g 3 (rmC 0 0) 0 0 (mdW g ad ((sN N, sA N, w, sD N, sP N, sK N, sO N, sG N, sT N, sF N, sX N), K, b, z, le, rf, hd, ln, vl) (aw, at1, tk, so, va, lm, ol, ah, lt, lo)) 2 [(2, .int (nI k)), (0, .ref (ad 0)), (1, .ref (ad 10))] [] := by
    intro f2
    induction f2 with
    | zero => intro k w hk hw hf2; exact absurd hf2 (Nat.not_lt_zero _)
    | succ f2 ih2 =>
      intro k w hk hw hf2
      refine Go.iload_n X 0 dX4_again_2 rfl ?_
      refine Go.bipush X (nI 9) dX4_again_3 k_bp_9 ?_
      refine Go.icmp_geN X 23 dX4_again_5 (by decide) (by first | omega | (split <;> omega)) (by decide) (fun h5 => ?_) (fun h5 => ?_)
      · --
        refine Go.ext (q := 4) (f := aN w) (f1 := aN (sW Q)) (M1 := mdW g ad ((sN N, sA N, sW Q, sD N, sP N, sK N, sO N, sG N, sT N, sF N, sX N), K, b, z, le, rf, hd, ln, vl) (aw, at1, tk, so, va, lm, ol, ah, lt, lo)) rfl (fun i hi => by exact congrArg nI (hw i (by omega))) rfl ?_
        refine Go.iconst X (nI 0) dX4_again_23 k_ic_0 ?_
        refine Go.istore_n_0 X dX4_again_24 (by decide) rfl ?_
        have L25 : ∀ (f25 : Nat) (k : Nat) (u : Nat → Nat) (v : Nat → Nat) (hk : k ≤ 6) (hu : ∀ j, j < k → u j = sK Q j) (hv : ∀ j, j < k → v j = sO Q j) (hf25 : 6 - k < f25), Go Γ g 3 (rmC 0 0) 0 0 (mdW g ad ((sN N, sA N, sW Q, sD N, sP N, u, v, sG N, sT N, sF N, sX N), K, b, z, le, rf, hd, ln, vl) (aw, at1, tk, so, va, lm, ol, ah, lt, lo)) 25 [(2, .int (nI k)), (0, .ref (ad 0)), (1, .ref (ad 10))] [] := by
          intro f25
          induction f25 with
          | zero => intro k u v hk hu hv hf25; exact absurd hf25 (Nat.not_lt_zero _)
          | succ f25 ih25 =>
            intro k u v hk hu hv hf25
            refine Go.iload_n X 0 dX4_again_25 rfl ?_
            refine Go.bipush X (nI 6) dX4_again_26 k_bp_6 ?_
            refine Go.icmp_geN X 61 dX4_again_28 (by decide) (by first | omega | (split <;> omega)) (by decide) (fun h28 => ?_) (fun h28 => ?_)
            · --
              refine Go.ext (q := 5) (f := aN u) (f1 := aN (sK Q)) (M1 := mdW g ad ((sN N, sA N, sW Q, sD N, sP N, sK Q, v, sG N, sT N, sF N, sX N), K, b, z, le, rf, hd, ln, vl) (aw, at1, tk, so, va, lm, ol, ah, lt, lo)) rfl (fun i hi => by exact congrArg nI (hu i (by omega))) rfl ?_
              refine Go.ext (q := 6) (f := aN v) (f1 := aN (sO Q)) (M1 := mdW g ad ((sN N, sA N, sW Q, sD N, sP N, sK Q, sO Q, sG N, sT N, sF N, sX N), K, b, z, le, rf, hd, ln, vl) (aw, at1, tk, so, va, lm, ol, ah, lt, lo)) rfl (fun i hi => by exact congrArg nI (hv i (by omega))) rfl ?_
              refine Go.aload_n X 1 dX4_again_61 rfl ?_
              refine Go.aload_n X 2 dX4_again_62 rfl ?_
              refine Go.bipush X (nI 21) dX4_again_63 k_bp_21 ?_
              refine Go.ialdF X 10 (f := ah) rfl (by first | omega | (split <;> omega)) rfl dX4_again_65 ?_
              refine Go.top (w := .int (nI (sN Q))) (by rw [hq 21 (by decide)]; rfl) ?_
              refine Go.putM X f_X4_again_66 fp_4_3 0 (mdW g ad ((sN Q, sA N, sW Q, sD N, sP N, sK Q, sO Q, sG N, sT N, sF N, sX N), K, b, z, le, rf, hd, ln, vl) (aw, at1, tk, so, va, lm, ol, ah, lt, lo)) rfl rfl rfl rfl dX4_again_66 rfl ?_
              refine Go.aload_n X 1 dX4_again_69 rfl ?_
              refine Go.aload_n X 2 dX4_again_70 rfl ?_
              refine Go.bipush X (nI 22) dX4_again_71 k_bp_22 ?_
              refine Go.ialdF X 10 (f := ah) rfl (by first | omega | (split <;> omega)) rfl dX4_again_73 ?_
              refine Go.top (w := .int (nI (sA Q))) (by rw [hq 22 (by decide)]; rfl) ?_
              refine Go.putM X f_X4_again_111 fp_4_4 0 (mdW g ad ((sN Q, sA Q, sW Q, sD N, sP N, sK Q, sO Q, sG N, sT N, sF N, sX N), K, b, z, le, rf, hd, ln, vl) (aw, at1, tk, so, va, lm, ol, ah, lt, lo)) rfl rfl rfl rfl dX4_again_74 rfl ?_
              refine Go.aload_n X 1 dX4_again_77 rfl ?_
              refine Go.aload_n X 2 dX4_again_78 rfl ?_
              refine Go.bipush X (nI 23) dX4_again_79 k_bp_23 ?_
              refine Go.ialdF X 10 (f := ah) rfl (by first | omega | (split <;> omega)) rfl dX4_again_81 ?_
              refine Go.top (w := .int (nI (10 * sP Q + sD Q))) (by rw [hq 23 (by decide)]; rfl) ?_
              refine Go.bipush X (nI 10) dX4_again_82 k_bp_10 ?_
              refine Go.idiv_e X (nI ((10 * sP Q + sD Q) / 10)) dX4_again_84 (nI_ne0 (by first | omega | (split <;> omega)) (by first | omega | (split <;> omega))) (pk_div (by first | omega | (split <;> omega)) (by first | omega | (split <;> omega)) (by first | omega | (split <;> omega))) ?_
              refine Go.top (w := .int (nI (sP Q))) (by rw [show (10 * sP Q + sD Q) / 10 = sP Q by omega]) ?_
              refine Go.putM X f_X4_again_59 fp_4_7 0 (mdW g ad ((sN Q, sA Q, sW Q, sD N, sP Q, sK Q, sO Q, sG N, sT N, sF N, sX N), K, b, z, le, rf, hd, ln, vl) (aw, at1, tk, so, va, lm, ol, ah, lt, lo)) rfl rfl rfl rfl dX4_again_85 rfl ?_
              refine Go.aload_n X 1 dX4_again_88 rfl ?_
              refine Go.aload_n X 2 dX4_again_89 rfl ?_
              refine Go.bipush X (nI 23) dX4_again_90 k_bp_23 ?_
              refine Go.ialdF X 10 (f := ah) rfl (by first | omega | (split <;> omega)) rfl dX4_again_92 ?_
              refine Go.top (w := .int (nI (10 * sP Q + sD Q))) (by rw [hq 23 (by decide)]; rfl) ?_
              refine Go.bipush X (nI 10) dX4_again_93 k_bp_10 ?_
              refine Go.irem_e X (nI ((10 * sP Q + sD Q) % 10)) dX4_again_95 (nI_ne0 (by first | omega | (split <;> omega)) (by first | omega | (split <;> omega))) (pk_rem (by first | omega | (split <;> omega)) (by first | omega | (split <;> omega)) (by first | omega | (split <;> omega))) ?_
              refine Go.top (w := .int (nI (sD Q))) (by rw [show (10 * sP Q + sD Q) % 10 = sD Q by omega]) ?_
              refine Go.putM X f_X4_again_48 fp_4_6 0 (mdW g ad ((sN Q, sA Q, sW Q, sD Q, sP Q, sK Q, sO Q, sG N, sT N, sF N, sX N), K, b, z, le, rf, hd, ln, vl) (aw, at1, tk, so, va, lm, ol, ah, lt, lo)) rfl rfl rfl rfl dX4_again_96 rfl ?_
              refine Go.aload_n X 1 dX4_again_99 rfl ?_
              refine Go.aload_n X 2 dX4_again_100 rfl ?_
              refine Go.bipush X (nI 24) dX4_again_101 k_bp_24 ?_
              refine Go.ialdF X 10 (f := ah) rfl (by first | omega | (split <;> omega)) rfl dX4_again_103 ?_
              refine Go.top (w := .int (sT Q)) (by rw [hq 24 (by decide)]; rfl) ?_
              refine Go.putM X f_X4_again_268 fp_4_10 0 (mdW g ad ((sN Q, sA Q, sW Q, sD Q, sP Q, sK Q, sO Q, sG N, sT Q, sF N, sX N), K, b, z, le, rf, hd, ln, vl) (aw, at1, tk, so, va, lm, ol, ah, lt, lo)) rfl rfl rfl rfl dX4_again_104 rfl ?_
              refine Go.aload_n X 1 dX4_again_107 rfl ?_
              refine Go.aload_n X 2 dX4_again_108 rfl ?_
              refine Go.bipush X (nI 25) dX4_again_109 k_bp_25 ?_
              refine Go.ialdF X 10 (f := ah) rfl (by first | omega | (split <;> omega)) rfl dX4_again_111 ?_
              refine Go.top (w := .int (sF Q)) (by rw [hq 25 (by decide)]; rfl) ?_
              refine Go.putM X f_X4_again_262 fp_4_11 0 (mdW g ad ((sN Q, sA Q, sW Q, sD Q, sP Q, sK Q, sO Q, sG N, sT Q, sF Q, sX N), K, b, z, le, rf, hd, ln, vl) (aw, at1, tk, so, va, lm, ol, ah, lt, lo)) rfl rfl rfl rfl dX4_again_112 rfl ?_
              refine Go.aload_n X 1 dX4_again_115 rfl ?_
              refine Go.aload_n X 2 dX4_again_116 rfl ?_
              refine Go.bipush X (nI 26) dX4_again_117 k_bp_26 ?_
              refine Go.ialdF X 10 (f := ah) rfl (by first | omega | (split <;> omega)) rfl dX4_again_119 ?_
              refine Go.top (w := .int (sX Q)) (by rw [hq 26 (by decide)]; rfl) ?_
              refine Go.putM X f_X4_again_265 fp_4_12 0 (mdW g ad ((sN Q, sA Q, sW Q, sD Q, sP Q, sK Q, sO Q, sG N, sT Q, sF Q, sX Q), K, b, z, le, rf, hd, ln, vl) (aw, at1, tk, so, va, lm, ol, ah, lt, lo)) rfl rfl rfl rfl dX4_again_120 rfl ?_
              refine Go.aload_n X 1 dX4_again_123 rfl ?_
              refine Go.aload_n X 2 dX4_again_124 rfl ?_
              refine Go.bipush X (nI 27) dX4_again_125 k_bp_27 ?_
              refine Go.ialdF X 10 (f := ah) rfl (by first | omega | (split <;> omega)) rfl dX4_again_127 ?_
              refine Go.top (w := .int (sG Q)) (by rw [hq 27 (by decide)]; rfl) ?_
              refine Go.putM X f_X4_again_52 fp_4_13 0 (mdW g ad ((sN Q, sA Q, sW Q, sD Q, sP Q, sK Q, sO Q, sG Q, sT Q, sF Q, sX Q), K, b, z, le, rf, hd, ln, vl) (aw, at1, tk, so, va, lm, ol, ah, lt, lo)) rfl rfl rfl rfl dX4_again_128 rfl ?_
              exact Go.vret X E dX4_again_131 ⟨rfl, (by rfl)⟩ rfl
            · --
              refine Go.aload_n X 1 dX4_again_31 rfl ?_
              refine Go.get X f_X4_again_23 0 (v := .ref (ad 5)) rfl rfl dX4_again_32 ?_
              refine Go.iload_n X 0 dX4_again_35 rfl ?_
              refine Go.aload_n X 2 dX4_again_36 rfl ?_
              refine Go.bipush X (nI 9) dX4_again_37 k_bp_9 ?_
              refine Go.iload_n X 0 dX4_again_39 rfl ?_
              refine Go.iadd_e X (nI (9 + k)) dX4_again_40 (nI_add _ _) ?_
              refine Go.ialdF X 10 (f := ah) rfl (by first | omega | (split <;> omega)) rfl dX4_again_41 ?_
              refine Go.top (w := .int (nI (sK Q k))) (by rw [hq (9 + k) (by omega), ec_k Q (by omega)]) ?_
              refine Go.iastNM X 5 (mdW g ad ((sN N, sA N, sW Q, sD N, sP N, updN u k (sK Q k), v, sG N, sT N, sF N, sX N), K, b, z, le, rf, hd, ln, vl) (aw, at1, tk, so, va, lm, ol, ah, lt, lo)) (w := u) rfl (by first | omega | (split <;> omega)) rfl dX4_again_42 rfl ?_
              refine Go.aload_n X 1 dX4_again_43 rfl ?_
              refine Go.get X f_X4_again_26 0 (v := .ref (ad 6)) rfl rfl dX4_again_44 ?_
              refine Go.iload_n X 0 dX4_again_47 rfl ?_
              refine Go.aload_n X 2 dX4_again_48 rfl ?_
              refine Go.bipush X (nI 15) dX4_again_49 k_bp_15 ?_
              refine Go.iload_n X 0 dX4_again_51 rfl ?_
              refine Go.iadd_e X (nI (15 + k)) dX4_again_52 (nI_add _ _) ?_
              refine Go.ialdF X 10 (f := ah) rfl (by first | omega | (split <;> omega)) rfl dX4_again_53 ?_
              refine Go.top (w := .int (nI (sO Q k))) (by rw [hq (15 + k) (by omega), ec_o Q (by omega)]) ?_
              refine Go.iastNM X 6 (mdW g ad ((sN N, sA N, sW Q, sD N, sP N, updN u k (sK Q k), updN v k (sO Q k), sG N, sT N, sF N, sX N), K, b, z, le, rf, hd, ln, vl) (aw, at1, tk, so, va, lm, ol, ah, lt, lo)) (w := v) rfl (by first | omega | (split <;> omega)) rfl dX4_again_54 rfl ?_
              refine Go.iinc_0 X (nI (k + 1)) dX4_again_55 (by decide) rfl (show nI k + Int32.ofInt 1 = nI (k + 1) from nI_add _ 1) ?_
              refine Go.goto X 25 dX4_again_58 (by decide) ?_
              refine Go.conv (M1 := mdW g ad ((sN N, sA N, sW Q, sD N, sP N, (updN u k (sK Q k)), (updN v k (sO Q k)), sG N, sT N, sF N, sX N), K, b, z, le, rf, hd, ln, vl) (aw, at1, tk, so, va, lm, ol, ah, lt, lo)) ?_ (by rfl) rfl rfl
              exact ih25 (k + 1) (updN u k (sK Q k)) (updN v k (sO Q k)) (by first | omega | (split <;> omega)) (by exact up_w hu) (by exact up_w hv) (by first | omega | (split <;> omega))
        refine Go.conv (M1 := mdW g ad ((sN N, sA N, sW Q, sD N, sP N, (sK N), (sO N), sG N, sT N, sF N, sX N), K, b, z, le, rf, hd, ln, vl) (aw, at1, tk, so, va, lm, ol, ah, lt, lo)) ?_ (by rfl) rfl rfl
        exact L25 (6 - 0 + 1) 0 (sK N) (sO N) (by first | omega | (split <;> omega)) (by intro j hj; omega) (by intro j hj; omega) (Nat.lt_succ_self _)
      · --
        refine Go.aload_n X 1 dX4_again_8 rfl ?_
        refine Go.get X f_X4_again_20 0 (v := .ref (ad 4)) rfl rfl dX4_again_9 ?_
        refine Go.iload_n X 0 dX4_again_12 rfl ?_
        refine Go.aload_n X 2 dX4_again_13 rfl ?_
        refine Go.iload_n X 0 dX4_again_14 rfl ?_
        refine Go.ialdF X 10 (f := ah) rfl (by first | omega | (split <;> omega)) rfl dX4_again_15 ?_
        refine Go.top (w := .int (nI (sW Q k))) (by rw [hq k (by omega), ec_w Q (by omega)]) ?_
        refine Go.iastNM X 4 (mdW g ad ((sN N, sA N, updN w k (sW Q k), sD N, sP N, sK N, sO N, sG N, sT N, sF N, sX N), K, b, z, le, rf, hd, ln, vl) (aw, at1, tk, so, va, lm, ol, ah, lt, lo)) (w := w) rfl (by first | omega | (split <;> omega)) rfl dX4_again_16 rfl ?_
        refine Go.iinc_0 X (nI (k + 1)) dX4_again_17 (by decide) rfl (show nI k + Int32.ofInt 1 = nI (k + 1) from nI_add _ 1) ?_
        refine Go.goto X 2 dX4_again_20 (by decide) ?_
        refine Go.conv (M1 := mdW g ad ((sN N, sA N, (updN w k (sW Q k)), sD N, sP N, sK N, sO N, sG N, sT N, sF N, sX N), K, b, z, le, rf, hd, ln, vl) (aw, at1, tk, so, va, lm, ol, ah, lt, lo)) ?_ (by rfl) rfl rfl
        exact ih2 (k + 1) (updN w k (sW Q k)) (by first | omega | (split <;> omega)) (by exact up_w hw) (by first | omega | (split <;> omega))
  refine Go.conv (M1 := mdW g ad ((sN N, sA N, (sW N), sD N, sP N, sK N, sO N, sG N, sT N, sF N, sX N), K, b, z, le, rf, hd, ln, vl) (aw, at1, tk, so, va, lm, ol, ah, lt, lo)) ?_ (by rfl) rfl rfl
  exact L2 (9 - 0 + 1) 0 (sW N) (by first | omega | (split <;> omega)) (by intro j hj; omega) (Nat.lt_succ_self _)
set_option maxHeartbeats 4000000 in
set_option maxRecDepth 100000 in
theorem e_image (g : gT) (ad : Nat → Nat) (N : Sch) (K : Sch) (b : Bool) (z : Nat) (le : Nat → Nat) (rf : Nat → Int32) (hd : Nat → Int32) (ln : Nat → Nat) (vl : Nat → Nat → Int64) (at1 : Nat) (tk : Nat) (so : Int32) (va : Int32) (lm : Nat → Nat) (ol : Nat → Int32) (ah : Nat → Int32) (lt : Int32) (lo : Nat → Int32) (hN : sOk N) (hH : hOk (sP N) hd) (hm : mOk (N, K, b, z, le, rf, hd, ln, vl) (6, at1, tk, so, va, lm, ol, ah, lt, lo)) : Ct g yX4_image wsX4_image 1 22 [.ref (ad 0)] (mdW g ad (N, K, b, z, le, rf, hd, ln, vl) (6, at1, tk, so, va, lm, ol, ah, lt, lo)) (fun v9 w9 => v9 = (some (.int (x_image (N, K, b, z, le, rf, hd, ln, vl)).2)) ∧ ∃ J9, mOk (x_image (N, K, b, z, le, rf, hd, ln, vl)).1 J9 ∧ w9 = mdW g ad (x_image (N, K, b, z, le, rf, hd, ln, vl)).1 J9) := by
  refine Ct.start (cc := cX4_image) (nL := 1) (ret := (some .int)) (own := RX4) (by decide) rfl rfl rfl ?_
  intro Γ X E
  show Go Γ g 1 (rmC 1 22) 0 0 (mdW g ad (N, K, b, z, le, rf, hd, ln, vl) (6, at1, tk, so, va, lm, ol, ah, lt, lo)) 0 [(0, .ref (ad 0))] []
  obtain ⟨o1, o2, o3, o4, o5, o6, o7, o8⟩ := id hN
  have o9 := p2_9 o2
  have o10 := sA_512 hN
  refine Go.aload_n X 0 dX4_image_0 rfl ?_
  refine Go.iconst X (nI 1) dX4_image_1 k_ic_1 ?_
  refine Go.putM X f_X4_image_274 fp_4_22 0 (mdW g ad (N, K, true, z, le, rf, hd, ln, vl) (6, at1, tk, so, va, lm, ol, ah, lt, lo)) rfl rfl rfl rfl dX4_image_2 rfl ?_
  refine Go.aload_n X 0 dX4_image_5 rfl ?_
  refine Go.aload_n X 0 dX4_image_6 rfl ?_
  refine Go.get X f_X4_image_35 0 (v := .ref (ad 9)) rfl rfl dX4_image_7 ?_
  refine Go.callV0v X (d_keep_old g ad N K true z le rf hd ln vl 6 at1 tk so va lm ol ah lt lo (by exact hN)) cal_X4_keep gX4_image_X4_keep (ci := 4) (q0 := 0) rfl rfl rfl rfl rfl dX4_image_10 ?_
  refine Go.conv (M1 := mdW g ad (N, N, true, z, le, rf, hd, ln, vl) (6, at1, tk, so, va, lm, encK N, ah, lt, lo)) ?_ (by rfl) rfl rfl
  refine Go.iconst X (nI 1) dX4_image_13 k_ic_1 ?_
  have e9 : x_image (N, K, b, z, le, rf, hd, ln, vl) = ((N, N, true, z, le, rf, hd, ln, vl), (nI 1)) := by simp (decide := true) [x_image, rfS, upS_id]
  have m9 : mOk (N, N, true, z, le, rf, hd, ln, vl) (6, at1, tk, so, va, lm, encK N, ah, lt, lo) := ⟨rfl, hm.2.1, fun _ j _ => rfl⟩
  exact Go.iret X E dX4_image_14 ⟨by rw [e9], _, by rw [e9]; exact m9, by rw [e9]⟩ rfl
set_option maxHeartbeats 4000000 in
set_option maxRecDepth 100000 in
theorem e_back (g : gT) (ad : Nat → Nat) (N : Sch) (K : Sch) (b : Bool) (z : Nat) (le : Nat → Nat) (rf : Nat → Int32) (hd : Nat → Int32) (ln : Nat → Nat) (vl : Nat → Nat → Int64) (at1 : Nat) (tk : Nat) (so : Int32) (va : Int32) (lm : Nat → Nat) (ol : Nat → Int32) (ah : Nat → Int32) (lt : Int32) (lo : Nat → Int32) (hN : sOk N) (hH : hOk (sP N) hd) (hK : b = true → sOk K) (hm : mOk (N, K, b, z, le, rf, hd, ln, vl) (6, at1, tk, so, va, lm, ol, ah, lt, lo)) : Ct g yX4_back wsX4_back 1 22 [.ref (ad 0)] (mdW g ad (N, K, b, z, le, rf, hd, ln, vl) (6, at1, tk, so, va, lm, ol, ah, lt, lo)) (fun v9 w9 => v9 = (some (.int (x_back (N, K, b, z, le, rf, hd, ln, vl)).2)) ∧ ∃ J9, mOk (x_back (N, K, b, z, le, rf, hd, ln, vl)).1 J9 ∧ w9 = mdW g ad (x_back (N, K, b, z, le, rf, hd, ln, vl)).1 J9) := by
  refine Ct.start (cc := cX4_back) (nL := 2) (ret := (some .int)) (own := RX4) (by decide) rfl rfl rfl ?_
  intro Γ X E
  show Go Γ g 2 (rmC 1 22) 0 0 (mdW g ad (N, K, b, z, le, rf, hd, ln, vl) (6, at1, tk, so, va, lm, ol, ah, lt, lo)) 0 [(0, .ref (ad 0))] []
  obtain ⟨o1, o2, o3, o4, o5, o6, o7, o8⟩ := id hN
  have o9 := p2_9 o2
  have o10 := sA_512 hN
  refine Go.aload_n X 0 dX4_back_0 rfl ?_
  refine Go.get X f_X4_back_274 0 (v := .int (b2i b)) rfl rfl dX4_back_1 ?_
  refine Go.if_neB X 14 dX4_back_4 (by decide) (fun h4 => ?_) (fun h4 => ?_)
  · --
    obtain ⟨p1, p2, p3, p4, p5, p6, p7, p8⟩ := id (hK h4)
    refine Go.aload_n X 0 dX4_back_14 rfl ?_
    refine Go.aload_n X 0 dX4_back_15 rfl ?_
    refine Go.get X f_X4_back_35 0 (v := .ref (ad 9)) rfl rfl dX4_back_16 ?_
    refine Go.callV0v X (d_again_old g ad N K b z le rf hd ln vl 6 at1 tk so va lm ol ah lt lo K (by exact hK h4) (by exact hm.2.2 h4)) cal_X4_again gX4_back_X4_again (ci := 4) (q0 := 0) rfl rfl rfl rfl rfl dX4_back_19 ?_
    refine Go.iconst X (nI 0) dX4_back_22 k_ic_0 ?_
    refine Go.istore_n_new X dX4_back_23 (by decide) rfl ?_
    have L24 : ∀ (f24 : Nat) (k : Nat) (hk : k ≤ 8) (hf24 : 8 - k < f24), Go Γ g 2 (rmC 1 22) 0 0 (mdW g ad (K, K, b, z, le, rf, gone (sP K) hd k, ln, vl) (6, at1, tk, so, va, lm, ol, ah, lt, lo)) 24 [(1, .int (nI k)), (0, .ref (ad 0))] [] := by
      intro f24
      induction f24 with
      | zero => intro k hk hf24; exact absurd hf24 (Nat.not_lt_zero _)
      | succ f24 ih24 =>
        intro k hk hf24
        refine Go.iload_n X 0 dX4_back_24 rfl ?_
        refine Go.bipush X (nI 8) dX4_back_25 k_bp_8 ?_
        refine Go.icmp_geN X 59 dX4_back_27 (by decide) (by first | omega | (split <;> omega)) (by decide) (fun h27 => ?_) (fun h27 => ?_)
        · --
          refine Go.conv (M1 := mdW g ad (K, K, b, z, le, rf, gone (sP K) hd 8, ln, vl) (6, at1, tk, so, va, lm, ol, ah, lt, lo)) ?_ (by rw [show k = 8 by omega]) rfl rfl
          refine Go.conv (M1 := mdW g ad (K, K, b, z, le, rf, gone (sP K) hd 8, gonL (sP K) hd ln 8, vl) (6, at1, tk, so, va, lm, ol, ah, lt, lo)) ?_ (by rfl) rfl rfl
          refine Go.iconst X (nI 1) dX4_back_59 k_ic_1 ?_
          have e9 : x_back (N, K, b, z, le, rf, hd, ln, vl) = ((K, K, b, z, le, rf, gone (sP K) hd 8, gonL (sP K) hd ln 8, vl), (nI 1)) := by simp (decide := true) [x_back, rfS, upS_id, h4, h27, Nat.not_lt.mpr h27]
          have m9 : mOk (K, K, b, z, le, rf, gone (sP K) hd 8, gonL (sP K) hd ln 8, vl) (6, at1, tk, so, va, lm, ol, ah, lt, lo) := ⟨rfl, fl_gone hm.2.1 (sP K) 8, hm.2.2⟩
          exact Go.iret X E dX4_back_60 ⟨by rw [e9], _, by rw [e9]; exact m9, by rw [e9]⟩ rfl
        · --
          refine Go.aload_n X 1 dX4_back_30 rfl ?_
          refine Go.get X f_X4_back_7 0 (v := .ref (ad 1)) rfl rfl dX4_back_31 ?_
          refine Go.iload_n X 0 dX4_back_34 rfl ?_
          refine Go.ialdF X 1 (f := gone (sP K) hd k) rfl (by first | omega | (split <;> omega)) rfl dX4_back_35 ?_
          refine Go.bipush X (nI 10) dX4_back_36 k_bp_10 ?_
          refine Go.aload_n X 1 dX4_back_38 rfl ?_
          refine Go.get X f_X4_back_59 0 (v := .int (nI (sP K))) rfl rfl dX4_back_39 ?_
          refine Go.iadd_e X (nI (10 + sP K)) dX4_back_42 (nI_add _ _) ?_
          refine Go.icmp_lt X 53 dX4_back_43 (by decide) (fun h43 => ?_) (fun h43 => ?_)
          · --
            refine Go.iinc_0 X (nI (k + 1)) dX4_back_53 (by decide) rfl (show nI k + Int32.ofInt 1 = nI (k + 1) from nI_add _ 1) ?_
            refine Go.goto X 24 dX4_back_56 (by decide) ?_
            refine Go.conv (M1 := mdW g ad (K, K, b, z, le, rf, gone (sP K) hd (k + 1), ln, vl) (6, at1, tk, so, va, lm, ol, ah, lt, lo)) ?_ (by rw [← gone_f (Int32.not_le.mpr h43)]) rfl rfl
            exact ih24 (k + 1) (by first | omega | (split <;> omega)) (by first | omega | (split <;> omega))
          · --
            refine Go.aload_n X 1 dX4_back_46 rfl ?_
            refine Go.get X f_X4_back_7 0 (v := .ref (ad 1)) rfl rfl dX4_back_47 ?_
            refine Go.iload_n X 0 dX4_back_50 rfl ?_
            refine Go.iconst X ((-1 : Int32)) dX4_back_51 k_ic_m1 ?_
            refine Go.iastFM X 1 (mdW g ad (K, K, b, z, le, rf, upS (gone (sP K) hd k) k (-1), ln, vl) (6, at1, tk, so, va, lm, ol, ah, lt, lo)) (f := gone (sP K) hd k) rfl (by first | omega | (split <;> omega)) rfl dX4_back_52 rfl ?_
            refine Go.iinc_0 X (nI (k + 1)) dX4_back_53 (by decide) rfl (show nI k + Int32.ofInt 1 = nI (k + 1) from nI_add _ 1) ?_
            refine Go.goto X 24 dX4_back_56 (by decide) ?_
            refine Go.conv (M1 := mdW g ad (K, K, b, z, le, rf, gone (sP K) hd (k + 1), ln, vl) (6, at1, tk, so, va, lm, ol, ah, lt, lo)) ?_ (by rw [gone_t (Int32.not_lt.mp h43)]) rfl rfl
            exact ih24 (k + 1) (by first | omega | (split <;> omega)) (by first | omega | (split <;> omega))
    refine Go.conv (M1 := mdW g ad (K, K, b, z, le, rf, gone (sP K) hd 0, ln, vl) (6, at1, tk, so, va, lm, ol, ah, lt, lo)) ?_ (by rw [gone_0]) rfl rfl
    exact L24 (8 - 0 + 1) 0 (by first | omega | (split <;> omega)) (Nat.lt_succ_self _)
  · --
    refine Go.aload_n X 0 dX4_back_7 rfl ?_
    refine Go.bipush X ((-5 : Int32)) dX4_back_8 k_bp_m5 ?_
    refine Go.callV0i X (d_no_3 g ad N K b z le rf hd ln vl 6 at1 tk so va lm ol ah lt lo) cal_X4_no gX4_back_X4_no (ci := 4) (q0 := 0) rfl rfl rfl rfl rfl dX4_back_10 ?_
    have e9 : x_back (N, K, b, z, le, rf, hd, ln, vl) = ((N, K, b, z, le, inc rf 3, hd, ln, vl), (-5)) := by simp (decide := true) [x_back, rfS, upS_id, h4]
    have m9 : mOk (N, K, b, z, le, inc rf 3, hd, ln, vl) (6, at1, tk, so, va, lm, ol, ah, lt, lo) := ⟨rfl, hm.2.1, hm.2.2⟩
    exact Go.iret X E dX4_back_13 ⟨by rw [e9], _, by rw [e9]; exact m9, by rw [e9]⟩ rfl
set_option maxHeartbeats 4000000 in
set_option maxRecDepth 100000 in
theorem e_status (g : gT) (ad : Nat → Nat) (N : Sch) (K : Sch) (b : Bool) (z : Nat) (le : Nat → Nat) (rf : Nat → Int32) (hd : Nat → Int32) (ln : Nat → Nat) (vl : Nat → Nat → Int64) (at1 : Nat) (tk : Nat) (so : Int32) (va : Int32) (lm : Nat → Nat) (ol : Nat → Int32) (ah : Nat → Int32) (lt : Int32) (lo : Nat → Int32) (w : Int32) (hN : sOk N) (hH : hOk (sP N) hd) (hm : mOk (N, K, b, z, le, rf, hd, ln, vl) (6, at1, tk, so, va, lm, ol, ah, lt, lo)) : Ct g yX4_status wsX4_status 7 161 [.ref (ad 0), .int w] (mdW g ad (N, K, b, z, le, rf, hd, ln, vl) (6, at1, tk, so, va, lm, ol, ah, lt, lo)) (fun v9 w9 => v9 = (some (.int (x_status (N, K, b, z, le, rf, hd, ln, vl) w).2)) ∧ ∃ J9, mOk (x_status (N, K, b, z, le, rf, hd, ln, vl) w).1 J9 ∧ w9 = mdW g ad (x_status (N, K, b, z, le, rf, hd, ln, vl) w).1 J9) := by
  refine Ct.start (cc := cX4_status) (nL := 4) (ret := (some .int)) (own := RX4) (by decide) rfl rfl rfl ?_
  intro Γ X E
  show Go Γ g 4 (rmC 7 161) 0 0 (mdW g ad (N, K, b, z, le, rf, hd, ln, vl) (6, at1, tk, so, va, lm, ol, ah, lt, lo)) 0 [(0, .ref (ad 0)), (1, .int w)] []
  obtain ⟨o1, o2, o3, o4, o5, o6, o7, o8⟩ := id hN
  have o9 := p2_9 o2
  have o10 := sA_512 hN
  refine Go.iconst X (nI 0) dX4_status_0 k_ic_0 ?_
  refine Go.istore_n_new X dX4_status_1 (by decide) rfl ?_
  refine Go.iload_n X 2 dX4_status_2 rfl ?_
  by_cases s3_0 : w = nI 0
  · --
    refine Go.top (congrArg Value.int s3_0) ?_
    refine Go.tableIn X 64 dX4_status_3 (by decide) (by decide) rfl (by decide) ?_
    refine Go.aload_n X 1 dX4_status_64 rfl ?_
    refine Go.get X f_X4_status_66 0 (v := .int (nI (sN N))) rfl rfl dX4_status_65 ?_
    have e9 : x_status (N, K, b, z, le, rf, hd, ln, vl) w = ((N, K, b, z, le, rf, hd, ln, vl), (nI (sN N))) := by simp (decide := true) [x_status, rfS, upS_id, s3_0]
    have m9 : mOk (N, K, b, z, le, rf, hd, ln, vl) (6, at1, tk, so, va, lm, ol, ah, lt, lo) := ⟨rfl, hm.2.1, hm.2.2⟩
    exact Go.iret X E dX4_status_68 ⟨by rw [e9], _, by rw [e9]; exact m9, by rw [e9]⟩ rfl
  by_cases s3_1 : w = nI 1
  · --
    refine Go.top (congrArg Value.int s3_1) ?_
    refine Go.tableIn X 69 dX4_status_3 (by decide) (by decide) rfl (by decide) ?_
    refine Go.aload_n X 1 dX4_status_69 rfl ?_
    refine Go.get X f_X4_status_59 0 (v := .int (nI (sP N))) rfl rfl dX4_status_70 ?_
    have e9 : x_status (N, K, b, z, le, rf, hd, ln, vl) w = ((N, K, b, z, le, rf, hd, ln, vl), (nI (sP N))) := by simp (decide := true) [x_status, rfS, upS_id, s3_1, s3_0]
    have m9 : mOk (N, K, b, z, le, rf, hd, ln, vl) (6, at1, tk, so, va, lm, ol, ah, lt, lo) := ⟨rfl, hm.2.1, hm.2.2⟩
    exact Go.iret X E dX4_status_73 ⟨by rw [e9], _, by rw [e9]; exact m9, by rw [e9]⟩ rfl
  by_cases s3_2 : w = nI 2
  · --
    refine Go.top (congrArg Value.int s3_2) ?_
    refine Go.tableIn X 74 dX4_status_3 (by decide) (by decide) rfl (by decide) ?_
    refine Go.aload_n X 1 dX4_status_74 rfl ?_
    refine Go.get X f_X4_status_48 0 (v := .int (nI (sD N))) rfl rfl dX4_status_75 ?_
    have e9 : x_status (N, K, b, z, le, rf, hd, ln, vl) w = ((N, K, b, z, le, rf, hd, ln, vl), (nI (sD N))) := by simp (decide := true) [x_status, rfS, upS_id, s3_2, s3_0, s3_1]
    have m9 : mOk (N, K, b, z, le, rf, hd, ln, vl) (6, at1, tk, so, va, lm, ol, ah, lt, lo) := ⟨rfl, hm.2.1, hm.2.2⟩
    exact Go.iret X E dX4_status_78 ⟨by rw [e9], _, by rw [e9]; exact m9, by rw [e9]⟩ rfl
  by_cases s3_3 : w = nI 3
  · --
    refine Go.top (congrArg Value.int s3_3) ?_
    refine Go.tableIn X 79 dX4_status_3 (by decide) (by decide) rfl (by decide) ?_
    refine Go.aload_n X 1 dX4_status_79 rfl ?_
    refine Go.get X f_X4_status_111 0 (v := .int (nI (sA N))) rfl rfl dX4_status_80 ?_
    have e9 : x_status (N, K, b, z, le, rf, hd, ln, vl) w = ((N, K, b, z, le, rf, hd, ln, vl), (nI (sA N))) := by simp (decide := true) [x_status, rfS, upS_id, s3_3, s3_0, s3_1, s3_2]
    have m9 : mOk (N, K, b, z, le, rf, hd, ln, vl) (6, at1, tk, so, va, lm, ol, ah, lt, lo) := ⟨rfl, hm.2.1, hm.2.2⟩
    exact Go.iret X E dX4_status_83 ⟨by rw [e9], _, by rw [e9]; exact m9, by rw [e9]⟩ rfl
  by_cases s3_4 : w = nI 4
  · --
    refine Go.top (congrArg Value.int s3_4) ?_
    refine Go.tableIn X 84 dX4_status_3 (by decide) (by decide) rfl (by decide) ?_
    refine Go.aload_n X 1 dX4_status_84 rfl ?_
    refine Go.aload_n X 1 dX4_status_85 rfl ?_
    refine Go.get X f_X4_status_111 0 (v := .int (nI (sA N))) rfl rfl dX4_status_86 ?_
    refine Go.callV0i X (d_weights g ad N K b z le rf hd ln vl 6 at1 tk so va lm ol ah lt lo (sA N) (by exact hN) (by first | omega | (split <;> omega))) cal_X4_weights gX4_status_X4_weights (ci := 4) (q0 := 0) rfl rfl rfl rfl rfl dX4_status_89 ?_
    have f89_1 := wsum_81 hN (sA N)
    have e9 : x_status (N, K, b, z, le, rf, hd, ln, vl) w = ((N, K, b, z, le, rf, hd, ln, vl), (nI (wsum (sW N) (sA N) (sN N)))) := by simp (decide := true) [x_status, rfS, upS_id, s3_4, s3_0, s3_1, s3_2, s3_3]
    have m9 : mOk (N, K, b, z, le, rf, hd, ln, vl) (6, at1, tk, so, va, lm, ol, ah, lt, lo) := ⟨rfl, hm.2.1, hm.2.2⟩
    exact Go.iret X E dX4_status_92 ⟨by rw [e9], _, by rw [e9]; exact m9, by rw [e9]⟩ rfl
  by_cases s3_5 : w = nI 5
  · --
    refine Go.top (congrArg Value.int s3_5) ?_
    refine Go.tableIn X 93 dX4_status_3 (by decide) (by decide) rfl (by decide) ?_
    refine Go.aload_n X 1 dX4_status_93 rfl ?_
    refine Go.get X f_X4_status_268 0 (v := .int (sT N)) rfl rfl dX4_status_94 ?_
    have e9 : x_status (N, K, b, z, le, rf, hd, ln, vl) w = ((N, K, b, z, le, rf, hd, ln, vl), (sT N)) := by simp (decide := true) [x_status, rfS, upS_id, s3_5, s3_0, s3_1, s3_2, s3_3, s3_4]
    have m9 : mOk (N, K, b, z, le, rf, hd, ln, vl) (6, at1, tk, so, va, lm, ol, ah, lt, lo) := ⟨rfl, hm.2.1, hm.2.2⟩
    exact Go.iret X E dX4_status_97 ⟨by rw [e9], _, by rw [e9]; exact m9, by rw [e9]⟩ rfl
  by_cases s3_6 : w = nI 6
  · --
    refine Go.top (congrArg Value.int s3_6) ?_
    refine Go.tableIn X 98 dX4_status_3 (by decide) (by decide) rfl (by decide) ?_
    refine Go.aload_n X 1 dX4_status_98 rfl ?_
    refine Go.get X f_X4_status_262 0 (v := .int (sF N)) rfl rfl dX4_status_99 ?_
    have e9 : x_status (N, K, b, z, le, rf, hd, ln, vl) w = ((N, K, b, z, le, rf, hd, ln, vl), (sF N)) := by simp (decide := true) [x_status, rfS, upS_id, s3_6, s3_0, s3_1, s3_2, s3_3, s3_4, s3_5]
    have m9 : mOk (N, K, b, z, le, rf, hd, ln, vl) (6, at1, tk, so, va, lm, ol, ah, lt, lo) := ⟨rfl, hm.2.1, hm.2.2⟩
    exact Go.iret X E dX4_status_102 ⟨by rw [e9], _, by rw [e9]; exact m9, by rw [e9]⟩ rfl
  by_cases s3_7 : w = nI 7
  · --
    refine Go.top (congrArg Value.int s3_7) ?_
    refine Go.tableIn X 103 dX4_status_3 (by decide) (by decide) rfl (by decide) ?_
    refine Go.aload_n X 1 dX4_status_103 rfl ?_
    refine Go.get X f_X4_status_265 0 (v := .int (sX N)) rfl rfl dX4_status_104 ?_
    have e9 : x_status (N, K, b, z, le, rf, hd, ln, vl) w = ((N, K, b, z, le, rf, hd, ln, vl), (sX N)) := by simp (decide := true) [x_status, rfS, upS_id, s3_7, s3_0, s3_1, s3_2, s3_3, s3_4, s3_5, s3_6]
    have m9 : mOk (N, K, b, z, le, rf, hd, ln, vl) (6, at1, tk, so, va, lm, ol, ah, lt, lo) := ⟨rfl, hm.2.1, hm.2.2⟩
    exact Go.iret X E dX4_status_107 ⟨by rw [e9], _, by rw [e9]; exact m9, by rw [e9]⟩ rfl
  by_cases s3_8 : w = nI 8
  · --
    refine Go.top (congrArg Value.int s3_8) ?_
    refine Go.tableIn X 108 dX4_status_3 (by decide) (by decide) rfl (by decide) ?_
    refine Go.aload_n X 1 dX4_status_108 rfl ?_
    refine Go.get X f_X4_status_124 0 (v := .int (nI z)) rfl rfl dX4_status_109 ?_
    have e9 : x_status (N, K, b, z, le, rf, hd, ln, vl) w = ((N, K, b, z, le, rf, hd, ln, vl), (nI z)) := by simp (decide := true) [x_status, rfS, upS_id, s3_8, s3_0, s3_1, s3_2, s3_3, s3_4, s3_5, s3_6, s3_7]
    have m9 : mOk (N, K, b, z, le, rf, hd, ln, vl) (6, at1, tk, so, va, lm, ol, ah, lt, lo) := ⟨rfl, hm.2.1, hm.2.2⟩
    exact Go.iret X E dX4_status_112 ⟨by rw [e9], _, by rw [e9]; exact m9, by rw [e9]⟩ rfl
  by_cases s3_9 : w = nI 9
  · --
    refine Go.top (congrArg Value.int s3_9) ?_
    refine Go.tableIn X 113 dX4_status_3 (by decide) (by decide) rfl (by decide) ?_
    refine Go.aload_n X 1 dX4_status_113 rfl ?_
    refine Go.get X f_X4_status_52 0 (v := .int (sG N)) rfl rfl dX4_status_114 ?_
    have e9 : x_status (N, K, b, z, le, rf, hd, ln, vl) w = ((N, K, b, z, le, rf, hd, ln, vl), (sG N)) := by simp (decide := true) [x_status, rfS, upS_id, s3_9, s3_0, s3_1, s3_2, s3_3, s3_4, s3_5, s3_6, s3_7, s3_8]
    have m9 : mOk (N, K, b, z, le, rf, hd, ln, vl) (6, at1, tk, so, va, lm, ol, ah, lt, lo) := ⟨rfl, hm.2.1, hm.2.2⟩
    exact Go.iret X E dX4_status_117 ⟨by rw [e9], _, by rw [e9]; exact m9, by rw [e9]⟩ rfl
  by_cases s3_10 : w = nI 10
  · --
    refine Go.top (congrArg Value.int s3_10) ?_
    refine Go.tableIn X 118 dX4_status_3 (by decide) (by decide) rfl (by decide) ?_
    refine Go.iconst X (nI 0) dX4_status_118 k_ic_0 ?_
    refine Go.istore_n_new X dX4_status_119 (by decide) rfl ?_
    have L120 : ∀ (f120 : Nat) (k : Nat) (hk : k ≤ 8) (hf120 : 8 - k < f120), Go Γ g 4 (rmC 7 161) 0 0 (mdW g ad (N, K, b, z, le, rf, hd, ln, vl) (6, at1, tk, so, va, lm, ol, ah, lt, lo)) 120 [(3, .int (nI k)), (2, .int (nI (cnt (fun s => decide (hd s ≠ -1)) k))), (0, .ref (ad 0)), (1, .int w)] [] := by
      intro f120
      induction f120 with
      | zero => intro k hk hf120; exact absurd hf120 (Nat.not_lt_zero _)
      | succ f120 ih120 =>
        intro k hk hf120
        refine Go.iload_n X 0 dX4_status_120 rfl ?_
        refine Go.bipush X (nI 8) dX4_status_121 k_bp_8 ?_
        refine Go.icmp_geN X 145 dX4_status_123 (by decide) (by first | omega | (split <;> omega)) (by decide) (fun h123 => ?_) (fun h123 => ?_)
        · --
          refine Go.lv_1 (w := .int (nI (cnt (fun s => decide (hd s ≠ -1)) 8))) (by rw [show k = 8 by omega]) ?_
          refine Go.iload_n X 1 dX4_status_145 rfl ?_
          have e9 : x_status (N, K, b, z, le, rf, hd, ln, vl) w = ((N, K, b, z, le, rf, hd, ln, vl), (nI (cnt (fun s => decide (hd s ≠ -1)) 8))) := by simp (decide := true) [x_status, rfS, upS_id, s3_10, s3_0, s3_1, s3_2, s3_3, s3_4, s3_5, s3_6, s3_7, s3_8, s3_9, h123, Nat.not_lt.mpr h123]
          have m9 : mOk (N, K, b, z, le, rf, hd, ln, vl) (6, at1, tk, so, va, lm, ol, ah, lt, lo) := ⟨rfl, hm.2.1, hm.2.2⟩
          exact Go.iret X E dX4_status_146 ⟨by rw [e9], _, by rw [e9]; exact m9, by rw [e9]⟩ rfl
        · --
          refine Go.aload_n X 2 dX4_status_126 rfl ?_
          refine Go.get X f_X4_status_7 0 (v := .ref (ad 1)) rfl rfl dX4_status_127 ?_
          refine Go.iload_n X 0 dX4_status_130 rfl ?_
          refine Go.ialdF X 1 (f := hd) rfl (by first | omega | (split <;> omega)) rfl dX4_status_131 ?_
          refine Go.iconst X ((-1 : Int32)) dX4_status_132 k_ic_m1 ?_
          refine Go.icmp_eq X 139 dX4_status_133 (by decide) (fun h133 => ?_) (fun h133 => ?_)
          · --
            refine Go.iinc_0 X (nI (k + 1)) dX4_status_139 (by decide) rfl (show nI k + Int32.ofInt 1 = nI (k + 1) from nI_add _ 1) ?_
            refine Go.goto X 120 dX4_status_142 (by decide) ?_
            refine Go.lv_1 (congrArg (fun z => Value.int (nI z)) (show cnt (fun s => decide (hd s ≠ -1)) k = cnt (fun s => decide (hd s ≠ -1)) (k + 1) from by simp [cnt, h133])) ?_
            exact ih120 (k + 1) (by first | omega | (split <;> omega)) (by first | omega | (split <;> omega))
          · --
            refine Go.iinc_1 X (nI (cnt (fun s => decide (hd s ≠ -1)) k + 1)) dX4_status_136 (by decide) rfl (show nI (cnt (fun s => decide (hd s ≠ -1)) k) + Int32.ofInt 1 = nI (cnt (fun s => decide (hd s ≠ -1)) k + 1) from nI_add _ 1) ?_
            refine Go.iinc_0 X (nI (k + 1)) dX4_status_139 (by decide) rfl (show nI k + Int32.ofInt 1 = nI (k + 1) from nI_add _ 1) ?_
            refine Go.goto X 120 dX4_status_142 (by decide) ?_
            refine Go.lv_1 (congrArg (fun z => Value.int (nI z)) (show cnt (fun s => decide (hd s ≠ -1)) k + 1 = cnt (fun s => decide (hd s ≠ -1)) (k + 1) from by simp [cnt, h133])) ?_
            exact ih120 (k + 1) (by first | omega | (split <;> omega)) (by first | omega | (split <;> omega))
    refine Go.lv_1 (congrArg (fun z => Value.int (nI z)) (show 0 = cnt (fun s => decide (hd s ≠ -1)) 0 from by rfl)) ?_
    exact L120 (8 - 0 + 1) 0 (by first | omega | (split <;> omega)) (Nat.lt_succ_self _)
  by_cases s3_11 : w = nI 11
  · --
    refine Go.top (congrArg Value.int s3_11) ?_
    refine Go.tableIn X 147 dX4_status_3 (by decide) (by decide) rfl (by decide) ?_
    refine Go.aload_n X 1 dX4_status_147 rfl ?_
    refine Go.callV0i X (d_bySurprise g ad N K b z le rf hd ln vl 6 at1 tk so va lm ol ah lt lo (by exact hN) (by first | omega | (split <;> omega))) cal_X4_bySurprise gX4_status_X4_bySurprise (ci := 4) (q0 := 0) rfl rfl rfl rfl rfl dX4_status_148 ?_
    have f148_2 := sur_512 hN 6
    have e9 : x_status (N, K, b, z, le, rf, hd, ln, vl) w = ((N, K, b, z, le, rf, hd, ln, vl), (nI (sur N 6))) := by simp (decide := true) [x_status, rfS, upS_id, s3_11, s3_0, s3_1, s3_2, s3_3, s3_4, s3_5, s3_6, s3_7, s3_8, s3_9, s3_10]
    have m9 : mOk (N, K, b, z, le, rf, hd, ln, vl) (6, at1, tk, so, va, lm, ol, ah, lt, lo) := ⟨rfl, hm.2.1, hm.2.2⟩
    exact Go.iret X E dX4_status_151 ⟨by rw [e9], _, by rw [e9]; exact m9, by rw [e9]⟩ rfl
  have t3_0 := ne_toInt (k := 0) s3_0 (by decide); have t3_1 := ne_toInt (k := 1) s3_1 (by decide); have t3_2 := ne_toInt (k := 2) s3_2 (by decide); have t3_3 := ne_toInt (k := 3) s3_3 (by decide); have t3_4 := ne_toInt (k := 4) s3_4 (by decide); have t3_5 := ne_toInt (k := 5) s3_5 (by decide); have t3_6 := ne_toInt (k := 6) s3_6 (by decide); have t3_7 := ne_toInt (k := 7) s3_7 (by decide); have t3_8 := ne_toInt (k := 8) s3_8 (by decide); have t3_9 := ne_toInt (k := 9) s3_9 (by decide); have t3_10 := ne_toInt (k := 10) s3_10 (by decide); have t3_11 := ne_toInt (k := 11) s3_11 (by decide)
  refine Go.tableOut X 152 dX4_status_3 (by omega) (by decide) ?_
  refine Go.iload_n X 2 dX4_status_152 rfl ?_
  refine Go.bipush X (nI 12) dX4_status_153 k_bp_12 ?_
  refine Go.bipush X (nI 16) dX4_status_155 k_bp_16 ?_
  refine Go.callSi X  (d_within g w (nI 12) (nI 16)) cal_X4_within [] rfl rfl gX4_status_X4_within rfl rfl rfl dX4_status_157 ?_
  refine Go.if_eqB X 175 dX4_status_160 (by decide) (fun h160 => ?_) (fun h160 => ?_)
  · --
    refine Go.iconst X ((-1 : Int32)) dX4_status_175 k_ic_m1 ?_
    have e9 : x_status (N, K, b, z, le, rf, hd, ln, vl) w = ((N, K, b, z, le, rf, hd, ln, vl), (-1)) := by simp (decide := true) [x_status, rfS, upS_id, s3_0, s3_1, s3_2, s3_3, s3_4, s3_5, s3_6, s3_7, s3_8, s3_9, s3_10, s3_11, h160]
    have m9 : mOk (N, K, b, z, le, rf, hd, ln, vl) (6, at1, tk, so, va, lm, ol, ah, lt, lo) := ⟨rfl, hm.2.1, hm.2.2⟩
    exact Go.iret X E dX4_status_176 ⟨by rw [e9], _, by rw [e9]; exact m9, by rw [e9]⟩ rfl
  · --
    obtain ⟨wk, hwk, rfl⟩ := wi_at (by first | omega | (split <;> omega)) (by first | omega | (split <;> omega)) h160
    refine Go.aload_n X 1 dX4_status_163 rfl ?_
    refine Go.get X f_X4_status_32 0 (v := .ref (ad 8)) rfl rfl dX4_status_164 ?_
    refine Go.iload_n X 2 dX4_status_167 rfl ?_
    refine Go.bipush X (nI 10) dX4_status_168 k_bp_10 ?_
    refine Go.isub_e X (nI (wk - 10)) dX4_status_170 (pk_sub (by first | omega | (split <;> omega))) ?_
    refine Go.ialdF X 8 (f := rf7 rf) rfl (by first | omega | (split <;> omega)) rfl dX4_status_171 ?_
    refine Go.top (w := .int (rf (wk - 12))) (by rw [rf7_at rf (by omega)]) ?_
    refine Go.goto X 176 dX4_status_172 (by decide) ?_
    have e9 : x_status (N, K, b, z, le, rf, hd, ln, vl) (nI wk) = ((N, K, b, z, le, rf, hd, ln, vl), (rf (wk - 12))) := by simp (decide := true) [x_status, rfS, upS_id, s3_0, s3_1, s3_2, s3_3, s3_4, s3_5, s3_6, s3_7, s3_8, s3_9, s3_10, s3_11, h160, nI_clamp (show wk < 2 ^ 31 by omega)]
    have m9 : mOk (N, K, b, z, le, rf, hd, ln, vl) (6, at1, tk, so, va, lm, ol, ah, lt, lo) := ⟨rfl, hm.2.1, hm.2.2⟩
    exact Go.iret X E dX4_status_176 ⟨by rw [e9], _, by rw [e9]; exact m9, by rw [e9]⟩ rfl
