/-! 05.m4.bell -/
theorem f_X2_append_15 : FL wsX2_append RX2 15 2 1 := ⟨RX2, TX2, 5, rfl, fun _ h => List.mem_cons_of_mem _ (List.mem_append_right _ h), by decide, List.mem_of_getElem? (i := 1) (by decide +kernel)⟩
theorem f_X2_append_9 : FL wsX2_append RX2 9 2 0 := ⟨RX2, TX2, 5, rfl, fun _ h => List.mem_cons_of_mem _ (List.mem_append_right _ h), by decide, List.mem_of_getElem? (i := 2) (by decide +kernel)⟩
theorem fp_2_1 : FP 2 1 .int := ⟨RX2, TX2, 5, tyX2, rfl, tyX2_ok, nmX2, rfl, by decide +kernel⟩
theorem f_X3_refuse_35 : FL wsX3_refuse RX3 35 3 6 := ⟨RX3, TX3, 8, rfl, fun _ h => List.mem_cons_of_mem _ (List.mem_append_right _ h), by decide, List.mem_of_getElem? (i := 1) (by decide +kernel)⟩
theorem cal_X3_refuse : Cal yX3_refuse wsX3_refuse cX3_refuse 3 (some .int) RX3 1 := ⟨⟨_, rfl⟩, by decide +kernel⟩
theorem cal_X3_isShelf : Cal yX3_isShelf wsX3_isShelf cX3_isShelf 1 (some .boolean) RX3 1 := ⟨⟨_, rfl⟩, by decide +kernel⟩
theorem f_X3_row_31 : FL wsX3_row RX3 31 3 5 := ⟨RX3, TX3, 8, rfl, fun _ h => List.mem_cons_of_mem _ (List.mem_append_left _ (List.mem_append_right _ h)), by decide, List.mem_of_getElem? (i := 1) (by decide +kernel)⟩
theorem cal_X1_holdRow : Cal yX1_holdRow wsX1_holdRow cX1_holdRow 4 none RX1 2 := ⟨⟨_, rfl⟩, by decide +kernel⟩
theorem f_X3_element_31 : FL wsX3_element RX3 31 3 5 := ⟨RX3, TX3, 8, rfl, fun _ h => List.mem_cons_of_mem _ (List.mem_append_left _ (List.mem_append_right _ h)), by decide, List.mem_of_getElem? (i := 1) (by decide +kernel)⟩
theorem cal_X1_holdsRow : Cal yX1_holdsRow wsX1_holdsRow cX1_holdsRow 1 (some .boolean) RX1 0 := ⟨⟨_, rfl⟩, by decide +kernel⟩
theorem f_X3_element_84 : FL wsX3_element RX3 84 1 2 := ⟨RX1, TX1, 3, rfl, fun _ h => List.mem_cons_of_mem _ (List.mem_append_right _ h), by decide, List.mem_of_getElem? (i := 2) (by decide +kernel)⟩
theorem f_X3_holds_31 : FL wsX3_holds RX3 31 3 5 := ⟨RX3, TX3, 8, rfl, fun _ h => List.mem_cons_of_mem _ (List.mem_append_left _ (List.mem_append_right _ h)), by decide, List.mem_of_getElem? (i := 1) (by decide +kernel)⟩
theorem f_X3_holds_76 : FL wsX3_holds RX3 76 1 0 := ⟨RX1, TX1, 3, rfl, fun _ h => List.mem_cons_of_mem _ (List.mem_append_right _ h), by decide, List.mem_of_getElem? (i := 2) (by decide +kernel)⟩
theorem f_X3_show_31 : FL wsX3_show RX3 31 3 5 := ⟨RX3, TX3, 8, rfl, fun _ h => List.mem_cons_of_mem _ (List.mem_append_left _ (List.mem_append_left _ (List.mem_append_right _ h))), by decide, List.mem_of_getElem? (i := 2) (by decide +kernel)⟩
theorem cal_X1_holdNothing : Cal yX1_holdNothing wsX1_holdNothing cX1_holdNothing 1 none RX1 0 := ⟨⟨_, rfl⟩, by decide +kernel⟩
theorem f_X3_show_10 : FL wsX3_show RX3 10 3 0 := ⟨RX3, TX3, 8, rfl, fun _ h => List.mem_cons_of_mem _ (List.mem_append_left _ (List.mem_append_left _ (List.mem_append_right _ h))), by decide, List.mem_of_getElem? (i := 1) (by decide +kernel)⟩
theorem cal_X1_holdSomebody : Cal yX1_holdSomebody wsX1_holdSomebody cX1_holdSomebody 2 none RX1 1 := ⟨⟨_, rfl⟩, by decide +kernel⟩
theorem f_X3_term_10 : FL wsX3_term RX3 10 3 0 := ⟨RX3, TX3, 8, rfl, fun _ h => List.mem_cons_of_mem _ (List.mem_append_left _ (List.mem_append_right _ h)), by decide, List.mem_of_getElem? (i := 1) (by decide +kernel)⟩
theorem f_X3_term_117 : FL wsX3_term RX3 117 0 0 := ⟨RX0, TX0, 11, rfl, fun _ h => List.mem_cons_of_mem _ (List.mem_append_right _ h), by decide, List.mem_of_getElem? (i := 2) (by decide +kernel)⟩
theorem cal_X0_beginTerm : Cal yX0_beginTerm wsX0_beginTerm cX0_beginTerm 3 none RX0 1 := ⟨⟨_, rfl⟩, by decide +kernel⟩
theorem cal_X3_isKind : Cal yX3_isKind wsX3_isKind cX3_isKind 1 (some .boolean) RX3 1 := ⟨⟨_, rfl⟩, by decide +kernel⟩
theorem f_X3_person_10 : FL wsX3_person RX3 10 3 0 := ⟨RX3, TX3, 8, rfl, fun _ h => List.mem_cons_of_mem _ (List.mem_append_left _ (List.mem_append_right _ h)), by decide, List.mem_of_getElem? (i := 1) (by decide +kernel)⟩
theorem f_X3_person_123 : FL wsX3_person RX3 123 0 4 := ⟨RX0, TX0, 11, rfl, fun _ h => List.mem_cons_of_mem _ (List.mem_append_right _ h), by decide, List.mem_of_getElem? (i := 2) (by decide +kernel)⟩
theorem cal_X0_addSomebody : Cal yX0_addSomebody wsX0_addSomebody cX0_addSomebody 3 none RX0 2 := ⟨⟨_, rfl⟩, by decide +kernel⟩
theorem f_X3_allow_10 : FL wsX3_allow RX3 10 3 0 := ⟨RX3, TX3, 8, rfl, fun _ h => List.mem_cons_of_mem _ (List.mem_append_left _ (List.mem_append_right _ h)), by decide, List.mem_of_getElem? (i := 1) (by decide +kernel)⟩
theorem cal_X0_isMorning : Cal yX0_isMorning wsX0_isMorning cX0_isMorning 2 (some .boolean) RX0 1 := ⟨⟨_, rfl⟩, by decide +kernel⟩
theorem f_X3_allow_135 : FL wsX3_allow RX3 135 0 1 := ⟨RX0, TX0, 11, rfl, fun _ h => List.mem_cons_of_mem _ (List.mem_append_right _ h), by decide, List.mem_of_getElem? (i := 2) (by decide +kernel)⟩
theorem f_X3_weight_10 : FL wsX3_weight RX3 10 3 0 := ⟨RX3, TX3, 8, rfl, fun _ h => List.mem_cons_of_mem _ (List.mem_append_left _ (List.mem_append_right _ h)), by decide, List.mem_of_getElem? (i := 1) (by decide +kernel)⟩
theorem f_X3_weight_138 : FL wsX3_weight RX3 138 0 2 := ⟨RX0, TX0, 11, rfl, fun _ h => List.mem_cons_of_mem _ (List.mem_append_right _ h), by decide, List.mem_of_getElem? (i := 2) (by decide +kernel)⟩
theorem f_X3_say_10 : FL wsX3_say RX3 10 3 0 := ⟨RX3, TX3, 8, rfl, fun _ h => List.mem_cons_of_mem _ (List.mem_append_left _ (List.mem_append_right _ h)), by decide, List.mem_of_getElem? (i := 1) (by decide +kernel)⟩
theorem f_X3_say_141 : FL wsX3_say RX3 141 0 3 := ⟨RX0, TX0, 11, rfl, fun _ h => List.mem_cons_of_mem _ (List.mem_append_right _ h), by decide, List.mem_of_getElem? (i := 2) (by decide +kernel)⟩
theorem f_X3_unsay_10 : FL wsX3_unsay RX3 10 3 0 := ⟨RX3, TX3, 8, rfl, fun _ h => List.mem_cons_of_mem _ (List.mem_append_left _ (List.mem_append_right _ h)), by decide, List.mem_of_getElem? (i := 1) (by decide +kernel)⟩
theorem f_X3_unsay_141 : FL wsX3_unsay RX3 141 0 3 := ⟨RX0, TX0, 11, rfl, fun _ h => List.mem_cons_of_mem _ (List.mem_append_right _ h), by decide, List.mem_of_getElem? (i := 2) (by decide +kernel)⟩
theorem f_X3_learn_10 : FL wsX3_learn RX3 10 3 0 := ⟨RX3, TX3, 8, rfl, fun _ h => List.mem_cons_of_mem _ (List.mem_append_left _ (List.mem_append_right _ h)), by decide, List.mem_of_getElem? (i := 1) (by decide +kernel)⟩
theorem f_X3_learn_153 : FL wsX3_learn RX3 153 0 6 := ⟨RX0, TX0, 11, rfl, fun _ h => List.mem_cons_of_mem _ (List.mem_append_right _ h), by decide, List.mem_of_getElem? (i := 2) (by decide +kernel)⟩
theorem f_X3_seed_10 : FL wsX3_seed RX3 10 3 0 := ⟨RX3, TX3, 8, rfl, fun _ h => List.mem_cons_of_mem _ (List.mem_append_left _ (List.mem_append_right _ h)), by decide, List.mem_of_getElem? (i := 1) (by decide +kernel)⟩
theorem f_X3_seed_162 : FL wsX3_seed RX3 162 0 7 := ⟨RX0, TX0, 11, rfl, fun _ h => List.mem_cons_of_mem _ (List.mem_append_right _ h), by decide, List.mem_of_getElem? (i := 2) (by decide +kernel)⟩
theorem f_X3_image_19 : FL wsX3_image RX3 19 3 2 := ⟨RX3, TX3, 8, rfl, fun _ h => List.mem_cons_of_mem _ (List.mem_append_left _ (List.mem_append_right _ h)), by decide, List.mem_of_getElem? (i := 1) (by decide +kernel)⟩
theorem f_X3_image_10 : FL wsX3_image RX3 10 3 0 := ⟨RX3, TX3, 8, rfl, fun _ h => List.mem_cons_of_mem _ (List.mem_append_left _ (List.mem_append_right _ h)), by decide, List.mem_of_getElem? (i := 2) (by decide +kernel)⟩
theorem cal_X0_become : Cal yX0_become wsX0_become cX0_become 2 none RX0 1 := ⟨⟨_, rfl⟩, by decide +kernel⟩
theorem f_X3_image_169 : FL wsX3_image RX3 169 3 3 := ⟨RX3, TX3, 8, rfl, fun _ h => List.mem_cons_of_mem _ (List.mem_append_left _ (List.mem_append_right _ h)), by decide, List.mem_of_getElem? (i := 3) (by decide +kernel)⟩
theorem fp_3_3 : FP 3 3 .boolean := ⟨RX3, TX3, 8, tyX3, rfl, tyX3_ok, nmX3, rfl, by decide +kernel⟩
theorem f_X3_wipe_25 : FL wsX3_wipe RX3 25 3 4 := ⟨RX3, TX3, 8, rfl, fun _ h => List.mem_cons_of_mem _ (List.mem_append_left _ (List.mem_append_right _ h)), by decide, List.mem_of_getElem? (i := 1) (by decide +kernel)⟩
theorem f_X3_wipe_173 : FL wsX3_wipe RX3 173 2 1 := ⟨RX2, TX2, 5, rfl, fun _ h => List.mem_cons_of_mem _ (List.mem_append_right _ h), by decide, List.mem_of_getElem? (i := 2) (by decide +kernel)⟩
theorem f_X3_feed_25 : FL wsX3_feed RX3 25 3 4 := ⟨RX3, TX3, 8, rfl, fun _ h => List.mem_cons_of_mem _ (List.mem_append_left _ (List.mem_append_right _ h)), by decide, List.mem_of_getElem? (i := 1) (by decide +kernel)⟩
theorem f_X3_feed_173 : FL wsX3_feed RX3 173 2 1 := ⟨RX2, TX2, 5, rfl, fun _ h => List.mem_cons_of_mem _ (List.mem_append_right _ h), by decide, List.mem_of_getElem? (i := 2) (by decide +kernel)⟩
theorem cal_X2_append : Cal yX2_append wsX2_append cX2_append 2 none RX2 1 := ⟨⟨_, rfl⟩, by decide +kernel⟩
theorem f_X3_forgetWhoIsGone_31 : FL wsX3_forgetWhoIsGone RX3 31 3 5 := ⟨RX3, TX3, 8, rfl, fun _ h => List.mem_cons_of_mem _ (List.mem_append_left _ (List.mem_append_left _ (List.mem_append_right _ h))), by decide, List.mem_of_getElem? (i := 1) (by decide +kernel)⟩
theorem f_X3_forgetWhoIsGone_76 : FL wsX3_forgetWhoIsGone RX3 76 1 0 := ⟨RX1, TX1, 3, rfl, fun _ h => List.mem_cons_of_mem _ (List.mem_append_left _ (List.mem_append_right _ h)), by decide, List.mem_of_getElem? (i := 2) (by decide +kernel)⟩
theorem f_X3_forgetWhoIsGone_10 : FL wsX3_forgetWhoIsGone RX3 10 3 0 := ⟨RX3, TX3, 8, rfl, fun _ h => List.mem_cons_of_mem _ (List.mem_append_left _ (List.mem_append_left _ (List.mem_append_right _ h))), by decide, List.mem_of_getElem? (i := 3) (by decide +kernel)⟩
theorem f_X3_forgetWhoIsGone_123 : FL wsX3_forgetWhoIsGone RX3 123 0 4 := ⟨RX0, TX0, 11, rfl, fun _ h => List.mem_cons_of_mem _ (List.mem_append_right _ h), by decide, List.mem_of_getElem? (i := 4) (by decide +kernel)⟩
theorem f_X3_leave_10 : FL wsX3_leave RX3 10 3 0 := ⟨RX3, TX3, 8, rfl, fun _ h => List.mem_cons_of_mem _ (List.mem_append_left _ (List.mem_append_left _ (List.mem_append_right _ h))), by decide, List.mem_of_getElem? (i := 1) (by decide +kernel)⟩
theorem f_X3_leave_123 : FL wsX3_leave RX3 123 0 4 := ⟨RX0, TX0, 11, rfl, fun _ h => List.mem_cons_of_mem _ (List.mem_append_left _ (List.mem_append_right _ h)), by decide, List.mem_of_getElem? (i := 2) (by decide +kernel)⟩
theorem cal_X0_removeSomebody : Cal yX0_removeSomebody wsX0_removeSomebody cX0_removeSomebody 3 none RX0 1 := ⟨⟨_, rfl⟩, by decide +kernel⟩
theorem cal_X3_forgetWhoIsGone : Cal yX3_forgetWhoIsGone wsX3_forgetWhoIsGone cX3_forgetWhoIsGone 2 none RX3 0 := ⟨⟨_, rfl⟩, by decide +kernel⟩
theorem f_X3_back_169 : FL wsX3_back RX3 169 3 3 := ⟨RX3, TX3, 8, rfl, fun _ h => List.mem_cons_of_mem _ (List.mem_append_left _ (List.mem_append_left _ (List.mem_append_right _ h))), by decide, List.mem_of_getElem? (i := 1) (by decide +kernel)⟩
theorem f_X3_back_10 : FL wsX3_back RX3 10 3 0 := ⟨RX3, TX3, 8, rfl, fun _ h => List.mem_cons_of_mem _ (List.mem_append_left _ (List.mem_append_left _ (List.mem_append_right _ h))), by decide, List.mem_of_getElem? (i := 2) (by decide +kernel)⟩
theorem f_X3_back_19 : FL wsX3_back RX3 19 3 2 := ⟨RX3, TX3, 8, rfl, fun _ h => List.mem_cons_of_mem _ (List.mem_append_left _ (List.mem_append_left _ (List.mem_append_right _ h))), by decide, List.mem_of_getElem? (i := 3) (by decide +kernel)⟩
theorem k_sp_250 : (Int16.ofInt (250)).toInt32 = nI 250 := by decide
theorem k_bp_m2 : (Int8.ofInt (-2)).toInt32 = (-2 : Int32) := by decide
theorem k_bp_m6 : (Int8.ofInt (-6)).toInt32 = (-6 : Int32) := by decide
theorem k_bp_m5 : (Int8.ofInt (-5)).toInt32 = (-5 : Int32) := by decide
set_option maxHeartbeats 4000000 in
set_option maxRecDepth 100000 in
theorem c_append (g : gT) (a : Nat) (q : Nat) (z : Nat) (le : Nat → Nat) (ts : Nat) (te : Nat) (tk : Nat) (v : Nat) (hz : z < 250) : Cw g yX2_append wsX2_append 0 0 [.ref a, .int (nI v)] (tpW g a q z le ts te tk) none (tpW g a q (z + 1) (updN le z v) ts te tk) := by
  refine Ct.start (cc := cX2_append) (nL := 2) (ret := none) (own := RX2) (by decide) rfl rfl rfl ?_
  intro Γ X E
  show Go Γ g 2 (rmC 0 0) 0 0 (tpW g a q z le ts te tk) 0 [(0, .ref a), (1, .int (nI v))] []
  refine Go.aload_n X 0 dX2_append_0 rfl ?_
  refine Go.get X f_X2_append_15 0 (v := .int (nI z)) rfl rfl dX2_append_1 ?_
  refine Go.sipush X (nI 250) dX2_append_4 k_sp_250 ?_
  refine Go.icmp_geN X 30 dX2_append_7 (by decide) (by first | omega | (split <;> omega)) (by decide) (fun h7 => ?_) (fun h7 => ?_)
  · --
    exact absurd h7 (by omega)
  · --
    refine Go.aload_n X 0 dX2_append_10 rfl ?_
    refine Go.get X f_X2_append_9 0 (v := .ref q) rfl rfl dX2_append_11 ?_
    refine Go.aload_n X 0 dX2_append_14 rfl ?_
    refine Go.get X f_X2_append_15 0 (v := .int (nI z)) rfl rfl dX2_append_15 ?_
    refine Go.iload_n X 1 dX2_append_18 rfl ?_
    refine Go.iastNM X 1 (tpW g a q z (updN le z v) ts te tk) (w := le) rfl (by first | omega | (split <;> omega)) rfl dX2_append_19 rfl ?_
    refine Go.aload_n X 0 dX2_append_20 rfl ?_
    refine Go.dup X dX2_append_21 rfl ?_
    refine Go.get X f_X2_append_15 0 (v := .int (nI z)) rfl rfl dX2_append_22 ?_
    refine Go.iconst X (nI 1) dX2_append_25 k_ic_1 ?_
    refine Go.iadd_e X (nI (z + 1)) dX2_append_26 (nI_add _ _) ?_
    refine Go.putM X f_X2_append_15 fp_2_1 0 (tpW g a q (z + 1) (updN le z v) ts te tk) rfl rfl rfl rfl dX2_append_27 rfl ?_
    exact Go.vret X E dX2_append_30 ⟨rfl, rfl⟩ rfl
theorem c_within_1 (g : gT) (v : Int32) : Cw g yX3_isWithin wsX3_isWithin 0 0 [.int v, .int (nI 0), .int (nI 1)] ([]) (some (.int (b2i (inb v 2)))) ([]) := by
  rw [← wi_inb (x := v) (n := 2) (by decide) (by decide)]
  exact c_isWithin g v (nI 0) (nI 1)
theorem c_within_4 (g : gT) (v : Int32) : Cw g yX3_isWithin wsX3_isWithin 0 0 [.int v, .int (nI 0), .int (nI 4)] ([]) (some (.int (b2i (inb v 5)))) ([]) := by
  rw [← wi_inb (x := v) (n := 5) (by decide) (by decide)]
  exact c_isWithin g v (nI 0) (nI 4)
theorem c_within_8 (g : gT) (v : Int32) : Cw g yX3_isWithin wsX3_isWithin 0 0 [.int v, .int (nI 0), .int (nI 8)] ([]) (some (.int (b2i (inb v 9)))) ([]) := by
  rw [← wi_inb (x := v) (n := 9) (by decide) (by decide)]
  exact c_isWithin g v (nI 0) (nI 8)
theorem c_within_9 (g : gT) (v : Int32) : Cw g yX3_isWithin wsX3_isWithin 0 0 [.int v, .int (nI 0), .int (nI 9)] ([]) (some (.int (b2i (inb v 10)))) ([]) := by
  rw [← wi_inb (x := v) (n := 10) (by decide) (by decide)]
  exact c_isWithin g v (nI 0) (nI 9)
theorem c_within_40 (g : gT) (v : Int32) : Cw g yX3_isWithin wsX3_isWithin 0 0 [.int v, .int (nI 0), .int (nI 40)] ([]) (some (.int (b2i (inb v 41)))) ([]) := by
  rw [← wi_inb (x := v) (n := 41) (by decide) (by decide)]
  exact c_isWithin g v (nI 0) (nI 40)
theorem c_within_5 (g : gT) (v : Int32) : Cw g yX3_isWithin wsX3_isWithin 0 0 [.int v, .int (nI 0), .int (nI 5)] ([]) (some (.int (b2i (inb v 6)))) ([]) := by
  rw [← wi_inb (x := v) (n := 6) (by decide) (by decide)]
  exact c_isWithin g v (nI 0) (nI 5)
theorem c_within_255 (g : gT) (v : Int32) : Cw g yX3_isWithin wsX3_isWithin 0 0 [.int v, .int (nI 0), .int (nI 255)] ([]) (some (.int (b2i (inb v 256)))) ([]) := by
  rw [← wi_inb (x := v) (n := 256) (by decide) (by decide)]
  exact c_isWithin g v (nI 0) (nI 255)
set_option maxHeartbeats 4000000 in
set_option maxRecDepth 100000 in
theorem c_refuse_0 (g : gT) (ad : Nat → Nat) (N : Sch) (K : Sch) (b : Bool) (z : Nat) (le : Nat → Nat) (rf : Nat → Int32) (hd : Nat → Int32) (ln : Nat → Nat) (vl : Nat → Nat → Int64) (T : Sch) (ts : Nat) (te : Nat) (tk : Nat) (br : Nat → Nat)  : Cw g yX3_refuse wsX3_refuse 1 22 [.ref (ad 0), .int (-2)] (bxW g ad (N, K, b, z, le, rf, hd, ln, vl) (T, ts, te, tk, br)) (some (.int (-2))) (bxW g ad (N, K, b, z, le, inc rf 0, hd, ln, vl) (T, ts, te, tk, br)) := by
  refine Ct.start (cc := cX3_refuse) (nL := 3) (ret := (some .int)) (own := RX3) (by decide) rfl rfl rfl ?_
  intro Γ X E
  show Go Γ g 3 (rmC 1 22) 0 0 (bxW g ad (N, K, b, z, le, rf, hd, ln, vl) (T, ts, te, tk, br)) 0 [(0, .ref (ad 0)), (1, .int (-2))] []
  refine Go.bipush X ((-2 : Int32)) dX3_refuse_0 k_bp_m2 ?_
  refine Go.iload_n X 1 dX3_refuse_2 rfl ?_
  refine Go.isub_e X (nI 0) dX3_refuse_3 (by decide) ?_
  refine Go.istore_n_new X dX3_refuse_4 (by decide) rfl ?_
  refine Go.iload_n X 0 dX3_refuse_5 rfl ?_
  refine Go.iconst X (nI 0) dX3_refuse_6 k_ic_0 ?_
  refine Go.iconst X (nI 4) dX3_refuse_7 k_ic_4 ?_
  refine Go.callSi X  (c_within_4 g (nI 0)) cal_X3_isWithin [] rfl rfl gX3_refuse_X3_isWithin rfl rfl rfl dX3_refuse_8 ?_
  refine Go.if_eqB X 24 dX3_refuse_11 (by decide) (fun h11 => ?_) (fun h11 => ?_)
  · --
    exact absurd h11 (by decide)
  · --
    refine Go.aload_n X 1 dX3_refuse_14 rfl ?_
    refine Go.get X f_X3_refuse_35 0 (v := .ref (ad 16)) rfl rfl dX3_refuse_15 ?_
    refine Go.iload_n X 0 dX3_refuse_18 rfl ?_
    refine Go.dup2 X dX3_refuse_19 rfl rfl ?_
    refine Go.ialdF X 16 (f := rf) rfl (by first | omega | (split <;> omega)) rfl dX3_refuse_20 ?_
    refine Go.iconst X (nI 1) dX3_refuse_21 k_ic_1 ?_
    refine Go.iadd_e X ((rf 0) + (nI 1)) dX3_refuse_22 rfl ?_
    refine Go.iastFM X 16 (bxW g ad (N, K, b, z, le, upd rf 0 ((rf 0) + (nI 1)), hd, ln, vl) (T, ts, te, tk, br)) (f := rf) rfl (by first | omega | (split <;> omega)) rfl dX3_refuse_23 rfl ?_
    refine Go.iload_n X 2 dX3_refuse_24 rfl ?_
    exact Go.iret X E dX3_refuse_25 ⟨rfl, (by rfl)⟩ rfl
set_option maxHeartbeats 4000000 in
set_option maxRecDepth 100000 in
theorem c_refuse_1 (g : gT) (ad : Nat → Nat) (N : Sch) (K : Sch) (b : Bool) (z : Nat) (le : Nat → Nat) (rf : Nat → Int32) (hd : Nat → Int32) (ln : Nat → Nat) (vl : Nat → Nat → Int64) (T : Sch) (ts : Nat) (te : Nat) (tk : Nat) (br : Nat → Nat)  : Cw g yX3_refuse wsX3_refuse 1 22 [.ref (ad 0), .int (-3)] (bxW g ad (N, K, b, z, le, rf, hd, ln, vl) (T, ts, te, tk, br)) (some (.int (-3))) (bxW g ad (N, K, b, z, le, inc rf 1, hd, ln, vl) (T, ts, te, tk, br)) := by
  refine Ct.start (cc := cX3_refuse) (nL := 3) (ret := (some .int)) (own := RX3) (by decide) rfl rfl rfl ?_
  intro Γ X E
  show Go Γ g 3 (rmC 1 22) 0 0 (bxW g ad (N, K, b, z, le, rf, hd, ln, vl) (T, ts, te, tk, br)) 0 [(0, .ref (ad 0)), (1, .int (-3))] []
  refine Go.bipush X ((-2 : Int32)) dX3_refuse_0 k_bp_m2 ?_
  refine Go.iload_n X 1 dX3_refuse_2 rfl ?_
  refine Go.isub_e X (nI 1) dX3_refuse_3 (by decide) ?_
  refine Go.istore_n_new X dX3_refuse_4 (by decide) rfl ?_
  refine Go.iload_n X 0 dX3_refuse_5 rfl ?_
  refine Go.iconst X (nI 0) dX3_refuse_6 k_ic_0 ?_
  refine Go.iconst X (nI 4) dX3_refuse_7 k_ic_4 ?_
  refine Go.callSi X  (c_within_4 g (nI 1)) cal_X3_isWithin [] rfl rfl gX3_refuse_X3_isWithin rfl rfl rfl dX3_refuse_8 ?_
  refine Go.if_eqB X 24 dX3_refuse_11 (by decide) (fun h11 => ?_) (fun h11 => ?_)
  · --
    exact absurd h11 (by decide)
  · --
    refine Go.aload_n X 1 dX3_refuse_14 rfl ?_
    refine Go.get X f_X3_refuse_35 0 (v := .ref (ad 16)) rfl rfl dX3_refuse_15 ?_
    refine Go.iload_n X 0 dX3_refuse_18 rfl ?_
    refine Go.dup2 X dX3_refuse_19 rfl rfl ?_
    refine Go.ialdF X 16 (f := rf) rfl (by first | omega | (split <;> omega)) rfl dX3_refuse_20 ?_
    refine Go.iconst X (nI 1) dX3_refuse_21 k_ic_1 ?_
    refine Go.iadd_e X ((rf 1) + (nI 1)) dX3_refuse_22 rfl ?_
    refine Go.iastFM X 16 (bxW g ad (N, K, b, z, le, upd rf 1 ((rf 1) + (nI 1)), hd, ln, vl) (T, ts, te, tk, br)) (f := rf) rfl (by first | omega | (split <;> omega)) rfl dX3_refuse_23 rfl ?_
    refine Go.iload_n X 2 dX3_refuse_24 rfl ?_
    exact Go.iret X E dX3_refuse_25 ⟨rfl, (by rfl)⟩ rfl
set_option maxHeartbeats 4000000 in
set_option maxRecDepth 100000 in
theorem c_refuse_2 (g : gT) (ad : Nat → Nat) (N : Sch) (K : Sch) (b : Bool) (z : Nat) (le : Nat → Nat) (rf : Nat → Int32) (hd : Nat → Int32) (ln : Nat → Nat) (vl : Nat → Nat → Int64) (T : Sch) (ts : Nat) (te : Nat) (tk : Nat) (br : Nat → Nat)  : Cw g yX3_refuse wsX3_refuse 1 22 [.ref (ad 0), .int (-4)] (bxW g ad (N, K, b, z, le, rf, hd, ln, vl) (T, ts, te, tk, br)) (some (.int (-4))) (bxW g ad (N, K, b, z, le, inc rf 2, hd, ln, vl) (T, ts, te, tk, br)) := by
  refine Ct.start (cc := cX3_refuse) (nL := 3) (ret := (some .int)) (own := RX3) (by decide) rfl rfl rfl ?_
  intro Γ X E
  show Go Γ g 3 (rmC 1 22) 0 0 (bxW g ad (N, K, b, z, le, rf, hd, ln, vl) (T, ts, te, tk, br)) 0 [(0, .ref (ad 0)), (1, .int (-4))] []
  refine Go.bipush X ((-2 : Int32)) dX3_refuse_0 k_bp_m2 ?_
  refine Go.iload_n X 1 dX3_refuse_2 rfl ?_
  refine Go.isub_e X (nI 2) dX3_refuse_3 (by decide) ?_
  refine Go.istore_n_new X dX3_refuse_4 (by decide) rfl ?_
  refine Go.iload_n X 0 dX3_refuse_5 rfl ?_
  refine Go.iconst X (nI 0) dX3_refuse_6 k_ic_0 ?_
  refine Go.iconst X (nI 4) dX3_refuse_7 k_ic_4 ?_
  refine Go.callSi X  (c_within_4 g (nI 2)) cal_X3_isWithin [] rfl rfl gX3_refuse_X3_isWithin rfl rfl rfl dX3_refuse_8 ?_
  refine Go.if_eqB X 24 dX3_refuse_11 (by decide) (fun h11 => ?_) (fun h11 => ?_)
  · --
    exact absurd h11 (by decide)
  · --
    refine Go.aload_n X 1 dX3_refuse_14 rfl ?_
    refine Go.get X f_X3_refuse_35 0 (v := .ref (ad 16)) rfl rfl dX3_refuse_15 ?_
    refine Go.iload_n X 0 dX3_refuse_18 rfl ?_
    refine Go.dup2 X dX3_refuse_19 rfl rfl ?_
    refine Go.ialdF X 16 (f := rf) rfl (by first | omega | (split <;> omega)) rfl dX3_refuse_20 ?_
    refine Go.iconst X (nI 1) dX3_refuse_21 k_ic_1 ?_
    refine Go.iadd_e X ((rf 2) + (nI 1)) dX3_refuse_22 rfl ?_
    refine Go.iastFM X 16 (bxW g ad (N, K, b, z, le, upd rf 2 ((rf 2) + (nI 1)), hd, ln, vl) (T, ts, te, tk, br)) (f := rf) rfl (by first | omega | (split <;> omega)) rfl dX3_refuse_23 rfl ?_
    refine Go.iload_n X 2 dX3_refuse_24 rfl ?_
    exact Go.iret X E dX3_refuse_25 ⟨rfl, (by rfl)⟩ rfl
set_option maxHeartbeats 4000000 in
set_option maxRecDepth 100000 in
theorem c_refuse_3 (g : gT) (ad : Nat → Nat) (N : Sch) (K : Sch) (b : Bool) (z : Nat) (le : Nat → Nat) (rf : Nat → Int32) (hd : Nat → Int32) (ln : Nat → Nat) (vl : Nat → Nat → Int64) (T : Sch) (ts : Nat) (te : Nat) (tk : Nat) (br : Nat → Nat)  : Cw g yX3_refuse wsX3_refuse 1 22 [.ref (ad 0), .int (-5)] (bxW g ad (N, K, b, z, le, rf, hd, ln, vl) (T, ts, te, tk, br)) (some (.int (-5))) (bxW g ad (N, K, b, z, le, inc rf 3, hd, ln, vl) (T, ts, te, tk, br)) := by
  refine Ct.start (cc := cX3_refuse) (nL := 3) (ret := (some .int)) (own := RX3) (by decide) rfl rfl rfl ?_
  intro Γ X E
  show Go Γ g 3 (rmC 1 22) 0 0 (bxW g ad (N, K, b, z, le, rf, hd, ln, vl) (T, ts, te, tk, br)) 0 [(0, .ref (ad 0)), (1, .int (-5))] []
  refine Go.bipush X ((-2 : Int32)) dX3_refuse_0 k_bp_m2 ?_
  refine Go.iload_n X 1 dX3_refuse_2 rfl ?_
  refine Go.isub_e X (nI 3) dX3_refuse_3 (by decide) ?_
  refine Go.istore_n_new X dX3_refuse_4 (by decide) rfl ?_
  refine Go.iload_n X 0 dX3_refuse_5 rfl ?_
  refine Go.iconst X (nI 0) dX3_refuse_6 k_ic_0 ?_
  refine Go.iconst X (nI 4) dX3_refuse_7 k_ic_4 ?_
  refine Go.callSi X  (c_within_4 g (nI 3)) cal_X3_isWithin [] rfl rfl gX3_refuse_X3_isWithin rfl rfl rfl dX3_refuse_8 ?_
  refine Go.if_eqB X 24 dX3_refuse_11 (by decide) (fun h11 => ?_) (fun h11 => ?_)
  · --
    exact absurd h11 (by decide)
  · --
    refine Go.aload_n X 1 dX3_refuse_14 rfl ?_
    refine Go.get X f_X3_refuse_35 0 (v := .ref (ad 16)) rfl rfl dX3_refuse_15 ?_
    refine Go.iload_n X 0 dX3_refuse_18 rfl ?_
    refine Go.dup2 X dX3_refuse_19 rfl rfl ?_
    refine Go.ialdF X 16 (f := rf) rfl (by first | omega | (split <;> omega)) rfl dX3_refuse_20 ?_
    refine Go.iconst X (nI 1) dX3_refuse_21 k_ic_1 ?_
    refine Go.iadd_e X ((rf 3) + (nI 1)) dX3_refuse_22 rfl ?_
    refine Go.iastFM X 16 (bxW g ad (N, K, b, z, le, upd rf 3 ((rf 3) + (nI 1)), hd, ln, vl) (T, ts, te, tk, br)) (f := rf) rfl (by first | omega | (split <;> omega)) rfl dX3_refuse_23 rfl ?_
    refine Go.iload_n X 2 dX3_refuse_24 rfl ?_
    exact Go.iret X E dX3_refuse_25 ⟨rfl, (by rfl)⟩ rfl
set_option maxHeartbeats 4000000 in
set_option maxRecDepth 100000 in
theorem c_refuse_4 (g : gT) (ad : Nat → Nat) (N : Sch) (K : Sch) (b : Bool) (z : Nat) (le : Nat → Nat) (rf : Nat → Int32) (hd : Nat → Int32) (ln : Nat → Nat) (vl : Nat → Nat → Int64) (T : Sch) (ts : Nat) (te : Nat) (tk : Nat) (br : Nat → Nat)  : Cw g yX3_refuse wsX3_refuse 1 22 [.ref (ad 0), .int (-6)] (bxW g ad (N, K, b, z, le, rf, hd, ln, vl) (T, ts, te, tk, br)) (some (.int (-6))) (bxW g ad (N, K, b, z, le, inc rf 4, hd, ln, vl) (T, ts, te, tk, br)) := by
  refine Ct.start (cc := cX3_refuse) (nL := 3) (ret := (some .int)) (own := RX3) (by decide) rfl rfl rfl ?_
  intro Γ X E
  show Go Γ g 3 (rmC 1 22) 0 0 (bxW g ad (N, K, b, z, le, rf, hd, ln, vl) (T, ts, te, tk, br)) 0 [(0, .ref (ad 0)), (1, .int (-6))] []
  refine Go.bipush X ((-2 : Int32)) dX3_refuse_0 k_bp_m2 ?_
  refine Go.iload_n X 1 dX3_refuse_2 rfl ?_
  refine Go.isub_e X (nI 4) dX3_refuse_3 (by decide) ?_
  refine Go.istore_n_new X dX3_refuse_4 (by decide) rfl ?_
  refine Go.iload_n X 0 dX3_refuse_5 rfl ?_
  refine Go.iconst X (nI 0) dX3_refuse_6 k_ic_0 ?_
  refine Go.iconst X (nI 4) dX3_refuse_7 k_ic_4 ?_
  refine Go.callSi X  (c_within_4 g (nI 4)) cal_X3_isWithin [] rfl rfl gX3_refuse_X3_isWithin rfl rfl rfl dX3_refuse_8 ?_
  refine Go.if_eqB X 24 dX3_refuse_11 (by decide) (fun h11 => ?_) (fun h11 => ?_)
  · --
    exact absurd h11 (by decide)
  · --
    refine Go.aload_n X 1 dX3_refuse_14 rfl ?_
    refine Go.get X f_X3_refuse_35 0 (v := .ref (ad 16)) rfl rfl dX3_refuse_15 ?_
    refine Go.iload_n X 0 dX3_refuse_18 rfl ?_
    refine Go.dup2 X dX3_refuse_19 rfl rfl ?_
    refine Go.ialdF X 16 (f := rf) rfl (by first | omega | (split <;> omega)) rfl dX3_refuse_20 ?_
    refine Go.iconst X (nI 1) dX3_refuse_21 k_ic_1 ?_
    refine Go.iadd_e X ((rf 4) + (nI 1)) dX3_refuse_22 rfl ?_
    refine Go.iastFM X 16 (bxW g ad (N, K, b, z, le, upd rf 4 ((rf 4) + (nI 1)), hd, ln, vl) (T, ts, te, tk, br)) (f := rf) rfl (by first | omega | (split <;> omega)) rfl dX3_refuse_23 rfl ?_
    refine Go.iload_n X 2 dX3_refuse_24 rfl ?_
    exact Go.iret X E dX3_refuse_25 ⟨rfl, (by rfl)⟩ rfl
set_option maxHeartbeats 4000000 in
set_option maxRecDepth 100000 in
theorem c_refuseFar_0 (g : gT) (ad : Nat → Nat) (N : Sch) (K : Sch) (b : Bool) (z : Nat) (le : Nat → Nat) (rf : Nat → Int32) (hd : Nat → Int32) (ln : Nat → Nat) (vl : Nat → Nat → Int64) (T : Sch) (ts : Nat) (te : Nat) (tk : Nat) (br : Nat → Nat)  : Cw g yX3_refuseFarBelow wsX3_refuseFarBelow 2 44 [.ref (ad 0), .int (-2)] (bxW g ad (N, K, b, z, le, rf, hd, ln, vl) (T, ts, te, tk, br)) (some (.int (-10000002))) (bxW g ad (N, K, b, z, le, inc rf 0, hd, ln, vl) (T, ts, te, tk, br)) := by
  refine Ct.start (cc := cX3_refuseFarBelow) (nL := 2) (ret := (some .int)) (own := RX3) (by decide) rfl rfl rfl ?_
  intro Γ X E
  show Go Γ g 2 (rmC 2 44) 0 0 (bxW g ad (N, K, b, z, le, rf, hd, ln, vl) (T, ts, te, tk, br)) 0 [(0, .ref (ad 0)), (1, .int (-2))] []
  refine Go.ldcw X (-10000000) dX3_refuseFarBelow_0 (List.mem_of_getElem? (i := 1) (by decide +kernel)) ?_
  refine Go.aload_n X 0 dX3_refuseFarBelow_3 rfl ?_
  refine Go.iload_n X 1 dX3_refuseFarBelow_4 rfl ?_
  refine Go.callV0i X (c_refuse_0 g ad N K b z le rf hd ln vl T ts te tk br) cal_X3_refuse gX3_refuseFarBelow_X3_refuse (ci := 3) (q0 := 0) rfl rfl rfl rfl rfl dX3_refuseFarBelow_5 ?_
  refine Go.iadd_e X (-10000002) dX3_refuseFarBelow_8 (by decide) ?_
  exact Go.iret X E dX3_refuseFarBelow_9 ⟨rfl, rfl⟩ rfl
set_option maxHeartbeats 4000000 in
set_option maxRecDepth 100000 in
theorem c_refuseFar_1 (g : gT) (ad : Nat → Nat) (N : Sch) (K : Sch) (b : Bool) (z : Nat) (le : Nat → Nat) (rf : Nat → Int32) (hd : Nat → Int32) (ln : Nat → Nat) (vl : Nat → Nat → Int64) (T : Sch) (ts : Nat) (te : Nat) (tk : Nat) (br : Nat → Nat)  : Cw g yX3_refuseFarBelow wsX3_refuseFarBelow 2 44 [.ref (ad 0), .int (-3)] (bxW g ad (N, K, b, z, le, rf, hd, ln, vl) (T, ts, te, tk, br)) (some (.int (-10000003))) (bxW g ad (N, K, b, z, le, inc rf 1, hd, ln, vl) (T, ts, te, tk, br)) := by
  refine Ct.start (cc := cX3_refuseFarBelow) (nL := 2) (ret := (some .int)) (own := RX3) (by decide) rfl rfl rfl ?_
  intro Γ X E
  show Go Γ g 2 (rmC 2 44) 0 0 (bxW g ad (N, K, b, z, le, rf, hd, ln, vl) (T, ts, te, tk, br)) 0 [(0, .ref (ad 0)), (1, .int (-3))] []
  refine Go.ldcw X (-10000000) dX3_refuseFarBelow_0 (List.mem_of_getElem? (i := 1) (by decide +kernel)) ?_
  refine Go.aload_n X 0 dX3_refuseFarBelow_3 rfl ?_
  refine Go.iload_n X 1 dX3_refuseFarBelow_4 rfl ?_
  refine Go.callV0i X (c_refuse_1 g ad N K b z le rf hd ln vl T ts te tk br) cal_X3_refuse gX3_refuseFarBelow_X3_refuse (ci := 3) (q0 := 0) rfl rfl rfl rfl rfl dX3_refuseFarBelow_5 ?_
  refine Go.iadd_e X (-10000003) dX3_refuseFarBelow_8 (by decide) ?_
  exact Go.iret X E dX3_refuseFarBelow_9 ⟨rfl, rfl⟩ rfl
set_option maxHeartbeats 4000000 in
set_option maxRecDepth 100000 in
theorem c_refuseFar_2 (g : gT) (ad : Nat → Nat) (N : Sch) (K : Sch) (b : Bool) (z : Nat) (le : Nat → Nat) (rf : Nat → Int32) (hd : Nat → Int32) (ln : Nat → Nat) (vl : Nat → Nat → Int64) (T : Sch) (ts : Nat) (te : Nat) (tk : Nat) (br : Nat → Nat)  : Cw g yX3_refuseFarBelow wsX3_refuseFarBelow 2 44 [.ref (ad 0), .int (-4)] (bxW g ad (N, K, b, z, le, rf, hd, ln, vl) (T, ts, te, tk, br)) (some (.int (-10000004))) (bxW g ad (N, K, b, z, le, inc rf 2, hd, ln, vl) (T, ts, te, tk, br)) := by
  refine Ct.start (cc := cX3_refuseFarBelow) (nL := 2) (ret := (some .int)) (own := RX3) (by decide) rfl rfl rfl ?_
  intro Γ X E
  show Go Γ g 2 (rmC 2 44) 0 0 (bxW g ad (N, K, b, z, le, rf, hd, ln, vl) (T, ts, te, tk, br)) 0 [(0, .ref (ad 0)), (1, .int (-4))] []
  refine Go.ldcw X (-10000000) dX3_refuseFarBelow_0 (List.mem_of_getElem? (i := 1) (by decide +kernel)) ?_
  refine Go.aload_n X 0 dX3_refuseFarBelow_3 rfl ?_
  refine Go.iload_n X 1 dX3_refuseFarBelow_4 rfl ?_
  refine Go.callV0i X (c_refuse_2 g ad N K b z le rf hd ln vl T ts te tk br) cal_X3_refuse gX3_refuseFarBelow_X3_refuse (ci := 3) (q0 := 0) rfl rfl rfl rfl rfl dX3_refuseFarBelow_5 ?_
  refine Go.iadd_e X (-10000004) dX3_refuseFarBelow_8 (by decide) ?_
  exact Go.iret X E dX3_refuseFarBelow_9 ⟨rfl, rfl⟩ rfl
set_option maxHeartbeats 4000000 in
set_option maxRecDepth 100000 in
theorem c_refuseFar_3 (g : gT) (ad : Nat → Nat) (N : Sch) (K : Sch) (b : Bool) (z : Nat) (le : Nat → Nat) (rf : Nat → Int32) (hd : Nat → Int32) (ln : Nat → Nat) (vl : Nat → Nat → Int64) (T : Sch) (ts : Nat) (te : Nat) (tk : Nat) (br : Nat → Nat)  : Cw g yX3_refuseFarBelow wsX3_refuseFarBelow 2 44 [.ref (ad 0), .int (-5)] (bxW g ad (N, K, b, z, le, rf, hd, ln, vl) (T, ts, te, tk, br)) (some (.int (-10000005))) (bxW g ad (N, K, b, z, le, inc rf 3, hd, ln, vl) (T, ts, te, tk, br)) := by
  refine Ct.start (cc := cX3_refuseFarBelow) (nL := 2) (ret := (some .int)) (own := RX3) (by decide) rfl rfl rfl ?_
  intro Γ X E
  show Go Γ g 2 (rmC 2 44) 0 0 (bxW g ad (N, K, b, z, le, rf, hd, ln, vl) (T, ts, te, tk, br)) 0 [(0, .ref (ad 0)), (1, .int (-5))] []
  refine Go.ldcw X (-10000000) dX3_refuseFarBelow_0 (List.mem_of_getElem? (i := 1) (by decide +kernel)) ?_
  refine Go.aload_n X 0 dX3_refuseFarBelow_3 rfl ?_
  refine Go.iload_n X 1 dX3_refuseFarBelow_4 rfl ?_
  refine Go.callV0i X (c_refuse_3 g ad N K b z le rf hd ln vl T ts te tk br) cal_X3_refuse gX3_refuseFarBelow_X3_refuse (ci := 3) (q0 := 0) rfl rfl rfl rfl rfl dX3_refuseFarBelow_5 ?_
  refine Go.iadd_e X (-10000005) dX3_refuseFarBelow_8 (by decide) ?_
  exact Go.iret X E dX3_refuseFarBelow_9 ⟨rfl, rfl⟩ rfl
set_option maxHeartbeats 4000000 in
set_option maxRecDepth 100000 in
theorem c_refuseFar_4 (g : gT) (ad : Nat → Nat) (N : Sch) (K : Sch) (b : Bool) (z : Nat) (le : Nat → Nat) (rf : Nat → Int32) (hd : Nat → Int32) (ln : Nat → Nat) (vl : Nat → Nat → Int64) (T : Sch) (ts : Nat) (te : Nat) (tk : Nat) (br : Nat → Nat)  : Cw g yX3_refuseFarBelow wsX3_refuseFarBelow 2 44 [.ref (ad 0), .int (-6)] (bxW g ad (N, K, b, z, le, rf, hd, ln, vl) (T, ts, te, tk, br)) (some (.int (-10000006))) (bxW g ad (N, K, b, z, le, inc rf 4, hd, ln, vl) (T, ts, te, tk, br)) := by
  refine Ct.start (cc := cX3_refuseFarBelow) (nL := 2) (ret := (some .int)) (own := RX3) (by decide) rfl rfl rfl ?_
  intro Γ X E
  show Go Γ g 2 (rmC 2 44) 0 0 (bxW g ad (N, K, b, z, le, rf, hd, ln, vl) (T, ts, te, tk, br)) 0 [(0, .ref (ad 0)), (1, .int (-6))] []
  refine Go.ldcw X (-10000000) dX3_refuseFarBelow_0 (List.mem_of_getElem? (i := 1) (by decide +kernel)) ?_
  refine Go.aload_n X 0 dX3_refuseFarBelow_3 rfl ?_
  refine Go.iload_n X 1 dX3_refuseFarBelow_4 rfl ?_
  refine Go.callV0i X (c_refuse_4 g ad N K b z le rf hd ln vl T ts te tk br) cal_X3_refuse gX3_refuseFarBelow_X3_refuse (ci := 3) (q0 := 0) rfl rfl rfl rfl rfl dX3_refuseFarBelow_5 ?_
  refine Go.iadd_e X (-10000006) dX3_refuseFarBelow_8 (by decide) ?_
  exact Go.iret X E dX3_refuseFarBelow_9 ⟨rfl, rfl⟩ rfl
set_option maxHeartbeats 4000000 in
set_option maxRecDepth 100000 in
theorem b_row (g : gT) (ad : Nat → Nat) (N : Sch) (K : Sch) (b : Bool) (z : Nat) (le : Nat → Nat) (rf : Nat → Int32) (hd : Nat → Int32) (ln : Nat → Nat) (vl : Nat → Nat → Int64) (T : Sch) (ts : Nat) (te : Nat) (tk : Nat) (br : Nat → Nat) (s : Int32) (d : Int32) (n : Int32)  : Ct g yX3_row wsX3_row 2 44 [.ref (ad 0), .int s, .int d, .int n] (bxW g ad (N, K, b, z, le, rf, hd, ln, vl) (T, ts, te, tk, br)) (fun v9 w9 => v9 = (some (.int (x_row (N, K, b, z, le, rf, hd, ln, vl) s d n).2)) ∧ ∃ J9, w9 = bxW g ad (x_row (N, K, b, z, le, rf, hd, ln, vl) s d n).1 J9) := by
  refine Ct.start (cc := cX3_row) (nL := 4) (ret := (some .int)) (own := RX3) (by decide) rfl rfl rfl ?_
  intro Γ X E
  show Go Γ g 4 (rmC 2 44) 0 0 (bxW g ad (N, K, b, z, le, rf, hd, ln, vl) (T, ts, te, tk, br)) 0 [(0, .ref (ad 0)), (1, .int s), (2, .int d), (3, .int n)] []
  refine Go.iload_n X 1 dX3_row_0 rfl ?_
  refine Go.callSi X  (c_isShelf g s) cal_X3_isShelf [] rfl rfl gX3_row_X3_isShelf rfl rfl rfl dX3_row_1 ?_
  refine Go.if_eqB X 26 dX3_row_4 (by decide) (fun h4 => ?_) (fun h4 => ?_)
  · --
    refine Go.aload_n X 0 dX3_row_26 rfl ?_
    refine Go.bipush X ((-2 : Int32)) dX3_row_27 k_bp_m2 ?_
    refine Go.callV0i X (c_refuse_0 g ad N K b z le rf hd ln vl T ts te tk br) cal_X3_refuse gX3_row_X3_refuse (ci := 3) (q0 := 0) rfl rfl rfl rfl rfl dX3_row_29 ?_
    have e9 : x_row (N, K, b, z, le, rf, hd, ln, vl) s d n = ((N, K, b, z, le, inc rf 0, hd, ln, vl), (-2)) := by simp (decide := true) [x_row, rfS, upS_id, h4]
    exact Go.iret X E dX3_row_32 ⟨by rw [e9], _, by rw [e9]⟩ rfl
  · --
    obtain ⟨sk, hsk, rfl⟩ := inb_at (by first | omega | (split <;> omega)) h4
    refine Go.iload_n X 2 dX3_row_7 rfl ?_
    refine Go.iconst X (nI 0) dX3_row_8 k_ic_0 ?_
    refine Go.iconst X (nI 4) dX3_row_9 k_ic_4 ?_
    refine Go.callSi X  (c_within_4 g d) cal_X3_isWithin [] rfl rfl gX3_row_X3_isWithin rfl rfl rfl dX3_row_10 ?_
    refine Go.if_eqB X 26 dX3_row_13 (by decide) (fun h13 => ?_) (fun h13 => ?_)
    · --
      refine Go.aload_n X 0 dX3_row_26 rfl ?_
      refine Go.bipush X ((-2 : Int32)) dX3_row_27 k_bp_m2 ?_
      refine Go.callV0i X (c_refuse_0 g ad N K b z le rf hd ln vl T ts te tk br) cal_X3_refuse gX3_row_X3_refuse (ci := 3) (q0 := 0) rfl rfl rfl rfl rfl dX3_row_29 ?_
      have e9 : x_row (N, K, b, z, le, rf, hd, ln, vl) (nI sk) d n = ((N, K, b, z, le, inc rf 0, hd, ln, vl), (-2)) := by simp (decide := true) [x_row, rfS, upS_id, h4, h13, nI_clamp (show sk < 2 ^ 31 by omega)]
      exact Go.iret X E dX3_row_32 ⟨by rw [e9], _, by rw [e9]⟩ rfl
    · --
      obtain ⟨dk, hdk, rfl⟩ := inb_at (by first | omega | (split <;> omega)) h13
      refine Go.iload_n X 3 dX3_row_16 rfl ?_
      refine Go.iconst X (nI 0) dX3_row_17 k_ic_0 ?_
      refine Go.bipush X (nI 40) dX3_row_18 k_bp_40 ?_
      refine Go.callSi X  (c_within_40 g n) cal_X3_isWithin [] rfl rfl gX3_row_X3_isWithin rfl rfl rfl dX3_row_20 ?_
      refine Go.if_neB X 33 dX3_row_23 (by decide) (fun h23 => ?_) (fun h23 => ?_)
      · --
        obtain ⟨nk, hnk, rfl⟩ := inb_at (by first | omega | (split <;> omega)) h23
        refine Go.aload_n X 0 dX3_row_33 rfl ?_
        refine Go.get X f_X3_row_31 0 (v := .ref (ad 15)) rfl rfl dX3_row_34 ?_
        refine Go.iload_n X 1 dX3_row_37 rfl ?_
        refine Go.aald X 15 (x := ad (18 + 2 * sk)) rfl (vp_in_nI (by first | omega | (split <;> omega)) (by decide)) (by rw [nI_clamp (by first | omega | (split <;> omega))]) dX3_row_38 ?_
        refine Go.iload_n X 2 dX3_row_39 rfl ?_
        refine Go.iload_n X 3 dX3_row_40 rfl ?_
        refine Go.callVvw X (c_holdRow g (ad (18 + 2 * sk)) (ad (19 + 2 * sk)) (hd sk) (ln sk) (vl sk) (nI dk) nk) cal_X1_holdRow [(18 + 2 * sk), (19 + 2 * sk)] (bx_pos g ad _ _ (by first | omega | (split <;> omega))) (bx_nd (by first | omega | (split <;> omega))) gX3_row_X1_holdRow (ci := 1) (q0 := (18 + 2 * sk)) rfl (bx_sh g ad _ _ (by first | omega | (split <;> omega))) rfl rfl rfl dX3_row_41 (M9 := bxW g ad (N, K, b, z, le, rf, upS hd sk (nI dk), upS ln sk nk, upS vl sk zeroJ) (T, ts, te, tk, br)) ((bx_put g ad _ _ _ _ _ _ _ _ _ _ (by first | omega | (split <;> omega)) _ _ _).trans (by rfl)) ?_
        refine Go.iconst X (nI 1) dX3_row_44 k_ic_1 ?_
        have e9 : x_row (N, K, b, z, le, rf, hd, ln, vl) (nI sk) (nI dk) (nI nk) = ((N, K, b, z, le, rf, upS hd sk (nI dk), upS ln sk nk, upS vl sk zeroJ), (nI 1)) := by simp (decide := true) [x_row, rfS, upS_id, h4, h13, h23, nI_clamp (show sk < 2 ^ 31 by omega), nI_clamp (show dk < 2 ^ 31 by omega), nI_clamp (show nk < 2 ^ 31 by omega)]
        exact Go.iret X E dX3_row_45 ⟨by rw [e9], _, by rw [e9]⟩ rfl
      · --
        refine Go.aload_n X 0 dX3_row_26 rfl ?_
        refine Go.bipush X ((-2 : Int32)) dX3_row_27 k_bp_m2 ?_
        refine Go.callV0i X (c_refuse_0 g ad N K b z le rf hd ln vl T ts te tk br) cal_X3_refuse gX3_row_X3_refuse (ci := 3) (q0 := 0) rfl rfl rfl rfl rfl dX3_row_29 ?_
        have e9 : x_row (N, K, b, z, le, rf, hd, ln, vl) (nI sk) (nI dk) n = ((N, K, b, z, le, inc rf 0, hd, ln, vl), (-2)) := by simp (decide := true) [x_row, rfS, upS_id, h4, h13, h23, nI_clamp (show sk < 2 ^ 31 by omega), nI_clamp (show dk < 2 ^ 31 by omega)]
        exact Go.iret X E dX3_row_32 ⟨by rw [e9], _, by rw [e9]⟩ rfl
set_option maxHeartbeats 4000000 in
set_option maxRecDepth 100000 in
theorem b_element (g : gT) (ad : Nat → Nat) (N : Sch) (K : Sch) (b : Bool) (z : Nat) (le : Nat → Nat) (rf : Nat → Int32) (hd : Nat → Int32) (ln : Nat → Nat) (vl : Nat → Nat → Int64) (T : Sch) (ts : Nat) (te : Nat) (tk : Nat) (br : Nat → Nat) (s : Int32) (i : Int32) (hl : ∀ s, s < 8 → ln s ≤ 40) : Ct g yX3_element wsX3_element 2 43 [.ref (ad 0), .int s, .int i] (bxW g ad (N, K, b, z, le, rf, hd, ln, vl) (T, ts, te, tk, br)) (fun v9 w9 => v9 = (some (.long (x_element (N, K, b, z, le, rf, hd, ln, vl) s i).2)) ∧ ∃ J9, w9 = bxW g ad (x_element (N, K, b, z, le, rf, hd, ln, vl) s i).1 J9) := by
  refine Ct.start (cc := cX3_element) (nL := 3) (ret := (some .long)) (own := RX3) (by decide) rfl rfl rfl ?_
  intro Γ X E
  show Go Γ g 3 (rmC 2 43) 0 0 (bxW g ad (N, K, b, z, le, rf, hd, ln, vl) (T, ts, te, tk, br)) 0 [(0, .ref (ad 0)), (1, .int s), (2, .int i)] []
  refine Go.iload_n X 1 dX3_element_0 rfl ?_
  refine Go.callSi X  (c_isShelf g s) cal_X3_isShelf [] rfl rfl gX3_element_X3_isShelf rfl rfl rfl dX3_element_1 ?_
  refine Go.if_eqB X 32 dX3_element_4 (by decide) (fun h4 => ?_) (fun h4 => ?_)
  · --
    refine Go.lconst X (0) dX3_element_32 rfl ?_
    have e9 : x_element (N, K, b, z, le, rf, hd, ln, vl) s i = ((N, K, b, z, le, rf, hd, ln, vl), 0) := by simp (decide := true) [x_element, rfS, upS_id, h4]
    exact Go.lret X E dX3_element_33 ⟨by rw [e9], _, by rw [e9]⟩ rfl
  · --
    obtain ⟨sk, hsk, rfl⟩ := inb_at (by first | omega | (split <;> omega)) h4
    refine Go.aload_n X 0 dX3_element_7 rfl ?_
    refine Go.get X f_X3_element_31 0 (v := .ref (ad 15)) rfl rfl dX3_element_8 ?_
    refine Go.iload_n X 1 dX3_element_11 rfl ?_
    refine Go.aald X 15 (x := ad (18 + 2 * sk)) rfl (vp_in_nI (by first | omega | (split <;> omega)) (by decide)) (by rw [nI_clamp (by first | omega | (split <;> omega))]) dX3_element_12 ?_
    refine Go.callVi X  (c_holdsRow g (ad (18 + 2 * sk)) (ad (19 + 2 * sk)) (hd sk) (ln sk) (vl sk)) cal_X1_holdsRow [(18 + 2 * sk), (19 + 2 * sk)] (bx_pos g ad _ _ (by first | omega | (split <;> omega))) (bx_nd (by first | omega | (split <;> omega))) gX3_element_X1_holdsRow (ci := 1) (q0 := (18 + 2 * sk)) rfl (bx_sh g ad _ _ (by first | omega | (split <;> omega))) rfl rfl rfl dX3_element_13 ?_
    refine Go.if_eqB X 32 dX3_element_16 (by decide) (fun h16 => ?_) (fun h16 => ?_)
    · --
      refine Go.lconst X (0) dX3_element_32 rfl ?_
      have e9 : x_element (N, K, b, z, le, rf, hd, ln, vl) (nI sk) i = ((N, K, b, z, le, rf, hd, ln, vl), 0) := by simp (decide := true) [x_element, rfS, upS_id, h4, h16, nI_clamp (show sk < 2 ^ 31 by omega)]
      exact Go.lret X E dX3_element_33 ⟨by rw [e9], _, by rw [e9]⟩ rfl
    · --
      refine Go.aload_n X 0 dX3_element_19 rfl ?_
      refine Go.get X f_X3_element_31 0 (v := .ref (ad 15)) rfl rfl dX3_element_20 ?_
      refine Go.iload_n X 1 dX3_element_23 rfl ?_
      refine Go.aald X 15 (x := ad (18 + 2 * sk)) rfl (vp_in_nI (by first | omega | (split <;> omega)) (by decide)) (by rw [nI_clamp (by first | omega | (split <;> omega))]) dX3_element_24 ?_
      have hlk := hl sk hsk
      refine Go.iload_n X 2 dX3_element_25 rfl ?_
      refine Go.callVi X  (c_hasElement g (ad (18 + 2 * sk)) (ad (19 + 2 * sk)) (hd sk) (ln sk) (vl sk) i (by first | omega | (split <;> omega))) cal_X1_hasElement [(18 + 2 * sk), (19 + 2 * sk)] (bx_pos g ad _ _ (by first | omega | (split <;> omega))) (bx_nd (by first | omega | (split <;> omega))) gX3_element_X1_hasElement (ci := 1) (q0 := (18 + 2 * sk)) rfl (bx_sh g ad _ _ (by first | omega | (split <;> omega))) rfl rfl rfl dX3_element_26 ?_
      refine Go.if_neB X 34 dX3_element_29 (by decide) (fun h29 => ?_) (fun h29 => ?_)
      · --
        obtain ⟨ik, hik, rfl⟩ := inb_at (by first | omega | (split <;> omega)) h29
        have hlk := hl sk hsk
        refine Go.aload_n X 0 dX3_element_34 rfl ?_
        refine Go.get X f_X3_element_31 0 (v := .ref (ad 15)) rfl rfl dX3_element_35 ?_
        refine Go.iload_n X 1 dX3_element_38 rfl ?_
        refine Go.aald X 15 (x := ad (18 + 2 * sk)) rfl (vp_in_nI (by first | omega | (split <;> omega)) (by decide)) (by rw [nI_clamp (by first | omega | (split <;> omega))]) dX3_element_39 ?_
        refine Go.get X f_X3_element_84 (18 + 2 * sk) (v := .ref (ad (19 + 2 * sk))) (bx_sh g ad _ _ (by first | omega | (split <;> omega))) rfl dX3_element_40 ?_
        refine Go.iload_n X 2 dX3_element_43 rfl ?_
        refine Go.laldF X (19 + 2 * sk) (f := vl sk) (bx_va g ad _ _ (by first | omega | (split <;> omega))) (by first | omega | (split <;> omega)) rfl dX3_element_44 ?_
        have e9 : x_element (N, K, b, z, le, rf, hd, ln, vl) (nI sk) (nI ik) = ((N, K, b, z, le, rf, hd, ln, vl), (vl sk) ik) := by simp (decide := true) [x_element, rfS, upS_id, h4, h16, h29, nI_clamp (show sk < 2 ^ 31 by omega), nI_clamp (show ik < 2 ^ 31 by omega)]
        exact Go.lret X E dX3_element_45 ⟨by rw [e9], _, by rw [e9]⟩ rfl
      · --
        refine Go.lconst X (0) dX3_element_32 rfl ?_
        have e9 : x_element (N, K, b, z, le, rf, hd, ln, vl) (nI sk) i = ((N, K, b, z, le, rf, hd, ln, vl), 0) := by simp (decide := true) [x_element, rfS, upS_id, h4, h16, h29, nI_clamp (show sk < 2 ^ 31 by omega)]
        exact Go.lret X E dX3_element_33 ⟨by rw [e9], _, by rw [e9]⟩ rfl
set_option maxHeartbeats 4000000 in
set_option maxRecDepth 100000 in
theorem b_holds (g : gT) (ad : Nat → Nat) (N : Sch) (K : Sch) (b : Bool) (z : Nat) (le : Nat → Nat) (rf : Nat → Int32) (hd : Nat → Int32) (ln : Nat → Nat) (vl : Nat → Nat → Int64) (T : Sch) (ts : Nat) (te : Nat) (tk : Nat) (br : Nat → Nat) (s : Int32)  : Ct g yX3_holds wsX3_holds 2 42 [.ref (ad 0), .int s] (bxW g ad (N, K, b, z, le, rf, hd, ln, vl) (T, ts, te, tk, br)) (fun v9 w9 => v9 = (some (.int (x_holds (N, K, b, z, le, rf, hd, ln, vl) s).2)) ∧ ∃ J9, w9 = bxW g ad (x_holds (N, K, b, z, le, rf, hd, ln, vl) s).1 J9) := by
  refine Ct.start (cc := cX3_holds) (nL := 2) (ret := (some .int)) (own := RX3) (by decide) rfl rfl rfl ?_
  intro Γ X E
  show Go Γ g 2 (rmC 2 42) 0 0 (bxW g ad (N, K, b, z, le, rf, hd, ln, vl) (T, ts, te, tk, br)) 0 [(0, .ref (ad 0)), (1, .int s)] []
  refine Go.iload_n X 1 dX3_holds_0 rfl ?_
  refine Go.callSi X  (c_isShelf g s) cal_X3_isShelf [] rfl rfl gX3_holds_X3_isShelf rfl rfl rfl dX3_holds_1 ?_
  refine Go.if_eqB X 19 dX3_holds_4 (by decide) (fun h4 => ?_) (fun h4 => ?_)
  · --
    refine Go.iconst X ((-1 : Int32)) dX3_holds_19 k_ic_m1 ?_
    have e9 : x_holds (N, K, b, z, le, rf, hd, ln, vl) s = ((N, K, b, z, le, rf, hd, ln, vl), (-1)) := by simp (decide := true) [x_holds, rfS, upS_id, h4]
    exact Go.iret X E dX3_holds_20 ⟨by rw [e9], _, by rw [e9]⟩ rfl
  · --
    obtain ⟨sk, hsk, rfl⟩ := inb_at (by first | omega | (split <;> omega)) h4
    refine Go.aload_n X 0 dX3_holds_7 rfl ?_
    refine Go.get X f_X3_holds_31 0 (v := .ref (ad 15)) rfl rfl dX3_holds_8 ?_
    refine Go.iload_n X 1 dX3_holds_11 rfl ?_
    refine Go.aald X 15 (x := ad (18 + 2 * sk)) rfl (vp_in_nI (by first | omega | (split <;> omega)) (by decide)) (by rw [nI_clamp (by first | omega | (split <;> omega))]) dX3_holds_12 ?_
    refine Go.get X f_X3_holds_76 (18 + 2 * sk) (v := .int (hd sk)) (bx_sh g ad _ _ (by first | omega | (split <;> omega))) rfl dX3_holds_13 ?_
    refine Go.goto X 20 dX3_holds_16 (by decide) ?_
    have e9 : x_holds (N, K, b, z, le, rf, hd, ln, vl) (nI sk) = ((N, K, b, z, le, rf, hd, ln, vl), (hd sk)) := by simp (decide := true) [x_holds, rfS, upS_id, h4, nI_clamp (show sk < 2 ^ 31 by omega)]
    exact Go.iret X E dX3_holds_20 ⟨by rw [e9], _, by rw [e9]⟩ rfl
set_option maxHeartbeats 4000000 in
set_option maxRecDepth 100000 in
theorem b_show (g : gT) (ad : Nat → Nat) (N : Sch) (K : Sch) (b : Bool) (z : Nat) (le : Nat → Nat) (rf : Nat → Int32) (hd : Nat → Int32) (ln : Nat → Nat) (vl : Nat → Nat → Int64) (T : Sch) (ts : Nat) (te : Nat) (tk : Nat) (br : Nat → Nat) (s : Int32) (i : Int32) (hN : sOk N) : Ct g yX3_show wsX3_show 2 44 [.ref (ad 0), .int s, .int i] (bxW g ad (N, K, b, z, le, rf, hd, ln, vl) (T, ts, te, tk, br)) (fun v9 w9 => v9 = (some (.int (x_show (N, K, b, z, le, rf, hd, ln, vl) s i).2)) ∧ ∃ J9, w9 = bxW g ad (x_show (N, K, b, z, le, rf, hd, ln, vl) s i).1 J9) := by
  refine Ct.start (cc := cX3_show) (nL := 3) (ret := (some .int)) (own := RX3) (by decide) rfl rfl rfl ?_
  intro Γ X E
  show Go Γ g 3 (rmC 2 44) 0 0 (bxW g ad (N, K, b, z, le, rf, hd, ln, vl) (T, ts, te, tk, br)) 0 [(0, .ref (ad 0)), (1, .int s), (2, .int i)] []
  obtain ⟨o1, o2, o3, o4, o5, o6, o7, o8⟩ := id hN
  have o9 := p2_9 o2
  have o10 := sA_512 hN
  refine Go.iload_n X 1 dX3_show_0 rfl ?_
  refine Go.callSi X  (c_isShelf g s) cal_X3_isShelf [] rfl rfl gX3_show_X3_isShelf rfl rfl rfl dX3_show_1 ?_
  refine Go.if_eqB X 23 dX3_show_4 (by decide) (fun h4 => ?_) (fun h4 => ?_)
  · --
    refine Go.aload_n X 0 dX3_show_23 rfl ?_
    refine Go.bipush X ((-2 : Int32)) dX3_show_24 k_bp_m2 ?_
    refine Go.callV0i X (c_refuse_0 g ad N K b z le rf hd ln vl T ts te tk br) cal_X3_refuse gX3_show_X3_refuse (ci := 3) (q0 := 0) rfl rfl rfl rfl rfl dX3_show_26 ?_
    have e9 : x_show (N, K, b, z, le, rf, hd, ln, vl) s i = ((N, K, b, z, le, inc rf 0, hd, ln, vl), (-2)) := by simp (decide := true) [x_show, rfS, upS_id, h4]
    exact Go.iret X E dX3_show_29 ⟨by rw [e9], _, by rw [e9]⟩ rfl
  · --
    obtain ⟨sk, hsk, rfl⟩ := inb_at (by first | omega | (split <;> omega)) h4
    refine Go.iload_n X 2 dX3_show_7 rfl ?_
    refine Go.iconst X ((-1 : Int32)) dX3_show_8 k_ic_m1 ?_
    refine Go.icmp_eq X 30 dX3_show_9 (by decide) (fun h9 => ?_) (fun h9 => ?_)
    · --
      refine Go.lv_2 (w := .int (-1)) (by rw [h9]) ?_
      refine Go.iload_n X 2 dX3_show_30 rfl ?_
      refine Go.iconst X ((-1 : Int32)) dX3_show_31 k_ic_m1 ?_
      refine Go.icmp_ne X 47 dX3_show_32 (by decide) (fun h => absurd h (by decide)) (fun _ => ?_)
      refine Go.aload_n X 0 dX3_show_35 rfl ?_
      refine Go.get X f_X3_show_31 0 (v := .ref (ad 15)) rfl rfl dX3_show_36 ?_
      refine Go.iload_n X 1 dX3_show_39 rfl ?_
      refine Go.aald X 15 (x := ad (18 + 2 * sk)) rfl (vp_in_nI (by first | omega | (split <;> omega)) (by decide)) (by rw [nI_clamp (by first | omega | (split <;> omega))]) dX3_show_40 ?_
      refine Go.callVvw X (c_holdNothing g (ad (18 + 2 * sk)) (ad (19 + 2 * sk)) (hd sk) (ln sk) (vl sk)) cal_X1_holdNothing [(18 + 2 * sk), (19 + 2 * sk)] (bx_pos g ad _ _ (by first | omega | (split <;> omega))) (bx_nd (by first | omega | (split <;> omega))) gX3_show_X1_holdNothing (ci := 1) (q0 := (18 + 2 * sk)) rfl (bx_sh g ad _ _ (by first | omega | (split <;> omega))) rfl rfl rfl dX3_show_41 (M9 := bxW g ad (N, K, b, z, le, rf, upS hd sk (-1), upS ln sk 0, vl) (T, ts, te, tk, br)) ((bx_put g ad _ _ _ _ _ _ _ _ _ _ (by first | omega | (split <;> omega)) _ _ _).trans (by simp only [upS_id])) ?_
      refine Go.goto X 57 dX3_show_44 (by decide) ?_
      refine Go.iconst X (nI 1) dX3_show_57 k_ic_1 ?_
      have e9 : x_show (N, K, b, z, le, rf, hd, ln, vl) (nI sk) i = ((N, K, b, z, le, rf, upS hd sk (-1), upS ln sk 0, vl), (nI 1)) := by simp (decide := true) [x_show, rfS, upS_id, h4, h9, nI_clamp (show sk < 2 ^ 31 by omega)]
      exact Go.iret X E dX3_show_58 ⟨by rw [e9], _, by rw [e9]⟩ rfl
    · --
      refine Go.aload_n X 0 dX3_show_12 rfl ?_
      refine Go.get X f_X3_show_10 0 (v := .ref (ad 1)) rfl rfl dX3_show_13 ?_
      refine Go.iload_n X 2 dX3_show_16 rfl ?_
      refine Go.callVi X  (c_isSomebody g (ad 1) (ad 2) (ad 3) (ad 4) N i (by exact hN)) cal_X0_isSomebody [1, 2, 3, 4] rfl rfl gX3_show_X0_isSomebody (ci := 0) (q0 := 1) rfl rfl rfl rfl rfl dX3_show_17 ?_
      refine Go.if_neB X 30 dX3_show_20 (by decide) (fun h20 => ?_) (fun h20 => ?_)
      · --
        obtain ⟨ik, hik, rfl⟩ := inb_at (by first | omega | (split <;> omega)) h20
        refine Go.iload_n X 2 dX3_show_30 rfl ?_
        refine Go.iconst X ((-1 : Int32)) dX3_show_31 k_ic_m1 ?_
        refine Go.icmp_ne X 47 dX3_show_32 (by decide) (fun h32 => ?_) (fun h32 => ?_)
        · --
          refine Go.aload_n X 0 dX3_show_47 rfl ?_
          refine Go.get X f_X3_show_31 0 (v := .ref (ad 15)) rfl rfl dX3_show_48 ?_
          refine Go.iload_n X 1 dX3_show_51 rfl ?_
          refine Go.aald X 15 (x := ad (18 + 2 * sk)) rfl (vp_in_nI (by first | omega | (split <;> omega)) (by decide)) (by rw [nI_clamp (by first | omega | (split <;> omega))]) dX3_show_52 ?_
          refine Go.iload_n X 2 dX3_show_53 rfl ?_
          refine Go.callVvw X (c_holdSomebody g (ad (18 + 2 * sk)) (ad (19 + 2 * sk)) (hd sk) (ln sk) (vl sk) ik) cal_X1_holdSomebody [(18 + 2 * sk), (19 + 2 * sk)] (bx_pos g ad _ _ (by first | omega | (split <;> omega))) (bx_nd (by first | omega | (split <;> omega))) gX3_show_X1_holdSomebody (ci := 1) (q0 := (18 + 2 * sk)) rfl (bx_sh g ad _ _ (by first | omega | (split <;> omega))) rfl rfl rfl dX3_show_54 (M9 := bxW g ad (N, K, b, z, le, rf, upS hd sk (nI (10 + ik)), upS ln sk 0, vl) (T, ts, te, tk, br)) ((bx_put g ad _ _ _ _ _ _ _ _ _ _ (by first | omega | (split <;> omega)) _ _ _).trans (by simp only [upS_id])) ?_
          refine Go.iconst X (nI 1) dX3_show_57 k_ic_1 ?_
          have e9 : x_show (N, K, b, z, le, rf, hd, ln, vl) (nI sk) (nI ik) = ((N, K, b, z, le, rf, upS hd sk (nI (10 + ik)), upS ln sk 0, vl), (nI 1)) := by simp (decide := true) [x_show, rfS, upS_id, h4, h9, h20, h32, nI_clamp (show sk < 2 ^ 31 by omega), nI_clamp (show ik < 2 ^ 31 by omega)]
          exact Go.iret X E dX3_show_58 ⟨by rw [e9], _, by rw [e9]⟩ rfl
        · --
          exact absurd h32.symm (m1_ne (by omega))
      · --
        refine Go.aload_n X 0 dX3_show_23 rfl ?_
        refine Go.bipush X ((-2 : Int32)) dX3_show_24 k_bp_m2 ?_
        refine Go.callV0i X (c_refuse_0 g ad N K b z le rf hd ln vl T ts te tk br) cal_X3_refuse gX3_show_X3_refuse (ci := 3) (q0 := 0) rfl rfl rfl rfl rfl dX3_show_26 ?_
        have e9 : x_show (N, K, b, z, le, rf, hd, ln, vl) (nI sk) i = ((N, K, b, z, le, inc rf 0, hd, ln, vl), (-2)) := by simp (decide := true) [x_show, rfS, upS_id, h4, h9, h20, nI_clamp (show sk < 2 ^ 31 by omega)]
        exact Go.iret X E dX3_show_29 ⟨by rw [e9], _, by rw [e9]⟩ rfl
set_option maxHeartbeats 4000000 in
set_option maxRecDepth 100000 in
theorem b_term (g : gT) (ad : Nat → Nat) (N : Sch) (K : Sch) (b : Bool) (z : Nat) (le : Nat → Nat) (rf : Nat → Int32) (hd : Nat → Int32) (ln : Nat → Nat) (vl : Nat → Nat → Int64) (T : Sch) (ts : Nat) (te : Nat) (tk : Nat) (br : Nat → Nat) (n : Int32) (hN : sOk N) : Ct g yX3_term wsX3_term 2 44 [.ref (ad 0), .int n] (bxW g ad (N, K, b, z, le, rf, hd, ln, vl) (T, ts, te, tk, br)) (fun v9 w9 => v9 = (some (.int (x_term (N, K, b, z, le, rf, hd, ln, vl) n).2)) ∧ ∃ J9, w9 = bxW g ad (x_term (N, K, b, z, le, rf, hd, ln, vl) n).1 J9) := by
  refine Ct.start (cc := cX3_term) (nL := 3) (ret := (some .int)) (own := RX3) (by decide) rfl rfl rfl ?_
  intro Γ X E
  show Go Γ g 3 (rmC 2 44) 0 0 (bxW g ad (N, K, b, z, le, rf, hd, ln, vl) (T, ts, te, tk, br)) 0 [(0, .ref (ad 0)), (1, .int n)] []
  obtain ⟨o1, o2, o3, o4, o5, o6, o7, o8⟩ := id hN
  have o9 := p2_9 o2
  have o10 := sA_512 hN
  refine Go.iload_n X 1 dX3_term_0 rfl ?_
  refine Go.iconst X (nI 1) dX3_term_1 k_ic_1 ?_
  refine Go.bipush X (nI 9) dX3_term_2 k_bp_9 ?_
  refine Go.callSi X  (c_isWithin g n (nI 1) (nI 9)) cal_X3_isWithin [] rfl rfl gX3_term_X3_isWithin rfl rfl rfl dX3_term_4 ?_
  refine Go.if_neB X 17 dX3_term_7 (by decide) (fun h7 => ?_) (fun h7 => ?_)
  · --
    obtain ⟨nk, hnk, rfl⟩ := wi_at (by first | omega | (split <;> omega)) (by first | omega | (split <;> omega)) h7
    refine Go.aload_n X 0 dX3_term_17 rfl ?_
    refine Go.get X f_X3_term_10 0 (v := .ref (ad 1)) rfl rfl dX3_term_18 ?_
    refine Go.get X f_X3_term_117 1 (v := .int (nI (sN N))) rfl rfl dX3_term_21 ?_
    refine Go.istore_n_new X dX3_term_24 (by decide) rfl ?_
    refine Go.aload_n X 1 dX3_term_25 rfl ?_
    refine Go.get X f_X3_term_10 0 (v := .ref (ad 1)) rfl rfl dX3_term_26 ?_
    refine Go.iload_n X 2 dX3_term_29 rfl ?_
    refine Go.callVvw X (c_beginTerm g (ad 1) (ad 2) (ad 3) (ad 4) N nk (by first | omega | (split <;> omega))) cal_X0_beginTerm [1, 2, 3, 4] rfl rfl gX3_term_X0_beginTerm (ci := 0) (q0 := 1) rfl rfl rfl rfl rfl dX3_term_30 (M9 := bxW g ad ((nk, 2 ^ nk - 1, one9, sD N, sP N, sK N, sO N, sG N, sT N, sF N, sX N), K, b, z, le, rf, hd, ln, vl) (T, ts, te, tk, br)) rfl ?_
    refine Go.iload_n X 0 dX3_term_33 rfl ?_
    have e9 : x_term (N, K, b, z, le, rf, hd, ln, vl) (nI nk) = (((nk, 2 ^ nk - 1, one9, sD N, sP N, sK N, sO N, sG N, sT N, sF N, sX N), K, b, z, le, rf, hd, ln, vl), (nI (sN N))) := by simp (decide := true) [x_term, rfS, upS_id, h7, nI_clamp (show nk < 2 ^ 31 by omega)]
    exact Go.iret X E dX3_term_34 ⟨by rw [e9], _, by rw [e9]⟩ rfl
  · --
    refine Go.aload_n X 0 dX3_term_10 rfl ?_
    refine Go.bipush X ((-2 : Int32)) dX3_term_11 k_bp_m2 ?_
    refine Go.callV0i X (c_refuse_0 g ad N K b z le rf hd ln vl T ts te tk br) cal_X3_refuse gX3_term_X3_refuse (ci := 3) (q0 := 0) rfl rfl rfl rfl rfl dX3_term_13 ?_
    have e9 : x_term (N, K, b, z, le, rf, hd, ln, vl) n = ((N, K, b, z, le, inc rf 0, hd, ln, vl), (-2)) := by simp (decide := true) [x_term, rfS, upS_id, h7]
    exact Go.iret X E dX3_term_16 ⟨by rw [e9], _, by rw [e9]⟩ rfl
set_option maxHeartbeats 4000000 in
set_option maxRecDepth 100000 in
theorem b_person (g : gT) (ad : Nat → Nat) (N : Sch) (K : Sch) (b : Bool) (z : Nat) (le : Nat → Nat) (rf : Nat → Int32) (hd : Nat → Int32) (ln : Nat → Nat) (vl : Nat → Nat → Int64) (T : Sch) (ts : Nat) (te : Nat) (tk : Nat) (br : Nat → Nat) (k : Int32) (a : Int32) (hN : sOk N) : Ct g yX3_person wsX3_person 2 44 [.ref (ad 0), .int k, .int a] (bxW g ad (N, K, b, z, le, rf, hd, ln, vl) (T, ts, te, tk, br)) (fun v9 w9 => v9 = (some (.int (x_person (N, K, b, z, le, rf, hd, ln, vl) k a).2)) ∧ ∃ J9, w9 = bxW g ad (x_person (N, K, b, z, le, rf, hd, ln, vl) k a).1 J9) := by
  refine Ct.start (cc := cX3_person) (nL := 3) (ret := (some .int)) (own := RX3) (by decide) rfl rfl rfl ?_
  intro Γ X E
  show Go Γ g 3 (rmC 2 44) 0 0 (bxW g ad (N, K, b, z, le, rf, hd, ln, vl) (T, ts, te, tk, br)) 0 [(0, .ref (ad 0)), (1, .int k), (2, .int a)] []
  obtain ⟨o1, o2, o3, o4, o5, o6, o7, o8⟩ := id hN
  have o9 := p2_9 o2
  have o10 := sA_512 hN
  refine Go.iload_n X 1 dX3_person_0 rfl ?_
  refine Go.callSi X  (c_isKind g k) cal_X3_isKind [] rfl rfl gX3_person_X3_isKind rfl rfl rfl dX3_person_1 ?_
  refine Go.if_eqB X 17 dX3_person_4 (by decide) (fun h4 => ?_) (fun h4 => ?_)
  · --
    refine Go.aload_n X 0 dX3_person_17 rfl ?_
    refine Go.bipush X ((-2 : Int32)) dX3_person_18 k_bp_m2 ?_
    refine Go.callV0i X (c_refuse_0 g ad N K b z le rf hd ln vl T ts te tk br) cal_X3_refuse gX3_person_X3_refuse (ci := 3) (q0 := 0) rfl rfl rfl rfl rfl dX3_person_20 ?_
    have e9 : x_person (N, K, b, z, le, rf, hd, ln, vl) k a = ((N, K, b, z, le, inc rf 0, hd, ln, vl), (-2)) := by simp (decide := true) [x_person, rfS, upS_id, h4]
    exact Go.iret X E dX3_person_23 ⟨by rw [e9], _, by rw [e9]⟩ rfl
  · --
    obtain ⟨kk, hkk, rfl⟩ := inb_at (by first | omega | (split <;> omega)) h4
    refine Go.iload_n X 2 dX3_person_7 rfl ?_
    refine Go.iconst X (nI 0) dX3_person_8 k_ic_0 ?_
    refine Go.bipush X (nI 9) dX3_person_9 k_bp_9 ?_
    refine Go.callSi X  (c_within_9 g a) cal_X3_isWithin [] rfl rfl gX3_person_X3_isWithin rfl rfl rfl dX3_person_11 ?_
    refine Go.if_neB X 24 dX3_person_14 (by decide) (fun h14 => ?_) (fun h14 => ?_)
    · --
      obtain ⟨ak, hak, rfl⟩ := inb_at (by first | omega | (split <;> omega)) h14
      refine Go.aload_n X 0 dX3_person_24 rfl ?_
      refine Go.get X f_X3_person_10 0 (v := .ref (ad 1)) rfl rfl dX3_person_25 ?_
      refine Go.get X f_X3_person_123 1 (v := .int (nI (sP N))) rfl rfl dX3_person_28 ?_
      refine Go.bipush X (nI 6) dX3_person_31 k_bp_6 ?_
      refine Go.icmp_ltN X 43 dX3_person_33 (by decide) (by first | omega | (split <;> omega)) (by decide) (fun h33 => ?_) (fun h33 => ?_)
      · --
        refine Go.aload_n X 0 dX3_person_43 rfl ?_
        refine Go.get X f_X3_person_10 0 (v := .ref (ad 1)) rfl rfl dX3_person_44 ?_
        refine Go.iload_n X 1 dX3_person_47 rfl ?_
        refine Go.iload_n X 2 dX3_person_48 rfl ?_
        refine Go.callVvw X (c_addSomebody g (ad 1) (ad 2) (ad 3) (ad 4) N kk ak (by exact hN) (by first | omega | (split <;> omega))) cal_X0_addSomebody [1, 2, 3, 4] rfl rfl gX3_person_X0_addSomebody (ci := 0) (q0 := 1) rfl rfl rfl rfl rfl dX3_person_49 (M9 := bxW g ad ((sN N, sA N, sW N, sD N, sP N + 1, updN (sK N) (sP N) kk, updN (sO N) (sP N) ak, sG N, sT N, sF N, sX N), K, b, z, le, rf, hd, ln, vl) (T, ts, te, tk, br)) rfl ?_
        refine Go.aload_n X 0 dX3_person_52 rfl ?_
        refine Go.get X f_X3_person_10 0 (v := .ref (ad 1)) rfl rfl dX3_person_53 ?_
        refine Go.get X f_X3_person_123 1 (v := .int (nI (sP N + 1))) rfl rfl dX3_person_56 ?_
        refine Go.iconst X (nI 1) dX3_person_59 k_ic_1 ?_
        refine Go.isub_e X (nI (sP N + 1 - 1)) dX3_person_60 (pk_sub (by first | omega | (split <;> omega))) ?_
        have e9 : x_person (N, K, b, z, le, rf, hd, ln, vl) (nI kk) (nI ak) = (((sN N, sA N, sW N, sD N, sP N + 1, updN (sK N) (sP N) kk, updN (sO N) (sP N) ak, sG N, sT N, sF N, sX N), K, b, z, le, rf, hd, ln, vl), (nI (sP N + 1 - 1))) := by simp (decide := true) [x_person, rfS, upS_id, h4, h14, h33, nI_clamp (show kk < 2 ^ 31 by omega), nI_clamp (show ak < 2 ^ 31 by omega)]
        exact Go.iret X E dX3_person_61 ⟨by rw [e9], _, by rw [e9]⟩ rfl
      · --
        refine Go.aload_n X 0 dX3_person_36 rfl ?_
        refine Go.bipush X ((-6 : Int32)) dX3_person_37 k_bp_m6 ?_
        refine Go.callV0i X (c_refuse_4 g ad N K b z le rf hd ln vl T ts te tk br) cal_X3_refuse gX3_person_X3_refuse (ci := 3) (q0 := 0) rfl rfl rfl rfl rfl dX3_person_39 ?_
        have e9 : x_person (N, K, b, z, le, rf, hd, ln, vl) (nI kk) (nI ak) = ((N, K, b, z, le, inc rf 4, hd, ln, vl), (-6)) := by simp (decide := true) [x_person, rfS, upS_id, h4, h14, h33, Nat.not_lt.mpr h33, nI_clamp (show kk < 2 ^ 31 by omega), nI_clamp (show ak < 2 ^ 31 by omega)]
        exact Go.iret X E dX3_person_42 ⟨by rw [e9], _, by rw [e9]⟩ rfl
    · --
      refine Go.aload_n X 0 dX3_person_17 rfl ?_
      refine Go.bipush X ((-2 : Int32)) dX3_person_18 k_bp_m2 ?_
      refine Go.callV0i X (c_refuse_0 g ad N K b z le rf hd ln vl T ts te tk br) cal_X3_refuse gX3_person_X3_refuse (ci := 3) (q0 := 0) rfl rfl rfl rfl rfl dX3_person_20 ?_
      have e9 : x_person (N, K, b, z, le, rf, hd, ln, vl) (nI kk) a = ((N, K, b, z, le, inc rf 0, hd, ln, vl), (-2)) := by simp (decide := true) [x_person, rfS, upS_id, h4, h14, nI_clamp (show kk < 2 ^ 31 by omega)]
      exact Go.iret X E dX3_person_23 ⟨by rw [e9], _, by rw [e9]⟩ rfl
set_option maxHeartbeats 4000000 in
set_option maxRecDepth 100000 in
theorem b_allow (g : gT) (ad : Nat → Nat) (N : Sch) (K : Sch) (b : Bool) (z : Nat) (le : Nat → Nat) (rf : Nat → Int32) (hd : Nat → Int32) (ln : Nat → Nat) (vl : Nat → Nat → Int64) (T : Sch) (ts : Nat) (te : Nat) (tk : Nat) (br : Nat → Nat) (m : Int32) (is : Bool) (hN : sOk N) : Ct g yX3_allow wsX3_allow 2 44 [.ref (ad 0), .int m, .int (b2i is)] (bxW g ad (N, K, b, z, le, rf, hd, ln, vl) (T, ts, te, tk, br)) (fun v9 w9 => v9 = (some (.int (x_allow (N, K, b, z, le, rf, hd, ln, vl) m is).2)) ∧ ∃ J9, w9 = bxW g ad (x_allow (N, K, b, z, le, rf, hd, ln, vl) m is).1 J9) := by
  refine Ct.start (cc := cX3_allow) (nL := 3) (ret := (some .int)) (own := RX3) (by decide) rfl rfl rfl ?_
  intro Γ X E
  show Go Γ g 3 (rmC 2 44) 0 0 (bxW g ad (N, K, b, z, le, rf, hd, ln, vl) (T, ts, te, tk, br)) 0 [(0, .ref (ad 0)), (1, .int m), (2, .int (b2i is))] []
  obtain ⟨o1, o2, o3, o4, o5, o6, o7, o8⟩ := id hN
  have o9 := p2_9 o2
  have o10 := sA_512 hN
  refine Go.aload_n X 0 dX3_allow_0 rfl ?_
  refine Go.get X f_X3_allow_10 0 (v := .ref (ad 1)) rfl rfl dX3_allow_1 ?_
  refine Go.iload_n X 1 dX3_allow_4 rfl ?_
  refine Go.callVi X  (c_isMorning g (ad 1) (ad 2) (ad 3) (ad 4) N m (by exact hN)) cal_X0_isMorning [1, 2, 3, 4] rfl rfl gX3_allow_X0_isMorning (ci := 0) (q0 := 1) rfl rfl rfl rfl rfl dX3_allow_5 ?_
  refine Go.if_neB X 18 dX3_allow_8 (by decide) (fun h8 => ?_) (fun h8 => ?_)
  · --
    obtain ⟨mk, hmk, rfl⟩ := inb_at (by first | omega | (split <;> omega)) h8
    refine Go.aload_n X 0 dX3_allow_18 rfl ?_
    refine Go.get X f_X3_allow_10 0 (v := .ref (ad 1)) rfl rfl dX3_allow_19 ?_
    refine Go.iload_n X 1 dX3_allow_22 rfl ?_
    refine Go.callVi X  (c_isAllowed g (ad 1) (ad 2) (ad 3) (ad 4) N mk (by exact hN) (by first | omega | (split <;> omega))) cal_X0_isAllowed [1, 2, 3, 4] rfl rfl gX3_allow_X0_isAllowed (ci := 0) (q0 := 1) rfl rfl rfl rfl rfl dX3_allow_23 ?_
    refine Go.iload_n X 2 dX3_allow_26 rfl ?_
    refine Go.icmp_ne X 32 dX3_allow_27 (by decide) (fun h27 => ?_) (fun h27 => ?_)
    · --
      refine Go.aload_n X 0 dX3_allow_32 rfl ?_
      refine Go.get X f_X3_allow_10 0 (v := .ref (ad 1)) rfl rfl dX3_allow_33 ?_
      refine Go.aload_n X 0 dX3_allow_36 rfl ?_
      refine Go.get X f_X3_allow_10 0 (v := .ref (ad 1)) rfl rfl dX3_allow_37 ?_
      refine Go.get X f_X3_allow_135 1 (v := .int (nI (sA N))) rfl rfl dX3_allow_40 ?_
      refine Go.iconst X (nI 1) dX3_allow_43 k_ic_1 ?_
      refine Go.iload_n X 1 dX3_allow_44 rfl ?_
      refine Go.ishl_e X (nI (2 ^ mk)) dX3_allow_45 (nI_shl1 (by first | omega | (split <;> omega))) ?_
      refine Go.ixor_e X (nI ((sA N) ^^^ (2 ^ mk))) dX3_allow_46 (nI_xor _ _) ?_
      refine Go.putM X f_X3_allow_135 fp_0_1 1 (bxW g ad ((sN N, (sA N) ^^^ (2 ^ mk), sW N, sD N, sP N, sK N, sO N, sG N, sT N, sF N, sX N), K, b, z, le, rf, hd, ln, vl) (T, ts, te, tk, br)) rfl rfl rfl rfl dX3_allow_47 rfl ?_
      refine Go.iconst X (nI 1) dX3_allow_50 k_ic_1 ?_
      have e9 : x_allow (N, K, b, z, le, rf, hd, ln, vl) (nI mk) is = (((sN N, (sA N) ^^^ (2 ^ mk), sW N, sD N, sP N, sK N, sO N, sG N, sT N, sF N, sX N), K, b, z, le, rf, hd, ln, vl), (nI 1)) := by simp [x_allow, h8, show ¬ (sA N).testBit mk = is from fun e => h27 (congrArg b2i e), nI_clamp (show mk < 2 ^ 31 by omega)]
      exact Go.iret X E dX3_allow_51 ⟨by rw [e9], _, by rw [e9]⟩ rfl
    · --
      refine Go.iconst X (nI 0) dX3_allow_30 k_ic_0 ?_
      have e9 : x_allow (N, K, b, z, le, rf, hd, ln, vl) (nI mk) is = ((N, K, b, z, le, rf, hd, ln, vl), (nI 0)) := by simp [x_allow, h8, b2i_inj h27, nI_clamp (show mk < 2 ^ 31 by omega)]
      exact Go.iret X E dX3_allow_31 ⟨by rw [e9], _, by rw [e9]⟩ rfl
  · --
    refine Go.aload_n X 0 dX3_allow_11 rfl ?_
    refine Go.bipush X ((-2 : Int32)) dX3_allow_12 k_bp_m2 ?_
    refine Go.callV0i X (c_refuse_0 g ad N K b z le rf hd ln vl T ts te tk br) cal_X3_refuse gX3_allow_X3_refuse (ci := 3) (q0 := 0) rfl rfl rfl rfl rfl dX3_allow_14 ?_
    have e9 : x_allow (N, K, b, z, le, rf, hd, ln, vl) m is = ((N, K, b, z, le, inc rf 0, hd, ln, vl), (-2)) := by simp (decide := true) [x_allow, rfS, upS_id, h8]
    exact Go.iret X E dX3_allow_17 ⟨by rw [e9], _, by rw [e9]⟩ rfl
set_option maxHeartbeats 4000000 in
set_option maxRecDepth 100000 in
theorem b_weight (g : gT) (ad : Nat → Nat) (N : Sch) (K : Sch) (b : Bool) (z : Nat) (le : Nat → Nat) (rf : Nat → Int32) (hd : Nat → Int32) (ln : Nat → Nat) (vl : Nat → Nat → Int64) (T : Sch) (ts : Nat) (te : Nat) (tk : Nat) (br : Nat → Nat) (m : Int32) (v : Int32) (hN : sOk N) : Ct g yX3_weight wsX3_weight 2 44 [.ref (ad 0), .int m, .int v] (bxW g ad (N, K, b, z, le, rf, hd, ln, vl) (T, ts, te, tk, br)) (fun v9 w9 => v9 = (some (.int (x_weight (N, K, b, z, le, rf, hd, ln, vl) m v).2)) ∧ ∃ J9, w9 = bxW g ad (x_weight (N, K, b, z, le, rf, hd, ln, vl) m v).1 J9) := by
  refine Ct.start (cc := cX3_weight) (nL := 4) (ret := (some .int)) (own := RX3) (by decide) rfl rfl rfl ?_
  intro Γ X E
  show Go Γ g 4 (rmC 2 44) 0 0 (bxW g ad (N, K, b, z, le, rf, hd, ln, vl) (T, ts, te, tk, br)) 0 [(0, .ref (ad 0)), (1, .int m), (2, .int v)] []
  obtain ⟨o1, o2, o3, o4, o5, o6, o7, o8⟩ := id hN
  have o9 := p2_9 o2
  have o10 := sA_512 hN
  refine Go.aload_n X 0 dX3_weight_0 rfl ?_
  refine Go.get X f_X3_weight_10 0 (v := .ref (ad 1)) rfl rfl dX3_weight_1 ?_
  refine Go.iload_n X 1 dX3_weight_4 rfl ?_
  refine Go.callVi X  (c_isMorning g (ad 1) (ad 2) (ad 3) (ad 4) N m (by exact hN)) cal_X0_isMorning [1, 2, 3, 4] rfl rfl gX3_weight_X0_isMorning (ci := 0) (q0 := 1) rfl rfl rfl rfl rfl dX3_weight_5 ?_
  refine Go.if_eqB X 21 dX3_weight_8 (by decide) (fun h8 => ?_) (fun h8 => ?_)
  · --
    refine Go.aload_n X 0 dX3_weight_21 rfl ?_
    refine Go.bipush X ((-2 : Int32)) dX3_weight_22 k_bp_m2 ?_
    refine Go.callV0i X (c_refuse_0 g ad N K b z le rf hd ln vl T ts te tk br) cal_X3_refuse gX3_weight_X3_refuse (ci := 3) (q0 := 0) rfl rfl rfl rfl rfl dX3_weight_24 ?_
    have e9 : x_weight (N, K, b, z, le, rf, hd, ln, vl) m v = ((N, K, b, z, le, inc rf 0, hd, ln, vl), (-2)) := by simp (decide := true) [x_weight, rfS, upS_id, h8]
    exact Go.iret X E dX3_weight_27 ⟨by rw [e9], _, by rw [e9]⟩ rfl
  · --
    obtain ⟨mk, hmk, rfl⟩ := inb_at (by first | omega | (split <;> omega)) h8
    refine Go.iload_n X 2 dX3_weight_11 rfl ?_
    refine Go.iconst X (nI 0) dX3_weight_12 k_ic_0 ?_
    refine Go.bipush X (nI 9) dX3_weight_13 k_bp_9 ?_
    refine Go.callSi X  (c_within_9 g v) cal_X3_isWithin [] rfl rfl gX3_weight_X3_isWithin rfl rfl rfl dX3_weight_15 ?_
    refine Go.if_neB X 28 dX3_weight_18 (by decide) (fun h18 => ?_) (fun h18 => ?_)
    · --
      obtain ⟨vk, hvk, rfl⟩ := inb_at (by first | omega | (split <;> omega)) h18
      refine Go.aload_n X 0 dX3_weight_28 rfl ?_
      refine Go.get X f_X3_weight_10 0 (v := .ref (ad 1)) rfl rfl dX3_weight_29 ?_
      refine Go.get X f_X3_weight_138 1 (v := .ref (ad 2)) rfl rfl dX3_weight_32 ?_
      refine Go.iload_n X 1 dX3_weight_35 rfl ?_
      refine Go.ialdN X 2 (w := sW N) rfl (by first | omega | (split <;> omega)) rfl dX3_weight_36 ?_
      refine Go.istore_n_new X dX3_weight_37 (by decide) rfl ?_
      refine Go.aload_n X 1 dX3_weight_38 rfl ?_
      refine Go.get X f_X3_weight_10 0 (v := .ref (ad 1)) rfl rfl dX3_weight_39 ?_
      refine Go.get X f_X3_weight_138 1 (v := .ref (ad 2)) rfl rfl dX3_weight_42 ?_
      refine Go.iload_n X 2 dX3_weight_45 rfl ?_
      refine Go.iload_n X 3 dX3_weight_46 rfl ?_
      refine Go.iastNM X 2 (bxW g ad ((sN N, sA N, updN (sW N) mk vk, sD N, sP N, sK N, sO N, sG N, sT N, sF N, sX N), K, b, z, le, rf, hd, ln, vl) (T, ts, te, tk, br)) (w := sW N) rfl (by first | omega | (split <;> omega)) rfl dX3_weight_47 rfl ?_
      refine Go.iload_n X 0 dX3_weight_48 rfl ?_
      have e9 : x_weight (N, K, b, z, le, rf, hd, ln, vl) (nI mk) (nI vk) = (((sN N, sA N, updN (sW N) mk vk, sD N, sP N, sK N, sO N, sG N, sT N, sF N, sX N), K, b, z, le, rf, hd, ln, vl), (nI ((sW N) mk))) := by simp (decide := true) [x_weight, rfS, upS_id, h8, h18, nI_clamp (show mk < 2 ^ 31 by omega), nI_clamp (show vk < 2 ^ 31 by omega)]
      exact Go.iret X E dX3_weight_49 ⟨by rw [e9], _, by rw [e9]⟩ rfl
    · --
      refine Go.aload_n X 0 dX3_weight_21 rfl ?_
      refine Go.bipush X ((-2 : Int32)) dX3_weight_22 k_bp_m2 ?_
      refine Go.callV0i X (c_refuse_0 g ad N K b z le rf hd ln vl T ts te tk br) cal_X3_refuse gX3_weight_X3_refuse (ci := 3) (q0 := 0) rfl rfl rfl rfl rfl dX3_weight_24 ?_
      have e9 : x_weight (N, K, b, z, le, rf, hd, ln, vl) (nI mk) v = ((N, K, b, z, le, inc rf 0, hd, ln, vl), (-2)) := by simp (decide := true) [x_weight, rfS, upS_id, h8, h18, nI_clamp (show mk < 2 ^ 31 by omega)]
      exact Go.iret X E dX3_weight_27 ⟨by rw [e9], _, by rw [e9]⟩ rfl
set_option maxHeartbeats 4000000 in
set_option maxRecDepth 100000 in
theorem b_say (g : gT) (ad : Nat → Nat) (N : Sch) (K : Sch) (b : Bool) (z : Nat) (le : Nat → Nat) (rf : Nat → Int32) (hd : Nat → Int32) (ln : Nat → Nat) (vl : Nat → Nat → Int64) (T : Sch) (ts : Nat) (te : Nat) (tk : Nat) (br : Nat → Nat) (hN : sOk N) : Ct g yX3_say wsX3_say 2 44 [.ref (ad 0)] (bxW g ad (N, K, b, z, le, rf, hd, ln, vl) (T, ts, te, tk, br)) (fun v9 w9 => v9 = (some (.int (x_say (N, K, b, z, le, rf, hd, ln, vl)).2)) ∧ ∃ J9, w9 = bxW g ad (x_say (N, K, b, z, le, rf, hd, ln, vl)).1 J9) := by
  refine Ct.start (cc := cX3_say) (nL := 1) (ret := (some .int)) (own := RX3) (by decide) rfl rfl rfl ?_
  intro Γ X E
  show Go Γ g 1 (rmC 2 44) 0 0 (bxW g ad (N, K, b, z, le, rf, hd, ln, vl) (T, ts, te, tk, br)) 0 [(0, .ref (ad 0))] []
  obtain ⟨o1, o2, o3, o4, o5, o6, o7, o8⟩ := id hN
  have o9 := p2_9 o2
  have o10 := sA_512 hN
  refine Go.aload_n X 0 dX3_say_0 rfl ?_
  refine Go.get X f_X3_say_10 0 (v := .ref (ad 1)) rfl rfl dX3_say_1 ?_
  refine Go.get X f_X3_say_141 1 (v := .int (nI (sD N))) rfl rfl dX3_say_4 ?_
  refine Go.bipush X (nI 9) dX3_say_7 k_bp_9 ?_
  refine Go.icmp_ltN X 19 dX3_say_9 (by decide) (by first | omega | (split <;> omega)) (by decide) (fun h9 => ?_) (fun h9 => ?_)
  · --
    refine Go.aload_n X 0 dX3_say_19 rfl ?_
    refine Go.get X f_X3_say_10 0 (v := .ref (ad 1)) rfl rfl dX3_say_20 ?_
    refine Go.dup X dX3_say_23 rfl ?_
    refine Go.get X f_X3_say_141 1 (v := .int (nI (sD N))) rfl rfl dX3_say_24 ?_
    refine Go.iconst X (nI 1) dX3_say_27 k_ic_1 ?_
    refine Go.iadd_e X (nI (sD N + 1)) dX3_say_28 (nI_add _ _) ?_
    refine Go.putM X f_X3_say_141 fp_0_3 1 (bxW g ad ((sN N, sA N, sW N, sD N + 1, sP N, sK N, sO N, sG N, sT N, sF N, sX N), K, b, z, le, rf, hd, ln, vl) (T, ts, te, tk, br)) rfl rfl rfl rfl dX3_say_29 rfl ?_
    refine Go.aload_n X 0 dX3_say_32 rfl ?_
    refine Go.get X f_X3_say_10 0 (v := .ref (ad 1)) rfl rfl dX3_say_33 ?_
    refine Go.get X f_X3_say_141 1 (v := .int (nI (sD N + 1))) rfl rfl dX3_say_36 ?_
    have e9 : x_say (N, K, b, z, le, rf, hd, ln, vl) = (((sN N, sA N, sW N, sD N + 1, sP N, sK N, sO N, sG N, sT N, sF N, sX N), K, b, z, le, rf, hd, ln, vl), (nI (sD N + 1))) := by simp (decide := true) [x_say, rfS, upS_id, h9]
    exact Go.iret X E dX3_say_39 ⟨by rw [e9], _, by rw [e9]⟩ rfl
  · --
    refine Go.aload_n X 0 dX3_say_12 rfl ?_
    refine Go.bipush X ((-6 : Int32)) dX3_say_13 k_bp_m6 ?_
    refine Go.callV0i X (c_refuse_4 g ad N K b z le rf hd ln vl T ts te tk br) cal_X3_refuse gX3_say_X3_refuse (ci := 3) (q0 := 0) rfl rfl rfl rfl rfl dX3_say_15 ?_
    have e9 : x_say (N, K, b, z, le, rf, hd, ln, vl) = ((N, K, b, z, le, inc rf 4, hd, ln, vl), (-6)) := by simp (decide := true) [x_say, rfS, upS_id, h9, Nat.not_lt.mpr h9]
    exact Go.iret X E dX3_say_18 ⟨by rw [e9], _, by rw [e9]⟩ rfl
set_option maxHeartbeats 4000000 in
set_option maxRecDepth 100000 in
theorem b_unsay (g : gT) (ad : Nat → Nat) (N : Sch) (K : Sch) (b : Bool) (z : Nat) (le : Nat → Nat) (rf : Nat → Int32) (hd : Nat → Int32) (ln : Nat → Nat) (vl : Nat → Nat → Int64) (T : Sch) (ts : Nat) (te : Nat) (tk : Nat) (br : Nat → Nat) (v : Int32) (hN : sOk N) : Ct g yX3_unsay wsX3_unsay 2 44 [.ref (ad 0), .int v] (bxW g ad (N, K, b, z, le, rf, hd, ln, vl) (T, ts, te, tk, br)) (fun v9 w9 => v9 = (some (.int (x_unsay (N, K, b, z, le, rf, hd, ln, vl) v).2)) ∧ ∃ J9, w9 = bxW g ad (x_unsay (N, K, b, z, le, rf, hd, ln, vl) v).1 J9) := by
  refine Ct.start (cc := cX3_unsay) (nL := 3) (ret := (some .int)) (own := RX3) (by decide) rfl rfl rfl ?_
  intro Γ X E
  show Go Γ g 3 (rmC 2 44) 0 0 (bxW g ad (N, K, b, z, le, rf, hd, ln, vl) (T, ts, te, tk, br)) 0 [(0, .ref (ad 0)), (1, .int v)] []
  obtain ⟨o1, o2, o3, o4, o5, o6, o7, o8⟩ := id hN
  have o9 := p2_9 o2
  have o10 := sA_512 hN
  refine Go.iload_n X 1 dX3_unsay_0 rfl ?_
  refine Go.iconst X (nI 0) dX3_unsay_1 k_ic_0 ?_
  refine Go.bipush X (nI 9) dX3_unsay_2 k_bp_9 ?_
  refine Go.callSi X  (c_within_9 g v) cal_X3_isWithin [] rfl rfl gX3_unsay_X3_isWithin rfl rfl rfl dX3_unsay_4 ?_
  refine Go.if_neB X 17 dX3_unsay_7 (by decide) (fun h7 => ?_) (fun h7 => ?_)
  · --
    obtain ⟨vk, hvk, rfl⟩ := inb_at (by first | omega | (split <;> omega)) h7
    refine Go.aload_n X 0 dX3_unsay_17 rfl ?_
    refine Go.get X f_X3_unsay_10 0 (v := .ref (ad 1)) rfl rfl dX3_unsay_18 ?_
    refine Go.get X f_X3_unsay_141 1 (v := .int (nI (sD N))) rfl rfl dX3_unsay_21 ?_
    refine Go.istore_n_new X dX3_unsay_24 (by decide) rfl ?_
    refine Go.aload_n X 1 dX3_unsay_25 rfl ?_
    refine Go.get X f_X3_unsay_10 0 (v := .ref (ad 1)) rfl rfl dX3_unsay_26 ?_
    refine Go.iload_n X 2 dX3_unsay_29 rfl ?_
    refine Go.putM X f_X3_unsay_141 fp_0_3 1 (bxW g ad ((sN N, sA N, sW N, vk, sP N, sK N, sO N, sG N, sT N, sF N, sX N), K, b, z, le, rf, hd, ln, vl) (T, ts, te, tk, br)) rfl rfl rfl rfl dX3_unsay_30 rfl ?_
    refine Go.iload_n X 0 dX3_unsay_33 rfl ?_
    have e9 : x_unsay (N, K, b, z, le, rf, hd, ln, vl) (nI vk) = (((sN N, sA N, sW N, vk, sP N, sK N, sO N, sG N, sT N, sF N, sX N), K, b, z, le, rf, hd, ln, vl), (nI (sD N))) := by simp (decide := true) [x_unsay, rfS, upS_id, h7, nI_clamp (show vk < 2 ^ 31 by omega)]
    exact Go.iret X E dX3_unsay_34 ⟨by rw [e9], _, by rw [e9]⟩ rfl
  · --
    refine Go.aload_n X 0 dX3_unsay_10 rfl ?_
    refine Go.bipush X ((-2 : Int32)) dX3_unsay_11 k_bp_m2 ?_
    refine Go.callV0i X (c_refuse_0 g ad N K b z le rf hd ln vl T ts te tk br) cal_X3_refuse gX3_unsay_X3_refuse (ci := 3) (q0 := 0) rfl rfl rfl rfl rfl dX3_unsay_13 ?_
    have e9 : x_unsay (N, K, b, z, le, rf, hd, ln, vl) v = ((N, K, b, z, le, inc rf 0, hd, ln, vl), (-2)) := by simp (decide := true) [x_unsay, rfS, upS_id, h7]
    exact Go.iret X E dX3_unsay_16 ⟨by rw [e9], _, by rw [e9]⟩ rfl
set_option maxHeartbeats 4000000 in
set_option maxRecDepth 100000 in
theorem b_learn (g : gT) (ad : Nat → Nat) (N : Sch) (K : Sch) (b : Bool) (z : Nat) (le : Nat → Nat) (rf : Nat → Int32) (hd : Nat → Int32) (ln : Nat → Nat) (vl : Nat → Nat → Int64) (T : Sch) (ts : Nat) (te : Nat) (tk : Nat) (br : Nat → Nat) (i : Int32) (v : Int32) (hN : sOk N) : Ct g yX3_learn wsX3_learn 2 44 [.ref (ad 0), .int i, .int v] (bxW g ad (N, K, b, z, le, rf, hd, ln, vl) (T, ts, te, tk, br)) (fun v9 w9 => v9 = (some (.int (x_learn (N, K, b, z, le, rf, hd, ln, vl) i v).2)) ∧ ∃ J9, w9 = bxW g ad (x_learn (N, K, b, z, le, rf, hd, ln, vl) i v).1 J9) := by
  refine Ct.start (cc := cX3_learn) (nL := 4) (ret := (some .int)) (own := RX3) (by decide) rfl rfl rfl ?_
  intro Γ X E
  show Go Γ g 4 (rmC 2 44) 0 0 (bxW g ad (N, K, b, z, le, rf, hd, ln, vl) (T, ts, te, tk, br)) 0 [(0, .ref (ad 0)), (1, .int i), (2, .int v)] []
  obtain ⟨o1, o2, o3, o4, o5, o6, o7, o8⟩ := id hN
  have o9 := p2_9 o2
  have o10 := sA_512 hN
  refine Go.aload_n X 0 dX3_learn_0 rfl ?_
  refine Go.get X f_X3_learn_10 0 (v := .ref (ad 1)) rfl rfl dX3_learn_1 ?_
  refine Go.iload_n X 1 dX3_learn_4 rfl ?_
  refine Go.callVi X  (c_isSomebody g (ad 1) (ad 2) (ad 3) (ad 4) N i (by exact hN)) cal_X0_isSomebody [1, 2, 3, 4] rfl rfl gX3_learn_X0_isSomebody (ci := 0) (q0 := 1) rfl rfl rfl rfl rfl dX3_learn_5 ?_
  refine Go.if_eqB X 21 dX3_learn_8 (by decide) (fun h8 => ?_) (fun h8 => ?_)
  · --
    refine Go.aload_n X 0 dX3_learn_21 rfl ?_
    refine Go.bipush X ((-2 : Int32)) dX3_learn_22 k_bp_m2 ?_
    refine Go.callV0i X (c_refuse_0 g ad N K b z le rf hd ln vl T ts te tk br) cal_X3_refuse gX3_learn_X3_refuse (ci := 3) (q0 := 0) rfl rfl rfl rfl rfl dX3_learn_24 ?_
    have e9 : x_learn (N, K, b, z, le, rf, hd, ln, vl) i v = ((N, K, b, z, le, inc rf 0, hd, ln, vl), (-2)) := by simp (decide := true) [x_learn, rfS, upS_id, h8]
    exact Go.iret X E dX3_learn_27 ⟨by rw [e9], _, by rw [e9]⟩ rfl
  · --
    obtain ⟨ik, hik, rfl⟩ := inb_at (by first | omega | (split <;> omega)) h8
    refine Go.iload_n X 2 dX3_learn_11 rfl ?_
    refine Go.iconst X (nI 0) dX3_learn_12 k_ic_0 ?_
    refine Go.bipush X (nI 9) dX3_learn_13 k_bp_9 ?_
    refine Go.callSi X  (c_within_9 g v) cal_X3_isWithin [] rfl rfl gX3_learn_X3_isWithin rfl rfl rfl dX3_learn_15 ?_
    refine Go.if_neB X 28 dX3_learn_18 (by decide) (fun h18 => ?_) (fun h18 => ?_)
    · --
      obtain ⟨vk, hvk, rfl⟩ := inb_at (by first | omega | (split <;> omega)) h18
      refine Go.aload_n X 0 dX3_learn_28 rfl ?_
      refine Go.get X f_X3_learn_10 0 (v := .ref (ad 1)) rfl rfl dX3_learn_29 ?_
      refine Go.get X f_X3_learn_153 1 (v := .ref (ad 4)) rfl rfl dX3_learn_32 ?_
      refine Go.iload_n X 1 dX3_learn_35 rfl ?_
      refine Go.ialdN X 4 (w := sO N) rfl (by first | omega | (split <;> omega)) rfl dX3_learn_36 ?_
      refine Go.istore_n_new X dX3_learn_37 (by decide) rfl ?_
      refine Go.aload_n X 1 dX3_learn_38 rfl ?_
      refine Go.get X f_X3_learn_10 0 (v := .ref (ad 1)) rfl rfl dX3_learn_39 ?_
      refine Go.get X f_X3_learn_153 1 (v := .ref (ad 4)) rfl rfl dX3_learn_42 ?_
      refine Go.iload_n X 2 dX3_learn_45 rfl ?_
      refine Go.iload_n X 3 dX3_learn_46 rfl ?_
      refine Go.iastNM X 4 (bxW g ad ((sN N, sA N, sW N, sD N, sP N, sK N, updN (sO N) ik vk, sG N, sT N, sF N, sX N), K, b, z, le, rf, hd, ln, vl) (T, ts, te, tk, br)) (w := sO N) rfl (by first | omega | (split <;> omega)) rfl dX3_learn_47 rfl ?_
      refine Go.iload_n X 0 dX3_learn_48 rfl ?_
      have e9 : x_learn (N, K, b, z, le, rf, hd, ln, vl) (nI ik) (nI vk) = (((sN N, sA N, sW N, sD N, sP N, sK N, updN (sO N) ik vk, sG N, sT N, sF N, sX N), K, b, z, le, rf, hd, ln, vl), (nI ((sO N) ik))) := by simp (decide := true) [x_learn, rfS, upS_id, h8, h18, nI_clamp (show ik < 2 ^ 31 by omega), nI_clamp (show vk < 2 ^ 31 by omega)]
      exact Go.iret X E dX3_learn_49 ⟨by rw [e9], _, by rw [e9]⟩ rfl
    · --
      refine Go.aload_n X 0 dX3_learn_21 rfl ?_
      refine Go.bipush X ((-2 : Int32)) dX3_learn_22 k_bp_m2 ?_
      refine Go.callV0i X (c_refuse_0 g ad N K b z le rf hd ln vl T ts te tk br) cal_X3_refuse gX3_learn_X3_refuse (ci := 3) (q0 := 0) rfl rfl rfl rfl rfl dX3_learn_24 ?_
      have e9 : x_learn (N, K, b, z, le, rf, hd, ln, vl) (nI ik) v = ((N, K, b, z, le, inc rf 0, hd, ln, vl), (-2)) := by simp (decide := true) [x_learn, rfS, upS_id, h8, h18, nI_clamp (show ik < 2 ^ 31 by omega)]
      exact Go.iret X E dX3_learn_27 ⟨by rw [e9], _, by rw [e9]⟩ rfl
set_option maxHeartbeats 4000000 in
set_option maxRecDepth 100000 in
theorem b_seed (g : gT) (ad : Nat → Nat) (N : Sch) (K : Sch) (b : Bool) (z : Nat) (le : Nat → Nat) (rf : Nat → Int32) (hd : Nat → Int32) (ln : Nat → Nat) (vl : Nat → Nat → Int64) (T : Sch) (ts : Nat) (te : Nat) (tk : Nat) (br : Nat → Nat) (v : Int32)  : Ct g yX3_seed wsX3_seed 0 0 [.ref (ad 0), .int v] (bxW g ad (N, K, b, z, le, rf, hd, ln, vl) (T, ts, te, tk, br)) (fun v9 w9 => v9 = (some (.int (x_seed (N, K, b, z, le, rf, hd, ln, vl) v).2)) ∧ ∃ J9, w9 = bxW g ad (x_seed (N, K, b, z, le, rf, hd, ln, vl) v).1 J9) := by
  refine Ct.start (cc := cX3_seed) (nL := 3) (ret := (some .int)) (own := RX3) (by decide) rfl rfl rfl ?_
  intro Γ X E
  show Go Γ g 3 (rmC 0 0) 0 0 (bxW g ad (N, K, b, z, le, rf, hd, ln, vl) (T, ts, te, tk, br)) 0 [(0, .ref (ad 0)), (1, .int v)] []
  refine Go.aload_n X 0 dX3_seed_0 rfl ?_
  refine Go.get X f_X3_seed_10 0 (v := .ref (ad 1)) rfl rfl dX3_seed_1 ?_
  refine Go.get X f_X3_seed_162 1 (v := .int (sG N)) rfl rfl dX3_seed_4 ?_
  refine Go.istore_n_new X dX3_seed_7 (by decide) rfl ?_
  refine Go.aload_n X 1 dX3_seed_8 rfl ?_
  refine Go.get X f_X3_seed_10 0 (v := .ref (ad 1)) rfl rfl dX3_seed_9 ?_
  refine Go.iload_n X 2 dX3_seed_12 rfl ?_
  refine Go.putM X f_X3_seed_162 fp_0_7 1 (bxW g ad ((sN N, sA N, sW N, sD N, sP N, sK N, sO N, v, sT N, sF N, sX N), K, b, z, le, rf, hd, ln, vl) (T, ts, te, tk, br)) rfl rfl rfl rfl dX3_seed_13 rfl ?_
  refine Go.iload_n X 0 dX3_seed_16 rfl ?_
  have e9 : x_seed (N, K, b, z, le, rf, hd, ln, vl) v = (((sN N, sA N, sW N, sD N, sP N, sK N, sO N, v, sT N, sF N, sX N), K, b, z, le, rf, hd, ln, vl), (sG N)) := by simp (decide := true) [x_seed, rfS, upS_id]
  exact Go.iret X E dX3_seed_17 ⟨by rw [e9], _, by rw [e9]⟩ rfl
set_option maxHeartbeats 4000000 in
set_option maxRecDepth 100000 in
theorem b_image (g : gT) (ad : Nat → Nat) (N : Sch) (K : Sch) (b : Bool) (z : Nat) (le : Nat → Nat) (rf : Nat → Int32) (hd : Nat → Int32) (ln : Nat → Nat) (vl : Nat → Nat → Int64) (T : Sch) (ts : Nat) (te : Nat) (tk : Nat) (br : Nat → Nat) (hN : sOk N) : Ct g yX3_image wsX3_image 2 81 [.ref (ad 0)] (bxW g ad (N, K, b, z, le, rf, hd, ln, vl) (T, ts, te, tk, br)) (fun v9 w9 => v9 = (some (.int (x_image (N, K, b, z, le, rf, hd, ln, vl)).2)) ∧ ∃ J9, w9 = bxW g ad (x_image (N, K, b, z, le, rf, hd, ln, vl)).1 J9) := by
  refine Ct.start (cc := cX3_image) (nL := 1) (ret := (some .int)) (own := RX3) (by decide) rfl rfl rfl ?_
  intro Γ X E
  show Go Γ g 1 (rmC 2 81) 0 0 (bxW g ad (N, K, b, z, le, rf, hd, ln, vl) (T, ts, te, tk, br)) 0 [(0, .ref (ad 0))] []
  obtain ⟨o1, o2, o3, o4, o5, o6, o7, o8⟩ := id hN
  have o9 := p2_9 o2
  have o10 := sA_512 hN
  refine Go.aload_n X 0 dX3_image_0 rfl ?_
  refine Go.get X f_X3_image_19 0 (v := .ref (ad 9)) rfl rfl dX3_image_1 ?_
  refine Go.aload_n X 0 dX3_image_4 rfl ?_
  refine Go.get X f_X3_image_10 0 (v := .ref (ad 1)) rfl rfl dX3_image_5 ?_
  refine Go.callVvw X (c_become g (ad 9) (ad 10) (ad 11) (ad 12) K (ad 1) (ad 2) (ad 3) (ad 4) N) cal_X0_become [9, 10, 11, 12, 1, 2, 3, 4] rfl rfl gX3_image_X0_become (ci := 0) (q0 := 9) rfl rfl rfl rfl rfl dX3_image_8 (M9 := bxW g ad (N, N, b, z, le, rf, hd, ln, vl) (T, ts, te, tk, br)) rfl ?_
  refine Go.aload_n X 0 dX3_image_11 rfl ?_
  refine Go.iconst X (nI 1) dX3_image_12 k_ic_1 ?_
  refine Go.putM X f_X3_image_169 fp_3_3 0 (bxW g ad (N, N, true, z, le, rf, hd, ln, vl) (T, ts, te, tk, br)) rfl rfl rfl rfl dX3_image_13 rfl ?_
  refine Go.iconst X (nI 1) dX3_image_16 k_ic_1 ?_
  have e9 : x_image (N, K, b, z, le, rf, hd, ln, vl) = ((N, N, true, z, le, rf, hd, ln, vl), (nI 1)) := by simp (decide := true) [x_image, rfS, upS_id]
  exact Go.iret X E dX3_image_17 ⟨by rw [e9], _, by rw [e9]⟩ rfl
set_option maxHeartbeats 4000000 in
set_option maxRecDepth 100000 in
theorem b_wipe (g : gT) (ad : Nat → Nat) (N : Sch) (K : Sch) (b : Bool) (z : Nat) (le : Nat → Nat) (rf : Nat → Int32) (hd : Nat → Int32) (ln : Nat → Nat) (vl : Nat → Nat → Int64) (T : Sch) (ts : Nat) (te : Nat) (tk : Nat) (br : Nat → Nat)  : Ct g yX3_wipe wsX3_wipe 0 0 [.ref (ad 0)] (bxW g ad (N, K, b, z, le, rf, hd, ln, vl) (T, ts, te, tk, br)) (fun v9 w9 => v9 = (some (.int (x_wipe (N, K, b, z, le, rf, hd, ln, vl)).2)) ∧ ∃ J9, w9 = bxW g ad (x_wipe (N, K, b, z, le, rf, hd, ln, vl)).1 J9) := by
  refine Ct.start (cc := cX3_wipe) (nL := 2) (ret := (some .int)) (own := RX3) (by decide) rfl rfl rfl ?_
  intro Γ X E
  show Go Γ g 2 (rmC 0 0) 0 0 (bxW g ad (N, K, b, z, le, rf, hd, ln, vl) (T, ts, te, tk, br)) 0 [(0, .ref (ad 0))] []
  refine Go.aload_n X 0 dX3_wipe_0 rfl ?_
  refine Go.get X f_X3_wipe_25 0 (v := .ref (ad 13)) rfl rfl dX3_wipe_1 ?_
  refine Go.get X f_X3_wipe_173 13 (v := .int (nI z)) rfl rfl dX3_wipe_4 ?_
  refine Go.istore_n_new X dX3_wipe_7 (by decide) rfl ?_
  refine Go.aload_n X 1 dX3_wipe_8 rfl ?_
  refine Go.get X f_X3_wipe_25 0 (v := .ref (ad 13)) rfl rfl dX3_wipe_9 ?_
  refine Go.iconst X (nI 0) dX3_wipe_12 k_ic_0 ?_
  refine Go.putM X f_X3_wipe_173 fp_2_1 13 (bxW g ad (N, K, b, 0, le, rf, hd, ln, vl) (T, ts, te, tk, br)) rfl rfl rfl rfl dX3_wipe_13 rfl ?_
  refine Go.iload_n X 0 dX3_wipe_16 rfl ?_
  have e9 : x_wipe (N, K, b, z, le, rf, hd, ln, vl) = ((N, K, b, 0, le, rf, hd, ln, vl), (nI z)) := by simp (decide := true) [x_wipe, rfS, upS_id]
  exact Go.iret X E dX3_wipe_17 ⟨by rw [e9], _, by rw [e9]⟩ rfl
set_option maxHeartbeats 4000000 in
set_option maxRecDepth 100000 in
theorem b_feed (g : gT) (ad : Nat → Nat) (N : Sch) (K : Sch) (b : Bool) (z : Nat) (le : Nat → Nat) (rf : Nat → Int32) (hd : Nat → Int32) (ln : Nat → Nat) (vl : Nat → Nat → Int64) (T : Sch) (ts : Nat) (te : Nat) (tk : Nat) (br : Nat → Nat) (v : Int32) (hz : z ≤ 250) : Ct g yX3_feed wsX3_feed 2 44 [.ref (ad 0), .int v] (bxW g ad (N, K, b, z, le, rf, hd, ln, vl) (T, ts, te, tk, br)) (fun v9 w9 => v9 = (some (.int (x_feed (N, K, b, z, le, rf, hd, ln, vl) v).2)) ∧ ∃ J9, w9 = bxW g ad (x_feed (N, K, b, z, le, rf, hd, ln, vl) v).1 J9) := by
  refine Ct.start (cc := cX3_feed) (nL := 2) (ret := (some .int)) (own := RX3) (by decide) rfl rfl rfl ?_
  intro Γ X E
  show Go Γ g 2 (rmC 2 44) 0 0 (bxW g ad (N, K, b, z, le, rf, hd, ln, vl) (T, ts, te, tk, br)) 0 [(0, .ref (ad 0)), (1, .int v)] []
  refine Go.iload_n X 1 dX3_feed_0 rfl ?_
  refine Go.iconst X (nI 0) dX3_feed_1 k_ic_0 ?_
  refine Go.sipush X (nI 255) dX3_feed_2 k_sp_255 ?_
  refine Go.callSi X  (c_within_255 g v) cal_X3_isWithin [] rfl rfl gX3_feed_X3_isWithin rfl rfl rfl dX3_feed_5 ?_
  refine Go.if_neB X 18 dX3_feed_8 (by decide) (fun h8 => ?_) (fun h8 => ?_)
  · --
    obtain ⟨vk, hvk, rfl⟩ := inb_at (by first | omega | (split <;> omega)) h8
    refine Go.aload_n X 0 dX3_feed_18 rfl ?_
    refine Go.get X f_X3_feed_25 0 (v := .ref (ad 13)) rfl rfl dX3_feed_19 ?_
    refine Go.get X f_X3_feed_173 13 (v := .int (nI z)) rfl rfl dX3_feed_22 ?_
    refine Go.sipush X (nI 250) dX3_feed_25 k_sp_250 ?_
    refine Go.icmp_ltN X 38 dX3_feed_28 (by decide) (by first | omega | (split <;> omega)) (by decide) (fun h28 => ?_) (fun h28 => ?_)
    · --
      refine Go.aload_n X 0 dX3_feed_38 rfl ?_
      refine Go.get X f_X3_feed_25 0 (v := .ref (ad 13)) rfl rfl dX3_feed_39 ?_
      refine Go.iload_n X 1 dX3_feed_42 rfl ?_
      refine Go.callVvw X (c_append g (ad 13) (ad 14) z le ts te tk vk (by first | omega | (split <;> omega))) cal_X2_append [13, 14] rfl rfl gX3_feed_X2_append (ci := 2) (q0 := 13) rfl rfl rfl rfl rfl dX3_feed_43 (M9 := bxW g ad (N, K, b, z + 1, updN le z vk, rf, hd, ln, vl) (T, ts, te, tk, br)) rfl ?_
      refine Go.aload_n X 0 dX3_feed_46 rfl ?_
      refine Go.get X f_X3_feed_25 0 (v := .ref (ad 13)) rfl rfl dX3_feed_47 ?_
      refine Go.get X f_X3_feed_173 13 (v := .int (nI (z + 1))) rfl rfl dX3_feed_50 ?_
      have e9 : x_feed (N, K, b, z, le, rf, hd, ln, vl) (nI vk) = ((N, K, b, z + 1, updN le z vk, rf, hd, ln, vl), (nI (z + 1))) := by simp (decide := true) [x_feed, rfS, upS_id, h8, h28, nI_clamp (show vk < 2 ^ 31 by omega)]
      exact Go.iret X E dX3_feed_53 ⟨by rw [e9], _, by rw [e9]⟩ rfl
    · --
      refine Go.aload_n X 0 dX3_feed_31 rfl ?_
      refine Go.bipush X ((-6 : Int32)) dX3_feed_32 k_bp_m6 ?_
      refine Go.callV0i X (c_refuse_4 g ad N K b z le rf hd ln vl T ts te tk br) cal_X3_refuse gX3_feed_X3_refuse (ci := 3) (q0 := 0) rfl rfl rfl rfl rfl dX3_feed_34 ?_
      have e9 : x_feed (N, K, b, z, le, rf, hd, ln, vl) (nI vk) = ((N, K, b, z, le, inc rf 4, hd, ln, vl), (-6)) := by simp (decide := true) [x_feed, rfS, upS_id, h8, h28, Nat.not_lt.mpr h28, nI_clamp (show vk < 2 ^ 31 by omega)]
      exact Go.iret X E dX3_feed_37 ⟨by rw [e9], _, by rw [e9]⟩ rfl
  · --
    refine Go.aload_n X 0 dX3_feed_11 rfl ?_
    refine Go.bipush X ((-2 : Int32)) dX3_feed_12 k_bp_m2 ?_
    refine Go.callV0i X (c_refuse_0 g ad N K b z le rf hd ln vl T ts te tk br) cal_X3_refuse gX3_feed_X3_refuse (ci := 3) (q0 := 0) rfl rfl rfl rfl rfl dX3_feed_14 ?_
    have e9 : x_feed (N, K, b, z, le, rf, hd, ln, vl) v = ((N, K, b, z, le, inc rf 0, hd, ln, vl), (-2)) := by simp (decide := true) [x_feed, rfS, upS_id, h8]
    exact Go.iret X E dX3_feed_17 ⟨by rw [e9], _, by rw [e9]⟩ rfl
set_option maxHeartbeats 4000000 in
set_option maxRecDepth 100000 in
theorem c_forget (g : gT) (ad : Nat → Nat) (N : Sch) (K : Sch) (b : Bool) (z : Nat) (le : Nat → Nat) (rf : Nat → Int32) (hd : Nat → Int32) (ln : Nat → Nat) (vl : Nat → Nat → Int64) (T : Sch) (ts : Nat) (te : Nat) (tk : Nat) (br : Nat → Nat)  : Cw g yX3_forgetWhoIsGone wsX3_forgetWhoIsGone 1 20 [.ref (ad 0)] (bxW g ad (N, K, b, z, le, rf, hd, ln, vl) (T, ts, te, tk, br)) none (bxW g ad (N, K, b, z, le, rf, gone (sP N) hd 8, gonL (sP N) hd ln 8, vl) (T, ts, te, tk, br)) := by
  refine Ct.start (cc := cX3_forgetWhoIsGone) (nL := 2) (ret := none) (own := RX3) (by decide) rfl rfl rfl ?_
  intro Γ X E
  show Go Γ g 2 (rmC 1 20) 0 0 (bxW g ad (N, K, b, z, le, rf, hd, ln, vl) (T, ts, te, tk, br)) 0 [(0, .ref (ad 0))] []
  refine Go.iconst X (nI 0) dX3_forgetWhoIsGone_0 k_ic_0 ?_
  refine Go.istore_n_new X dX3_forgetWhoIsGone_1 (by decide) rfl ?_
  have L2 : ∀ (f2 : Nat) (k : Nat) (hk : k ≤ 8) (hf2 : 8 - k < f2), Go Γ g 2 (rmC 1 20) 0 0 (bxW g ad (N, K, b, z, le, rf, gone (sP N) hd k, gonL (sP N) hd ln k, vl) (T, ts, te, tk, br)) 2 [(1, .int (nI k)), (0, .ref (ad 0))] [] := by
    intro f2
    induction f2 with
    | zero => intro k hk hf2; exact absurd hf2 (Nat.not_lt_zero _)
    | succ f2 ih2 =>
      intro k hk hf2
      refine Go.iload_n X 0 dX3_forgetWhoIsGone_2 rfl ?_
      refine Go.bipush X (nI 8) dX3_forgetWhoIsGone_3 k_bp_8 ?_
      refine Go.icmp_geN X 45 dX3_forgetWhoIsGone_5 (by decide) (by first | omega | (split <;> omega)) (by decide) (fun h5 => ?_) (fun h5 => ?_)
      · --
        exact Go.vret X E dX3_forgetWhoIsGone_45 ⟨rfl, (by rw [show k = 8 by omega])⟩ rfl
      · --
        refine Go.aload_n X 1 dX3_forgetWhoIsGone_8 rfl ?_
        refine Go.get X f_X3_forgetWhoIsGone_31 0 (v := .ref (ad 15)) rfl rfl dX3_forgetWhoIsGone_9 ?_
        refine Go.iload_n X 0 dX3_forgetWhoIsGone_12 rfl ?_
        refine Go.aald X 15 (x := ad (18 + 2 * k)) rfl (vp_in_nI (by first | omega | (split <;> omega)) (by decide)) (by rw [nI_clamp (by first | omega | (split <;> omega))]) dX3_forgetWhoIsGone_13 ?_
        refine Go.get X f_X3_forgetWhoIsGone_76 (18 + 2 * k) (v := .int ((gone (sP N) hd k) k)) (bx_sh g ad _ _ (by first | omega | (split <;> omega))) rfl dX3_forgetWhoIsGone_14 ?_
        refine Go.bipush X (nI 10) dX3_forgetWhoIsGone_17 k_bp_10 ?_
        refine Go.aload_n X 1 dX3_forgetWhoIsGone_19 rfl ?_
        refine Go.get X f_X3_forgetWhoIsGone_10 0 (v := .ref (ad 1)) rfl rfl dX3_forgetWhoIsGone_20 ?_
        refine Go.get X f_X3_forgetWhoIsGone_123 1 (v := .int (nI (sP N))) rfl rfl dX3_forgetWhoIsGone_23 ?_
        refine Go.iadd_e X (nI (10 + sP N)) dX3_forgetWhoIsGone_26 (nI_add _ _) ?_
        refine Go.icmp_lt X 39 dX3_forgetWhoIsGone_27 (by decide) (fun h27 => ?_) (fun h27 => ?_)
        · --
          refine Go.iinc_0 X (nI (k + 1)) dX3_forgetWhoIsGone_39 (by decide) rfl (show nI k + Int32.ofInt 1 = nI (k + 1) from nI_add _ 1) ?_
          refine Go.goto X 2 dX3_forgetWhoIsGone_42 (by decide) ?_
          refine Go.conv (M1 := bxW g ad (N, K, b, z, le, rf, gone (sP N) hd (k + 1), gonL (sP N) hd ln (k + 1), vl) (T, ts, te, tk, br)) ?_ (by rw [← gone_f (Int32.not_le.mpr h27), ← gonL_f (Int32.not_le.mpr h27)]) rfl rfl
          exact ih2 (k + 1) (by first | omega | (split <;> omega)) (by first | omega | (split <;> omega))
        · --
          refine Go.aload_n X 1 dX3_forgetWhoIsGone_30 rfl ?_
          refine Go.get X f_X3_forgetWhoIsGone_31 0 (v := .ref (ad 15)) rfl rfl dX3_forgetWhoIsGone_31 ?_
          refine Go.iload_n X 0 dX3_forgetWhoIsGone_34 rfl ?_
          refine Go.aald X 15 (x := ad (18 + 2 * k)) rfl (vp_in_nI (by first | omega | (split <;> omega)) (by decide)) (by rw [nI_clamp (by first | omega | (split <;> omega))]) dX3_forgetWhoIsGone_35 ?_
          refine Go.callVvw X (c_holdNothing g (ad (18 + 2 * k)) (ad (19 + 2 * k)) ((gone (sP N) hd k) k) ((gonL (sP N) hd ln k) k) (vl k)) cal_X1_holdNothing [(18 + 2 * k), (19 + 2 * k)] (bx_pos g ad _ _ (by first | omega | (split <;> omega))) (bx_nd (by first | omega | (split <;> omega))) gX3_forgetWhoIsGone_X1_holdNothing (ci := 1) (q0 := (18 + 2 * k)) rfl (bx_sh g ad _ _ (by first | omega | (split <;> omega))) rfl rfl rfl dX3_forgetWhoIsGone_36 (M9 := bxW g ad (N, K, b, z, le, rf, upS (gone (sP N) hd k) k (-1), upS (gonL (sP N) hd ln k) k 0, vl) (T, ts, te, tk, br)) ((bx_put g ad _ _ _ _ _ _ _ _ _ _ (by first | omega | (split <;> omega)) _ _ _).trans (by simp only [upS_id])) ?_
          refine Go.iinc_0 X (nI (k + 1)) dX3_forgetWhoIsGone_39 (by decide) rfl (show nI k + Int32.ofInt 1 = nI (k + 1) from nI_add _ 1) ?_
          refine Go.goto X 2 dX3_forgetWhoIsGone_42 (by decide) ?_
          refine Go.conv (M1 := bxW g ad (N, K, b, z, le, rf, gone (sP N) hd (k + 1), gonL (sP N) hd ln (k + 1), vl) (T, ts, te, tk, br)) ?_ (by rw [gone_t (Int32.not_lt.mp h27), gonL_t (Int32.not_lt.mp h27)]) rfl rfl
          exact ih2 (k + 1) (by first | omega | (split <;> omega)) (by first | omega | (split <;> omega))
  refine Go.conv (M1 := bxW g ad (N, K, b, z, le, rf, gone (sP N) hd 0, gonL (sP N) hd ln 0, vl) (T, ts, te, tk, br)) ?_ (by rw [gone_0, gonL_0]) rfl rfl
  exact L2 (8 - 0 + 1) 0 (by first | omega | (split <;> omega)) (Nat.lt_succ_self _)
set_option maxHeartbeats 4000000 in
set_option maxRecDepth 100000 in
theorem b_leave (g : gT) (ad : Nat → Nat) (N : Sch) (K : Sch) (b : Bool) (z : Nat) (le : Nat → Nat) (rf : Nat → Int32) (hd : Nat → Int32) (ln : Nat → Nat) (vl : Nat → Nat → Int64) (T : Sch) (ts : Nat) (te : Nat) (tk : Nat) (br : Nat → Nat) (hN : sOk N) : Ct g yX3_leave wsX3_leave 3 65 [.ref (ad 0)] (bxW g ad (N, K, b, z, le, rf, hd, ln, vl) (T, ts, te, tk, br)) (fun v9 w9 => v9 = (some (.int (x_leave (N, K, b, z, le, rf, hd, ln, vl)).2)) ∧ ∃ J9, w9 = bxW g ad (x_leave (N, K, b, z, le, rf, hd, ln, vl)).1 J9) := by
  refine Ct.start (cc := cX3_leave) (nL := 1) (ret := (some .int)) (own := RX3) (by decide) rfl rfl rfl ?_
  intro Γ X E
  show Go Γ g 1 (rmC 3 65) 0 0 (bxW g ad (N, K, b, z, le, rf, hd, ln, vl) (T, ts, te, tk, br)) 0 [(0, .ref (ad 0))] []
  obtain ⟨o1, o2, o3, o4, o5, o6, o7, o8⟩ := id hN
  have o9 := p2_9 o2
  have o10 := sA_512 hN
  refine Go.aload_n X 0 dX3_leave_0 rfl ?_
  refine Go.get X f_X3_leave_10 0 (v := .ref (ad 1)) rfl rfl dX3_leave_1 ?_
  refine Go.get X f_X3_leave_123 1 (v := .int (nI (sP N))) rfl rfl dX3_leave_4 ?_
  refine Go.if_neN X 17 dX3_leave_7 (by decide) (by first | omega | (split <;> omega)) (fun h7 => ?_) (fun h7 => ?_)
  · --
    refine Go.aload_n X 0 dX3_leave_17 rfl ?_
    refine Go.get X f_X3_leave_10 0 (v := .ref (ad 1)) rfl rfl dX3_leave_18 ?_
    refine Go.aload_n X 0 dX3_leave_21 rfl ?_
    refine Go.get X f_X3_leave_10 0 (v := .ref (ad 1)) rfl rfl dX3_leave_22 ?_
    refine Go.get X f_X3_leave_123 1 (v := .int (nI (sP N))) rfl rfl dX3_leave_25 ?_
    refine Go.iconst X (nI 1) dX3_leave_28 k_ic_1 ?_
    refine Go.isub_e X (nI (sP N - 1)) dX3_leave_29 (pk_sub (by first | omega | (split <;> omega))) ?_
    refine Go.callVvw X (c_removeSomebody g (ad 1) (ad 2) (ad 3) (ad 4) N (sP N - 1) (by exact hN) (by first | omega | (split <;> omega))) cal_X0_removeSomebody [1, 2, 3, 4] rfl rfl gX3_leave_X0_removeSomebody (ci := 0) (q0 := 1) rfl rfl rfl rfl rfl dX3_leave_30 (M9 := bxW g ad ((sN N, sA N, sW N, sD N, sP N - 1, shf (sK N) (sP N - 1) (sP N), shf (sO N) (sP N - 1) (sP N), sG N, sT N, sF N, sX N), K, b, z, le, rf, hd, ln, vl) (T, ts, te, tk, br)) rfl ?_
    refine Go.aload_n X 0 dX3_leave_33 rfl ?_
    refine Go.callV0v X (c_forget g ad (sN N, sA N, sW N, sD N, sP N - 1, shf (sK N) (sP N - 1) (sP N), shf (sO N) (sP N - 1) (sP N), sG N, sT N, sF N, sX N) K b z le rf hd ln vl T ts te tk br) cal_X3_forgetWhoIsGone gX3_leave_X3_forgetWhoIsGone (ci := 3) (q0 := 0) rfl rfl rfl rfl rfl dX3_leave_34 ?_
    refine Go.aload_n X 0 dX3_leave_37 rfl ?_
    refine Go.get X f_X3_leave_10 0 (v := .ref (ad 1)) rfl rfl dX3_leave_38 ?_
    refine Go.get X f_X3_leave_123 1 (v := .int (nI (sP N - 1))) rfl rfl dX3_leave_41 ?_
    have e9 : x_leave (N, K, b, z, le, rf, hd, ln, vl) = (((sN N, sA N, sW N, sD N, sP N - 1, shf (sK N) (sP N - 1) (sP N), shf (sO N) (sP N - 1) (sP N), sG N, sT N, sF N, sX N), K, b, z, le, rf, gone (sP (sN N, sA N, sW N, sD N, sP N - 1, shf (sK N) (sP N - 1) (sP N), shf (sO N) (sP N - 1) (sP N), sG N, sT N, sF N, sX N)) hd 8, gonL (sP (sN N, sA N, sW N, sD N, sP N - 1, shf (sK N) (sP N - 1) (sP N), shf (sO N) (sP N - 1) (sP N), sG N, sT N, sF N, sX N)) hd ln 8, vl), (nI (sP N - 1))) := by simp (decide := true) [x_leave, rfS, upS_id, h7]
    exact Go.iret X E dX3_leave_44 ⟨by rw [e9], _, by rw [e9]⟩ rfl
  · --
    refine Go.aload_n X 0 dX3_leave_10 rfl ?_
    refine Go.bipush X ((-5 : Int32)) dX3_leave_11 k_bp_m5 ?_
    refine Go.callV0i X (c_refuse_3 g ad N K b z le rf hd ln vl T ts te tk br) cal_X3_refuse gX3_leave_X3_refuse (ci := 3) (q0 := 0) rfl rfl rfl rfl rfl dX3_leave_13 ?_
    have e9 : x_leave (N, K, b, z, le, rf, hd, ln, vl) = ((N, K, b, z, le, inc rf 3, hd, ln, vl), (-5)) := by simp (decide := true) [x_leave, rfS, upS_id, h7]
    exact Go.iret X E dX3_leave_16 ⟨by rw [e9], _, by rw [e9]⟩ rfl
set_option maxHeartbeats 4000000 in
set_option maxRecDepth 100000 in
theorem b_back (g : gT) (ad : Nat → Nat) (N : Sch) (K : Sch) (b : Bool) (z : Nat) (le : Nat → Nat) (rf : Nat → Int32) (hd : Nat → Int32) (ln : Nat → Nat) (vl : Nat → Nat → Int64) (T : Sch) (ts : Nat) (te : Nat) (tk : Nat) (br : Nat → Nat) (hK : sOk K) : Ct g yX3_back wsX3_back 2 81 [.ref (ad 0)] (bxW g ad (N, K, b, z, le, rf, hd, ln, vl) (T, ts, te, tk, br)) (fun v9 w9 => v9 = (some (.int (x_back (N, K, b, z, le, rf, hd, ln, vl)).2)) ∧ ∃ J9, w9 = bxW g ad (x_back (N, K, b, z, le, rf, hd, ln, vl)).1 J9) := by
  refine Ct.start (cc := cX3_back) (nL := 1) (ret := (some .int)) (own := RX3) (by decide) rfl rfl rfl ?_
  intro Γ X E
  show Go Γ g 1 (rmC 2 81) 0 0 (bxW g ad (N, K, b, z, le, rf, hd, ln, vl) (T, ts, te, tk, br)) 0 [(0, .ref (ad 0))] []
  refine Go.aload_n X 0 dX3_back_0 rfl ?_
  refine Go.get X f_X3_back_169 0 (v := .int (b2i b)) rfl rfl dX3_back_1 ?_
  refine Go.if_neB X 14 dX3_back_4 (by decide) (fun h4 => ?_) (fun h4 => ?_)
  · --
    refine Go.aload_n X 0 dX3_back_14 rfl ?_
    refine Go.get X f_X3_back_10 0 (v := .ref (ad 1)) rfl rfl dX3_back_15 ?_
    refine Go.aload_n X 0 dX3_back_18 rfl ?_
    refine Go.get X f_X3_back_19 0 (v := .ref (ad 9)) rfl rfl dX3_back_19 ?_
    refine Go.callVvw X (c_become g (ad 1) (ad 2) (ad 3) (ad 4) N (ad 9) (ad 10) (ad 11) (ad 12) K) cal_X0_become [1, 2, 3, 4, 9, 10, 11, 12] rfl rfl gX3_back_X0_become (ci := 0) (q0 := 1) rfl rfl rfl rfl rfl dX3_back_22 (M9 := bxW g ad (K, K, b, z, le, rf, hd, ln, vl) (T, ts, te, tk, br)) rfl ?_
    refine Go.aload_n X 0 dX3_back_25 rfl ?_
    refine Go.callV0v X (c_forget g ad K K b z le rf hd ln vl T ts te tk br) cal_X3_forgetWhoIsGone gX3_back_X3_forgetWhoIsGone (ci := 3) (q0 := 0) rfl rfl rfl rfl rfl dX3_back_26 ?_
    refine Go.iconst X (nI 1) dX3_back_29 k_ic_1 ?_
    have e9 : x_back (N, K, b, z, le, rf, hd, ln, vl) = ((K, K, b, z, le, rf, gone (sP K) hd 8, gonL (sP K) hd ln 8, vl), (nI 1)) := by simp (decide := true) [x_back, rfS, upS_id, h4]
    exact Go.iret X E dX3_back_30 ⟨by rw [e9], _, by rw [e9]⟩ rfl
  · --
    refine Go.aload_n X 0 dX3_back_7 rfl ?_
    refine Go.bipush X ((-5 : Int32)) dX3_back_8 k_bp_m5 ?_
    refine Go.callV0i X (c_refuse_3 g ad N K b z le rf hd ln vl T ts te tk br) cal_X3_refuse gX3_back_X3_refuse (ci := 3) (q0 := 0) rfl rfl rfl rfl rfl dX3_back_10 ?_
    have e9 : x_back (N, K, b, z, le, rf, hd, ln, vl) = ((N, K, b, z, le, inc rf 3, hd, ln, vl), (-5)) := by simp (decide := true) [x_back, rfS, upS_id, h4]
    exact Go.iret X E dX3_back_13 ⟨by rw [e9], _, by rw [e9]⟩ rfl
