/-! 05.m0.static -/
theorem cal_X3_isWithin : Cal yX3_isWithin wsX3_isWithin cX3_isWithin 3 (some .boolean) RX3 3 := ⟨⟨_, rfl⟩, by decide +kernel⟩
theorem cal_X3_isIn : Cal yX3_isIn wsX3_isIn cX3_isIn 2 (some .boolean) RX3 2 := ⟨⟨_, rfl⟩, by decide +kernel⟩
theorem cal_X3_shareOf : Cal yX3_shareOf wsX3_shareOf cX3_shareOf 2 (some .int) RX3 2 := ⟨⟨_, rfl⟩, by decide +kernel⟩
theorem f_X0_allMornings_32 : FL wsX0_allMornings RX0 32 0 0 := ⟨RX0, TX0, 11, rfl, fun _ h => List.mem_cons_of_mem _ (List.mem_append_right _ h), by decide, List.mem_of_getElem? (i := 1) (by decide +kernel)⟩
theorem f_X0_allPeople_44 : FL wsX0_allPeople RX0 44 0 4 := ⟨RX0, TX0, 11, rfl, fun _ h => List.mem_cons_of_mem _ (List.mem_append_right _ h), by decide, List.mem_of_getElem? (i := 1) (by decide +kernel)⟩
theorem f_X0_isMorning_32 : FL wsX0_isMorning RX0 32 0 0 := ⟨RX0, TX0, 11, rfl, fun _ h => List.mem_cons_of_mem _ (List.mem_append_right _ h), by decide, List.mem_of_getElem? (i := 1) (by decide +kernel)⟩
theorem f_X0_isSomebody_44 : FL wsX0_isSomebody RX0 44 0 4 := ⟨RX0, TX0, 11, rfl, fun _ h => List.mem_cons_of_mem _ (List.mem_append_right _ h), by decide, List.mem_of_getElem? (i := 1) (by decide +kernel)⟩
theorem f_X0_isAllowed_35 : FL wsX0_isAllowed RX0 35 0 1 := ⟨RX0, TX0, 11, rfl, fun _ h => List.mem_cons_of_mem _ (List.mem_append_right _ h), by decide, List.mem_of_getElem? (i := 1) (by decide +kernel)⟩
theorem f_X0_stillOn_35 : FL wsX0_stillOn RX0 35 0 1 := ⟨RX0, TX0, 11, rfl, fun _ h => List.mem_cons_of_mem _ (List.mem_append_right _ h), by decide, List.mem_of_getElem? (i := 1) (by decide +kernel)⟩
theorem cal_X0_isAllowed : Cal yX0_isAllowed wsX0_isAllowed cX0_isAllowed 2 (some .boolean) RX0 1 := ⟨⟨_, rfl⟩, by decide +kernel⟩
theorem f_X0_lotsOf_9 : FL wsX0_lotsOf RX0 9 0 2 := ⟨RX0, TX0, 11, rfl, fun _ h => List.mem_cons_of_mem _ (List.mem_append_right _ h), by decide, List.mem_of_getElem? (i := 1) (by decide +kernel)⟩
theorem f_X0_weightsOf_32 : FL wsX0_weightsOf RX0 32 0 0 := ⟨RX0, TX0, 11, rfl, fun _ h => List.mem_cons_of_mem _ (List.mem_append_right _ h), by decide, List.mem_of_getElem? (i := 1) (by decide +kernel)⟩
theorem f_X0_weightsOf_9 : FL wsX0_weightsOf RX0 9 0 2 := ⟨RX0, TX0, 11, rfl, fun _ h => List.mem_cons_of_mem _ (List.mem_append_right _ h), by decide, List.mem_of_getElem? (i := 2) (by decide +kernel)⟩
theorem cal_X0_lotsOf : Cal yX0_lotsOf wsX0_lotsOf cX0_lotsOf 2 (some .int) RX0 1 := ⟨⟨_, rfl⟩, by decide +kernel⟩
theorem cal_X0_stillOn : Cal yX0_stillOn wsX0_stillOn cX0_stillOn 2 (some .int) RX0 1 := ⟨⟨_, rfl⟩, by decide +kernel⟩
theorem cal_X0_weightsOf : Cal yX0_weightsOf wsX0_weightsOf cX0_weightsOf 4 (some .int) RX0 1 := ⟨⟨_, rfl⟩, by decide +kernel⟩
theorem f_X0_ownDepthOf_22 : FL wsX0_ownDepthOf RX0 22 0 6 := ⟨RX0, TX0, 11, rfl, fun _ h => List.mem_cons_of_mem _ (List.mem_append_right _ h), by decide, List.mem_of_getElem? (i := 1) (by decide +kernel)⟩
theorem f_X0_ownDepthOf_15 : FL wsX0_ownDepthOf RX0 15 0 3 := ⟨RX0, TX0, 11, rfl, fun _ h => List.mem_cons_of_mem _ (List.mem_append_right _ h), by decide, List.mem_of_getElem? (i := 2) (by decide +kernel)⟩
theorem f_X0_ownDepthOf_19 : FL wsX0_ownDepthOf RX0 19 0 5 := ⟨RX0, TX0, 11, rfl, fun _ h => List.mem_cons_of_mem _ (List.mem_append_right _ h), by decide, List.mem_of_getElem? (i := 7) (by decide +kernel)⟩
theorem f_X0_depthOf_19 : FL wsX0_depthOf RX0 19 0 5 := ⟨RX0, TX0, 11, rfl, fun _ h => List.mem_cons_of_mem _ (List.mem_append_right _ h), by decide, List.mem_of_getElem? (i := 1) (by decide +kernel)⟩
theorem f_X0_depthOf_44 : FL wsX0_depthOf RX0 44 0 4 := ⟨RX0, TX0, 11, rfl, fun _ h => List.mem_cons_of_mem _ (List.mem_append_right _ h), by decide, List.mem_of_getElem? (i := 2) (by decide +kernel)⟩
theorem f_X0_depthOf_15 : FL wsX0_depthOf RX0 15 0 3 := ⟨RX0, TX0, 11, rfl, fun _ h => List.mem_cons_of_mem _ (List.mem_append_right _ h), by decide, List.mem_of_getElem? (i := 7) (by decide +kernel)⟩
theorem cal_X0_ownDepthOf : Cal yX0_ownDepthOf wsX0_ownDepthOf cX0_ownDepthOf 3 (some .int) RX0 1 := ⟨⟨_, rfl⟩, by decide +kernel⟩
theorem f_X0_allowedWithoutLast_35 : FL wsX0_allowedWithoutLast RX0 35 0 1 := ⟨RX0, TX0, 11, rfl, fun _ h => List.mem_cons_of_mem _ (List.mem_append_right _ h), by decide, List.mem_of_getElem? (i := 1) (by decide +kernel)⟩
theorem cal_X3_lastOf : Cal yX3_lastOf wsX3_lastOf cX3_lastOf 2 (some .int) RX3 1 := ⟨⟨_, rfl⟩, by decide +kernel⟩
theorem cal_X0_depthOf : Cal yX0_depthOf wsX0_depthOf cX0_depthOf 4 (some .int) RX0 1 := ⟨⟨_, rfl⟩, by decide +kernel⟩
theorem cal_X0_allowedWithoutLast : Cal yX0_allowedWithoutLast wsX0_allowedWithoutLast cX0_allowedWithoutLast 4 (some .int) RX0 1 := ⟨⟨_, rfl⟩, by decide +kernel⟩
theorem f_X0_sleepsOn_19 : FL wsX0_sleepsOn RX0 19 0 5 := ⟨RX0, TX0, 11, rfl, fun _ h => List.mem_cons_of_mem _ (List.mem_append_right _ h), by decide, List.mem_of_getElem? (i := 1) (by decide +kernel)⟩
theorem cal_X3_isOfKind : Cal yX3_isOfKind wsX3_isOfKind cX3_isOfKind 4 (some .boolean) RX3 2 := ⟨⟨_, rfl⟩, by decide +kernel⟩
theorem f_X0_sleepsOn_22 : FL wsX0_sleepsOn RX0 22 0 6 := ⟨RX0, TX0, 11, rfl, fun _ h => List.mem_cons_of_mem _ (List.mem_append_right _ h), by decide, List.mem_of_getElem? (i := 2) (by decide +kernel)⟩
theorem f_X0_morningsAsleep_32 : FL wsX0_morningsAsleep RX0 32 0 0 := ⟨RX0, TX0, 11, rfl, fun _ h => List.mem_cons_of_mem _ (List.mem_append_right _ h), by decide, List.mem_of_getElem? (i := 1) (by decide +kernel)⟩
theorem cal_X0_sleepsOn : Cal yX0_sleepsOn wsX0_sleepsOn cX0_sleepsOn 3 (some .boolean) RX0 2 := ⟨⟨_, rfl⟩, by decide +kernel⟩
theorem f_X0_reasonedBy_19 : FL wsX0_reasonedBy RX0 19 0 5 := ⟨RX0, TX0, 11, rfl, fun _ h => List.mem_cons_of_mem _ (List.mem_append_right _ h), by decide, List.mem_of_getElem? (i := 1) (by decide +kernel)⟩
theorem f_X0_betBy_19 : FL wsX0_betBy RX0 19 0 5 := ⟨RX0, TX0, 11, rfl, fun _ h => List.mem_cons_of_mem _ (List.mem_append_right _ h), by decide, List.mem_of_getElem? (i := 1) (by decide +kernel)⟩
theorem f_X0_betBy_32 : FL wsX0_betBy RX0 32 0 0 := ⟨RX0, TX0, 11, rfl, fun _ h => List.mem_cons_of_mem _ (List.mem_append_right _ h), by decide, List.mem_of_getElem? (i := 2) (by decide +kernel)⟩
theorem f_X0_betBy_22 : FL wsX0_betBy RX0 22 0 6 := ⟨RX0, TX0, 11, rfl, fun _ h => List.mem_cons_of_mem _ (List.mem_append_right _ h), by decide, List.mem_of_getElem? (i := 3) (by decide +kernel)⟩
theorem cal_X0_reasonedBy : Cal yX0_reasonedBy wsX0_reasonedBy cX0_reasonedBy 3 (some .int) RX0 1 := ⟨⟨_, rfl⟩, by decide +kernel⟩
theorem cal_X0_betBy : Cal yX0_betBy wsX0_betBy cX0_betBy 6 (some .int) RX0 1 := ⟨⟨_, rfl⟩, by decide +kernel⟩
theorem f_X0_reasonedByAll_44 : FL wsX0_reasonedByAll RX0 44 0 4 := ⟨RX0, TX0, 11, rfl, fun _ h => List.mem_cons_of_mem _ (List.mem_append_right _ h), by decide, List.mem_of_getElem? (i := 1) (by decide +kernel)⟩
theorem f_X0_betByAll_44 : FL wsX0_betByAll RX0 44 0 4 := ⟨RX0, TX0, 11, rfl, fun _ h => List.mem_cons_of_mem _ (List.mem_append_right _ h), by decide, List.mem_of_getElem? (i := 1) (by decide +kernel)⟩
theorem f_X0_bySurprise_35 : FL wsX0_bySurprise RX0 35 0 1 := ⟨RX0, TX0, 11, rfl, fun _ h => List.mem_cons_of_mem _ (List.mem_append_right _ h), by decide, List.mem_of_getElem? (i := 1) (by decide +kernel)⟩
theorem cal_X0_reasonedByAll : Cal yX0_reasonedByAll wsX0_reasonedByAll cX0_reasonedByAll 3 (some .int) RX0 0 := ⟨⟨_, rfl⟩, by decide +kernel⟩
theorem cal_X0_betByAll : Cal yX0_betByAll wsX0_betByAll cX0_betByAll 3 (some .int) RX0 0 := ⟨⟨_, rfl⟩, by decide +kernel⟩
theorem f_X0_expectingOn_44 : FL wsX0_expectingOn RX0 44 0 4 := ⟨RX0, TX0, 11, rfl, fun _ h => List.mem_cons_of_mem _ (List.mem_append_right _ h), by decide, List.mem_of_getElem? (i := 1) (by decide +kernel)⟩
theorem cal_X0_expectedBy : Cal yX0_expectedBy wsX0_expectedBy cX0_expectedBy 2 (some .int) RX0 1 := ⟨⟨_, rfl⟩, by decide +kernel⟩
theorem f_X0_canForesee_19 : FL wsX0_canForesee RX0 19 0 5 := ⟨RX0, TX0, 11, rfl, fun _ h => List.mem_cons_of_mem _ (List.mem_append_right _ h), by decide, List.mem_of_getElem? (i := 1) (by decide +kernel)⟩
theorem f_X0_morningByRule_32 : FL wsX0_morningByRule RX0 32 0 0 := ⟨RX0, TX0, 11, rfl, fun _ h => List.mem_cons_of_mem _ (List.mem_append_right _ h), by decide, List.mem_of_getElem? (i := 1) (by decide +kernel)⟩
theorem k_ic_0 : Int32.ofInt (0) = nI 0 := by decide
theorem k_ic_1 : Int32.ofInt (1) = nI 1 := by decide
theorem k_bp_7 : (Int8.ofInt (7)).toInt32 = nI 7 := by decide
theorem k_ic_5 : Int32.ofInt (5) = nI 5 := by decide
theorem k_bp_40 : (Int8.ofInt (40)).toInt32 = nI 40 := by decide
theorem k_bp_9 : (Int8.ofInt (9)).toInt32 = nI 9 := by decide
theorem k_ic_m1 : Int32.ofInt (-1) = (-1 : Int32) := by decide
theorem k_bp_8 : (Int8.ofInt (8)).toInt32 = nI 8 := by decide
theorem k_ic_3 : Int32.ofInt (3) = nI 3 := by decide
theorem k_ic_4 : Int32.ofInt (4) = nI 4 := by decide
theorem k_ic_2 : Int32.ofInt (2) = nI 2 := by decide
theorem k_bp_10 : (Int8.ofInt (10)).toInt32 = nI 10 := by decide
set_option maxHeartbeats 4000000 in
set_option maxRecDepth 100000 in
theorem c_isWithin (g : gT) (v : Int32) (lo : Int32) (hi : Int32)  : Cw g yX3_isWithin wsX3_isWithin 0 0 [.int v, .int lo, .int hi] ([]) (some (.int (b2i (wi v lo hi)))) ([]) := by
  refine Ct.start (cc := cX3_isWithin) (nL := 3) (ret := (some .boolean)) (own := RX3) (by decide) rfl rfl rfl ?_
  intro Γ X E
  show Go Γ g 3 (rmC 0 0) 0 0 ([]) 0 [(0, .int v), (1, .int lo), (2, .int hi)] []
  refine Go.iload_n X 0 dX3_isWithin_0 rfl ?_
  refine Go.iload_n X 1 dX3_isWithin_1 rfl ?_
  refine Go.icmp_lt X 14 dX3_isWithin_2 (by decide) (fun h2 => ?_) (fun h2 => ?_)
  · --
    refine Go.iconst X (nI 0) dX3_isWithin_14 k_ic_0 ?_
    exact Go.nret X E rfl dX3_isWithin_15 ⟨rv (b2i_f (by simp [wi, Int32.not_le.mpr h2])), rfl⟩ rfl
  · --
    refine Go.iload_n X 0 dX3_isWithin_5 rfl ?_
    refine Go.iload_n X 2 dX3_isWithin_6 rfl ?_
    refine Go.icmp_gt X 14 dX3_isWithin_7 (by decide) (fun h7 => ?_) (fun h7 => ?_)
    · --
      refine Go.iconst X (nI 0) dX3_isWithin_14 k_ic_0 ?_
      exact Go.nret X E rfl dX3_isWithin_15 ⟨rv (b2i_f (by simp [wi, Int32.not_le.mpr h7])), rfl⟩ rfl
    · --
      refine Go.iconst X (nI 1) dX3_isWithin_10 k_ic_1 ?_
      refine Go.goto X 15 dX3_isWithin_11 (by decide) ?_
      exact Go.nret X E rfl dX3_isWithin_15 ⟨rv (b2i_t (by simp [wi, Int32.not_lt.mp h2, Int32.not_lt.mp h7])), rfl⟩ rfl
set_option maxHeartbeats 4000000 in
set_option maxRecDepth 100000 in
theorem c_isShelf (g : gT) (x : Int32)  : Cw g yX3_isShelf wsX3_isShelf 1 22 [.int x] ([]) (some (.int (b2i (inb x 8)))) ([]) := by
  refine Ct.start (cc := cX3_isShelf) (nL := 1) (ret := (some .boolean)) (own := RX3) (by decide) rfl rfl rfl ?_
  intro Γ X E
  show Go Γ g 1 (rmC 1 22) 0 0 ([]) 0 [(0, .int x)] []
  refine Go.iload_n X 0 dX3_isShelf_0 rfl ?_
  refine Go.iconst X (nI 0) dX3_isShelf_1 k_ic_0 ?_
  refine Go.bipush X (nI 7) dX3_isShelf_2 k_bp_7 ?_
  refine Go.callSi X  (c_isWithin g x (nI 0) (nI 7)) cal_X3_isWithin [] rfl rfl gX3_isShelf_X3_isWithin rfl rfl rfl dX3_isShelf_4 ?_
  exact Go.nret X E (b2i_nar _) dX3_isShelf_7 ⟨rv (congrArg b2i (show (wi x (nI 0) (nI 7)) = (inb x 8) from by exact wi_inb (n := 8) (by decide) (by decide))), rfl⟩ rfl
set_option maxHeartbeats 4000000 in
set_option maxRecDepth 100000 in
theorem c_isKind (g : gT) (x : Int32)  : Cw g yX3_isKind wsX3_isKind 1 22 [.int x] ([]) (some (.int (b2i (inb x 6)))) ([]) := by
  refine Ct.start (cc := cX3_isKind) (nL := 1) (ret := (some .boolean)) (own := RX3) (by decide) rfl rfl rfl ?_
  intro Γ X E
  show Go Γ g 1 (rmC 1 22) 0 0 ([]) 0 [(0, .int x)] []
  refine Go.iload_n X 0 dX3_isKind_0 rfl ?_
  refine Go.iconst X (nI 0) dX3_isKind_1 k_ic_0 ?_
  refine Go.iconst X (nI 5) dX3_isKind_2 k_ic_5 ?_
  refine Go.callSi X  (c_isWithin g x (nI 0) (nI 5)) cal_X3_isWithin [] rfl rfl gX3_isKind_X3_isWithin rfl rfl rfl dX3_isKind_3 ?_
  exact Go.nret X E (b2i_nar _) dX3_isKind_6 ⟨rv (congrArg b2i (show (wi x (nI 0) (nI 5)) = (inb x 6) from by exact wi_inb (n := 6) (by decide) (by decide))), rfl⟩ rfl
set_option maxHeartbeats 4000000 in
set_option maxRecDepth 100000 in
theorem c_isCoin (g : gT) (x : Int32)  : Cw g yX3_isCoin wsX3_isCoin 1 22 [.int x] ([]) (some (.int (b2i (wi x (nI 1) (nI 40))))) ([]) := by
  refine Ct.start (cc := cX3_isCoin) (nL := 1) (ret := (some .boolean)) (own := RX3) (by decide) rfl rfl rfl ?_
  intro Γ X E
  show Go Γ g 1 (rmC 1 22) 0 0 ([]) 0 [(0, .int x)] []
  refine Go.iload_n X 0 dX3_isCoin_0 rfl ?_
  refine Go.iconst X (nI 1) dX3_isCoin_1 k_ic_1 ?_
  refine Go.bipush X (nI 40) dX3_isCoin_2 k_bp_40 ?_
  refine Go.callSi X  (c_isWithin g x (nI 1) (nI 40)) cal_X3_isWithin [] rfl rfl gX3_isCoin_X3_isWithin rfl rfl rfl dX3_isCoin_4 ?_
  exact Go.nret X E (b2i_nar _) dX3_isCoin_7 ⟨rfl, rfl⟩ rfl
set_option maxHeartbeats 4000000 in
set_option maxRecDepth 100000 in
theorem c_isOfKind_0 (g : gT) (u : Nat) (hu : u < 6) : Cw g yX3_isOfKind wsX3_isOfKind 0 0 [.int (nI 0), .int (nI u)] ([]) (some (.int (b2i (isK 0 u)))) ([]) := by
  refine Ct.start (cc := cX3_isOfKind) (nL := 4) (ret := (some .boolean)) (own := RX3) (by decide) rfl rfl rfl ?_
  intro Γ X E
  show Go Γ g 4 (rmC 0 0) 0 0 ([]) 0 [(0, .int (nI 0)), (1, .int (nI u))] []
  refine Go.iload_n X 0 dX3_isOfKind_0 rfl ?_
  refine Go.istore_n_new X dX3_isOfKind_1 (by decide) rfl ?_
  refine Go.iconst X (nI 0) dX3_isOfKind_2 k_ic_0 ?_
  refine Go.istore_n_new X dX3_isOfKind_3 (by decide) rfl ?_
  refine Go.iload_n X 0 dX3_isOfKind_4 rfl ?_
  refine Go.kaRef X (List.mem_of_getElem? (i := 1) (by decide +kernel)) dX3_isOfKind_5 ?_
  refine Go.kaLen X dX3_isOfKind_8 ?_
  refine Go.icmp_ge X 45 dX3_isOfKind_9 (by decide) (fun h => absurd h (by decide)) (fun _ => ?_)
  refine Go.iload_n X 1 dX3_isOfKind_12 rfl ?_
  refine Go.iload_n X 3 dX3_isOfKind_13 rfl ?_
  refine Go.icmp_neN X 19 dX3_isOfKind_14 (by decide) (by decide) (by first | omega | (split <;> omega)) (fun h14 => ?_) (fun h14 => ?_)
  · --
    refine Go.iload_n X 1 dX3_isOfKind_19 rfl ?_
    refine Go.if_lt X 31 dX3_isOfKind_20 (by decide) (fun h => absurd h (by decide)) (fun _ => ?_)
    refine Go.iload_n X 1 dX3_isOfKind_23 rfl ?_
    refine Go.kaRef X (List.mem_of_getElem? (i := 1) (by decide +kernel)) dX3_isOfKind_24 ?_
    refine Go.kaLen X dX3_isOfKind_27 ?_
    refine Go.icmp_lt X 33 dX3_isOfKind_28 (by decide) (fun _ => ?_) (fun h => absurd (by decide) h)
    refine Go.kaRef X (List.mem_of_getElem? (i := 1) (by decide +kernel)) dX3_isOfKind_33 ?_
    refine Go.iload_n X 1 dX3_isOfKind_36 rfl ?_
    refine Go.kaAt X (v := (-1)) (by exact vp_in_nI (n := 0) (by decide) (by decide)) (by rfl) dX3_isOfKind_37 ?_
    refine Go.istore_n_1 X dX3_isOfKind_38 (by decide) rfl ?_
    refine Go.iinc_0 X (nI 1) dX3_isOfKind_39 (by decide) rfl (by decide) ?_
    refine Go.goto X 4 dX3_isOfKind_42 (by decide) ?_
    refine Go.iload_n X 0 dX3_isOfKind_4 rfl ?_
    refine Go.kaRef X (List.mem_of_getElem? (i := 1) (by decide +kernel)) dX3_isOfKind_5 ?_
    refine Go.kaLen X dX3_isOfKind_8 ?_
    refine Go.icmp_ge X 45 dX3_isOfKind_9 (by decide) (fun h => absurd h (by decide)) (fun _ => ?_)
    refine Go.iload_n X 1 dX3_isOfKind_12 rfl ?_
    refine Go.iload_n X 3 dX3_isOfKind_13 rfl ?_
    refine Go.icmp_ne X 19 dX3_isOfKind_14 (by decide) (fun h14 => ?_) (fun h14 => ?_)
    · --
      refine Go.iload_n X 1 dX3_isOfKind_19 rfl ?_
      refine Go.if_lt X 31 dX3_isOfKind_20 (by decide) (fun _ => ?_) (fun h => absurd (by decide) h)
      refine Go.iconst X (nI 0) dX3_isOfKind_31 k_ic_0 ?_
      exact Go.nret X E rfl dX3_isOfKind_32 ⟨rv (b2i_f (by first | (subst h14; decide) | (simp [isK] <;> omega))), rfl⟩ rfl
    · --
      exact absurd h14 (m1_ne (by omega))
  · --
    refine Go.iconst X (nI 1) dX3_isOfKind_17 k_ic_1 ?_
    exact Go.nret X E rfl dX3_isOfKind_18 ⟨rv (b2i_t (by first | (subst h14; decide) | (simp [isK] <;> omega))), rfl⟩ rfl
set_option maxHeartbeats 4000000 in
set_option maxRecDepth 100000 in
theorem c_isOfKind_1 (g : gT) (u : Nat) (hu : u < 6) : Cw g yX3_isOfKind wsX3_isOfKind 0 0 [.int (nI 1), .int (nI u)] ([]) (some (.int (b2i (isK 1 u)))) ([]) := by
  refine Ct.start (cc := cX3_isOfKind) (nL := 4) (ret := (some .boolean)) (own := RX3) (by decide) rfl rfl rfl ?_
  intro Γ X E
  show Go Γ g 4 (rmC 0 0) 0 0 ([]) 0 [(0, .int (nI 1)), (1, .int (nI u))] []
  refine Go.iload_n X 0 dX3_isOfKind_0 rfl ?_
  refine Go.istore_n_new X dX3_isOfKind_1 (by decide) rfl ?_
  refine Go.iconst X (nI 0) dX3_isOfKind_2 k_ic_0 ?_
  refine Go.istore_n_new X dX3_isOfKind_3 (by decide) rfl ?_
  refine Go.iload_n X 0 dX3_isOfKind_4 rfl ?_
  refine Go.kaRef X (List.mem_of_getElem? (i := 1) (by decide +kernel)) dX3_isOfKind_5 ?_
  refine Go.kaLen X dX3_isOfKind_8 ?_
  refine Go.icmp_ge X 45 dX3_isOfKind_9 (by decide) (fun h => absurd h (by decide)) (fun _ => ?_)
  refine Go.iload_n X 1 dX3_isOfKind_12 rfl ?_
  refine Go.iload_n X 3 dX3_isOfKind_13 rfl ?_
  refine Go.icmp_neN X 19 dX3_isOfKind_14 (by decide) (by decide) (by first | omega | (split <;> omega)) (fun h14 => ?_) (fun h14 => ?_)
  · --
    refine Go.iload_n X 1 dX3_isOfKind_19 rfl ?_
    refine Go.if_lt X 31 dX3_isOfKind_20 (by decide) (fun h => absurd h (by decide)) (fun _ => ?_)
    refine Go.iload_n X 1 dX3_isOfKind_23 rfl ?_
    refine Go.kaRef X (List.mem_of_getElem? (i := 1) (by decide +kernel)) dX3_isOfKind_24 ?_
    refine Go.kaLen X dX3_isOfKind_27 ?_
    refine Go.icmp_lt X 33 dX3_isOfKind_28 (by decide) (fun _ => ?_) (fun h => absurd (by decide) h)
    refine Go.kaRef X (List.mem_of_getElem? (i := 1) (by decide +kernel)) dX3_isOfKind_33 ?_
    refine Go.iload_n X 1 dX3_isOfKind_36 rfl ?_
    refine Go.kaAt X (v := (nI 0)) (by exact vp_in_nI (n := 1) (by decide) (by decide)) (by rfl) dX3_isOfKind_37 ?_
    refine Go.istore_n_1 X dX3_isOfKind_38 (by decide) rfl ?_
    refine Go.iinc_0 X (nI 1) dX3_isOfKind_39 (by decide) rfl (by decide) ?_
    refine Go.goto X 4 dX3_isOfKind_42 (by decide) ?_
    refine Go.iload_n X 0 dX3_isOfKind_4 rfl ?_
    refine Go.kaRef X (List.mem_of_getElem? (i := 1) (by decide +kernel)) dX3_isOfKind_5 ?_
    refine Go.kaLen X dX3_isOfKind_8 ?_
    refine Go.icmp_ge X 45 dX3_isOfKind_9 (by decide) (fun h => absurd h (by decide)) (fun _ => ?_)
    refine Go.iload_n X 1 dX3_isOfKind_12 rfl ?_
    refine Go.iload_n X 3 dX3_isOfKind_13 rfl ?_
    refine Go.icmp_neN X 19 dX3_isOfKind_14 (by decide) (by decide) (by first | omega | (split <;> omega)) (fun h14 => ?_) (fun h14 => ?_)
    · --
      refine Go.iload_n X 1 dX3_isOfKind_19 rfl ?_
      refine Go.if_lt X 31 dX3_isOfKind_20 (by decide) (fun h => absurd h (by decide)) (fun _ => ?_)
      refine Go.iload_n X 1 dX3_isOfKind_23 rfl ?_
      refine Go.kaRef X (List.mem_of_getElem? (i := 1) (by decide +kernel)) dX3_isOfKind_24 ?_
      refine Go.kaLen X dX3_isOfKind_27 ?_
      refine Go.icmp_lt X 33 dX3_isOfKind_28 (by decide) (fun _ => ?_) (fun h => absurd (by decide) h)
      refine Go.kaRef X (List.mem_of_getElem? (i := 1) (by decide +kernel)) dX3_isOfKind_33 ?_
      refine Go.iload_n X 1 dX3_isOfKind_36 rfl ?_
      refine Go.kaAt X (v := (-1)) (by exact vp_in_nI (n := 0) (by decide) (by decide)) (by rfl) dX3_isOfKind_37 ?_
      refine Go.istore_n_1 X dX3_isOfKind_38 (by decide) rfl ?_
      refine Go.iinc_0 X (nI 2) dX3_isOfKind_39 (by decide) rfl (by decide) ?_
      refine Go.goto X 4 dX3_isOfKind_42 (by decide) ?_
      refine Go.iload_n X 0 dX3_isOfKind_4 rfl ?_
      refine Go.kaRef X (List.mem_of_getElem? (i := 1) (by decide +kernel)) dX3_isOfKind_5 ?_
      refine Go.kaLen X dX3_isOfKind_8 ?_
      refine Go.icmp_ge X 45 dX3_isOfKind_9 (by decide) (fun h => absurd h (by decide)) (fun _ => ?_)
      refine Go.iload_n X 1 dX3_isOfKind_12 rfl ?_
      refine Go.iload_n X 3 dX3_isOfKind_13 rfl ?_
      refine Go.icmp_ne X 19 dX3_isOfKind_14 (by decide) (fun h14 => ?_) (fun h14 => ?_)
      · --
        refine Go.iload_n X 1 dX3_isOfKind_19 rfl ?_
        refine Go.if_lt X 31 dX3_isOfKind_20 (by decide) (fun _ => ?_) (fun h => absurd (by decide) h)
        refine Go.iconst X (nI 0) dX3_isOfKind_31 k_ic_0 ?_
        exact Go.nret X E rfl dX3_isOfKind_32 ⟨rv (b2i_f (by first | (subst h14; decide) | (simp [isK] <;> omega))), rfl⟩ rfl
      · --
        exact absurd h14 (m1_ne (by omega))
    · --
      refine Go.iconst X (nI 1) dX3_isOfKind_17 k_ic_1 ?_
      exact Go.nret X E rfl dX3_isOfKind_18 ⟨rv (b2i_t (by first | (subst h14; decide) | (simp [isK] <;> omega))), rfl⟩ rfl
  · --
    refine Go.iconst X (nI 1) dX3_isOfKind_17 k_ic_1 ?_
    exact Go.nret X E rfl dX3_isOfKind_18 ⟨rv (b2i_t (by first | (subst h14; decide) | (simp [isK] <;> omega))), rfl⟩ rfl
set_option maxHeartbeats 4000000 in
set_option maxRecDepth 100000 in
theorem c_isOfKind_2 (g : gT) (u : Nat) (hu : u < 6) : Cw g yX3_isOfKind wsX3_isOfKind 0 0 [.int (nI 2), .int (nI u)] ([]) (some (.int (b2i (isK 2 u)))) ([]) := by
  refine Ct.start (cc := cX3_isOfKind) (nL := 4) (ret := (some .boolean)) (own := RX3) (by decide) rfl rfl rfl ?_
  intro Γ X E
  show Go Γ g 4 (rmC 0 0) 0 0 ([]) 0 [(0, .int (nI 2)), (1, .int (nI u))] []
  refine Go.iload_n X 0 dX3_isOfKind_0 rfl ?_
  refine Go.istore_n_new X dX3_isOfKind_1 (by decide) rfl ?_
  refine Go.iconst X (nI 0) dX3_isOfKind_2 k_ic_0 ?_
  refine Go.istore_n_new X dX3_isOfKind_3 (by decide) rfl ?_
  refine Go.iload_n X 0 dX3_isOfKind_4 rfl ?_
  refine Go.kaRef X (List.mem_of_getElem? (i := 1) (by decide +kernel)) dX3_isOfKind_5 ?_
  refine Go.kaLen X dX3_isOfKind_8 ?_
  refine Go.icmp_ge X 45 dX3_isOfKind_9 (by decide) (fun h => absurd h (by decide)) (fun _ => ?_)
  refine Go.iload_n X 1 dX3_isOfKind_12 rfl ?_
  refine Go.iload_n X 3 dX3_isOfKind_13 rfl ?_
  refine Go.icmp_neN X 19 dX3_isOfKind_14 (by decide) (by decide) (by first | omega | (split <;> omega)) (fun h14 => ?_) (fun h14 => ?_)
  · --
    refine Go.iload_n X 1 dX3_isOfKind_19 rfl ?_
    refine Go.if_lt X 31 dX3_isOfKind_20 (by decide) (fun h => absurd h (by decide)) (fun _ => ?_)
    refine Go.iload_n X 1 dX3_isOfKind_23 rfl ?_
    refine Go.kaRef X (List.mem_of_getElem? (i := 1) (by decide +kernel)) dX3_isOfKind_24 ?_
    refine Go.kaLen X dX3_isOfKind_27 ?_
    refine Go.icmp_lt X 33 dX3_isOfKind_28 (by decide) (fun _ => ?_) (fun h => absurd (by decide) h)
    refine Go.kaRef X (List.mem_of_getElem? (i := 1) (by decide +kernel)) dX3_isOfKind_33 ?_
    refine Go.iload_n X 1 dX3_isOfKind_36 rfl ?_
    refine Go.kaAt X (v := (nI 0)) (by exact vp_in_nI (n := 2) (by decide) (by decide)) (by rfl) dX3_isOfKind_37 ?_
    refine Go.istore_n_1 X dX3_isOfKind_38 (by decide) rfl ?_
    refine Go.iinc_0 X (nI 1) dX3_isOfKind_39 (by decide) rfl (by decide) ?_
    refine Go.goto X 4 dX3_isOfKind_42 (by decide) ?_
    refine Go.iload_n X 0 dX3_isOfKind_4 rfl ?_
    refine Go.kaRef X (List.mem_of_getElem? (i := 1) (by decide +kernel)) dX3_isOfKind_5 ?_
    refine Go.kaLen X dX3_isOfKind_8 ?_
    refine Go.icmp_ge X 45 dX3_isOfKind_9 (by decide) (fun h => absurd h (by decide)) (fun _ => ?_)
    refine Go.iload_n X 1 dX3_isOfKind_12 rfl ?_
    refine Go.iload_n X 3 dX3_isOfKind_13 rfl ?_
    refine Go.icmp_neN X 19 dX3_isOfKind_14 (by decide) (by decide) (by first | omega | (split <;> omega)) (fun h14 => ?_) (fun h14 => ?_)
    · --
      refine Go.iload_n X 1 dX3_isOfKind_19 rfl ?_
      refine Go.if_lt X 31 dX3_isOfKind_20 (by decide) (fun h => absurd h (by decide)) (fun _ => ?_)
      refine Go.iload_n X 1 dX3_isOfKind_23 rfl ?_
      refine Go.kaRef X (List.mem_of_getElem? (i := 1) (by decide +kernel)) dX3_isOfKind_24 ?_
      refine Go.kaLen X dX3_isOfKind_27 ?_
      refine Go.icmp_lt X 33 dX3_isOfKind_28 (by decide) (fun _ => ?_) (fun h => absurd (by decide) h)
      refine Go.kaRef X (List.mem_of_getElem? (i := 1) (by decide +kernel)) dX3_isOfKind_33 ?_
      refine Go.iload_n X 1 dX3_isOfKind_36 rfl ?_
      refine Go.kaAt X (v := (-1)) (by exact vp_in_nI (n := 0) (by decide) (by decide)) (by rfl) dX3_isOfKind_37 ?_
      refine Go.istore_n_1 X dX3_isOfKind_38 (by decide) rfl ?_
      refine Go.iinc_0 X (nI 2) dX3_isOfKind_39 (by decide) rfl (by decide) ?_
      refine Go.goto X 4 dX3_isOfKind_42 (by decide) ?_
      refine Go.iload_n X 0 dX3_isOfKind_4 rfl ?_
      refine Go.kaRef X (List.mem_of_getElem? (i := 1) (by decide +kernel)) dX3_isOfKind_5 ?_
      refine Go.kaLen X dX3_isOfKind_8 ?_
      refine Go.icmp_ge X 45 dX3_isOfKind_9 (by decide) (fun h => absurd h (by decide)) (fun _ => ?_)
      refine Go.iload_n X 1 dX3_isOfKind_12 rfl ?_
      refine Go.iload_n X 3 dX3_isOfKind_13 rfl ?_
      refine Go.icmp_ne X 19 dX3_isOfKind_14 (by decide) (fun h14 => ?_) (fun h14 => ?_)
      · --
        refine Go.iload_n X 1 dX3_isOfKind_19 rfl ?_
        refine Go.if_lt X 31 dX3_isOfKind_20 (by decide) (fun _ => ?_) (fun h => absurd (by decide) h)
        refine Go.iconst X (nI 0) dX3_isOfKind_31 k_ic_0 ?_
        exact Go.nret X E rfl dX3_isOfKind_32 ⟨rv (b2i_f (by first | (subst h14; decide) | (simp [isK] <;> omega))), rfl⟩ rfl
      · --
        exact absurd h14 (m1_ne (by omega))
    · --
      refine Go.iconst X (nI 1) dX3_isOfKind_17 k_ic_1 ?_
      exact Go.nret X E rfl dX3_isOfKind_18 ⟨rv (b2i_t (by first | (subst h14; decide) | (simp [isK] <;> omega))), rfl⟩ rfl
  · --
    refine Go.iconst X (nI 1) dX3_isOfKind_17 k_ic_1 ?_
    exact Go.nret X E rfl dX3_isOfKind_18 ⟨rv (b2i_t (by first | (subst h14; decide) | (simp [isK] <;> omega))), rfl⟩ rfl
set_option maxHeartbeats 4000000 in
set_option maxRecDepth 100000 in
theorem c_isOfKind_3 (g : gT) (u : Nat) (hu : u < 6) : Cw g yX3_isOfKind wsX3_isOfKind 0 0 [.int (nI 3), .int (nI u)] ([]) (some (.int (b2i (isK 3 u)))) ([]) := by
  refine Ct.start (cc := cX3_isOfKind) (nL := 4) (ret := (some .boolean)) (own := RX3) (by decide) rfl rfl rfl ?_
  intro Γ X E
  show Go Γ g 4 (rmC 0 0) 0 0 ([]) 0 [(0, .int (nI 3)), (1, .int (nI u))] []
  refine Go.iload_n X 0 dX3_isOfKind_0 rfl ?_
  refine Go.istore_n_new X dX3_isOfKind_1 (by decide) rfl ?_
  refine Go.iconst X (nI 0) dX3_isOfKind_2 k_ic_0 ?_
  refine Go.istore_n_new X dX3_isOfKind_3 (by decide) rfl ?_
  refine Go.iload_n X 0 dX3_isOfKind_4 rfl ?_
  refine Go.kaRef X (List.mem_of_getElem? (i := 1) (by decide +kernel)) dX3_isOfKind_5 ?_
  refine Go.kaLen X dX3_isOfKind_8 ?_
  refine Go.icmp_ge X 45 dX3_isOfKind_9 (by decide) (fun h => absurd h (by decide)) (fun _ => ?_)
  refine Go.iload_n X 1 dX3_isOfKind_12 rfl ?_
  refine Go.iload_n X 3 dX3_isOfKind_13 rfl ?_
  refine Go.icmp_neN X 19 dX3_isOfKind_14 (by decide) (by decide) (by first | omega | (split <;> omega)) (fun h14 => ?_) (fun h14 => ?_)
  · --
    refine Go.iload_n X 1 dX3_isOfKind_19 rfl ?_
    refine Go.if_lt X 31 dX3_isOfKind_20 (by decide) (fun h => absurd h (by decide)) (fun _ => ?_)
    refine Go.iload_n X 1 dX3_isOfKind_23 rfl ?_
    refine Go.kaRef X (List.mem_of_getElem? (i := 1) (by decide +kernel)) dX3_isOfKind_24 ?_
    refine Go.kaLen X dX3_isOfKind_27 ?_
    refine Go.icmp_lt X 33 dX3_isOfKind_28 (by decide) (fun _ => ?_) (fun h => absurd (by decide) h)
    refine Go.kaRef X (List.mem_of_getElem? (i := 1) (by decide +kernel)) dX3_isOfKind_33 ?_
    refine Go.iload_n X 1 dX3_isOfKind_36 rfl ?_
    refine Go.kaAt X (v := (nI 1)) (by exact vp_in_nI (n := 3) (by decide) (by decide)) (by rfl) dX3_isOfKind_37 ?_
    refine Go.istore_n_1 X dX3_isOfKind_38 (by decide) rfl ?_
    refine Go.iinc_0 X (nI 1) dX3_isOfKind_39 (by decide) rfl (by decide) ?_
    refine Go.goto X 4 dX3_isOfKind_42 (by decide) ?_
    refine Go.iload_n X 0 dX3_isOfKind_4 rfl ?_
    refine Go.kaRef X (List.mem_of_getElem? (i := 1) (by decide +kernel)) dX3_isOfKind_5 ?_
    refine Go.kaLen X dX3_isOfKind_8 ?_
    refine Go.icmp_ge X 45 dX3_isOfKind_9 (by decide) (fun h => absurd h (by decide)) (fun _ => ?_)
    refine Go.iload_n X 1 dX3_isOfKind_12 rfl ?_
    refine Go.iload_n X 3 dX3_isOfKind_13 rfl ?_
    refine Go.icmp_neN X 19 dX3_isOfKind_14 (by decide) (by decide) (by first | omega | (split <;> omega)) (fun h14 => ?_) (fun h14 => ?_)
    · --
      refine Go.iload_n X 1 dX3_isOfKind_19 rfl ?_
      refine Go.if_lt X 31 dX3_isOfKind_20 (by decide) (fun h => absurd h (by decide)) (fun _ => ?_)
      refine Go.iload_n X 1 dX3_isOfKind_23 rfl ?_
      refine Go.kaRef X (List.mem_of_getElem? (i := 1) (by decide +kernel)) dX3_isOfKind_24 ?_
      refine Go.kaLen X dX3_isOfKind_27 ?_
      refine Go.icmp_lt X 33 dX3_isOfKind_28 (by decide) (fun _ => ?_) (fun h => absurd (by decide) h)
      refine Go.kaRef X (List.mem_of_getElem? (i := 1) (by decide +kernel)) dX3_isOfKind_33 ?_
      refine Go.iload_n X 1 dX3_isOfKind_36 rfl ?_
      refine Go.kaAt X (v := (nI 0)) (by exact vp_in_nI (n := 1) (by decide) (by decide)) (by rfl) dX3_isOfKind_37 ?_
      refine Go.istore_n_1 X dX3_isOfKind_38 (by decide) rfl ?_
      refine Go.iinc_0 X (nI 2) dX3_isOfKind_39 (by decide) rfl (by decide) ?_
      refine Go.goto X 4 dX3_isOfKind_42 (by decide) ?_
      refine Go.iload_n X 0 dX3_isOfKind_4 rfl ?_
      refine Go.kaRef X (List.mem_of_getElem? (i := 1) (by decide +kernel)) dX3_isOfKind_5 ?_
      refine Go.kaLen X dX3_isOfKind_8 ?_
      refine Go.icmp_ge X 45 dX3_isOfKind_9 (by decide) (fun h => absurd h (by decide)) (fun _ => ?_)
      refine Go.iload_n X 1 dX3_isOfKind_12 rfl ?_
      refine Go.iload_n X 3 dX3_isOfKind_13 rfl ?_
      refine Go.icmp_neN X 19 dX3_isOfKind_14 (by decide) (by decide) (by first | omega | (split <;> omega)) (fun h14 => ?_) (fun h14 => ?_)
      · --
        refine Go.iload_n X 1 dX3_isOfKind_19 rfl ?_
        refine Go.if_lt X 31 dX3_isOfKind_20 (by decide) (fun h => absurd h (by decide)) (fun _ => ?_)
        refine Go.iload_n X 1 dX3_isOfKind_23 rfl ?_
        refine Go.kaRef X (List.mem_of_getElem? (i := 1) (by decide +kernel)) dX3_isOfKind_24 ?_
        refine Go.kaLen X dX3_isOfKind_27 ?_
        refine Go.icmp_lt X 33 dX3_isOfKind_28 (by decide) (fun _ => ?_) (fun h => absurd (by decide) h)
        refine Go.kaRef X (List.mem_of_getElem? (i := 1) (by decide +kernel)) dX3_isOfKind_33 ?_
        refine Go.iload_n X 1 dX3_isOfKind_36 rfl ?_
        refine Go.kaAt X (v := (-1)) (by exact vp_in_nI (n := 0) (by decide) (by decide)) (by rfl) dX3_isOfKind_37 ?_
        refine Go.istore_n_1 X dX3_isOfKind_38 (by decide) rfl ?_
        refine Go.iinc_0 X (nI 3) dX3_isOfKind_39 (by decide) rfl (by decide) ?_
        refine Go.goto X 4 dX3_isOfKind_42 (by decide) ?_
        refine Go.iload_n X 0 dX3_isOfKind_4 rfl ?_
        refine Go.kaRef X (List.mem_of_getElem? (i := 1) (by decide +kernel)) dX3_isOfKind_5 ?_
        refine Go.kaLen X dX3_isOfKind_8 ?_
        refine Go.icmp_ge X 45 dX3_isOfKind_9 (by decide) (fun h => absurd h (by decide)) (fun _ => ?_)
        refine Go.iload_n X 1 dX3_isOfKind_12 rfl ?_
        refine Go.iload_n X 3 dX3_isOfKind_13 rfl ?_
        refine Go.icmp_ne X 19 dX3_isOfKind_14 (by decide) (fun h14 => ?_) (fun h14 => ?_)
        · --
          refine Go.iload_n X 1 dX3_isOfKind_19 rfl ?_
          refine Go.if_lt X 31 dX3_isOfKind_20 (by decide) (fun _ => ?_) (fun h => absurd (by decide) h)
          refine Go.iconst X (nI 0) dX3_isOfKind_31 k_ic_0 ?_
          exact Go.nret X E rfl dX3_isOfKind_32 ⟨rv (b2i_f (by first | (subst h14; decide) | (simp [isK] <;> omega))), rfl⟩ rfl
        · --
          exact absurd h14 (m1_ne (by omega))
      · --
        refine Go.iconst X (nI 1) dX3_isOfKind_17 k_ic_1 ?_
        exact Go.nret X E rfl dX3_isOfKind_18 ⟨rv (b2i_t (by first | (subst h14; decide) | (simp [isK] <;> omega))), rfl⟩ rfl
    · --
      refine Go.iconst X (nI 1) dX3_isOfKind_17 k_ic_1 ?_
      exact Go.nret X E rfl dX3_isOfKind_18 ⟨rv (b2i_t (by first | (subst h14; decide) | (simp [isK] <;> omega))), rfl⟩ rfl
  · --
    refine Go.iconst X (nI 1) dX3_isOfKind_17 k_ic_1 ?_
    exact Go.nret X E rfl dX3_isOfKind_18 ⟨rv (b2i_t (by first | (subst h14; decide) | (simp [isK] <;> omega))), rfl⟩ rfl
set_option maxHeartbeats 4000000 in
set_option maxRecDepth 100000 in
theorem c_isOfKind_4 (g : gT) (u : Nat) (hu : u < 6) : Cw g yX3_isOfKind wsX3_isOfKind 0 0 [.int (nI 4), .int (nI u)] ([]) (some (.int (b2i (isK 4 u)))) ([]) := by
  refine Ct.start (cc := cX3_isOfKind) (nL := 4) (ret := (some .boolean)) (own := RX3) (by decide) rfl rfl rfl ?_
  intro Γ X E
  show Go Γ g 4 (rmC 0 0) 0 0 ([]) 0 [(0, .int (nI 4)), (1, .int (nI u))] []
  refine Go.iload_n X 0 dX3_isOfKind_0 rfl ?_
  refine Go.istore_n_new X dX3_isOfKind_1 (by decide) rfl ?_
  refine Go.iconst X (nI 0) dX3_isOfKind_2 k_ic_0 ?_
  refine Go.istore_n_new X dX3_isOfKind_3 (by decide) rfl ?_
  refine Go.iload_n X 0 dX3_isOfKind_4 rfl ?_
  refine Go.kaRef X (List.mem_of_getElem? (i := 1) (by decide +kernel)) dX3_isOfKind_5 ?_
  refine Go.kaLen X dX3_isOfKind_8 ?_
  refine Go.icmp_ge X 45 dX3_isOfKind_9 (by decide) (fun h => absurd h (by decide)) (fun _ => ?_)
  refine Go.iload_n X 1 dX3_isOfKind_12 rfl ?_
  refine Go.iload_n X 3 dX3_isOfKind_13 rfl ?_
  refine Go.icmp_neN X 19 dX3_isOfKind_14 (by decide) (by decide) (by first | omega | (split <;> omega)) (fun h14 => ?_) (fun h14 => ?_)
  · --
    refine Go.iload_n X 1 dX3_isOfKind_19 rfl ?_
    refine Go.if_lt X 31 dX3_isOfKind_20 (by decide) (fun h => absurd h (by decide)) (fun _ => ?_)
    refine Go.iload_n X 1 dX3_isOfKind_23 rfl ?_
    refine Go.kaRef X (List.mem_of_getElem? (i := 1) (by decide +kernel)) dX3_isOfKind_24 ?_
    refine Go.kaLen X dX3_isOfKind_27 ?_
    refine Go.icmp_lt X 33 dX3_isOfKind_28 (by decide) (fun _ => ?_) (fun h => absurd (by decide) h)
    refine Go.kaRef X (List.mem_of_getElem? (i := 1) (by decide +kernel)) dX3_isOfKind_33 ?_
    refine Go.iload_n X 1 dX3_isOfKind_36 rfl ?_
    refine Go.kaAt X (v := (nI 0)) (by exact vp_in_nI (n := 4) (by decide) (by decide)) (by rfl) dX3_isOfKind_37 ?_
    refine Go.istore_n_1 X dX3_isOfKind_38 (by decide) rfl ?_
    refine Go.iinc_0 X (nI 1) dX3_isOfKind_39 (by decide) rfl (by decide) ?_
    refine Go.goto X 4 dX3_isOfKind_42 (by decide) ?_
    refine Go.iload_n X 0 dX3_isOfKind_4 rfl ?_
    refine Go.kaRef X (List.mem_of_getElem? (i := 1) (by decide +kernel)) dX3_isOfKind_5 ?_
    refine Go.kaLen X dX3_isOfKind_8 ?_
    refine Go.icmp_ge X 45 dX3_isOfKind_9 (by decide) (fun h => absurd h (by decide)) (fun _ => ?_)
    refine Go.iload_n X 1 dX3_isOfKind_12 rfl ?_
    refine Go.iload_n X 3 dX3_isOfKind_13 rfl ?_
    refine Go.icmp_neN X 19 dX3_isOfKind_14 (by decide) (by decide) (by first | omega | (split <;> omega)) (fun h14 => ?_) (fun h14 => ?_)
    · --
      refine Go.iload_n X 1 dX3_isOfKind_19 rfl ?_
      refine Go.if_lt X 31 dX3_isOfKind_20 (by decide) (fun h => absurd h (by decide)) (fun _ => ?_)
      refine Go.iload_n X 1 dX3_isOfKind_23 rfl ?_
      refine Go.kaRef X (List.mem_of_getElem? (i := 1) (by decide +kernel)) dX3_isOfKind_24 ?_
      refine Go.kaLen X dX3_isOfKind_27 ?_
      refine Go.icmp_lt X 33 dX3_isOfKind_28 (by decide) (fun _ => ?_) (fun h => absurd (by decide) h)
      refine Go.kaRef X (List.mem_of_getElem? (i := 1) (by decide +kernel)) dX3_isOfKind_33 ?_
      refine Go.iload_n X 1 dX3_isOfKind_36 rfl ?_
      refine Go.kaAt X (v := (-1)) (by exact vp_in_nI (n := 0) (by decide) (by decide)) (by rfl) dX3_isOfKind_37 ?_
      refine Go.istore_n_1 X dX3_isOfKind_38 (by decide) rfl ?_
      refine Go.iinc_0 X (nI 2) dX3_isOfKind_39 (by decide) rfl (by decide) ?_
      refine Go.goto X 4 dX3_isOfKind_42 (by decide) ?_
      refine Go.iload_n X 0 dX3_isOfKind_4 rfl ?_
      refine Go.kaRef X (List.mem_of_getElem? (i := 1) (by decide +kernel)) dX3_isOfKind_5 ?_
      refine Go.kaLen X dX3_isOfKind_8 ?_
      refine Go.icmp_ge X 45 dX3_isOfKind_9 (by decide) (fun h => absurd h (by decide)) (fun _ => ?_)
      refine Go.iload_n X 1 dX3_isOfKind_12 rfl ?_
      refine Go.iload_n X 3 dX3_isOfKind_13 rfl ?_
      refine Go.icmp_ne X 19 dX3_isOfKind_14 (by decide) (fun h14 => ?_) (fun h14 => ?_)
      · --
        refine Go.iload_n X 1 dX3_isOfKind_19 rfl ?_
        refine Go.if_lt X 31 dX3_isOfKind_20 (by decide) (fun _ => ?_) (fun h => absurd (by decide) h)
        refine Go.iconst X (nI 0) dX3_isOfKind_31 k_ic_0 ?_
        exact Go.nret X E rfl dX3_isOfKind_32 ⟨rv (b2i_f (by first | (subst h14; decide) | (simp [isK] <;> omega))), rfl⟩ rfl
      · --
        exact absurd h14 (m1_ne (by omega))
    · --
      refine Go.iconst X (nI 1) dX3_isOfKind_17 k_ic_1 ?_
      exact Go.nret X E rfl dX3_isOfKind_18 ⟨rv (b2i_t (by first | (subst h14; decide) | (simp [isK] <;> omega))), rfl⟩ rfl
  · --
    refine Go.iconst X (nI 1) dX3_isOfKind_17 k_ic_1 ?_
    exact Go.nret X E rfl dX3_isOfKind_18 ⟨rv (b2i_t (by first | (subst h14; decide) | (simp [isK] <;> omega))), rfl⟩ rfl
set_option maxHeartbeats 4000000 in
set_option maxRecDepth 100000 in
theorem c_isOfKind_5 (g : gT) (u : Nat) (hu : u < 6) : Cw g yX3_isOfKind wsX3_isOfKind 0 0 [.int (nI 5), .int (nI u)] ([]) (some (.int (b2i (isK 5 u)))) ([]) := by
  refine Ct.start (cc := cX3_isOfKind) (nL := 4) (ret := (some .boolean)) (own := RX3) (by decide) rfl rfl rfl ?_
  intro Γ X E
  show Go Γ g 4 (rmC 0 0) 0 0 ([]) 0 [(0, .int (nI 5)), (1, .int (nI u))] []
  refine Go.iload_n X 0 dX3_isOfKind_0 rfl ?_
  refine Go.istore_n_new X dX3_isOfKind_1 (by decide) rfl ?_
  refine Go.iconst X (nI 0) dX3_isOfKind_2 k_ic_0 ?_
  refine Go.istore_n_new X dX3_isOfKind_3 (by decide) rfl ?_
  refine Go.iload_n X 0 dX3_isOfKind_4 rfl ?_
  refine Go.kaRef X (List.mem_of_getElem? (i := 1) (by decide +kernel)) dX3_isOfKind_5 ?_
  refine Go.kaLen X dX3_isOfKind_8 ?_
  refine Go.icmp_ge X 45 dX3_isOfKind_9 (by decide) (fun h => absurd h (by decide)) (fun _ => ?_)
  refine Go.iload_n X 1 dX3_isOfKind_12 rfl ?_
  refine Go.iload_n X 3 dX3_isOfKind_13 rfl ?_
  refine Go.icmp_neN X 19 dX3_isOfKind_14 (by decide) (by decide) (by first | omega | (split <;> omega)) (fun h14 => ?_) (fun h14 => ?_)
  · --
    refine Go.iload_n X 1 dX3_isOfKind_19 rfl ?_
    refine Go.if_lt X 31 dX3_isOfKind_20 (by decide) (fun h => absurd h (by decide)) (fun _ => ?_)
    refine Go.iload_n X 1 dX3_isOfKind_23 rfl ?_
    refine Go.kaRef X (List.mem_of_getElem? (i := 1) (by decide +kernel)) dX3_isOfKind_24 ?_
    refine Go.kaLen X dX3_isOfKind_27 ?_
    refine Go.icmp_lt X 33 dX3_isOfKind_28 (by decide) (fun _ => ?_) (fun h => absurd (by decide) h)
    refine Go.kaRef X (List.mem_of_getElem? (i := 1) (by decide +kernel)) dX3_isOfKind_33 ?_
    refine Go.iload_n X 1 dX3_isOfKind_36 rfl ?_
    refine Go.kaAt X (v := (nI 2)) (by exact vp_in_nI (n := 5) (by decide) (by decide)) (by rfl) dX3_isOfKind_37 ?_
    refine Go.istore_n_1 X dX3_isOfKind_38 (by decide) rfl ?_
    refine Go.iinc_0 X (nI 1) dX3_isOfKind_39 (by decide) rfl (by decide) ?_
    refine Go.goto X 4 dX3_isOfKind_42 (by decide) ?_
    refine Go.iload_n X 0 dX3_isOfKind_4 rfl ?_
    refine Go.kaRef X (List.mem_of_getElem? (i := 1) (by decide +kernel)) dX3_isOfKind_5 ?_
    refine Go.kaLen X dX3_isOfKind_8 ?_
    refine Go.icmp_ge X 45 dX3_isOfKind_9 (by decide) (fun h => absurd h (by decide)) (fun _ => ?_)
    refine Go.iload_n X 1 dX3_isOfKind_12 rfl ?_
    refine Go.iload_n X 3 dX3_isOfKind_13 rfl ?_
    refine Go.icmp_neN X 19 dX3_isOfKind_14 (by decide) (by decide) (by first | omega | (split <;> omega)) (fun h14 => ?_) (fun h14 => ?_)
    · --
      refine Go.iload_n X 1 dX3_isOfKind_19 rfl ?_
      refine Go.if_lt X 31 dX3_isOfKind_20 (by decide) (fun h => absurd h (by decide)) (fun _ => ?_)
      refine Go.iload_n X 1 dX3_isOfKind_23 rfl ?_
      refine Go.kaRef X (List.mem_of_getElem? (i := 1) (by decide +kernel)) dX3_isOfKind_24 ?_
      refine Go.kaLen X dX3_isOfKind_27 ?_
      refine Go.icmp_lt X 33 dX3_isOfKind_28 (by decide) (fun _ => ?_) (fun h => absurd (by decide) h)
      refine Go.kaRef X (List.mem_of_getElem? (i := 1) (by decide +kernel)) dX3_isOfKind_33 ?_
      refine Go.iload_n X 1 dX3_isOfKind_36 rfl ?_
      refine Go.kaAt X (v := (nI 0)) (by exact vp_in_nI (n := 2) (by decide) (by decide)) (by rfl) dX3_isOfKind_37 ?_
      refine Go.istore_n_1 X dX3_isOfKind_38 (by decide) rfl ?_
      refine Go.iinc_0 X (nI 2) dX3_isOfKind_39 (by decide) rfl (by decide) ?_
      refine Go.goto X 4 dX3_isOfKind_42 (by decide) ?_
      refine Go.iload_n X 0 dX3_isOfKind_4 rfl ?_
      refine Go.kaRef X (List.mem_of_getElem? (i := 1) (by decide +kernel)) dX3_isOfKind_5 ?_
      refine Go.kaLen X dX3_isOfKind_8 ?_
      refine Go.icmp_ge X 45 dX3_isOfKind_9 (by decide) (fun h => absurd h (by decide)) (fun _ => ?_)
      refine Go.iload_n X 1 dX3_isOfKind_12 rfl ?_
      refine Go.iload_n X 3 dX3_isOfKind_13 rfl ?_
      refine Go.icmp_neN X 19 dX3_isOfKind_14 (by decide) (by decide) (by first | omega | (split <;> omega)) (fun h14 => ?_) (fun h14 => ?_)
      · --
        refine Go.iload_n X 1 dX3_isOfKind_19 rfl ?_
        refine Go.if_lt X 31 dX3_isOfKind_20 (by decide) (fun h => absurd h (by decide)) (fun _ => ?_)
        refine Go.iload_n X 1 dX3_isOfKind_23 rfl ?_
        refine Go.kaRef X (List.mem_of_getElem? (i := 1) (by decide +kernel)) dX3_isOfKind_24 ?_
        refine Go.kaLen X dX3_isOfKind_27 ?_
        refine Go.icmp_lt X 33 dX3_isOfKind_28 (by decide) (fun _ => ?_) (fun h => absurd (by decide) h)
        refine Go.kaRef X (List.mem_of_getElem? (i := 1) (by decide +kernel)) dX3_isOfKind_33 ?_
        refine Go.iload_n X 1 dX3_isOfKind_36 rfl ?_
        refine Go.kaAt X (v := (-1)) (by exact vp_in_nI (n := 0) (by decide) (by decide)) (by rfl) dX3_isOfKind_37 ?_
        refine Go.istore_n_1 X dX3_isOfKind_38 (by decide) rfl ?_
        refine Go.iinc_0 X (nI 3) dX3_isOfKind_39 (by decide) rfl (by decide) ?_
        refine Go.goto X 4 dX3_isOfKind_42 (by decide) ?_
        refine Go.iload_n X 0 dX3_isOfKind_4 rfl ?_
        refine Go.kaRef X (List.mem_of_getElem? (i := 1) (by decide +kernel)) dX3_isOfKind_5 ?_
        refine Go.kaLen X dX3_isOfKind_8 ?_
        refine Go.icmp_ge X 45 dX3_isOfKind_9 (by decide) (fun h => absurd h (by decide)) (fun _ => ?_)
        refine Go.iload_n X 1 dX3_isOfKind_12 rfl ?_
        refine Go.iload_n X 3 dX3_isOfKind_13 rfl ?_
        refine Go.icmp_ne X 19 dX3_isOfKind_14 (by decide) (fun h14 => ?_) (fun h14 => ?_)
        · --
          refine Go.iload_n X 1 dX3_isOfKind_19 rfl ?_
          refine Go.if_lt X 31 dX3_isOfKind_20 (by decide) (fun _ => ?_) (fun h => absurd (by decide) h)
          refine Go.iconst X (nI 0) dX3_isOfKind_31 k_ic_0 ?_
          exact Go.nret X E rfl dX3_isOfKind_32 ⟨rv (b2i_f (by first | (subst h14; decide) | (simp [isK] <;> omega))), rfl⟩ rfl
        · --
          exact absurd h14 (m1_ne (by omega))
      · --
        refine Go.iconst X (nI 1) dX3_isOfKind_17 k_ic_1 ?_
        exact Go.nret X E rfl dX3_isOfKind_18 ⟨rv (b2i_t (by first | (subst h14; decide) | (simp [isK] <;> omega))), rfl⟩ rfl
    · --
      refine Go.iconst X (nI 1) dX3_isOfKind_17 k_ic_1 ?_
      exact Go.nret X E rfl dX3_isOfKind_18 ⟨rv (b2i_t (by first | (subst h14; decide) | (simp [isK] <;> omega))), rfl⟩ rfl
  · --
    refine Go.iconst X (nI 1) dX3_isOfKind_17 k_ic_1 ?_
    exact Go.nret X E rfl dX3_isOfKind_18 ⟨rv (b2i_t (by first | (subst h14; decide) | (simp [isK] <;> omega))), rfl⟩ rfl
theorem c_isOfKind (g : gT) (k : Nat) (u : Nat) (hk : k < 6) (hu : u < 6) : Cw g yX3_isOfKind wsX3_isOfKind 0 0 [.int (nI k), .int (nI u)] ([]) (some (.int (b2i (isK k u)))) ([]) := by
  rcases (show k = 0 ∨ k = 1 ∨ k = 2 ∨ k = 3 ∨ k = 4 ∨ k = 5 by omega) with rfl | rfl | rfl | rfl | rfl | rfl
  · exact c_isOfKind_0 g u hu
  · exact c_isOfKind_1 g u hu
  · exact c_isOfKind_2 g u hu
  · exact c_isOfKind_3 g u hu
  · exact c_isOfKind_4 g u hu
  · exact c_isOfKind_5 g u hu
set_option maxHeartbeats 4000000 in
set_option maxRecDepth 100000 in
theorem c_isIn (g : gT) (s : Nat) (m : Nat) (hs : s < 2 ^ 31) (hm : m < 9) : Cw g yX3_isIn wsX3_isIn 0 0 [.int (nI s), .int (nI m)] ([]) (some (.int (b2i (Nat.testBit s m)))) ([]) := by
  refine Ct.start (cc := cX3_isIn) (nL := 2) (ret := (some .boolean)) (own := RX3) (by decide) rfl rfl rfl ?_
  intro Γ X E
  show Go Γ g 2 (rmC 0 0) 0 0 ([]) 0 [(0, .int (nI s)), (1, .int (nI m))] []
  refine Go.iload_n X 1 dX3_isIn_0 rfl ?_
  refine Go.if_ltN X 23 dX3_isIn_1 (by decide) (by first | omega | (split <;> omega)) ?_
  refine Go.iload_n X 1 dX3_isIn_4 rfl ?_
  refine Go.bipush X (nI 9) dX3_isIn_5 k_bp_9 ?_
  refine Go.icmp_geN X 23 dX3_isIn_7 (by decide) (by first | omega | (split <;> omega)) (by decide) (fun h7 => ?_) (fun h7 => ?_)
  · --
    refine Go.iconst X (nI 0) dX3_isIn_23 k_ic_0 ?_
    exact Go.nret X E rfl dX3_isIn_24 ⟨rv (b2i_f (by exact absurd h7 (by omega))), rfl⟩ rfl
  · --
    refine Go.iload_n X 0 dX3_isIn_10 rfl ?_
    refine Go.iload_n X 1 dX3_isIn_11 rfl ?_
    refine Go.ishr_e X (nI (s >>> m)) dX3_isIn_12 (nI_shr (by first | omega | (split <;> omega)) (by first | omega | (split <;> omega))) ?_
    refine Go.iconst X (nI 1) dX3_isIn_13 k_ic_1 ?_
    refine Go.iand_e X (nI ((s >>> m) &&& 1)) dX3_isIn_14 (nI_and _ _) ?_
    refine Go.top (w := .int (nI (if Nat.testBit s m then 1 else 0))) (by rw [shr_tb]) ?_
    refine Go.iconst X (nI 1) dX3_isIn_15 k_ic_1 ?_
    refine Go.icmp_neN X 23 dX3_isIn_16 (by decide) (by first | omega | (split <;> omega)) (by decide) (fun h16 => ?_) (fun h16 => ?_)
    · --
      refine Go.iconst X (nI 0) dX3_isIn_23 k_ic_0 ?_
      exact Go.nret X E rfl dX3_isIn_24 ⟨rv (b2i_f (by revert h16; cases Nat.testBit s m <;> simp)), rfl⟩ rfl
    · --
      refine Go.iconst X (nI 1) dX3_isIn_19 k_ic_1 ?_
      refine Go.goto X 24 dX3_isIn_20 (by decide) ?_
      exact Go.nret X E rfl dX3_isIn_24 ⟨rv (b2i_t (by revert h16; cases Nat.testBit s m <;> simp)), rfl⟩ rfl
set_option maxHeartbeats 4000000 in
set_option maxRecDepth 100000 in
theorem c_isIn_m (g : gT) (s : Nat)  : Cw g yX3_isIn wsX3_isIn 0 0 [.int (nI s), .int (-1)] ([]) (some (.int (b2i false))) ([]) := by
  refine Ct.start (cc := cX3_isIn) (nL := 2) (ret := (some .boolean)) (own := RX3) (by decide) rfl rfl rfl ?_
  intro Γ X E
  show Go Γ g 2 (rmC 0 0) 0 0 ([]) 0 [(0, .int (nI s)), (1, .int (-1))] []
  refine Go.iload_n X 1 dX3_isIn_0 rfl ?_
  refine Go.if_lt X 23 dX3_isIn_1 (by decide) (fun _ => ?_) (fun h => absurd (by decide) h)
  refine Go.iconst X (nI 0) dX3_isIn_23 k_ic_0 ?_
  exact Go.nret X E rfl dX3_isIn_24 ⟨rv (b2i_f (by rfl)), rfl⟩ rfl
set_option maxHeartbeats 4000000 in
set_option maxRecDepth 100000 in
theorem c_firstOf (g : gT) (s : Nat) (hs : s < 512) : Cw g yX3_firstOf wsX3_firstOf 1 21 [.int (nI s)] ([]) (some (.int (fstI s))) ([]) := by
  refine Ct.start (cc := cX3_firstOf) (nL := 2) (ret := (some .int)) (own := RX3) (by decide) rfl rfl rfl ?_
  intro Γ X E
  show Go Γ g 2 (rmC 1 21) 0 0 ([]) 0 [(0, .int (nI s))] []
  refine Go.iconst X (nI 0) dX3_firstOf_0 k_ic_0 ?_
  refine Go.istore_n_new X dX3_firstOf_1 (by decide) rfl ?_
  have L2 : ∀ (f2 : Nat) (k : Nat) (hk : k ≤ 9) (hz : ∀ j, j < k → Nat.testBit s j = false) (hf2 : 9 - k < f2), Go Γ g 2 (rmC 1 21) 0 0 ([]) 2 [(1, .int (nI k)), (0, .int (nI s))] [] := by
    intro f2
    induction f2 with
    | zero => intro k hk hz hf2; exact absurd hf2 (Nat.not_lt_zero _)
    | succ f2 ih2 =>
      intro k hk hz hf2
      refine Go.iload_n X 0 dX3_firstOf_2 rfl ?_
      refine Go.bipush X (nI 9) dX3_firstOf_3 k_bp_9 ?_
      refine Go.icmp_geN X 24 dX3_firstOf_5 (by decide) (by first | omega | (split <;> omega)) (by decide) (fun h5 => ?_) (fun h5 => ?_)
      · --
        refine Go.iconst X ((-1 : Int32)) dX3_firstOf_24 k_ic_m1 ?_
        exact Go.iret X E dX3_firstOf_25 ⟨rv (show (-1) = fstI s from by exact fst_no hs (fun j hj => hz j (by omega))), rfl⟩ rfl
      · --
        refine Go.iload_n X 1 dX3_firstOf_8 rfl ?_
        refine Go.iload_n X 0 dX3_firstOf_9 rfl ?_
        refine Go.callSi X  (c_isIn g s k (by first | omega | (split <;> omega)) (by first | omega | (split <;> omega))) cal_X3_isIn [] rfl rfl gX3_firstOf_X3_isIn rfl rfl rfl dX3_firstOf_10 ?_
        refine Go.if_eqB X 18 dX3_firstOf_13 (by decide) (fun h13 => ?_) (fun h13 => ?_)
        · --
          refine Go.iinc_0 X (nI (k + 1)) dX3_firstOf_18 (by decide) rfl (show nI k + Int32.ofInt 1 = nI (k + 1) from nI_add _ 1) ?_
          refine Go.goto X 2 dX3_firstOf_21 (by decide) ?_
          exact ih2 (k + 1) (by first | omega | (split <;> omega)) (by exact lt_s hz h13) (by first | omega | (split <;> omega))
        · --
          refine Go.iload_n X 0 dX3_firstOf_16 rfl ?_
          exact Go.iret X E dX3_firstOf_17 ⟨rv (show (nI k) = fstI s from by exact fsI_at hs hz h13 (by omega)), rfl⟩ rfl
  exact L2 (9 - 0 + 1) 0 (by first | omega | (split <;> omega)) (by intro j hj; omega) (Nat.lt_succ_self _)
set_option maxHeartbeats 4000000 in
set_option maxRecDepth 100000 in
theorem c_lastOf (g : gT) (s : Nat) (hs : s < 512) : Cw g yX3_lastOf wsX3_lastOf 1 21 [.int (nI s)] ([]) (some (.int (lstI s))) ([]) := by
  refine Ct.start (cc := cX3_lastOf) (nL := 2) (ret := (some .int)) (own := RX3) (by decide) rfl rfl rfl ?_
  intro Γ X E
  show Go Γ g 2 (rmC 1 21) 0 0 ([]) 0 [(0, .int (nI s))] []
  refine Go.bipush X (nI 8) dX3_lastOf_0 k_bp_8 ?_
  refine Go.istore_n_new X dX3_lastOf_2 (by decide) rfl ?_
  have L3 : ∀ (f3 : Nat) (k : Nat) (hk : k ≤ 9) (hz : ∀ j, k ≤ j → Nat.testBit s j = false) (hf3 : k < f3), Go Γ g 2 (rmC 1 21) 0 0 ([]) 3 [(1, .int (pI k)), (0, .int (nI s))] [] := by
    intro f3
    induction f3 with
    | zero => intro k hk hz hf3; exact absurd hf3 (Nat.not_lt_zero _)
    | succ f3 ih3 =>
      intro k hk hz hf3
      by_cases hk0 : k = 0
      · --
        refine Go.lv_0 (w := .int (-1)) (by rw [hk0]; exact congrArg Value.int (by decide)) ?_
        refine Go.iload_n X 0 dX3_lastOf_3 rfl ?_
        refine Go.if_lt X 23 dX3_lastOf_4 (by decide) (fun _ => ?_) (fun h => absurd (by decide) h)
        refine Go.iconst X ((-1 : Int32)) dX3_lastOf_23 k_ic_m1 ?_
        exact Go.iret X E dX3_lastOf_24 ⟨rv (show (-1) = lstI s from by exact lst_no hs (fun j => hz j (by omega))), rfl⟩ rfl
      · --
        refine Go.lv_0 (w := .int (nI (k - 1))) (by rw [pI_at hk0]) ?_
        refine Go.iload_n X 0 dX3_lastOf_3 rfl ?_
        refine Go.if_ltN X 23 dX3_lastOf_4 (by decide) (by first | omega | (split <;> omega)) ?_
        refine Go.iload_n X 1 dX3_lastOf_7 rfl ?_
        refine Go.iload_n X 0 dX3_lastOf_8 rfl ?_
        refine Go.callSi X  (c_isIn g s (k - 1) (by first | omega | (split <;> omega)) (by first | omega | (split <;> omega))) cal_X3_isIn [] rfl rfl gX3_lastOf_X3_isIn rfl rfl rfl dX3_lastOf_9 ?_
        refine Go.if_eqB X 17 dX3_lastOf_12 (by decide) (fun h12 => ?_) (fun h12 => ?_)
        · --
          refine Go.iinc_0 X (pI (k - 1)) dX3_lastOf_17 (by decide) rfl rfl ?_
          refine Go.goto X 3 dX3_lastOf_20 (by decide) ?_
          exact ih3 (k - 1) (by first | omega | (split <;> omega)) (by exact ext_dn hz h12) (by first | omega | (split <;> omega))
        · --
          refine Go.iload_n X 0 dX3_lastOf_15 rfl ?_
          exact Go.iret X E dX3_lastOf_16 ⟨rv (show (nI (k - 1)) = lstI s from by exact lst_at hs hz h12 (by omega)), rfl⟩ rfl
  refine Go.lv_0 (show (.int (nI 8) : Value) = .int (pI 9) from by exact congrArg Value.int (by decide)) ?_
  exact L3 (9 + 1) 9 (by first | omega | (split <;> omega)) (by intro j hj; exact tb_ge (n := 9) hs hj) (Nat.lt_succ_self _)
set_option maxHeartbeats 4000000 in
set_option maxRecDepth 100000 in
theorem c_shareOf (g : gT) (x : Nat) (y : Nat) (hx : x ≤ 2000) (hy : y < 2 ^ 31) : Cw g yX3_shareOf wsX3_shareOf 0 0 [.int (nI x), .int (nI y)] ([]) (some (.int (shI x y))) ([]) := by
  refine Ct.start (cc := cX3_shareOf) (nL := 2) (ret := (some .int)) (own := RX3) (by decide) rfl rfl rfl ?_
  intro Γ X E
  show Go Γ g 2 (rmC 0 0) 0 0 ([]) 0 [(0, .int (nI x)), (1, .int (nI y))] []
  refine Go.iload_n X 1 dX3_shareOf_0 rfl ?_
  refine Go.if_neN X 8 dX3_shareOf_1 (by decide) (by first | omega | (split <;> omega)) (fun h1 => ?_) (fun h1 => ?_)
  · --
    refine Go.ldcw X (nI 1000000) dX3_shareOf_8 (List.mem_of_getElem? (i := 1) (by decide +kernel)) ?_
    refine Go.iload_n X 0 dX3_shareOf_11 rfl ?_
    refine Go.imul_e X (nI (1000000 * x)) dX3_shareOf_12 (pk_mul _ _) ?_
    refine Go.iload_n X 1 dX3_shareOf_13 rfl ?_
    refine Go.idiv_e X (nI ((1000000 * x) / y)) dX3_shareOf_14 (nI_ne0 (by first | omega | (split <;> omega)) (by first | omega | (split <;> omega))) (pk_div (by first | omega | (split <;> omega)) (by first | omega | (split <;> omega)) (by first | omega | (split <;> omega))) ?_
    exact Go.iret X E dX3_shareOf_15 ⟨rv (show (nI ((1000000 * x) / y)) = shI x y from by rw [shI, if_neg h1]), rfl⟩ rfl
  · --
    refine Go.iconst X ((-1 : Int32)) dX3_shareOf_4 k_ic_m1 ?_
    refine Go.goto X 15 dX3_shareOf_5 (by decide) ?_
    exact Go.iret X E dX3_shareOf_15 ⟨rv (show (-1) = shI x y from by rw [shI, if_pos h1]), rfl⟩ rfl
set_option maxHeartbeats 4000000 in
set_option maxRecDepth 100000 in
theorem c_shareOf_P (g : gT) (x : Nat) (y : Nat) (hx : x ≤ 2000) (h0 : 0 < y) (hy : y < 2 ^ 31) : Cw g yX3_shareOf wsX3_shareOf 0 0 [.int (nI x), .int (nI y)] ([]) (some (.int (nI ((1000000 * x) / y)))) ([]) := by
  refine Ct.start (cc := cX3_shareOf) (nL := 2) (ret := (some .int)) (own := RX3) (by decide) rfl rfl rfl ?_
  intro Γ X E
  show Go Γ g 2 (rmC 0 0) 0 0 ([]) 0 [(0, .int (nI x)), (1, .int (nI y))] []
  refine Go.iload_n X 1 dX3_shareOf_0 rfl ?_
  refine Go.if_neN X 8 dX3_shareOf_1 (by decide) (by first | omega | (split <;> omega)) (fun h1 => ?_) (fun h1 => ?_)
  · --
    refine Go.ldcw X (nI 1000000) dX3_shareOf_8 (List.mem_of_getElem? (i := 1) (by decide +kernel)) ?_
    refine Go.iload_n X 0 dX3_shareOf_11 rfl ?_
    refine Go.imul_e X (nI (1000000 * x)) dX3_shareOf_12 (pk_mul _ _) ?_
    refine Go.iload_n X 1 dX3_shareOf_13 rfl ?_
    refine Go.idiv_e X (nI ((1000000 * x) / y)) dX3_shareOf_14 (nI_ne0 (by first | omega | (split <;> omega)) (by first | omega | (split <;> omega))) (pk_div (by first | omega | (split <;> omega)) (by first | omega | (split <;> omega)) (by first | omega | (split <;> omega))) ?_
    exact Go.iret X E dX3_shareOf_15 ⟨rfl, rfl⟩ rfl
  · --
    exact absurd h1 (by omega)
set_option maxHeartbeats 4000000 in
set_option maxRecDepth 100000 in
theorem c_wagered (g : gT) (x : Nat) (w : Nat) (y : Nat) (hx : x * w ≤ 2000) (h0 : 0 < y) (hy : y < 2 ^ 31) : Cw g yX3_wagered wsX3_wagered 1 21 [.int (nI x), .int (nI w), .int (nI y)] ([]) (some (.int (wgr x w y))) ([]) := by
  refine Ct.start (cc := cX3_wagered) (nL := 3) (ret := (some .int)) (own := RX3) (by decide) rfl rfl rfl ?_
  intro Γ X E
  show Go Γ g 3 (rmC 1 21) 0 0 ([]) 0 [(0, .int (nI x)), (1, .int (nI w)), (2, .int (nI y))] []
  refine Go.iload_n X 0 dX3_wagered_0 rfl ?_
  refine Go.iload_n X 1 dX3_wagered_1 rfl ?_
  refine Go.imul_e X (nI (x * w)) dX3_wagered_2 (pk_mul _ _) ?_
  refine Go.iload_n X 2 dX3_wagered_3 rfl ?_
  refine Go.callSi X  (c_shareOf_P g (x * w) y (by first | omega | (split <;> omega)) (by first | omega | (split <;> omega)) (by first | omega | (split <;> omega))) cal_X3_shareOf [] rfl rfl gX3_wagered_X3_shareOf rfl rfl rfl dX3_wagered_4 ?_
  refine Go.ldcw X (nI 1000000) dX3_wagered_7 (List.mem_of_getElem? (i := 1) (by decide +kernel)) ?_
  refine Go.isub_e X ((nI ((1000000 * (x * w)) / y)) - (nI 1000000)) dX3_wagered_10 rfl ?_
  exact Go.iret X E dX3_wagered_11 ⟨rv (show ((nI ((1000000 * (x * w)) / y)) - (nI 1000000)) = wgr x w y from by rfl), rfl⟩ rfl
set_option maxHeartbeats 4000000 in
set_option maxRecDepth 100000 in
theorem c_allMornings (g : gT) (a : Nat) (qw : Nat) (qk : Nat) (qr : Nat) (S : Sch) (hn : sN S ≤ 9) : Cw g yX0_allMornings wsX0_allMornings 0 0 [.ref a] (schW g a qw qk qr S) (some (.int (nI (2 ^ (sN S) - 1)))) (schW g a qw qk qr S) := by
  refine Ct.start (cc := cX0_allMornings) (nL := 1) (ret := (some .int)) (own := RX0) (by decide) rfl rfl rfl ?_
  intro Γ X E
  show Go Γ g 1 (rmC 0 0) 0 0 (schW g a qw qk qr S) 0 [(0, .ref a)] []
  refine Go.iconst X (nI 1) dX0_allMornings_0 k_ic_1 ?_
  refine Go.aload_n X 0 dX0_allMornings_1 rfl ?_
  refine Go.get X f_X0_allMornings_32 0 (v := .int (nI (sN S))) rfl rfl dX0_allMornings_2 ?_
  have o11 := Nat.one_le_two_pow (n := sN S)
  refine Go.ishl_e X (nI (2 ^ (sN S))) dX0_allMornings_5 (nI_shl1 (by first | omega | (split <;> omega))) ?_
  refine Go.iconst X (nI 1) dX0_allMornings_6 k_ic_1 ?_
  refine Go.isub_e X (nI (2 ^ (sN S) - 1)) dX0_allMornings_7 (pk_sub (by first | omega | (split <;> omega))) ?_
  exact Go.iret X E dX0_allMornings_8 ⟨rfl, rfl⟩ rfl
set_option maxHeartbeats 4000000 in
set_option maxRecDepth 100000 in
theorem c_allPeople (g : gT) (a : Nat) (qw : Nat) (qk : Nat) (qr : Nat) (S : Sch) (hS : sOk S) : Cw g yX0_allPeople wsX0_allPeople 0 0 [.ref a] (schW g a qw qk qr S) (some (.int (nI (2 ^ (sP S) - 1)))) (schW g a qw qk qr S) := by
  refine Ct.start (cc := cX0_allPeople) (nL := 1) (ret := (some .int)) (own := RX0) (by decide) rfl rfl rfl ?_
  intro Γ X E
  show Go Γ g 1 (rmC 0 0) 0 0 (schW g a qw qk qr S) 0 [(0, .ref a)] []
  obtain ⟨o1, o2, o3, o4, o5, o6, o7, o8⟩ := id hS
  have o9 := p2_9 o2
  have o10 := sA_512 hS
  refine Go.iconst X (nI 1) dX0_allPeople_0 k_ic_1 ?_
  refine Go.aload_n X 0 dX0_allPeople_1 rfl ?_
  refine Go.get X f_X0_allPeople_44 0 (v := .int (nI (sP S))) rfl rfl dX0_allPeople_2 ?_
  have o11 := Nat.one_le_two_pow (n := sP S)
  refine Go.ishl_e X (nI (2 ^ (sP S))) dX0_allPeople_5 (nI_shl1 (by first | omega | (split <;> omega))) ?_
  refine Go.iconst X (nI 1) dX0_allPeople_6 k_ic_1 ?_
  refine Go.isub_e X (nI (2 ^ (sP S) - 1)) dX0_allPeople_7 (pk_sub (by first | omega | (split <;> omega))) ?_
  exact Go.iret X E dX0_allPeople_8 ⟨rfl, rfl⟩ rfl
set_option maxHeartbeats 4000000 in
set_option maxRecDepth 100000 in
theorem c_isMorning (g : gT) (a : Nat) (qw : Nat) (qk : Nat) (qr : Nat) (S : Sch) (x : Int32) (hS : sOk S) : Cw g yX0_isMorning wsX0_isMorning 1 22 [.ref a, .int x] (schW g a qw qk qr S) (some (.int (b2i (inb x (sN S))))) (schW g a qw qk qr S) := by
  refine Ct.start (cc := cX0_isMorning) (nL := 2) (ret := (some .boolean)) (own := RX0) (by decide) rfl rfl rfl ?_
  intro Γ X E
  show Go Γ g 2 (rmC 1 22) 0 0 (schW g a qw qk qr S) 0 [(0, .ref a), (1, .int x)] []
  obtain ⟨o1, o2, o3, o4, o5, o6, o7, o8⟩ := id hS
  have o9 := p2_9 o2
  have o10 := sA_512 hS
  refine Go.iload_n X 1 dX0_isMorning_0 rfl ?_
  refine Go.iconst X (nI 0) dX0_isMorning_1 k_ic_0 ?_
  refine Go.aload_n X 0 dX0_isMorning_2 rfl ?_
  refine Go.get X f_X0_isMorning_32 0 (v := .int (nI (sN S))) rfl rfl dX0_isMorning_3 ?_
  refine Go.iconst X (nI 1) dX0_isMorning_6 k_ic_1 ?_
  refine Go.isub_e X ((nI (sN S)) - (nI 1)) dX0_isMorning_7 rfl ?_
  refine Go.callSNi X  (c_isWithin g x (nI 0) ((nI (sN S)) - (nI 1))) cal_X3_isWithin [] rfl rfl gX0_isMorning_X3_isWithin_n64 (by decide) (List.mem_of_getElem? (i := 3) (by decide +kernel)) (List.mem_of_getElem? (i := 2) (by decide +kernel)) rfl rfl rfl dX0_isMorning_8 ?_
  exact Go.nret X E (b2i_nar _) dX0_isMorning_11 ⟨rv (congrArg b2i (show (wi x (nI 0) ((nI (sN S)) - (nI 1))) = (inb x (sN S)) from by exact wi_inb0 (by omega))), rfl⟩ rfl
set_option maxHeartbeats 4000000 in
set_option maxRecDepth 100000 in
theorem c_isSomebody (g : gT) (a : Nat) (qw : Nat) (qk : Nat) (qr : Nat) (S : Sch) (x : Int32) (hS : sOk S) : Cw g yX0_isSomebody wsX0_isSomebody 1 22 [.ref a, .int x] (schW g a qw qk qr S) (some (.int (b2i (inb x (sP S))))) (schW g a qw qk qr S) := by
  refine Ct.start (cc := cX0_isSomebody) (nL := 2) (ret := (some .boolean)) (own := RX0) (by decide) rfl rfl rfl ?_
  intro Γ X E
  show Go Γ g 2 (rmC 1 22) 0 0 (schW g a qw qk qr S) 0 [(0, .ref a), (1, .int x)] []
  obtain ⟨o1, o2, o3, o4, o5, o6, o7, o8⟩ := id hS
  have o9 := p2_9 o2
  have o10 := sA_512 hS
  refine Go.iload_n X 1 dX0_isSomebody_0 rfl ?_
  refine Go.iconst X (nI 0) dX0_isSomebody_1 k_ic_0 ?_
  refine Go.aload_n X 0 dX0_isSomebody_2 rfl ?_
  refine Go.get X f_X0_isSomebody_44 0 (v := .int (nI (sP S))) rfl rfl dX0_isSomebody_3 ?_
  refine Go.iconst X (nI 1) dX0_isSomebody_6 k_ic_1 ?_
  refine Go.isub_e X ((nI (sP S)) - (nI 1)) dX0_isSomebody_7 rfl ?_
  refine Go.callSNi X  (c_isWithin g x (nI 0) ((nI (sP S)) - (nI 1))) cal_X3_isWithin [] rfl rfl gX0_isSomebody_X3_isWithin_n64 (by decide) (List.mem_of_getElem? (i := 3) (by decide +kernel)) (List.mem_of_getElem? (i := 2) (by decide +kernel)) rfl rfl rfl dX0_isSomebody_8 ?_
  exact Go.nret X E (b2i_nar _) dX0_isSomebody_11 ⟨rv (congrArg b2i (show (wi x (nI 0) ((nI (sP S)) - (nI 1))) = (inb x (sP S)) from by exact wi_inb0 (by omega))), rfl⟩ rfl
set_option maxHeartbeats 4000000 in
set_option maxRecDepth 100000 in
theorem c_isAllowed (g : gT) (a : Nat) (qw : Nat) (qk : Nat) (qr : Nat) (S : Sch) (m : Nat) (hS : sOk S) (hm : m < 9) : Cw g yX0_isAllowed wsX0_isAllowed 1 21 [.ref a, .int (nI m)] (schW g a qw qk qr S) (some (.int (b2i (Nat.testBit (sA S) m)))) (schW g a qw qk qr S) := by
  refine Ct.start (cc := cX0_isAllowed) (nL := 2) (ret := (some .boolean)) (own := RX0) (by decide) rfl rfl rfl ?_
  intro Γ X E
  show Go Γ g 2 (rmC 1 21) 0 0 (schW g a qw qk qr S) 0 [(0, .ref a), (1, .int (nI m))] []
  obtain ⟨o1, o2, o3, o4, o5, o6, o7, o8⟩ := id hS
  have o9 := p2_9 o2
  have o10 := sA_512 hS
  refine Go.aload_n X 0 dX0_isAllowed_0 rfl ?_
  refine Go.get X f_X0_isAllowed_35 0 (v := .int (nI (sA S))) rfl rfl dX0_isAllowed_1 ?_
  refine Go.iload_n X 1 dX0_isAllowed_4 rfl ?_
  refine Go.callSNi X  (c_isIn g (sA S) m (by first | omega | (split <;> omega)) (by first | omega | (split <;> omega))) cal_X3_isIn [] rfl rfl gX0_isAllowed_X3_isIn_n68 (by decide) (List.mem_of_getElem? (i := 3) (by decide +kernel)) (List.mem_of_getElem? (i := 2) (by decide +kernel)) rfl rfl rfl dX0_isAllowed_5 ?_
  exact Go.nret X E (b2i_nar _) dX0_isAllowed_8 ⟨rfl, rfl⟩ rfl
set_option maxHeartbeats 4000000 in
set_option maxRecDepth 100000 in
theorem c_stillOn (g : gT) (a : Nat) (qw : Nat) (qk : Nat) (qr : Nat) (S : Sch) (m : Nat) (hS : sOk S) (hm : m < 9) : Cw g yX0_stillOn wsX0_stillOn 0 0 [.ref a, .int (nI m)] (schW g a qw qk qr S) (some (.int (nI (still (sA S) m)))) (schW g a qw qk qr S) := by
  refine Ct.start (cc := cX0_stillOn) (nL := 2) (ret := (some .int)) (own := RX0) (by decide) rfl rfl rfl ?_
  intro Γ X E
  show Go Γ g 2 (rmC 0 0) 0 0 (schW g a qw qk qr S) 0 [(0, .ref a), (1, .int (nI m))] []
  obtain ⟨o1, o2, o3, o4, o5, o6, o7, o8⟩ := id hS
  have o9 := p2_9 o2
  have o10 := sA_512 hS
  refine Go.aload_n X 0 dX0_stillOn_0 rfl ?_
  refine Go.get X f_X0_stillOn_35 0 (v := .int (nI (sA S))) rfl rfl dX0_stillOn_1 ?_
  refine Go.iconst X (nI 1) dX0_stillOn_4 k_ic_1 ?_
  refine Go.iload_n X 1 dX0_stillOn_5 rfl ?_
  refine Go.ishl_e X (nI (2 ^ m)) dX0_stillOn_6 (nI_shl1 (by first | omega | (split <;> omega))) ?_
  have o11 := Nat.one_le_two_pow (n := m)
  refine Go.iconst X (nI 1) dX0_stillOn_7 k_ic_1 ?_
  refine Go.isub_e X (nI (2 ^ m - 1)) dX0_stillOn_8 (pk_sub (by first | omega | (split <;> omega))) ?_
  refine Go.iconst X ((-1 : Int32)) dX0_stillOn_9 k_ic_m1 ?_
  refine Go.ixor_e X (nI (2 ^ m - 1) ^^^ (-1)) dX0_stillOn_10 rfl ?_
  refine Go.iand_e X (nI (dif (sA S) (2 ^ m - 1))) dX0_stillOn_11 (nI_andnot _ _) ?_
  exact Go.iret X E dX0_stillOn_12 ⟨rv (congrArg nI (show dif (sA S) (2 ^ m - 1) = still (sA S) m from by exact still_dif _ _)), rfl⟩ rfl
set_option maxHeartbeats 4000000 in
set_option maxRecDepth 100000 in
theorem c_lotsOf (g : gT) (a : Nat) (qw : Nat) (qk : Nat) (qr : Nat) (S : Sch) (m : Nat) (hS : sOk S) (hm : m < 9) : Cw g yX0_lotsOf wsX0_lotsOf 2 42 [.ref a, .int (nI m)] (schW g a qw qk qr S) (some (.int (nI (lotN S m)))) (schW g a qw qk qr S) := by
  refine Ct.start (cc := cX0_lotsOf) (nL := 2) (ret := (some .int)) (own := RX0) (by decide) rfl rfl rfl ?_
  intro Γ X E
  show Go Γ g 2 (rmC 2 42) 0 0 (schW g a qw qk qr S) 0 [(0, .ref a), (1, .int (nI m))] []
  obtain ⟨o1, o2, o3, o4, o5, o6, o7, o8⟩ := id hS
  have o9 := p2_9 o2
  have o10 := sA_512 hS
  refine Go.aload_n X 0 dX0_lotsOf_0 rfl ?_
  refine Go.iload_n X 1 dX0_lotsOf_1 rfl ?_
  refine Go.callVi X  (c_isAllowed g a qw qk qr S m (by exact hS) (by first | omega | (split <;> omega))) cal_X0_isAllowed [0, 1, 2, 3] rfl rfl gX0_lotsOf_X0_isAllowed (ci := 0) (q0 := 0) rfl rfl rfl rfl rfl dX0_lotsOf_2 ?_
  refine Go.if_eqB X 17 dX0_lotsOf_5 (by decide) (fun h5 => ?_) (fun h5 => ?_)
  · --
    refine Go.iconst X (nI 0) dX0_lotsOf_17 k_ic_0 ?_
    exact Go.iret X E dX0_lotsOf_18 ⟨rv (congrArg nI (show 0 = lotN S m from by simp [lotN, h5])), rfl⟩ rfl
  · --
    refine Go.aload_n X 0 dX0_lotsOf_8 rfl ?_
    refine Go.get X f_X0_lotsOf_9 0 (v := .ref qw) rfl rfl dX0_lotsOf_9 ?_
    refine Go.iload_n X 1 dX0_lotsOf_12 rfl ?_
    refine Go.ialdN X 1 (w := sW S) rfl (by first | omega | (split <;> omega)) rfl dX0_lotsOf_13 ?_
    refine Go.goto X 18 dX0_lotsOf_14 (by decide) ?_
    exact Go.iret X E dX0_lotsOf_18 ⟨rv (congrArg nI (show (sW S) m = lotN S m from by simp [lotN, h5])), rfl⟩ rfl
set_option maxHeartbeats 4000000 in
set_option maxRecDepth 100000 in
theorem c_weightsOf (g : gT) (a : Nat) (qw : Nat) (qk : Nat) (qr : Nat) (S : Sch) (s : Nat) (hS : sOk S) (hs : s < 2 ^ 31) : Cw g yX0_weightsOf wsX0_weightsOf 1 21 [.ref a, .int (nI s)] (schW g a qw qk qr S) (some (.int (nI (wsum (sW S) s (sN S))))) (schW g a qw qk qr S) := by
  refine Ct.start (cc := cX0_weightsOf) (nL := 4) (ret := (some .int)) (own := RX0) (by decide) rfl rfl rfl ?_
  intro Γ X E
  show Go Γ g 4 (rmC 1 21) 0 0 (schW g a qw qk qr S) 0 [(0, .ref a), (1, .int (nI s))] []
  obtain ⟨o1, o2, o3, o4, o5, o6, o7, o8⟩ := id hS
  have o9 := p2_9 o2
  have o10 := sA_512 hS
  refine Go.iconst X (nI 0) dX0_weightsOf_0 k_ic_0 ?_
  refine Go.istore_n_new X dX0_weightsOf_1 (by decide) rfl ?_
  refine Go.iconst X (nI 0) dX0_weightsOf_2 k_ic_0 ?_
  refine Go.istore_n_new X dX0_weightsOf_3 (by decide) rfl ?_
  have L4 : ∀ (f4 : Nat) (k : Nat) (hk : k ≤ sN S) (hf4 : sN S - k < f4), Go Γ g 4 (rmC 1 21) 0 0 (schW g a qw qk qr S) 4 [(3, .int (nI k)), (2, .int (nI (wsum (sW S) s k))), (0, .ref a), (1, .int (nI s))] [] := by
    intro f4
    induction f4 with
    | zero => intro k hk hf4; exact absurd hf4 (Nat.not_lt_zero _)
    | succ f4 ih4 =>
      intro k hk hf4
      refine Go.iload_n X 0 dX0_weightsOf_4 rfl ?_
      refine Go.aload_n X 2 dX0_weightsOf_5 rfl ?_
      refine Go.get X f_X0_weightsOf_32 0 (v := .int (nI (sN S))) rfl rfl dX0_weightsOf_6 ?_
      refine Go.icmp_geN X 35 dX0_weightsOf_9 (by decide) (by first | omega | (split <;> omega)) (by first | omega | (split <;> omega)) (fun h9 => ?_) (fun h9 => ?_)
      · --
        refine Go.iload_n X 1 dX0_weightsOf_35 rfl ?_
        exact Go.iret X E dX0_weightsOf_36 ⟨rv (congrArg nI (show wsum (sW S) s k = wsum (sW S) s (sN S) from by rw [show k = sN S by omega])), rfl⟩ rfl
      · --
        refine Go.iload_n X 3 dX0_weightsOf_12 rfl ?_
        refine Go.iload_n X 0 dX0_weightsOf_13 rfl ?_
        refine Go.callSNi X  (c_isIn g s k (by first | omega | (split <;> omega)) (by first | omega | (split <;> omega))) cal_X3_isIn [] rfl rfl gX0_weightsOf_X3_isIn_n68 (by decide) (List.mem_of_getElem? (i := 4) (by decide +kernel)) (List.mem_of_getElem? (i := 3) (by decide +kernel)) rfl rfl rfl dX0_weightsOf_14 ?_
        refine Go.if_eqB X 29 dX0_weightsOf_17 (by decide) (fun h17 => ?_) (fun h17 => ?_)
        · --
          refine Go.iinc_0 X (nI (k + 1)) dX0_weightsOf_29 (by decide) rfl (show nI k + Int32.ofInt 1 = nI (k + 1) from nI_add _ 1) ?_
          refine Go.goto X 4 dX0_weightsOf_32 (by decide) ?_
          refine Go.lv_1 (congrArg (fun z => Value.int (nI z)) (show wsum (sW S) s k = wsum (sW S) s (k + 1) from by simp [wsum, h17])) ?_
          exact ih4 (k + 1) (by first | omega | (split <;> omega)) (by first | omega | (split <;> omega))
        · --
          refine Go.iload_n X 1 dX0_weightsOf_20 rfl ?_
          refine Go.aload_n X 2 dX0_weightsOf_21 rfl ?_
          refine Go.get X f_X0_weightsOf_9 0 (v := .ref qw) rfl rfl dX0_weightsOf_22 ?_
          refine Go.iload_n X 0 dX0_weightsOf_25 rfl ?_
          refine Go.ialdN X 1 (w := sW S) rfl (by first | omega | (split <;> omega)) rfl dX0_weightsOf_26 ?_
          refine Go.iadd_e X (nI (wsum (sW S) s k + (sW S) k)) dX0_weightsOf_27 (nI_add _ _) ?_
          refine Go.istore_n_1 X dX0_weightsOf_28 (by decide) rfl ?_
          refine Go.iinc_0 X (nI (k + 1)) dX0_weightsOf_29 (by decide) rfl (show nI k + Int32.ofInt 1 = nI (k + 1) from nI_add _ 1) ?_
          refine Go.goto X 4 dX0_weightsOf_32 (by decide) ?_
          refine Go.lv_1 (congrArg (fun z => Value.int (nI z)) (show wsum (sW S) s k + (sW S) k = wsum (sW S) s (k + 1) from by simp [wsum, h17])) ?_
          exact ih4 (k + 1) (by first | omega | (split <;> omega)) (by first | omega | (split <;> omega))
  refine Go.lv_1 (congrArg (fun z => Value.int (nI z)) (show 0 = wsum (sW S) s 0 from by rfl)) ?_
  exact L4 (sN S - 0 + 1) 0 (by first | omega | (split <;> omega)) (Nat.lt_succ_self _)
set_option maxHeartbeats 4000000 in
set_option maxRecDepth 100000 in
theorem c_oddsOn (g : gT) (a : Nat) (qw : Nat) (qk : Nat) (qr : Nat) (S : Sch) (m : Nat) (hS : sOk S) (hm : m < 9) : Cw g yX0_oddsOn wsX0_oddsOn 3 63 [.ref a, .int (nI m)] (schW g a qw qk qr S) (some (.int (shI (lotN S m) (wsum (sW S) (still (sA S) m) (sN S))))) (schW g a qw qk qr S) := by
  refine Ct.start (cc := cX0_oddsOn) (nL := 2) (ret := (some .int)) (own := RX0) (by decide) rfl rfl rfl ?_
  intro Γ X E
  show Go Γ g 2 (rmC 3 63) 0 0 (schW g a qw qk qr S) 0 [(0, .ref a), (1, .int (nI m))] []
  obtain ⟨o1, o2, o3, o4, o5, o6, o7, o8⟩ := id hS
  have o9 := p2_9 o2
  have o10 := sA_512 hS
  refine Go.aload_n X 0 dX0_oddsOn_0 rfl ?_
  refine Go.iload_n X 1 dX0_oddsOn_1 rfl ?_
  refine Go.callVi X  (c_lotsOf g a qw qk qr S m (by exact hS) (by first | omega | (split <;> omega))) cal_X0_lotsOf [0, 1, 2, 3] rfl rfl gX0_oddsOn_X0_lotsOf (ci := 0) (q0 := 0) rfl rfl rfl rfl rfl dX0_oddsOn_2 ?_
  have f2_1 := lotN_le hS (show m < 9 by omega)
  refine Go.aload_n X 0 dX0_oddsOn_5 rfl ?_
  refine Go.aload_n X 0 dX0_oddsOn_6 rfl ?_
  refine Go.iload_n X 1 dX0_oddsOn_7 rfl ?_
  refine Go.callVi X  (c_stillOn g a qw qk qr S m (by exact hS) (by first | omega | (split <;> omega))) cal_X0_stillOn [0, 1, 2, 3] rfl rfl gX0_oddsOn_X0_stillOn (ci := 0) (q0 := 0) rfl rfl rfl rfl rfl dX0_oddsOn_8 ?_
  have o11 := still_le (sA S) m
  refine Go.callVi X  (c_weightsOf g a qw qk qr S (still (sA S) m) (by exact hS) (by first | omega | (split <;> omega))) cal_X0_weightsOf [0, 1, 2, 3] rfl rfl gX0_oddsOn_X0_weightsOf (ci := 0) (q0 := 0) rfl rfl rfl rfl rfl dX0_oddsOn_11 ?_
  have f11_2 := wsum_81 hS (still (sA S) m)
  refine Go.callSNi X  (c_shareOf g (lotN S m) (wsum (sW S) (still (sA S) m) (sN S)) (by first | omega | (split <;> omega)) (by first | omega | (split <;> omega))) cal_X3_shareOf [] rfl rfl gX0_oddsOn_X3_shareOf_n85 (by decide) (List.mem_of_getElem? (i := 13) (by decide +kernel)) (List.mem_of_getElem? (i := 24) (by decide +kernel)) rfl rfl rfl dX0_oddsOn_14 ?_
  exact Go.iret X E dX0_oddsOn_17 ⟨rfl, rfl⟩ rfl
set_option maxHeartbeats 4000000 in
set_option maxRecDepth 100000 in
theorem c_ownDepthOf (g : gT) (a : Nat) (qw : Nat) (qk : Nat) (qr : Nat) (S : Sch) (i : Nat) (hS : sOk S) (hi : i < 6) : Cw g yX0_ownDepthOf wsX0_ownDepthOf 1 21 [.ref a, .int (nI i)] (schW g a qw qk qr S) (some (.int (nI (ownD S i)))) (schW g a qw qk qr S) := by
  refine Ct.start (cc := cX0_ownDepthOf) (nL := 3) (ret := (some .int)) (own := RX0) (by decide) rfl rfl rfl ?_
  intro Γ X E
  show Go Γ g 3 (rmC 1 21) 0 0 (schW g a qw qk qr S) 0 [(0, .ref a), (1, .int (nI i))] []
  obtain ⟨o1, o2, o3, o4, o5, o6, o7, o8⟩ := id hS
  have o9 := p2_9 o2
  have o10 := sA_512 hS
  refine Go.aload_n X 0 dX0_ownDepthOf_0 rfl ?_
  refine Go.get X f_X0_ownDepthOf_22 0 (v := .ref qr) rfl rfl dX0_ownDepthOf_1 ?_
  refine Go.iload_n X 1 dX0_ownDepthOf_4 rfl ?_
  refine Go.ialdN X 3 (w := sO S) rfl (by first | omega | (split <;> omega)) rfl dX0_ownDepthOf_5 ?_
  refine Go.aload_n X 0 dX0_ownDepthOf_6 rfl ?_
  refine Go.get X f_X0_ownDepthOf_15 0 (v := .int (nI (sD S))) rfl rfl dX0_ownDepthOf_7 ?_
  have o11 := o8 i hi
  refine Go.mmin X (nI (min ((sO S) i) (sD S))) (List.mem_of_getElem? (i := 3) (by decide +kernel)) (List.mem_of_getElem? (i := 4) (by decide +kernel)) (List.mem_of_getElem? (i := 5) (by decide +kernel)) (List.mem_of_getElem? (i := 6) (by decide +kernel)) rfl (by exact nmin (by first | omega | (split <;> omega)) (by first | omega | (split <;> omega))) dX0_ownDepthOf_10 ?_
  refine Go.istore_n_new X dX0_ownDepthOf_13 (by decide) rfl ?_
  refine Go.aload_n X 1 dX0_ownDepthOf_14 rfl ?_
  refine Go.get X f_X0_ownDepthOf_19 0 (v := .ref qk) rfl rfl dX0_ownDepthOf_15 ?_
  refine Go.iload_n X 2 dX0_ownDepthOf_18 rfl ?_
  refine Go.ialdN X 2 (w := sK S) rfl (by first | omega | (split <;> omega)) rfl dX0_ownDepthOf_19 ?_
  have o12 := o7 i hi
  refine Go.iconst X (nI 3) dX0_ownDepthOf_20 k_ic_3 ?_
  refine Go.icmp_neN X 30 dX0_ownDepthOf_21 (by decide) (by first | omega | (split <;> omega)) (by decide) (fun h21 => ?_) (fun h21 => ?_)
  · --
    refine Go.iload_n X 0 dX0_ownDepthOf_30 rfl ?_
    exact Go.iret X E dX0_ownDepthOf_31 ⟨rv (congrArg nI (show min ((sO S) i) (sD S) = ownD S i from by simp [ownD, h21])), rfl⟩ rfl
  · --
    refine Go.iload_n X 0 dX0_ownDepthOf_24 rfl ?_
    refine Go.iconst X (nI 1) dX0_ownDepthOf_25 k_ic_1 ?_
    refine Go.iadd_e X (nI (min ((sO S) i) (sD S) + 1)) dX0_ownDepthOf_26 (nI_add _ _) ?_
    refine Go.goto X 31 dX0_ownDepthOf_27 (by decide) ?_
    exact Go.iret X E dX0_ownDepthOf_31 ⟨rv (congrArg nI (show min ((sO S) i) (sD S) + 1 = ownD S i from by simp [ownD, h21])), rfl⟩ rfl
set_option maxHeartbeats 4000000 in
set_option maxRecDepth 100000 in
theorem c_depthOf (g : gT) (a : Nat) (qw : Nat) (qk : Nat) (qr : Nat) (S : Sch) (i : Nat) (hS : sOk S) (hi : i < 6) : Cw g yX0_depthOf wsX0_depthOf 2 43 [.ref a, .int (nI i)] (schW g a qw qk qr S) (some (.int (nI (dep S 6 i)))) (schW g a qw qk qr S) := by
  refine Ct.start (cc := cX0_depthOf) (nL := 4) (ret := (some .int)) (own := RX0) (by decide) rfl rfl rfl ?_
  intro Γ X E
  show Go Γ g 4 (rmC 2 43) 0 0 (schW g a qw qk qr S) 0 [(0, .ref a), (1, .int (nI i))] []
  obtain ⟨o1, o2, o3, o4, o5, o6, o7, o8⟩ := id hS
  have o9 := p2_9 o2
  have o10 := sA_512 hS
  refine Go.aload_n X 0 dX0_depthOf_0 rfl ?_
  refine Go.get X f_X0_depthOf_19 0 (v := .ref qk) rfl rfl dX0_depthOf_1 ?_
  refine Go.iload_n X 1 dX0_depthOf_4 rfl ?_
  refine Go.ialdN X 2 (w := sK S) rfl (by first | omega | (split <;> omega)) rfl dX0_depthOf_5 ?_
  have o11 := o7 i hi
  refine Go.iconst X (nI 4) dX0_depthOf_6 k_ic_4 ?_
  refine Go.icmp_eqN X 16 dX0_depthOf_7 (by decide) (by first | omega | (split <;> omega)) (by decide) (fun h7 => ?_) (fun h7 => ?_)
  · --
    refine Go.iconst X ((-1 : Int32)) dX0_depthOf_16 k_ic_m1 ?_
    refine Go.istore_n_new X dX0_depthOf_17 (by decide) rfl ?_
    refine Go.iconst X (nI 0) dX0_depthOf_18 k_ic_0 ?_
    refine Go.istore_n_new X dX0_depthOf_19 (by decide) rfl ?_
    have L20 : ∀ (f20 : Nat) (k : Nat) (hk : k ≤ sP S) (hf20 : sP S - k < f20), Go Γ g 4 (rmC 2 43) 0 0 (schW g a qw qk qr S) 20 [(3, .int (nI k)), (2, .int (pI (mxD S 6 k))), (0, .ref a), (1, .int (nI i))] [] := by
      intro f20
      induction f20 with
      | zero => intro k hk hf20; exact absurd hf20 (Nat.not_lt_zero _)
      | succ f20 ih20 =>
        intro k hk hf20
        refine Go.iload_n X 0 dX0_depthOf_20 rfl ?_
        refine Go.aload_n X 2 dX0_depthOf_21 rfl ?_
        refine Go.get X f_X0_depthOf_44 0 (v := .int (nI (sP S))) rfl rfl dX0_depthOf_22 ?_
        refine Go.icmp_geN X 54 dX0_depthOf_25 (by decide) (by first | omega | (split <;> omega)) (by first | omega | (split <;> omega)) (fun h25 => ?_) (fun h25 => ?_)
        · --
          refine Go.iload_n X 1 dX0_depthOf_54 rfl ?_
          refine Go.iconst X (nI 1) dX0_depthOf_55 k_ic_1 ?_
          refine Go.iadd_e X ((pI (mxD S 6 k)) + (nI 1)) dX0_depthOf_56 rfl ?_
          refine Go.top (w := .int (nI (mxD S 6 k))) (by exact congrArg Value.int (pI_1 _)) ?_
          have o13 := mxD_le hS 6 k
          refine Go.aload_n X 2 dX0_depthOf_57 rfl ?_
          refine Go.get X f_X0_depthOf_15 0 (v := .int (nI (sD S))) rfl rfl dX0_depthOf_58 ?_
          refine Go.mmin X (nI (min (mxD S 6 k) (sD S))) (List.mem_of_getElem? (i := 8) (by decide +kernel)) (List.mem_of_getElem? (i := 9) (by decide +kernel)) (List.mem_of_getElem? (i := 5) (by decide +kernel)) (List.mem_of_getElem? (i := 10) (by decide +kernel)) rfl (by exact nmin (by first | omega | (split <;> omega)) (by first | omega | (split <;> omega))) dX0_depthOf_61 ?_
          exact Go.iret X E dX0_depthOf_64 ⟨rv (congrArg nI (show min (mxD S 6 k) (sD S) = dep S 6 i from by rw [dep, if_pos h7, show k = sP S by omega])), rfl⟩ rfl
        · --
          refine Go.aload_n X 2 dX0_depthOf_28 rfl ?_
          refine Go.get X f_X0_depthOf_19 0 (v := .ref qk) rfl rfl dX0_depthOf_29 ?_
          refine Go.iload_n X 0 dX0_depthOf_32 rfl ?_
          refine Go.ialdN X 2 (w := sK S) rfl (by first | omega | (split <;> omega)) rfl dX0_depthOf_33 ?_
          have o12 := o7 k (by omega)
          have o13 := mxD_le hS 6 k
          refine Go.iconst X (nI 4) dX0_depthOf_34 k_ic_4 ?_
          refine Go.icmp_eqN X 48 dX0_depthOf_35 (by decide) (by first | omega | (split <;> omega)) (by decide) (fun h35 => ?_) (fun h35 => ?_)
          · --
            refine Go.iinc_0 X (nI (k + 1)) dX0_depthOf_48 (by decide) rfl (show nI k + Int32.ofInt 1 = nI (k + 1) from nI_add _ 1) ?_
            refine Go.goto X 20 dX0_depthOf_51 (by decide) ?_
            refine Go.lv_1 (congrArg Value.int (show pI (mxD S 6 k) = pI (mxD S 6 (k + 1)) from by rw [mxD, if_neg (fun q => q.1 h35)])) ?_
            exact ih20 (k + 1) (by first | omega | (split <;> omega)) (by first | omega | (split <;> omega))
          · --
            refine Go.iload_n X 1 dX0_depthOf_38 rfl ?_
            refine Go.aload_n X 2 dX0_depthOf_39 rfl ?_
            refine Go.iload_n X 0 dX0_depthOf_40 rfl ?_
            refine Go.callVi X  (c_ownDepthOf g a qw qk qr S k (by exact hS) (by first | omega | (split <;> omega))) cal_X0_ownDepthOf [0, 1, 2, 3] rfl rfl gX0_depthOf_X0_ownDepthOf (ci := 0) (q0 := 0) rfl rfl rfl rfl rfl dX0_depthOf_41 ?_
            have f41_1 := ownD_le hS k
            refine Go.mmax X (pI (max (mxD S 6 k) (ownD S k + 1))) (List.mem_of_getElem? (i := 3) (by decide +kernel)) (List.mem_of_getElem? (i := 4) (by decide +kernel)) (List.mem_of_getElem? (i := 5) (by decide +kernel)) (List.mem_of_getElem? (i := 6) (by decide +kernel)) rfl (by exact max_pI (by omega) (by omega)) dX0_depthOf_44 ?_
            refine Go.istore_n_1 X dX0_depthOf_47 (by decide) rfl ?_
            refine Go.iinc_0 X (nI (k + 1)) dX0_depthOf_48 (by decide) rfl (show nI k + Int32.ofInt 1 = nI (k + 1) from nI_add _ 1) ?_
            refine Go.goto X 20 dX0_depthOf_51 (by decide) ?_
            refine Go.lv_1 (congrArg Value.int (show pI (max (mxD S 6 k) (ownD S k + 1)) = pI (mxD S 6 (k + 1)) from by rw [mxD, if_pos ⟨h35, by omega⟩])) ?_
            exact ih20 (k + 1) (by first | omega | (split <;> omega)) (by first | omega | (split <;> omega))
    refine Go.lv_1 (congrArg Value.int (show (-1) = pI (mxD S 6 0) from by exact (by decide : (-1 : Int32) = pI 0))) ?_
    exact L20 (sP S - 0 + 1) 0 (by first | omega | (split <;> omega)) (Nat.lt_succ_self _)
  · --
    refine Go.aload_n X 0 dX0_depthOf_10 rfl ?_
    refine Go.iload_n X 1 dX0_depthOf_11 rfl ?_
    refine Go.callVi X  (c_ownDepthOf g a qw qk qr S i (by exact hS) (by first | omega | (split <;> omega))) cal_X0_ownDepthOf [0, 1, 2, 3] rfl rfl gX0_depthOf_X0_ownDepthOf (ci := 0) (q0 := 0) rfl rfl rfl rfl rfl dX0_depthOf_12 ?_
    have f12_2 := ownD_le hS i
    exact Go.iret X E dX0_depthOf_15 ⟨rv (congrArg nI (show ownD S i = dep S 6 i from by rw [dep, if_neg h7])), rfl⟩ rfl
set_option maxHeartbeats 4000000 in
set_option maxRecDepth 100000 in
theorem c_allowedWithoutLast (g : gT) (a : Nat) (qw : Nat) (qk : Nat) (qr : Nat) (S : Sch) (d : Nat) (hS : sOk S) (hd : d < 100) : Cw g yX0_allowedWithoutLast wsX0_allowedWithoutLast 2 42 [.ref a, .int (nI d)] (schW g a qw qk qr S) (some (.int (nI (drp (sA S) d)))) (schW g a qw qk qr S) := by
  refine Ct.start (cc := cX0_allowedWithoutLast) (nL := 4) (ret := (some .int)) (own := RX0) (by decide) rfl rfl rfl ?_
  intro Γ X E
  show Go Γ g 4 (rmC 2 42) 0 0 (schW g a qw qk qr S) 0 [(0, .ref a), (1, .int (nI d))] []
  obtain ⟨o1, o2, o3, o4, o5, o6, o7, o8⟩ := id hS
  have o9 := p2_9 o2
  have o10 := sA_512 hS
  refine Go.aload_n X 0 dX0_allowedWithoutLast_0 rfl ?_
  refine Go.get X f_X0_allowedWithoutLast_35 0 (v := .int (nI (sA S))) rfl rfl dX0_allowedWithoutLast_1 ?_
  refine Go.istore_n_new X dX0_allowedWithoutLast_4 (by decide) rfl ?_
  refine Go.iconst X (nI 0) dX0_allowedWithoutLast_5 k_ic_0 ?_
  refine Go.istore_n_new X dX0_allowedWithoutLast_6 (by decide) rfl ?_
  have L7 : ∀ (f7 : Nat) (k : Nat) (hk : k ≤ d) (hf7 : d - k < f7), Go Γ g 4 (rmC 2 42) 0 0 (schW g a qw qk qr S) 7 [(3, .int (nI k)), (2, .int (nI (drp (sA S) k))), (0, .ref a), (1, .int (nI d))] [] := by
    intro f7
    induction f7 with
    | zero => intro k hk hf7; exact absurd hf7 (Nat.not_lt_zero _)
    | succ f7 ih7 =>
      intro k hk hf7
      refine Go.iload_n X 0 dX0_allowedWithoutLast_7 rfl ?_
      refine Go.iload_n X 3 dX0_allowedWithoutLast_8 rfl ?_
      refine Go.icmp_geN X 33 dX0_allowedWithoutLast_9 (by decide) (by first | omega | (split <;> omega)) (by first | omega | (split <;> omega)) (fun h9 => ?_) (fun h9 => ?_)
      · --
        refine Go.iload_n X 1 dX0_allowedWithoutLast_33 rfl ?_
        exact Go.iret X E dX0_allowedWithoutLast_34 ⟨rv (congrArg nI (show drp (sA S) k = drp (sA S) d from by rw [show k = d by omega])), rfl⟩ rfl
      · --
        have o11 := drp_512 hS k
        have o12 := log2_lt9 o11
        refine Go.iload_n X 1 dX0_allowedWithoutLast_12 rfl ?_
        refine Go.if_eqN X 33 dX0_allowedWithoutLast_13 (by decide) (by first | omega | (split <;> omega)) (fun h13 => ?_) (fun h13 => ?_)
        · --
          refine Go.iload_n X 1 dX0_allowedWithoutLast_33 rfl ?_
          exact Go.iret X E dX0_allowedWithoutLast_34 ⟨rv (congrArg nI (show drp (sA S) k = drp (sA S) d from by rw [h13, drp_z h13 hk])), rfl⟩ rfl
        · --
          refine Go.iload_n X 1 dX0_allowedWithoutLast_16 rfl ?_
          refine Go.iconst X (nI 1) dX0_allowedWithoutLast_17 k_ic_1 ?_
          refine Go.iload_n X 1 dX0_allowedWithoutLast_18 rfl ?_
          refine Go.callSNi X  (c_lastOf g (drp (sA S) k) (by first | omega | (split <;> omega))) cal_X3_lastOf [] rfl rfl gX0_allowedWithoutLast_X3_lastOf_n106 (by decide) (List.mem_of_getElem? (i := 3) (by decide +kernel)) (List.mem_of_getElem? (i := 2) (by decide +kernel)) rfl rfl rfl dX0_allowedWithoutLast_19 ?_
          refine Go.top (w := .int (nI (Nat.log2 (drp (sA S) k)))) (by rw [lstI, if_neg h13]) ?_
          refine Go.ishl_e X (nI (2 ^ (Nat.log2 (drp (sA S) k)))) dX0_allowedWithoutLast_22 (nI_shl1 (by first | omega | (split <;> omega))) ?_
          refine Go.iconst X ((-1 : Int32)) dX0_allowedWithoutLast_23 k_ic_m1 ?_
          refine Go.ixor_e X (nI (2 ^ (Nat.log2 (drp (sA S) k))) ^^^ (-1)) dX0_allowedWithoutLast_24 rfl ?_
          refine Go.iand_e X (nI (dif (drp (sA S) k) (2 ^ (Nat.log2 (drp (sA S) k))))) dX0_allowedWithoutLast_25 (nI_andnot _ _) ?_
          refine Go.istore_n_1 X dX0_allowedWithoutLast_26 (by decide) rfl ?_
          refine Go.iinc_0 X (nI (k + 1)) dX0_allowedWithoutLast_27 (by decide) rfl (show nI k + Int32.ofInt 1 = nI (k + 1) from nI_add _ 1) ?_
          refine Go.goto X 7 dX0_allowedWithoutLast_30 (by decide) ?_
          refine Go.lv_1 (congrArg (fun z => Value.int (nI z)) (show dif (drp (sA S) k) (2 ^ (Nat.log2 (drp (sA S) k))) = drp (sA S) (k + 1) from by rw [dif_log (by omega) h13, ← drp_s])) ?_
          exact ih7 (k + 1) (by first | omega | (split <;> omega)) (by first | omega | (split <;> omega))
  refine Go.lv_1 (congrArg (fun z => Value.int (nI z)) (show sA S = drp (sA S) 0 from by rfl)) ?_
  exact L7 (d - 0 + 1) 0 (by first | omega | (split <;> omega)) (Nat.lt_succ_self _)
set_option maxHeartbeats 4000000 in
set_option maxRecDepth 100000 in
theorem c_canThink (g : gT) (a : Nat) (qw : Nat) (qk : Nat) (qr : Nat) (S : Sch) (i : Nat) (m : Nat) (hS : sOk S) (hi : i < 6) (hm : m < 9) : Cw g yX0_canThink wsX0_canThink 3 66 [.ref a, .int (nI i), .int (nI m)] (schW g a qw qk qr S) (some (.int (nI (canB S 6 i m)))) (schW g a qw qk qr S) := by
  refine Ct.start (cc := cX0_canThink) (nL := 3) (ret := (some .int)) (own := RX0) (by decide) rfl rfl rfl ?_
  intro Γ X E
  show Go Γ g 3 (rmC 3 66) 0 0 (schW g a qw qk qr S) 0 [(0, .ref a), (1, .int (nI i)), (2, .int (nI m))] []
  obtain ⟨o1, o2, o3, o4, o5, o6, o7, o8⟩ := id hS
  have o9 := p2_9 o2
  have o10 := sA_512 hS
  refine Go.aload_n X 0 dX0_canThink_0 rfl ?_
  refine Go.aload_n X 0 dX0_canThink_1 rfl ?_
  refine Go.iload_n X 1 dX0_canThink_2 rfl ?_
  refine Go.callVi X  (c_depthOf g a qw qk qr S i (by exact hS) (by first | omega | (split <;> omega))) cal_X0_depthOf [0, 1, 2, 3] rfl rfl gX0_canThink_X0_depthOf (ci := 0) (q0 := 0) rfl rfl rfl rfl rfl dX0_canThink_3 ?_
  have f3_1 := dep_le hS 6 i
  refine Go.callVi X  (c_allowedWithoutLast g a qw qk qr S (dep S 6 i) (by exact hS) (by first | omega | (split <;> omega))) cal_X0_allowedWithoutLast [0, 1, 2, 3] rfl rfl gX0_canThink_X0_allowedWithoutLast (ci := 0) (q0 := 0) rfl rfl rfl rfl rfl dX0_canThink_6 ?_
  have f6_2 := drp_512 hS (dep S 6 i)
  refine Go.iconst X (nI 1) dX0_canThink_9 k_ic_1 ?_
  refine Go.iload_n X 2 dX0_canThink_10 rfl ?_
  refine Go.ishl_e X (nI (2 ^ m)) dX0_canThink_11 (nI_shl1 (by first | omega | (split <;> omega))) ?_
  have o11 := Nat.one_le_two_pow (n := m)
  refine Go.iconst X (nI 1) dX0_canThink_12 k_ic_1 ?_
  refine Go.isub_e X (nI (2 ^ m - 1)) dX0_canThink_13 (pk_sub (by first | omega | (split <;> omega))) ?_
  refine Go.iconst X ((-1 : Int32)) dX0_canThink_14 k_ic_m1 ?_
  refine Go.ixor_e X (nI (2 ^ m - 1) ^^^ (-1)) dX0_canThink_15 rfl ?_
  refine Go.iand_e X (nI (dif (drp (sA S) (dep S 6 i)) (2 ^ m - 1))) dX0_canThink_16 (nI_andnot _ _) ?_
  exact Go.iret X E dX0_canThink_17 ⟨rv (congrArg nI (show dif (drp (sA S) (dep S 6 i)) (2 ^ m - 1) = canB S 6 i m from by exact still_dif _ _)), rfl⟩ rfl
set_option maxHeartbeats 4000000 in
set_option maxRecDepth 100000 in
theorem c_sleepsOn (g : gT) (a : Nat) (qw : Nat) (qk : Nat) (qr : Nat) (S : Sch) (i : Nat) (m : Nat) (hS : sOk S) (hi : i < 6) (hm : m < 9) : Cw g yX0_sleepsOn wsX0_sleepsOn 1 23 [.ref a, .int (nI i), .int (nI m)] (schW g a qw qk qr S) (some (.int (b2i (slp S i m)))) (schW g a qw qk qr S) := by
  refine Ct.start (cc := cX0_sleepsOn) (nL := 3) (ret := (some .boolean)) (own := RX0) (by decide) rfl rfl rfl ?_
  intro Γ X E
  show Go Γ g 3 (rmC 1 23) 0 0 (schW g a qw qk qr S) 0 [(0, .ref a), (1, .int (nI i)), (2, .int (nI m))] []
  obtain ⟨o1, o2, o3, o4, o5, o6, o7, o8⟩ := id hS
  have o9 := p2_9 o2
  have o10 := sA_512 hS
  refine Go.aload_n X 0 dX0_sleepsOn_0 rfl ?_
  refine Go.get X f_X0_sleepsOn_19 0 (v := .ref qk) rfl rfl dX0_sleepsOn_1 ?_
  refine Go.iload_n X 1 dX0_sleepsOn_4 rfl ?_
  refine Go.ialdN X 2 (w := sK S) rfl (by first | omega | (split <;> omega)) rfl dX0_sleepsOn_5 ?_
  refine Go.iconst X (nI 1) dX0_sleepsOn_6 k_ic_1 ?_
  have o11 := o7 i hi
  refine Go.callSNi X  (c_isOfKind g ((sK S) i) 1 (by first | omega | (split <;> omega)) (by first | omega | (split <;> omega))) cal_X3_isOfKind [] rfl rfl gX0_sleepsOn_X3_isOfKind_n109 (by decide) (List.mem_of_getElem? (i := 4) (by decide +kernel)) (List.mem_of_getElem? (i := 3) (by decide +kernel)) rfl rfl rfl dX0_sleepsOn_7 ?_
  refine Go.if_eqB X 32 dX0_sleepsOn_10 (by decide) (fun h10 => ?_) (fun h10 => ?_)
  · --
    refine Go.iconst X (nI 0) dX0_sleepsOn_32 k_ic_0 ?_
    exact Go.nret X E rfl dX0_sleepsOn_33 ⟨rv (b2i_f (by rw [isK_1] at h10; simp [slp, h10])), rfl⟩ rfl
  · --
    refine Go.iload_n X 2 dX0_sleepsOn_13 rfl ?_
    refine Go.iconst X (nI 2) dX0_sleepsOn_14 k_ic_2 ?_
    refine Go.aload_n X 0 dX0_sleepsOn_15 rfl ?_
    refine Go.get X f_X0_sleepsOn_22 0 (v := .ref qr) rfl rfl dX0_sleepsOn_16 ?_
    refine Go.iload_n X 1 dX0_sleepsOn_19 rfl ?_
    refine Go.ialdN X 3 (w := sO S) rfl (by first | omega | (split <;> omega)) rfl dX0_sleepsOn_20 ?_
    have o12 := o8 i hi
    refine Go.iconst X (nI 3) dX0_sleepsOn_21 k_ic_3 ?_
    refine Go.irem_e X (nI (((sO S) i) % 3)) dX0_sleepsOn_22 (nI_ne0 (by first | omega | (split <;> omega)) (by first | omega | (split <;> omega))) (pk_rem (by first | omega | (split <;> omega)) (by first | omega | (split <;> omega)) (by first | omega | (split <;> omega))) ?_
    refine Go.iadd_e X (nI (2 + ((sO S) i) % 3)) dX0_sleepsOn_23 (nI_add _ _) ?_
    refine Go.irem_e X (nI (m % (2 + ((sO S) i) % 3))) dX0_sleepsOn_24 (nI_ne0 (by first | omega | (split <;> omega)) (by first | omega | (split <;> omega))) (pk_rem (by first | omega | (split <;> omega)) (by first | omega | (split <;> omega)) (by first | omega | (split <;> omega))) ?_
    have o13 := Nat.mod_le m (2 + sO S i % 3)
    refine Go.if_neN X 32 dX0_sleepsOn_25 (by decide) (by first | omega | (split <;> omega)) (fun h25 => ?_) (fun h25 => ?_)
    · --
      refine Go.iconst X (nI 0) dX0_sleepsOn_32 k_ic_0 ?_
      exact Go.nret X E rfl dX0_sleepsOn_33 ⟨rv (b2i_f (by rw [isK_1] at h10; simp [slp, h10, h25])), rfl⟩ rfl
    · --
      refine Go.iconst X (nI 1) dX0_sleepsOn_28 k_ic_1 ?_
      refine Go.goto X 33 dX0_sleepsOn_29 (by decide) ?_
      exact Go.nret X E rfl dX0_sleepsOn_33 ⟨rv (b2i_t (by rw [isK_1] at h10; simp [slp, h10, h25])), rfl⟩ rfl
set_option maxHeartbeats 4000000 in
set_option maxRecDepth 100000 in
theorem c_morningsAsleep (g : gT) (a : Nat) (qw : Nat) (qk : Nat) (qr : Nat) (S : Sch) (i : Nat) (hS : sOk S) (hi : i < 6) : Cw g yX0_morningsAsleep wsX0_morningsAsleep 2 45 [.ref a, .int (nI i)] (schW g a qw qk qr S) (some (.int (nI (cnt (slp S i) (sN S))))) (schW g a qw qk qr S) := by
  refine Ct.start (cc := cX0_morningsAsleep) (nL := 4) (ret := (some .int)) (own := RX0) (by decide) rfl rfl rfl ?_
  intro Γ X E
  show Go Γ g 4 (rmC 2 45) 0 0 (schW g a qw qk qr S) 0 [(0, .ref a), (1, .int (nI i))] []
  obtain ⟨o1, o2, o3, o4, o5, o6, o7, o8⟩ := id hS
  have o9 := p2_9 o2
  have o10 := sA_512 hS
  refine Go.iconst X (nI 0) dX0_morningsAsleep_0 k_ic_0 ?_
  refine Go.istore_n_new X dX0_morningsAsleep_1 (by decide) rfl ?_
  refine Go.iconst X (nI 0) dX0_morningsAsleep_2 k_ic_0 ?_
  refine Go.istore_n_new X dX0_morningsAsleep_3 (by decide) rfl ?_
  have L4 : ∀ (f4 : Nat) (k : Nat) (hk : k ≤ sN S) (hf4 : sN S - k < f4), Go Γ g 4 (rmC 2 45) 0 0 (schW g a qw qk qr S) 4 [(3, .int (nI k)), (2, .int (nI (cnt (slp S i) k))), (0, .ref a), (1, .int (nI i))] [] := by
    intro f4
    induction f4 with
    | zero => intro k hk hf4; exact absurd hf4 (Nat.not_lt_zero _)
    | succ f4 ih4 =>
      intro k hk hf4
      refine Go.iload_n X 0 dX0_morningsAsleep_4 rfl ?_
      refine Go.aload_n X 2 dX0_morningsAsleep_5 rfl ?_
      refine Go.get X f_X0_morningsAsleep_32 0 (v := .int (nI (sN S))) rfl rfl dX0_morningsAsleep_6 ?_
      refine Go.icmp_geN X 30 dX0_morningsAsleep_9 (by decide) (by first | omega | (split <;> omega)) (by first | omega | (split <;> omega)) (fun h9 => ?_) (fun h9 => ?_)
      · --
        refine Go.iload_n X 1 dX0_morningsAsleep_30 rfl ?_
        exact Go.iret X E dX0_morningsAsleep_31 ⟨rv (congrArg nI (show cnt (slp S i) k = cnt (slp S i) (sN S) from by rw [show k = sN S by omega])), rfl⟩ rfl
      · --
        refine Go.aload_n X 2 dX0_morningsAsleep_12 rfl ?_
        refine Go.iload_n X 3 dX0_morningsAsleep_13 rfl ?_
        refine Go.iload_n X 0 dX0_morningsAsleep_14 rfl ?_
        refine Go.callVi X  (c_sleepsOn g a qw qk qr S i k (by exact hS) (by first | omega | (split <;> omega)) (by first | omega | (split <;> omega))) cal_X0_sleepsOn [0, 1, 2, 3] rfl rfl gX0_morningsAsleep_X0_sleepsOn (ci := 0) (q0 := 0) rfl rfl rfl rfl rfl dX0_morningsAsleep_15 ?_
        refine Go.if_eqB X 24 dX0_morningsAsleep_18 (by decide) (fun h18 => ?_) (fun h18 => ?_)
        · --
          refine Go.iinc_0 X (nI (k + 1)) dX0_morningsAsleep_24 (by decide) rfl (show nI k + Int32.ofInt 1 = nI (k + 1) from nI_add _ 1) ?_
          refine Go.goto X 4 dX0_morningsAsleep_27 (by decide) ?_
          refine Go.lv_1 (congrArg (fun z => Value.int (nI z)) (show cnt (slp S i) k = cnt (slp S i) (k + 1) from by simp [cnt, h18])) ?_
          exact ih4 (k + 1) (by first | omega | (split <;> omega)) (by first | omega | (split <;> omega))
        · --
          refine Go.iinc_1 X (nI (cnt (slp S i) k + 1)) dX0_morningsAsleep_21 (by decide) rfl (show nI (cnt (slp S i) k) + Int32.ofInt 1 = nI (cnt (slp S i) k + 1) from nI_add _ 1) ?_
          refine Go.iinc_0 X (nI (k + 1)) dX0_morningsAsleep_24 (by decide) rfl (show nI k + Int32.ofInt 1 = nI (k + 1) from nI_add _ 1) ?_
          refine Go.goto X 4 dX0_morningsAsleep_27 (by decide) ?_
          refine Go.lv_1 (congrArg (fun z => Value.int (nI z)) (show cnt (slp S i) k + 1 = cnt (slp S i) (k + 1) from by simp [cnt, h18])) ?_
          exact ih4 (k + 1) (by first | omega | (split <;> omega)) (by first | omega | (split <;> omega))
  refine Go.lv_1 (congrArg (fun z => Value.int (nI z)) (show 0 = cnt (slp S i) 0 from by rfl)) ?_
  exact L4 (sN S - 0 + 1) 0 (by first | omega | (split <;> omega)) (Nat.lt_succ_self _)
set_option maxHeartbeats 4000000 in
set_option maxRecDepth 100000 in
theorem c_reasonedBy (g : gT) (a : Nat) (qw : Nat) (qk : Nat) (qr : Nat) (S : Sch) (i : Nat) (hS : sOk S) (hi : i < 6) : Cw g yX0_reasonedBy wsX0_reasonedBy 3 66 [.ref a, .int (nI i)] (schW g a qw qk qr S) (some (.int (nI (reas S i)))) (schW g a qw qk qr S) := by
  refine Ct.start (cc := cX0_reasonedBy) (nL := 3) (ret := (some .int)) (own := RX0) (by decide) rfl rfl rfl ?_
  intro Γ X E
  show Go Γ g 3 (rmC 3 66) 0 0 (schW g a qw qk qr S) 0 [(0, .ref a), (1, .int (nI i))] []
  obtain ⟨o1, o2, o3, o4, o5, o6, o7, o8⟩ := id hS
  have o9 := p2_9 o2
  have o10 := sA_512 hS
  refine Go.aload_n X 0 dX0_reasonedBy_0 rfl ?_
  refine Go.get X f_X0_reasonedBy_19 0 (v := .ref qk) rfl rfl dX0_reasonedBy_1 ?_
  refine Go.iload_n X 1 dX0_reasonedBy_4 rfl ?_
  refine Go.ialdN X 2 (w := sK S) rfl (by first | omega | (split <;> omega)) rfl dX0_reasonedBy_5 ?_
  have o11 := o7 i hi
  refine Go.iconst X (nI 2) dX0_reasonedBy_6 k_ic_2 ?_
  refine Go.icmp_neN X 12 dX0_reasonedBy_7 (by decide) (by first | omega | (split <;> omega)) (by decide) (fun h7 => ?_) (fun h7 => ?_)
  · --
    refine Go.aload_n X 0 dX0_reasonedBy_12 rfl ?_
    refine Go.aload_n X 0 dX0_reasonedBy_13 rfl ?_
    refine Go.iload_n X 1 dX0_reasonedBy_14 rfl ?_
    refine Go.callVi X  (c_depthOf g a qw qk qr S i (by exact hS) (by first | omega | (split <;> omega))) cal_X0_depthOf [0, 1, 2, 3] rfl rfl gX0_reasonedBy_X0_depthOf (ci := 0) (q0 := 0) rfl rfl rfl rfl rfl dX0_reasonedBy_15 ?_
    have f15_1 := dep_le hS 6 i
    refine Go.callVi X  (c_allowedWithoutLast g a qw qk qr S (dep S 6 i) (by exact hS) (by first | omega | (split <;> omega))) cal_X0_allowedWithoutLast [0, 1, 2, 3] rfl rfl gX0_reasonedBy_X0_allowedWithoutLast (ci := 0) (q0 := 0) rfl rfl rfl rfl rfl dX0_reasonedBy_18 ?_
    have f18_2 := drp_512 hS (dep S 6 i)
    have o12 := log2_lt9 (drp_512 hS (dep S 6 i))
    refine Go.callSNi X  (c_lastOf g (drp (sA S) (dep S 6 i)) (by first | omega | (split <;> omega))) cal_X3_lastOf [] rfl rfl gX0_reasonedBy_X3_lastOf_n106 (by decide) (List.mem_of_getElem? (i := 27) (by decide +kernel)) (List.mem_of_getElem? (i := 26) (by decide +kernel)) rfl rfl rfl dX0_reasonedBy_21 ?_
    by_cases hz : drp (sA S) (dep S 6 i) = 0
    · --
      refine Go.top (w := .int (-1)) (by rw [lstI, if_pos hz]) ?_
      refine Go.istore_n_new X dX0_reasonedBy_24 (by decide) rfl ?_
      refine Go.iload_n X 0 dX0_reasonedBy_25 rfl ?_
      refine Go.iconst X ((-1 : Int32)) dX0_reasonedBy_26 k_ic_m1 ?_
      refine Go.icmp_eq X 39 dX0_reasonedBy_27 (by decide) (fun _ => ?_) (fun h => absurd (by decide) h)
      refine Go.iconst X (nI 0) dX0_reasonedBy_39 k_ic_0 ?_
      refine Go.goto X 46 dX0_reasonedBy_40 (by decide) ?_
      exact Go.iret X E dX0_reasonedBy_46 ⟨rv (congrArg nI (show 0 = reas S i from by rw [reas, if_neg h7, if_pos hz])), rfl⟩ rfl
    · --
      refine Go.top (w := .int (nI (Nat.log2 (drp (sA S) (dep S 6 i))))) (by rw [lstI, if_neg hz]) ?_
      refine Go.istore_n_new X dX0_reasonedBy_24 (by decide) rfl ?_
      refine Go.iload_n X 0 dX0_reasonedBy_25 rfl ?_
      refine Go.iconst X ((-1 : Int32)) dX0_reasonedBy_26 k_ic_m1 ?_
      refine Go.icmp_eq X 39 dX0_reasonedBy_27 (by decide) (fun h27 => ?_) (fun h27 => ?_)
      · --
        exact absurd h27 (fun q => m1_ne (by omega) q.symm)
      · --
        refine Go.aload_n X 1 dX0_reasonedBy_30 rfl ?_
        refine Go.iload_n X 2 dX0_reasonedBy_31 rfl ?_
        refine Go.iload_n X 0 dX0_reasonedBy_32 rfl ?_
        refine Go.callVi X  (c_sleepsOn g a qw qk qr S i (Nat.log2 (drp (sA S) (dep S 6 i))) (by exact hS) (by first | omega | (split <;> omega)) (by first | omega | (split <;> omega))) cal_X0_sleepsOn [0, 1, 2, 3] rfl rfl gX0_reasonedBy_X0_sleepsOn (ci := 0) (q0 := 0) rfl rfl rfl rfl rfl dX0_reasonedBy_33 ?_
        refine Go.if_eqB X 43 dX0_reasonedBy_36 (by decide) (fun h36 => ?_) (fun h36 => ?_)
        · --
          refine Go.iconst X (nI 1) dX0_reasonedBy_43 k_ic_1 ?_
          refine Go.iload_n X 0 dX0_reasonedBy_44 rfl ?_
          refine Go.ishl_e X (nI (2 ^ (Nat.log2 (drp (sA S) (dep S 6 i))))) dX0_reasonedBy_45 (nI_shl1 (by first | omega | (split <;> omega))) ?_
          exact Go.iret X E dX0_reasonedBy_46 ⟨rv (congrArg nI (show 2 ^ (Nat.log2 (drp (sA S) (dep S 6 i))) = reas S i from by rw [reas, if_neg h7, if_neg hz, if_neg (by rw [h36]; decide)])), rfl⟩ rfl
        · --
          refine Go.iconst X (nI 0) dX0_reasonedBy_39 k_ic_0 ?_
          refine Go.goto X 46 dX0_reasonedBy_40 (by decide) ?_
          exact Go.iret X E dX0_reasonedBy_46 ⟨rv (congrArg nI (show 0 = reas S i from by rw [reas, if_neg h7, if_neg hz, if_pos h36])), rfl⟩ rfl
  · --
    refine Go.iconst X (nI 0) dX0_reasonedBy_10 k_ic_0 ?_
    exact Go.iret X E dX0_reasonedBy_11 ⟨rv (congrArg nI (show 0 = reas S i from by rw [reas, if_pos h7])), rfl⟩ rfl
set_option maxHeartbeats 4000000 in
set_option maxRecDepth 100000 in
theorem c_betBy (g : gT) (a : Nat) (qw : Nat) (qk : Nat) (qr : Nat) (S : Sch) (i : Nat) (hS : sOk S) (hi : i < 6) : Cw g yX0_betBy wsX0_betBy 3 63 [.ref a, .int (nI i)] (schW g a qw qk qr S) (some (.int (nI (bet S i)))) (schW g a qw qk qr S) := by
  refine Ct.start (cc := cX0_betBy) (nL := 6) (ret := (some .int)) (own := RX0) (by decide) rfl rfl rfl ?_
  intro Γ X E
  show Go Γ g 6 (rmC 3 63) 0 0 (schW g a qw qk qr S) 0 [(0, .ref a), (1, .int (nI i))] []
  obtain ⟨o1, o2, o3, o4, o5, o6, o7, o8⟩ := id hS
  have o9 := p2_9 o2
  have o10 := sA_512 hS
  refine Go.aload_n X 0 dX0_betBy_0 rfl ?_
  refine Go.get X f_X0_betBy_19 0 (v := .ref qk) rfl rfl dX0_betBy_1 ?_
  refine Go.iload_n X 1 dX0_betBy_4 rfl ?_
  refine Go.ialdN X 2 (w := sK S) rfl (by first | omega | (split <;> omega)) rfl dX0_betBy_5 ?_
  have o11 := o7 i hi
  refine Go.iconst X (nI 2) dX0_betBy_6 k_ic_2 ?_
  refine Go.callSNi X  (c_isOfKind g ((sK S) i) 2 (by first | omega | (split <;> omega)) (by first | omega | (split <;> omega))) cal_X3_isOfKind [] rfl rfl gX0_betBy_X3_isOfKind_n109 (by decide) (List.mem_of_getElem? (i := 5) (by decide +kernel)) (List.mem_of_getElem? (i := 4) (by decide +kernel)) rfl rfl rfl dX0_betBy_7 ?_
  refine Go.if_neB X 15 dX0_betBy_10 (by decide) (fun h10 => ?_) (fun h10 => ?_)
  · --
    refine Go.iconst X (nI 0) dX0_betBy_15 k_ic_0 ?_
    refine Go.istore_n_new X dX0_betBy_16 (by decide) rfl ?_
    refine Go.iconst X (nI 0) dX0_betBy_17 k_ic_0 ?_
    refine Go.istore_n_new X dX0_betBy_18 (by decide) rfl ?_
    refine Go.aload_n X 2 dX0_betBy_19 rfl ?_
    refine Go.get X f_X0_betBy_32 0 (v := .int (nI (sN S))) rfl rfl dX0_betBy_20 ?_
    refine Go.iconst X (nI 1) dX0_betBy_23 k_ic_1 ?_
    refine Go.isub_e X (nI (sN S - 1)) dX0_betBy_24 (pk_sub (by first | omega | (split <;> omega))) ?_
    refine Go.istore_new X dX0_betBy_25 (by decide) rfl ?_
    have L27 : ∀ (f27 : Nat) (k : Nat) (hk : k ≤ sN S) (hf27 : k < f27), Go Γ g 6 (rmC 3 63) 0 0 (schW g a qw qk qr S) 27 [(4, .int (pI k)), (3, .int (nI (wsum (sW S) (still (sA S) k) (sN S)))), (2, .int (nI (betF S i k))), (0, .ref a), (1, .int (nI i))] [] := by
      intro f27
      induction f27 with
      | zero => intro k hk hf27; exact absurd hf27 (Nat.not_lt_zero _)
      | succ f27 ih27 =>
        intro k hk hf27
        by_cases hk0 : k = 0
        · --
          refine Go.lv_0 (w := .int (-1)) (by rw [hk0]; exact congrArg Value.int (by decide)) ?_
          refine Go.iload X 0 dX0_betBy_27 rfl ?_
          refine Go.if_lt X 79 dX0_betBy_29 (by decide) (fun _ => ?_) (fun h => absurd (by decide) h)
          refine Go.iload_n X 2 dX0_betBy_79 rfl ?_
          exact Go.iret X E dX0_betBy_80 ⟨rv (congrArg nI (show betF S i k = bet S i from by rw [hk0, betF_0])), rfl⟩ rfl
        · --
          refine Go.lv_0 (w := .int (nI (k - 1))) (by rw [pI_at hk0]) ?_
          refine Go.iload X 0 dX0_betBy_27 rfl ?_
          refine Go.if_ltN X 79 dX0_betBy_29 (by decide) (by first | omega | (split <;> omega)) ?_
          refine Go.aload_n X 3 dX0_betBy_32 rfl ?_
          refine Go.iload X 0 dX0_betBy_33 rfl ?_
          refine Go.callVi X  (c_lotsOf g a qw qk qr S (k - 1) (by exact hS) (by first | omega | (split <;> omega))) cal_X0_lotsOf [0, 1, 2, 3] rfl rfl gX0_betBy_X0_lotsOf (ci := 0) (q0 := 0) rfl rfl rfl rfl rfl dX0_betBy_35 ?_
          have f35_1 := lotN_le hS (show (k - 1) < 9 by omega)
          refine Go.istore_new X dX0_betBy_38 (by decide) rfl ?_
          have o12 := wsum_81 hS (still (sA S) k)
          have o13 := o8 i hi
          refine Go.iload_n X 2 dX0_betBy_40 rfl ?_
          refine Go.iload X 0 dX0_betBy_41 rfl ?_
          refine Go.iadd_e X (nI (wsum (sW S) (still (sA S) k) (sN S) + lotN S (k - 1))) dX0_betBy_43 (nI_add _ _) ?_
          refine Go.istore_n_2 X dX0_betBy_44 (by decide) rfl ?_
          refine Go.iload X 0 dX0_betBy_45 rfl ?_
          refine Go.if_eqN X 73 dX0_betBy_47 (by decide) (by first | omega | (split <;> omega)) (fun h47 => ?_) (fun h47 => ?_)
          · --
            refine Go.iinc_1 X (pI (k - 1)) dX0_betBy_73 (by decide) rfl rfl ?_
            refine Go.goto X 27 dX0_betBy_76 (by decide) ?_
            refine Go.lv_2 (congrArg (fun z => Value.int (nI z)) (show wsum (sW S) (still (sA S) k) (sN S) + lotN S (k - 1) = wsum (sW S) (still (sA S) (k - 1)) (sN S) from by exact ws_step hk0 hk)) ?_
            refine Go.lv_3 (congrArg (fun z => Value.int (nI z)) (show betF S i k = betF S i (k - 1) from by exact bet_n hk0 hk (betP_n0 h47))) ?_
            refine Go.sub [1, 2, 3, 4, 5] rfl ?_
            exact ih27 (k - 1) (by first | omega | (split <;> omega)) (by first | omega | (split <;> omega))
          · --
            refine Go.bipush X (nI 10) dX0_betBy_50 k_bp_10 ?_
            refine Go.iload X 0 dX0_betBy_52 rfl ?_
            refine Go.imul_e X (nI (10 * (lotN S (k - 1)))) dX0_betBy_54 (pk_mul _ _) ?_
            refine Go.aload_n X 4 dX0_betBy_55 rfl ?_
            refine Go.get X f_X0_betBy_22 0 (v := .ref qr) rfl rfl dX0_betBy_56 ?_
            refine Go.iload_n X 5 dX0_betBy_59 rfl ?_
            refine Go.ialdN X 3 (w := sO S) rfl (by first | omega | (split <;> omega)) rfl dX0_betBy_60 ?_
            refine Go.iload_n X 2 dX0_betBy_61 rfl ?_
            refine Go.imul_e X (nI (((sO S) i) * (wsum (sW S) (still (sA S) k) (sN S) + lotN S (k - 1)))) dX0_betBy_62 (pk_mul _ _) ?_
            have o14 : (sO S i) * (wsum (sW S) (still (sA S) k) (sN S) + lotN S (k - 1)) ≤ 9 * 90 := Nat.mul_le_mul (o8 i hi) (by omega)
            refine Go.icmp_ltN X 73 dX0_betBy_63 (by decide) (by first | omega | (split <;> omega)) (by first | omega | (split <;> omega)) (fun h63 => ?_) (fun h63 => ?_)
            · --
              refine Go.iinc_1 X (pI (k - 1)) dX0_betBy_73 (by decide) rfl rfl ?_
              refine Go.goto X 27 dX0_betBy_76 (by decide) ?_
              refine Go.lv_2 (congrArg (fun z => Value.int (nI z)) (show wsum (sW S) (still (sA S) k) (sN S) + lotN S (k - 1) = wsum (sW S) (still (sA S) (k - 1)) (sN S) from by exact ws_step hk0 hk)) ?_
              refine Go.lv_3 (congrArg (fun z => Value.int (nI z)) (show betF S i k = betF S i (k - 1) from by exact bet_n hk0 hk (betP_n1 hk0 hk h63))) ?_
              refine Go.sub [1, 2, 3, 4, 5] rfl ?_
              exact ih27 (k - 1) (by first | omega | (split <;> omega)) (by first | omega | (split <;> omega))
            · --
              refine Go.iload_n X 3 dX0_betBy_66 rfl ?_
              refine Go.iconst X (nI 1) dX0_betBy_67 k_ic_1 ?_
              refine Go.iload X 1 dX0_betBy_68 rfl ?_
              refine Go.ishl_e X (nI (2 ^ (k - 1))) dX0_betBy_70 (nI_shl1 (by first | omega | (split <;> omega))) ?_
              refine Go.ior_e X (nI ((betF S i k) ||| (2 ^ (k - 1)))) dX0_betBy_71 (nI_or _ _) ?_
              refine Go.istore_n_3 X dX0_betBy_72 (by decide) rfl ?_
              refine Go.iinc_1 X (pI (k - 1)) dX0_betBy_73 (by decide) rfl rfl ?_
              refine Go.goto X 27 dX0_betBy_76 (by decide) ?_
              refine Go.lv_2 (congrArg (fun z => Value.int (nI z)) (show wsum (sW S) (still (sA S) k) (sN S) + lotN S (k - 1) = wsum (sW S) (still (sA S) (k - 1)) (sN S) from by exact ws_step hk0 hk)) ?_
              refine Go.lv_3 (congrArg (fun z => Value.int (nI z)) (show (betF S i k) ||| (2 ^ (k - 1)) = betF S i (k - 1) from by exact bet_y hk0 hk (betP_y h10 hk0 hk h47 h63))) ?_
              refine Go.sub [1, 2, 3, 4, 5] rfl ?_
              exact ih27 (k - 1) (by first | omega | (split <;> omega)) (by first | omega | (split <;> omega))
    refine Go.lv_0 (show (.int (nI (sN S - 1)) : Value) = .int (pI (sN S)) from by exact congrArg Value.int (pI_at (by omega)).symm) ?_
    refine Go.lv_1 (congrArg (fun z => Value.int (nI z)) (show 0 = wsum (sW S) (still (sA S) (sN S)) (sN S) from by exact wsum_still_n.symm)) ?_
    refine Go.lv_2 (congrArg (fun z => Value.int (nI z)) (show 0 = betF S i (sN S) from by exact (betF_n S i).symm)) ?_
    exact L27 ((sN S) + 1) (sN S) (by first | omega | (split <;> omega)) (Nat.lt_succ_self _)
  · --
    refine Go.iconst X (nI 0) dX0_betBy_13 k_ic_0 ?_
    exact Go.iret X E dX0_betBy_14 ⟨rv (congrArg nI (show 0 = bet S i from by exact (bet_no h10).symm)), rfl⟩ rfl
set_option maxHeartbeats 4000000 in
set_option maxRecDepth 100000 in
theorem c_expectedBy (g : gT) (a : Nat) (qw : Nat) (qk : Nat) (qr : Nat) (S : Sch) (i : Nat) (hS : sOk S) (hi : i < 6) : Cw g yX0_expectedBy wsX0_expectedBy 4 88 [.ref a, .int (nI i)] (schW g a qw qk qr S) (some (.int (nI (expd S 6 i)))) (schW g a qw qk qr S) := by
  refine Ct.start (cc := cX0_expectedBy) (nL := 2) (ret := (some .int)) (own := RX0) (by decide) rfl rfl rfl ?_
  intro Γ X E
  show Go Γ g 2 (rmC 4 88) 0 0 (schW g a qw qk qr S) 0 [(0, .ref a), (1, .int (nI i))] []
  obtain ⟨o1, o2, o3, o4, o5, o6, o7, o8⟩ := id hS
  have o9 := p2_9 o2
  have o10 := sA_512 hS
  refine Go.aload_n X 0 dX0_expectedBy_0 rfl ?_
  refine Go.iload_n X 1 dX0_expectedBy_1 rfl ?_
  refine Go.callVi X  (c_reasonedBy g a qw qk qr S i (by exact hS) (by first | omega | (split <;> omega))) cal_X0_reasonedBy [0, 1, 2, 3] rfl rfl gX0_expectedBy_X0_reasonedBy (ci := 0) (q0 := 0) rfl rfl rfl rfl rfl dX0_expectedBy_2 ?_
  have f2_1 := reas_512 hS i
  refine Go.aload_n X 0 dX0_expectedBy_5 rfl ?_
  refine Go.iload_n X 1 dX0_expectedBy_6 rfl ?_
  refine Go.callVi X  (c_betBy g a qw qk qr S i (by exact hS) (by first | omega | (split <;> omega))) cal_X0_betBy [0, 1, 2, 3] rfl rfl gX0_expectedBy_X0_betBy (ci := 0) (q0 := 0) rfl rfl rfl rfl rfl dX0_expectedBy_7 ?_
  have f7_2 := bet_512 hS i
  refine Go.ior_e X (nI ((reas S i) ||| (bet S i))) dX0_expectedBy_10 (nI_or _ _) ?_
  exact Go.iret X E dX0_expectedBy_11 ⟨rv (congrArg nI (show (reas S i) ||| (bet S i) = expd S 6 i from by exact expd_eq hS i)), rfl⟩ rfl
set_option maxHeartbeats 4000000 in
set_option maxRecDepth 100000 in
theorem c_reasonedByAll (g : gT) (a : Nat) (qw : Nat) (qk : Nat) (qr : Nat) (S : Sch) (hS : sOk S) : Cw g yX0_reasonedByAll wsX0_reasonedByAll 4 88 [.ref a] (schW g a qw qk qr S) (some (.int (nI (orF (reas S) (sP S))))) (schW g a qw qk qr S) := by
  refine Ct.start (cc := cX0_reasonedByAll) (nL := 3) (ret := (some .int)) (own := RX0) (by decide) rfl rfl rfl ?_
  intro Γ X E
  show Go Γ g 3 (rmC 4 88) 0 0 (schW g a qw qk qr S) 0 [(0, .ref a)] []
  obtain ⟨o1, o2, o3, o4, o5, o6, o7, o8⟩ := id hS
  have o9 := p2_9 o2
  have o10 := sA_512 hS
  refine Go.iconst X (nI 0) dX0_reasonedByAll_0 k_ic_0 ?_
  refine Go.istore_n_new X dX0_reasonedByAll_1 (by decide) rfl ?_
  refine Go.iconst X (nI 0) dX0_reasonedByAll_2 k_ic_0 ?_
  refine Go.istore_n_new X dX0_reasonedByAll_3 (by decide) rfl ?_
  have L4 : ∀ (f4 : Nat) (k : Nat) (hk : k ≤ sP S) (hf4 : sP S - k < f4), Go Γ g 3 (rmC 4 88) 0 0 (schW g a qw qk qr S) 4 [(2, .int (nI k)), (1, .int (nI (orF (reas S) k))), (0, .ref a)] [] := by
    intro f4
    induction f4 with
    | zero => intro k hk hf4; exact absurd hf4 (Nat.not_lt_zero _)
    | succ f4 ih4 =>
      intro k hk hf4
      refine Go.iload_n X 0 dX0_reasonedByAll_4 rfl ?_
      refine Go.aload_n X 2 dX0_reasonedByAll_5 rfl ?_
      refine Go.get X f_X0_reasonedByAll_44 0 (v := .int (nI (sP S))) rfl rfl dX0_reasonedByAll_6 ?_
      refine Go.icmp_geN X 26 dX0_reasonedByAll_9 (by decide) (by first | omega | (split <;> omega)) (by first | omega | (split <;> omega)) (fun h9 => ?_) (fun h9 => ?_)
      · --
        refine Go.iload_n X 1 dX0_reasonedByAll_26 rfl ?_
        exact Go.iret X E dX0_reasonedByAll_27 ⟨rv (congrArg nI (show orF (reas S) k = orF (reas S) (sP S) from by rw [show k = sP S by omega])), rfl⟩ rfl
      · --
        refine Go.iload_n X 1 dX0_reasonedByAll_12 rfl ?_
        refine Go.aload_n X 2 dX0_reasonedByAll_13 rfl ?_
        refine Go.iload_n X 0 dX0_reasonedByAll_14 rfl ?_
        refine Go.callVi X  (c_reasonedBy g a qw qk qr S k (by exact hS) (by first | omega | (split <;> omega))) cal_X0_reasonedBy [0, 1, 2, 3] rfl rfl gX0_reasonedByAll_X0_reasonedBy (ci := 0) (q0 := 0) rfl rfl rfl rfl rfl dX0_reasonedByAll_15 ?_
        have f15_1 := reas_512 hS k
        refine Go.ior_e X (nI ((orF (reas S) k) ||| (reas S k))) dX0_reasonedByAll_18 (nI_or _ _) ?_
        refine Go.istore_n_1 X dX0_reasonedByAll_19 (by decide) rfl ?_
        refine Go.iinc_0 X (nI (k + 1)) dX0_reasonedByAll_20 (by decide) rfl (show nI k + Int32.ofInt 1 = nI (k + 1) from nI_add _ 1) ?_
        refine Go.goto X 4 dX0_reasonedByAll_23 (by decide) ?_
        refine Go.lv_1 (congrArg (fun z => Value.int (nI z)) (show (orF (reas S) k) ||| (reas S k) = orF (reas S) (k + 1) from by rfl)) ?_
        exact ih4 (k + 1) (by first | omega | (split <;> omega)) (by first | omega | (split <;> omega))
  refine Go.lv_1 (congrArg (fun z => Value.int (nI z)) (show 0 = orF (reas S) 0 from by rfl)) ?_
  exact L4 (sP S - 0 + 1) 0 (by first | omega | (split <;> omega)) (Nat.lt_succ_self _)
set_option maxHeartbeats 4000000 in
set_option maxRecDepth 100000 in
theorem c_betByAll (g : gT) (a : Nat) (qw : Nat) (qk : Nat) (qr : Nat) (S : Sch) (hS : sOk S) : Cw g yX0_betByAll wsX0_betByAll 4 88 [.ref a] (schW g a qw qk qr S) (some (.int (nI (orF (bet S) (sP S))))) (schW g a qw qk qr S) := by
  refine Ct.start (cc := cX0_betByAll) (nL := 3) (ret := (some .int)) (own := RX0) (by decide) rfl rfl rfl ?_
  intro Γ X E
  show Go Γ g 3 (rmC 4 88) 0 0 (schW g a qw qk qr S) 0 [(0, .ref a)] []
  obtain ⟨o1, o2, o3, o4, o5, o6, o7, o8⟩ := id hS
  have o9 := p2_9 o2
  have o10 := sA_512 hS
  refine Go.iconst X (nI 0) dX0_betByAll_0 k_ic_0 ?_
  refine Go.istore_n_new X dX0_betByAll_1 (by decide) rfl ?_
  refine Go.iconst X (nI 0) dX0_betByAll_2 k_ic_0 ?_
  refine Go.istore_n_new X dX0_betByAll_3 (by decide) rfl ?_
  have L4 : ∀ (f4 : Nat) (k : Nat) (hk : k ≤ sP S) (hf4 : sP S - k < f4), Go Γ g 3 (rmC 4 88) 0 0 (schW g a qw qk qr S) 4 [(2, .int (nI k)), (1, .int (nI (orF (bet S) k))), (0, .ref a)] [] := by
    intro f4
    induction f4 with
    | zero => intro k hk hf4; exact absurd hf4 (Nat.not_lt_zero _)
    | succ f4 ih4 =>
      intro k hk hf4
      refine Go.iload_n X 0 dX0_betByAll_4 rfl ?_
      refine Go.aload_n X 2 dX0_betByAll_5 rfl ?_
      refine Go.get X f_X0_betByAll_44 0 (v := .int (nI (sP S))) rfl rfl dX0_betByAll_6 ?_
      refine Go.icmp_geN X 26 dX0_betByAll_9 (by decide) (by first | omega | (split <;> omega)) (by first | omega | (split <;> omega)) (fun h9 => ?_) (fun h9 => ?_)
      · --
        refine Go.iload_n X 1 dX0_betByAll_26 rfl ?_
        exact Go.iret X E dX0_betByAll_27 ⟨rv (congrArg nI (show orF (bet S) k = orF (bet S) (sP S) from by rw [show k = sP S by omega])), rfl⟩ rfl
      · --
        refine Go.iload_n X 1 dX0_betByAll_12 rfl ?_
        refine Go.aload_n X 2 dX0_betByAll_13 rfl ?_
        refine Go.iload_n X 0 dX0_betByAll_14 rfl ?_
        refine Go.callVi X  (c_betBy g a qw qk qr S k (by exact hS) (by first | omega | (split <;> omega))) cal_X0_betBy [0, 1, 2, 3] rfl rfl gX0_betByAll_X0_betBy (ci := 0) (q0 := 0) rfl rfl rfl rfl rfl dX0_betByAll_15 ?_
        have f15_1 := bet_512 hS k
        refine Go.ior_e X (nI ((orF (bet S) k) ||| (bet S k))) dX0_betByAll_18 (nI_or _ _) ?_
        refine Go.istore_n_1 X dX0_betByAll_19 (by decide) rfl ?_
        refine Go.iinc_0 X (nI (k + 1)) dX0_betByAll_20 (by decide) rfl (show nI k + Int32.ofInt 1 = nI (k + 1) from nI_add _ 1) ?_
        refine Go.goto X 4 dX0_betByAll_23 (by decide) ?_
        refine Go.lv_1 (congrArg (fun z => Value.int (nI z)) (show (orF (bet S) k) ||| (bet S k) = orF (bet S) (k + 1) from by rfl)) ?_
        exact ih4 (k + 1) (by first | omega | (split <;> omega)) (by first | omega | (split <;> omega))
  refine Go.lv_1 (congrArg (fun z => Value.int (nI z)) (show 0 = orF (bet S) 0 from by rfl)) ?_
  exact L4 (sP S - 0 + 1) 0 (by first | omega | (split <;> omega)) (Nat.lt_succ_self _)
set_option maxHeartbeats 4000000 in
set_option maxRecDepth 100000 in
theorem c_bySurprise (g : gT) (a : Nat) (qw : Nat) (qk : Nat) (qr : Nat) (S : Sch) (hS : sOk S) : Cw g yX0_bySurprise wsX0_bySurprise 5 110 [.ref a] (schW g a qw qk qr S) (some (.int (nI (sur S 6)))) (schW g a qw qk qr S) := by
  refine Ct.start (cc := cX0_bySurprise) (nL := 1) (ret := (some .int)) (own := RX0) (by decide) rfl rfl rfl ?_
  intro Γ X E
  show Go Γ g 1 (rmC 5 110) 0 0 (schW g a qw qk qr S) 0 [(0, .ref a)] []
  obtain ⟨o1, o2, o3, o4, o5, o6, o7, o8⟩ := id hS
  have o9 := p2_9 o2
  have o10 := sA_512 hS
  refine Go.aload_n X 0 dX0_bySurprise_0 rfl ?_
  refine Go.get X f_X0_bySurprise_35 0 (v := .int (nI (sA S))) rfl rfl dX0_bySurprise_1 ?_
  refine Go.aload_n X 0 dX0_bySurprise_4 rfl ?_
  refine Go.callVi X  (c_reasonedByAll g a qw qk qr S (by exact hS)) cal_X0_reasonedByAll [0, 1, 2, 3] rfl rfl gX0_bySurprise_X0_reasonedByAll (ci := 0) (q0 := 0) rfl rfl rfl rfl rfl dX0_bySurprise_5 ?_
  have f5_1 := orF_512 (reas_512 hS) (sP S)
  refine Go.aload_n X 0 dX0_bySurprise_8 rfl ?_
  refine Go.callVi X  (c_betByAll g a qw qk qr S (by exact hS)) cal_X0_betByAll [0, 1, 2, 3] rfl rfl gX0_bySurprise_X0_betByAll (ci := 0) (q0 := 0) rfl rfl rfl rfl rfl dX0_bySurprise_9 ?_
  have f9_2 := orF_512 (bet_512 hS) (sP S)
  refine Go.ior_e X (nI ((orF (reas S) (sP S)) ||| (orF (bet S) (sP S)))) dX0_bySurprise_12 (nI_or _ _) ?_
  refine Go.iconst X ((-1 : Int32)) dX0_bySurprise_13 k_ic_m1 ?_
  refine Go.ixor_e X (nI ((orF (reas S) (sP S)) ||| (orF (bet S) (sP S))) ^^^ (-1)) dX0_bySurprise_14 rfl ?_
  refine Go.iand_e X (nI (dif (sA S) ((orF (reas S) (sP S)) ||| (orF (bet S) (sP S))))) dX0_bySurprise_15 (nI_andnot _ _) ?_
  exact Go.iret X E dX0_bySurprise_16 ⟨rv (congrArg nI (show dif (sA S) ((orF (reas S) (sP S)) ||| (orF (bet S) (sP S))) = sur S 6 from by exact sur_eq hS)), rfl⟩ rfl
set_option maxHeartbeats 4000000 in
set_option maxRecDepth 100000 in
theorem c_expectingOn (g : gT) (a : Nat) (qw : Nat) (qk : Nat) (qr : Nat) (S : Sch) (m : Nat) (hS : sOk S) (hm : m < sN S) : Cw g yX0_expectingOn wsX0_expectingOn 5 109 [.ref a, .int (nI m)] (schW g a qw qk qr S) (some (.int (nI (whoE S 6 m)))) (schW g a qw qk qr S) := by
  refine Ct.start (cc := cX0_expectingOn) (nL := 4) (ret := (some .int)) (own := RX0) (by decide) rfl rfl rfl ?_
  intro Γ X E
  show Go Γ g 4 (rmC 5 109) 0 0 (schW g a qw qk qr S) 0 [(0, .ref a), (1, .int (nI m))] []
  obtain ⟨o1, o2, o3, o4, o5, o6, o7, o8⟩ := id hS
  have o9 := p2_9 o2
  have o10 := sA_512 hS
  refine Go.iconst X (nI 0) dX0_expectingOn_0 k_ic_0 ?_
  refine Go.istore_n_new X dX0_expectingOn_1 (by decide) rfl ?_
  refine Go.iconst X (nI 0) dX0_expectingOn_2 k_ic_0 ?_
  refine Go.istore_n_new X dX0_expectingOn_3 (by decide) rfl ?_
  have L4 : ∀ (f4 : Nat) (k : Nat) (hk : k ≤ sP S) (hf4 : sP S - k < f4), Go Γ g 4 (rmC 5 109) 0 0 (schW g a qw qk qr S) 4 [(3, .int (nI k)), (2, .int (nI (bts (fun i => i != 6 && expP S 6 i m) k))), (0, .ref a), (1, .int (nI m))] [] := by
    intro f4
    induction f4 with
    | zero => intro k hk hf4; exact absurd hf4 (Nat.not_lt_zero _)
    | succ f4 ih4 =>
      intro k hk hf4
      refine Go.iload_n X 0 dX0_expectingOn_4 rfl ?_
      refine Go.aload_n X 2 dX0_expectingOn_5 rfl ?_
      refine Go.get X f_X0_expectingOn_44 0 (v := .int (nI (sP S))) rfl rfl dX0_expectingOn_6 ?_
      refine Go.icmp_geN X 36 dX0_expectingOn_9 (by decide) (by first | omega | (split <;> omega)) (by first | omega | (split <;> omega)) (fun h9 => ?_) (fun h9 => ?_)
      · --
        refine Go.iload_n X 1 dX0_expectingOn_36 rfl ?_
        exact Go.iret X E dX0_expectingOn_37 ⟨rv (congrArg nI (show bts (fun i => i != 6 && expP S 6 i m) k = whoE S 6 m from by rw [show k = sP S by omega]; rfl)), rfl⟩ rfl
      · --
        refine Go.aload_n X 2 dX0_expectingOn_12 rfl ?_
        refine Go.iload_n X 0 dX0_expectingOn_13 rfl ?_
        refine Go.callVi X  (c_expectedBy g a qw qk qr S k (by exact hS) (by first | omega | (split <;> omega))) cal_X0_expectedBy [0, 1, 2, 3] rfl rfl gX0_expectingOn_X0_expectedBy (ci := 0) (q0 := 0) rfl rfl rfl rfl rfl dX0_expectingOn_14 ?_
        have f14_1 := expd_512 hS 6 k
        refine Go.iload_n X 3 dX0_expectingOn_17 rfl ?_
        refine Go.callSNi X  (c_isIn g (expd S 6 k) m (by first | omega | (split <;> omega)) (by first | omega | (split <;> omega))) cal_X3_isIn [] rfl rfl gX0_expectingOn_X3_isIn_n68 (by decide) (List.mem_of_getElem? (i := 35) (by decide +kernel)) (List.mem_of_getElem? (i := 38) (by decide +kernel)) rfl rfl rfl dX0_expectingOn_18 ?_
        refine Go.if_eqB X 30 dX0_expectingOn_21 (by decide) (fun h21 => ?_) (fun h21 => ?_)
        · --
          refine Go.iinc_0 X (nI (k + 1)) dX0_expectingOn_30 (by decide) rfl (show nI k + Int32.ofInt 1 = nI (k + 1) from nI_add _ 1) ?_
          refine Go.goto X 4 dX0_expectingOn_33 (by decide) ?_
          refine Go.lv_1 (congrArg (fun z => Value.int (nI z)) (show bts (fun i => i != 6 && expP S 6 i m) k = bts (fun i => i != 6 && expP S 6 i m) (k + 1) from by rw [expd_bit hm] at h21; simp [bts, h21, show k ≠ 6 by omega])) ?_
          exact ih4 (k + 1) (by first | omega | (split <;> omega)) (by first | omega | (split <;> omega))
        · --
          refine Go.iload_n X 1 dX0_expectingOn_24 rfl ?_
          refine Go.iconst X (nI 1) dX0_expectingOn_25 k_ic_1 ?_
          refine Go.iload_n X 0 dX0_expectingOn_26 rfl ?_
          refine Go.ishl_e X (nI (2 ^ k)) dX0_expectingOn_27 (nI_shl1 (by first | omega | (split <;> omega))) ?_
          refine Go.ior_e X (nI ((bts (fun i => i != 6 && expP S 6 i m) k) ||| (2 ^ k))) dX0_expectingOn_28 (nI_or _ _) ?_
          refine Go.istore_n_1 X dX0_expectingOn_29 (by decide) rfl ?_
          refine Go.iinc_0 X (nI (k + 1)) dX0_expectingOn_30 (by decide) rfl (show nI k + Int32.ofInt 1 = nI (k + 1) from nI_add _ 1) ?_
          refine Go.goto X 4 dX0_expectingOn_33 (by decide) ?_
          refine Go.lv_1 (congrArg (fun z => Value.int (nI z)) (show (bts (fun i => i != 6 && expP S 6 i m) k) ||| (2 ^ k) = bts (fun i => i != 6 && expP S 6 i m) (k + 1) from by rw [expd_bit hm] at h21; simp [bts, h21, show k ≠ 6 by omega])) ?_
          exact ih4 (k + 1) (by first | omega | (split <;> omega)) (by first | omega | (split <;> omega))
  refine Go.lv_1 (congrArg (fun z => Value.int (nI z)) (show 0 = bts (fun i => i != 6 && expP S 6 i m) 0 from by rfl)) ?_
  exact L4 (sP S - 0 + 1) 0 (by first | omega | (split <;> omega)) (Nat.lt_succ_self _)
set_option maxHeartbeats 4000000 in
set_option maxRecDepth 100000 in
theorem c_canForesee (g : gT) (a : Nat) (qw : Nat) (qk : Nat) (qr : Nat) (S : Sch) (i : Nat) (j : Nat) (hS : sOk S) (hi : i < 6) (hj : j < 6) : Cw g yX0_canForesee wsX0_canForesee 3 66 [.ref a, .int (nI i), .int (nI j)] (schW g a qw qk qr S) (some (.int (b2i (!isK (sK S j) 2 && decide (dep S 6 j < dep S 6 i))))) (schW g a qw qk qr S) := by
  refine Ct.start (cc := cX0_canForesee) (nL := 3) (ret := (some .boolean)) (own := RX0) (by decide) rfl rfl rfl ?_
  intro Γ X E
  show Go Γ g 3 (rmC 3 66) 0 0 (schW g a qw qk qr S) 0 [(0, .ref a), (1, .int (nI i)), (2, .int (nI j))] []
  obtain ⟨o1, o2, o3, o4, o5, o6, o7, o8⟩ := id hS
  have o9 := p2_9 o2
  have o10 := sA_512 hS
  refine Go.aload_n X 0 dX0_canForesee_0 rfl ?_
  refine Go.get X f_X0_canForesee_19 0 (v := .ref qk) rfl rfl dX0_canForesee_1 ?_
  refine Go.iload_n X 2 dX0_canForesee_4 rfl ?_
  refine Go.ialdN X 2 (w := sK S) rfl (by first | omega | (split <;> omega)) rfl dX0_canForesee_5 ?_
  have o11 := o7 j hj
  refine Go.iconst X (nI 2) dX0_canForesee_6 k_ic_2 ?_
  refine Go.callSNi X  (c_isOfKind g ((sK S) j) 2 (by first | omega | (split <;> omega)) (by first | omega | (split <;> omega))) cal_X3_isOfKind [] rfl rfl gX0_canForesee_X3_isOfKind_n109 (by decide) (List.mem_of_getElem? (i := 3) (by decide +kernel)) (List.mem_of_getElem? (i := 2) (by decide +kernel)) rfl rfl rfl dX0_canForesee_7 ?_
  refine Go.if_neB X 30 dX0_canForesee_10 (by decide) (fun h10 => ?_) (fun h10 => ?_)
  · --
    refine Go.iconst X (nI 0) dX0_canForesee_30 k_ic_0 ?_
    exact Go.nret X E rfl dX0_canForesee_31 ⟨rv (b2i_f (by simp [h10] <;> omega)), rfl⟩ rfl
  · --
    refine Go.aload_n X 0 dX0_canForesee_13 rfl ?_
    refine Go.iload_n X 2 dX0_canForesee_14 rfl ?_
    refine Go.callVi X  (c_depthOf g a qw qk qr S j (by exact hS) (by first | omega | (split <;> omega))) cal_X0_depthOf [0, 1, 2, 3] rfl rfl gX0_canForesee_X0_depthOf (ci := 0) (q0 := 0) rfl rfl rfl rfl rfl dX0_canForesee_15 ?_
    have f15_1 := dep_le hS 6 j
    refine Go.aload_n X 0 dX0_canForesee_18 rfl ?_
    refine Go.iload_n X 1 dX0_canForesee_19 rfl ?_
    refine Go.callVi X  (c_depthOf g a qw qk qr S i (by exact hS) (by first | omega | (split <;> omega))) cal_X0_depthOf [0, 1, 2, 3] rfl rfl gX0_canForesee_X0_depthOf (ci := 0) (q0 := 0) rfl rfl rfl rfl rfl dX0_canForesee_20 ?_
    have f20_2 := dep_le hS 6 i
    refine Go.icmp_geN X 30 dX0_canForesee_23 (by decide) (by first | omega | (split <;> omega)) (by first | omega | (split <;> omega)) (fun h23 => ?_) (fun h23 => ?_)
    · --
      refine Go.iconst X (nI 0) dX0_canForesee_30 k_ic_0 ?_
      exact Go.nret X E rfl dX0_canForesee_31 ⟨rv (b2i_f (by simp [h10] <;> omega)), rfl⟩ rfl
    · --
      refine Go.iconst X (nI 1) dX0_canForesee_26 k_ic_1 ?_
      refine Go.goto X 31 dX0_canForesee_27 (by decide) ?_
      exact Go.nret X E rfl dX0_canForesee_31 ⟨rv (b2i_t (by simp [h10] <;> omega)), rfl⟩ rfl
set_option maxHeartbeats 4000000 in
set_option maxRecDepth 100000 in
theorem c_morningByRule (g : gT) (a : Nat) (qw : Nat) (qk : Nat) (qr : Nat) (S : Sch) (c : Nat) (k : Nat) (i : Nat) (hS : sOk S) (hb : c + k * i < 2 ^ 31) : Cw g yX0_morningByRule wsX0_morningByRule 0 0 [.ref a, .int (nI c), .int (nI k), .int (nI i)] (schW g a qw qk qr S) (some (.int (nI ((c + k * i) % (sN S))))) (schW g a qw qk qr S) := by
  refine Ct.start (cc := cX0_morningByRule) (nL := 4) (ret := (some .int)) (own := RX0) (by decide) rfl rfl rfl ?_
  intro Γ X E
  show Go Γ g 4 (rmC 0 0) 0 0 (schW g a qw qk qr S) 0 [(0, .ref a), (1, .int (nI c)), (2, .int (nI k)), (3, .int (nI i))] []
  obtain ⟨o1, o2, o3, o4, o5, o6, o7, o8⟩ := id hS
  have o9 := p2_9 o2
  have o10 := sA_512 hS
  refine Go.aload_n X 0 dX0_morningByRule_0 rfl ?_
  refine Go.get X f_X0_morningByRule_32 0 (v := .int (nI (sN S))) rfl rfl dX0_morningByRule_1 ?_
  refine Go.if_neN X 11 dX0_morningByRule_4 (by decide) (by first | omega | (split <;> omega)) (fun h4 => ?_) (fun h4 => ?_)
  · --
    refine Go.iload_n X 1 dX0_morningByRule_11 rfl ?_
    refine Go.iload_n X 2 dX0_morningByRule_12 rfl ?_
    refine Go.iload_n X 3 dX0_morningByRule_13 rfl ?_
    refine Go.imul_e X (nI (k * i)) dX0_morningByRule_14 (pk_mul _ _) ?_
    refine Go.iadd_e X (nI (c + k * i)) dX0_morningByRule_15 (nI_add _ _) ?_
    refine Go.aload_n X 0 dX0_morningByRule_16 rfl ?_
    refine Go.get X f_X0_morningByRule_32 0 (v := .int (nI (sN S))) rfl rfl dX0_morningByRule_17 ?_
    refine Go.irem_e X (nI ((c + k * i) % (sN S))) dX0_morningByRule_20 (nI_ne0 (by first | omega | (split <;> omega)) (by first | omega | (split <;> omega))) (pk_rem (by first | omega | (split <;> omega)) (by first | omega | (split <;> omega)) (by first | omega | (split <;> omega))) ?_
    exact Go.iret X E dX0_morningByRule_21 ⟨rfl, rfl⟩ rfl
  · --
    exact absurd h4 (by omega)
