/-! 05.m6.bell -/
theorem f_X3_leastSaidAgainst_16 : FL wsX3_leastSaidAgainst RX3 16 3 1 := ⟨RX3, TX3, 8, rfl, fun _ h => List.mem_cons_of_mem _ (List.mem_append_left _ (List.mem_append_right _ h)), by decide, List.mem_of_getElem? (i := 1) (by decide +kernel)⟩
theorem f_X3_leastSaidAgainst_10 : FL wsX3_leastSaidAgainst RX3 10 3 0 := ⟨RX3, TX3, 8, rfl, fun _ h => List.mem_cons_of_mem _ (List.mem_append_left _ (List.mem_append_right _ h)), by decide, List.mem_of_getElem? (i := 2) (by decide +kernel)⟩
theorem f_X3_leastSaidAgainst_141 : FL wsX3_leastSaidAgainst RX3 141 0 3 := ⟨RX0, TX0, 11, rfl, fun _ h => List.mem_cons_of_mem _ (List.mem_append_right _ h), by decide, List.mem_of_getElem? (i := 3) (by decide +kernel)⟩
theorem f_X3_will_10 : FL wsX3_will RX3 10 3 0 := ⟨RX3, TX3, 8, rfl, fun _ h => List.mem_cons_of_mem _ (List.mem_append_left _ (List.mem_append_right _ h)), by decide, List.mem_of_getElem? (i := 1) (by decide +kernel)⟩
theorem cal_X3_leastSaidAgainst : Cal yX3_leastSaidAgainst wsX3_leastSaidAgainst cX3_leastSaidAgainst 3 (some .int) RX3 1 := ⟨⟨_, rfl⟩, by decide +kernel⟩
theorem f_X3_level_10 : FL wsX3_level RX3 10 3 0 := ⟨RX3, TX3, 8, rfl, fun _ h => List.mem_cons_of_mem _ (List.mem_append_left _ (List.mem_append_right _ h)), by decide, List.mem_of_getElem? (i := 1) (by decide +kernel)⟩
theorem f_X3_moreWithout_16 : FL wsX3_moreWithout RX3 16 3 1 := ⟨RX3, TX3, 8, rfl, fun _ h => List.mem_cons_of_mem _ (List.mem_append_left _ (List.mem_append_right _ h)), by decide, List.mem_of_getElem? (i := 1) (by decide +kernel)⟩
theorem f_X3_moreWithout_10 : FL wsX3_moreWithout RX3 10 3 0 := ⟨RX3, TX3, 8, rfl, fun _ h => List.mem_cons_of_mem _ (List.mem_append_left _ (List.mem_append_right _ h)), by decide, List.mem_of_getElem? (i := 2) (by decide +kernel)⟩
theorem f_X3_spoils_10 : FL wsX3_spoils RX3 10 3 0 := ⟨RX3, TX3, 8, rfl, fun _ h => List.mem_cons_of_mem _ (List.mem_append_left _ (List.mem_append_right _ h)), by decide, List.mem_of_getElem? (i := 1) (by decide +kernel)⟩
theorem cal_X3_moreWithout : Cal yX3_moreWithout wsX3_moreWithout cX3_moreWithout 2 (some .int) RX3 1 := ⟨⟨_, rfl⟩, by decide +kernel⟩
theorem f_X3_spoiler_10 : FL wsX3_spoiler RX3 10 3 0 := ⟨RX3, TX3, 8, rfl, fun _ h => List.mem_cons_of_mem _ (List.mem_append_left _ (List.mem_append_right _ h)), by decide, List.mem_of_getElem? (i := 1) (by decide +kernel)⟩
theorem f_X3_spoiler_123 : FL wsX3_spoiler RX3 123 0 4 := ⟨RX0, TX0, 11, rfl, fun _ h => List.mem_cons_of_mem _ (List.mem_append_right _ h), by decide, List.mem_of_getElem? (i := 2) (by decide +kernel)⟩
theorem f_X3_deeper_10 : FL wsX3_deeper RX3 10 3 0 := ⟨RX3, TX3, 8, rfl, fun _ h => List.mem_cons_of_mem _ (List.mem_append_left _ (List.mem_append_right _ h)), by decide, List.mem_of_getElem? (i := 1) (by decide +kernel)⟩
theorem f_X3_deeper_16 : FL wsX3_deeper RX3 16 3 1 := ⟨RX3, TX3, 8, rfl, fun _ h => List.mem_cons_of_mem _ (List.mem_append_left _ (List.mem_append_right _ h)), by decide, List.mem_of_getElem? (i := 2) (by decide +kernel)⟩
theorem f_X3_deeper_153 : FL wsX3_deeper RX3 153 0 6 := ⟨RX0, TX0, 11, rfl, fun _ h => List.mem_cons_of_mem _ (List.mem_append_right _ h), by decide, List.mem_of_getElem? (i := 3) (by decide +kernel)⟩
theorem f_X3_crowd_16 : FL wsX3_crowd RX3 16 3 1 := ⟨RX3, TX3, 8, rfl, fun _ h => List.mem_cons_of_mem _ (List.mem_append_left _ (List.mem_append_right _ h)), by decide, List.mem_of_getElem? (i := 1) (by decide +kernel)⟩
theorem f_X3_crowd_10 : FL wsX3_crowd RX3 10 3 0 := ⟨RX3, TX3, 8, rfl, fun _ h => List.mem_cons_of_mem _ (List.mem_append_left _ (List.mem_append_right _ h)), by decide, List.mem_of_getElem? (i := 2) (by decide +kernel)⟩
theorem f_X3_crowd_123 : FL wsX3_crowd RX3 123 0 4 := ⟨RX0, TX0, 11, rfl, fun _ h => List.mem_cons_of_mem _ (List.mem_append_right _ h), by decide, List.mem_of_getElem? (i := 3) (by decide +kernel)⟩
theorem f_X3_crowd_107 : FL wsX3_crowd RX3 107 0 5 := ⟨RX0, TX0, 11, rfl, fun _ h => List.mem_cons_of_mem _ (List.mem_append_right _ h), by decide, List.mem_of_getElem? (i := 4) (by decide +kernel)⟩
theorem f_X3_surprisesTold_16 : FL wsX3_surprisesTold RX3 16 3 1 := ⟨RX3, TX3, 8, rfl, fun _ h => List.mem_cons_of_mem _ (List.mem_append_left _ (List.mem_append_right _ h)), by decide, List.mem_of_getElem? (i := 1) (by decide +kernel)⟩
theorem f_X3_surprisesTold_10 : FL wsX3_surprisesTold RX3 10 3 0 := ⟨RX3, TX3, 8, rfl, fun _ h => List.mem_cons_of_mem _ (List.mem_append_left _ (List.mem_append_right _ h)), by decide, List.mem_of_getElem? (i := 2) (by decide +kernel)⟩
theorem f_X3_surprisesTold_135 : FL wsX3_surprisesTold RX3 135 0 1 := ⟨RX0, TX0, 11, rfl, fun _ h => List.mem_cons_of_mem _ (List.mem_append_right _ h), by decide, List.mem_of_getElem? (i := 3) (by decide +kernel)⟩
theorem f_X3_seekHint_16 : FL wsX3_seekHint RX3 16 3 1 := ⟨RX3, TX3, 8, rfl, fun _ h => List.mem_cons_of_mem _ (List.mem_append_left _ (List.mem_append_right _ h)), by decide, List.mem_of_getElem? (i := 1) (by decide +kernel)⟩
theorem f_X3_seekHint_10 : FL wsX3_seekHint RX3 10 3 0 := ⟨RX3, TX3, 8, rfl, fun _ h => List.mem_cons_of_mem _ (List.mem_append_left _ (List.mem_append_right _ h)), by decide, List.mem_of_getElem? (i := 2) (by decide +kernel)⟩
theorem f_X3_seekHint_135 : FL wsX3_seekHint RX3 135 0 1 := ⟨RX0, TX0, 11, rfl, fun _ h => List.mem_cons_of_mem _ (List.mem_append_right _ h), by decide, List.mem_of_getElem? (i := 3) (by decide +kernel)⟩
theorem cal_X3_seekHint : Cal yX3_seekHint wsX3_seekHint cX3_seekHint 6 (some .int) RX3 0 := ⟨⟨_, rfl⟩, by decide +kernel⟩
theorem cal_X3_surprisesTold : Cal yX3_surprisesTold wsX3_surprisesTold cX3_surprisesTold 2 (some .int) RX3 1 := ⟨⟨_, rfl⟩, by decide +kernel⟩
set_option maxHeartbeats 4000000 in
set_option maxRecDepth 100000 in
theorem c_leastSaid (g : gT) (ad : Nat → Nat) (N : Sch) (K : Sch) (b : Bool) (z : Nat) (le : Nat → Nat) (rf : Nat → Int32) (hd : Nat → Int32) (ln : Nat → Nat) (vl : Nat → Nat → Int64) (T : Sch) (ts : Nat) (te : Nat) (tk : Nat) (br : Nat → Nat) (s : Nat) (hN : sOk N) (hs : s < 512) : Ct g yX3_leastSaidAgainst wsX3_leastSaidAgainst 6 130 [.ref (ad 0), .int (nI s)] (bxW g ad (N, K, b, z, le, rf, hd, ln, vl) (T, ts, te, tk, br)) (fun v9 w9 => v9 = (some (.int (lsA N s))) ∧ ∃ (T1 : Sch), w9 = bxW g ad (N, K, b, z, le, rf, hd, ln, vl) (T1, ts, te, tk, br)) := by
  refine Ct.start (cc := cX3_leastSaidAgainst) (nL := 3) (ret := (some .int)) (own := RX3) (by decide) rfl rfl rfl ?_
  intro Γ X E
  show Go Γ g 3 (rmC 6 130) 0 0 (bxW g ad (N, K, b, z, le, rf, hd, ln, vl) (T, ts, te, tk, br)) 0 [(0, .ref (ad 0)), (1, .int (nI s))] []
  obtain ⟨o1, o2, o3, o4, o5, o6, o7, o8⟩ := id hN
  have o9 := p2_9 o2
  have o10 := sA_512 hN
  refine Go.aload_n X 0 dX3_leastSaidAgainst_0 rfl ?_
  refine Go.get X f_X3_leastSaidAgainst_16 0 (v := .ref (ad 5)) rfl rfl dX3_leastSaidAgainst_1 ?_
  refine Go.aload_n X 0 dX3_leastSaidAgainst_4 rfl ?_
  refine Go.get X f_X3_leastSaidAgainst_10 0 (v := .ref (ad 1)) rfl rfl dX3_leastSaidAgainst_5 ?_
  refine Go.callVvw X (c_become g (ad 5) (ad 6) (ad 7) (ad 8) T (ad 1) (ad 2) (ad 3) (ad 4) N) cal_X0_become [5, 6, 7, 8, 1, 2, 3, 4] rfl rfl gX3_leastSaidAgainst_X0_become (ci := 0) (q0 := 5) rfl rfl rfl rfl rfl dX3_leastSaidAgainst_8 (M9 := bxW g ad (N, K, b, z, le, rf, hd, ln, vl) (N, ts, te, tk, br)) rfl ?_
  refine Go.iconst X (nI 0) dX3_leastSaidAgainst_11 k_ic_0 ?_
  refine Go.istore_n_new X dX3_leastSaidAgainst_12 (by decide) rfl ?_
  have L13 : ∀ (f13 : Nat) (k : Nat) (d : Nat) (hk : k ≤ 10) (hq : ∀ j, j < k → decide (sur (stD N j) 6 &&& s = 0) = false) (hf13 : 10 - k < f13), Go Γ g 3 (rmC 6 130) 0 0 (bxW g ad (N, K, b, z, le, rf, hd, ln, vl) (stD N d, ts, te, tk, br)) 13 [(2, .int (nI k)), (0, .ref (ad 0)), (1, .int (nI s))] [] := by
    intro f13
    induction f13 with
    | zero => intro k d hk hq hf13; exact absurd hf13 (Nat.not_lt_zero _)
    | succ f13 ih13 =>
      intro k d hk hq hf13
      refine Go.iload_n X 0 dX3_leastSaidAgainst_13 rfl ?_
      refine Go.bipush X (nI 9) dX3_leastSaidAgainst_14 k_bp_9 ?_
      refine Go.icmp_gtN X 47 dX3_leastSaidAgainst_16 (by decide) (by first | omega | (split <;> omega)) (by decide) (fun h16 => ?_) (fun h16 => ?_)
      · --
        refine Go.iconst X ((-1 : Int32)) dX3_leastSaidAgainst_47 k_ic_m1 ?_
        exact Go.iret X E dX3_leastSaidAgainst_48 ⟨rv (show (-1) = lsA N s from by rw [lsA, fP_no (n := 10) (fun j hj => hq j (by omega))]), _, rfl⟩ rfl
      · --
        refine Go.aload_n X 1 dX3_leastSaidAgainst_19 rfl ?_
        refine Go.get X f_X3_leastSaidAgainst_16 0 (v := .ref (ad 5)) rfl rfl dX3_leastSaidAgainst_20 ?_
        refine Go.iload_n X 0 dX3_leastSaidAgainst_23 rfl ?_
        refine Go.putM X f_X3_leastSaidAgainst_141 fp_0_3 5 (bxW g ad (N, K, b, z, le, rf, hd, ln, vl) ((sN N, sA N, sW N, k, sP N, sK N, sO N, sG N, sT N, sF N, sX N), ts, te, tk, br)) rfl rfl rfl rfl dX3_leastSaidAgainst_24 rfl ?_
        refine Go.aload_n X 1 dX3_leastSaidAgainst_27 rfl ?_
        refine Go.conv (M1 := bxW g ad (N, K, b, z, le, rf, hd, ln, vl) (stD N k, ts, te, tk, br)) ?_ (by rfl) rfl rfl
        refine Go.get X f_X3_leastSaidAgainst_16 0 (v := .ref (ad 5)) rfl rfl dX3_leastSaidAgainst_28 ?_
        have z31 : sOk (stD N k) := by exact ok_D hN (by omega)
        refine Go.callVi X  (c_bySurprise g (ad 5) (ad 6) (ad 7) (ad 8) (stD N k) (by exact z31)) cal_X0_bySurprise [5, 6, 7, 8] rfl rfl gX3_leastSaidAgainst_X0_bySurprise (ci := 0) (q0 := 5) rfl rfl rfl rfl rfl dX3_leastSaidAgainst_31 ?_
        have f31_1 := sur_512 z31 6
        refine Go.iload_n X 2 dX3_leastSaidAgainst_34 rfl ?_
        have o11 : sur (stD N k) 6 &&& s ≤ s := Nat.and_le_right
        refine Go.iand_e X (nI ((sur (stD N k) 6) &&& s)) dX3_leastSaidAgainst_35 (nI_and _ _) ?_
        refine Go.if_neN X 41 dX3_leastSaidAgainst_36 (by decide) (by first | omega | (split <;> omega)) (fun h36 => ?_) (fun h36 => ?_)
        · --
          refine Go.iinc_0 X (nI (k + 1)) dX3_leastSaidAgainst_41 (by decide) rfl (show nI k + Int32.ofInt 1 = nI (k + 1) from nI_add _ 1) ?_
          refine Go.goto X 13 dX3_leastSaidAgainst_44 (by decide) ?_
          refine Go.conv (M1 := bxW g ad (N, K, b, z, le, rf, hd, ln, vl) (stD N k, ts, te, tk, br)) ?_ (by rfl) rfl rfl
          exact ih13 (k + 1) k (by first | omega | (split <;> omega)) (by exact fP_s (P := fun v => decide (sur (stD N v) 6 &&& s = 0)) hq (decide_eq_false h36)) (by first | omega | (split <;> omega))
        · --
          refine Go.iload_n X 0 dX3_leastSaidAgainst_39 rfl ?_
          exact Go.iret X E dX3_leastSaidAgainst_40 ⟨rv (show (nI k) = lsA N s from by rw [lsA, fP_at (k := k) (n := 10) (by omega) (decide_eq_true h36) hq (by omega)]), _, rfl⟩ rfl
  refine Go.conv (M1 := bxW g ad (N, K, b, z, le, rf, hd, ln, vl) (stD N (sD N), ts, te, tk, br)) ?_ (by rfl) rfl rfl
  exact L13 (10 - 0 + 1) 0 (sD N) (by first | omega | (split <;> omega)) (by intro j hj; omega) (Nat.lt_succ_self _)
set_option maxHeartbeats 4000000 in
set_option maxRecDepth 100000 in
theorem b_will (g : gT) (ad : Nat → Nat) (N : Sch) (K : Sch) (b : Bool) (z : Nat) (le : Nat → Nat) (rf : Nat → Int32) (hd : Nat → Int32) (ln : Nat → Nat) (vl : Nat → Nat → Int64) (T : Sch) (ts : Nat) (te : Nat) (tk : Nat) (br : Nat → Nat) (hN : sOk N) : Ct g yX3_will wsX3_will 7 152 [.ref (ad 0)] (bxW g ad (N, K, b, z, le, rf, hd, ln, vl) (T, ts, te, tk, br)) (fun v9 w9 => v9 = (some (.int (x_will (N, K, b, z, le, rf, hd, ln, vl)).2)) ∧ ∃ J9, w9 = bxW g ad (x_will (N, K, b, z, le, rf, hd, ln, vl)).1 J9) := by
  refine Ct.start (cc := cX3_will) (nL := 1) (ret := (some .int)) (own := RX3) (by decide) rfl rfl rfl ?_
  intro Γ X E
  show Go Γ g 1 (rmC 7 152) 0 0 (bxW g ad (N, K, b, z, le, rf, hd, ln, vl) (T, ts, te, tk, br)) 0 [(0, .ref (ad 0))] []
  obtain ⟨o1, o2, o3, o4, o5, o6, o7, o8⟩ := id hN
  have o9 := p2_9 o2
  have o10 := sA_512 hN
  refine Go.aload_n X 0 dX3_will_0 rfl ?_
  refine Go.aload_n X 0 dX3_will_1 rfl ?_
  refine Go.get X f_X3_will_10 0 (v := .ref (ad 1)) rfl rfl dX3_will_2 ?_
  have o11 := Nat.one_le_two_pow (n := sN N)
  refine Go.callVi X  (c_allMornings g (ad 1) (ad 2) (ad 3) (ad 4) N (by first | omega | (split <;> omega))) cal_X0_allMornings [1, 2, 3, 4] rfl rfl gX3_will_X0_allMornings (ci := 0) (q0 := 1) rfl rfl rfl rfl rfl dX3_will_5 ?_
  refine Go.callV0 X (c_leastSaid g ad N K b z le rf hd ln vl T ts te tk br (2 ^ (sN N) - 1) (by exact hN) (by first | omega | (split <;> omega))) cal_X3_leastSaidAgainst gX3_will_X3_leastSaidAgainst (ci := 3) (q0 := 0) rfl rfl rfl rfl rfl dX3_will_8 (fun v9 w9 e9 => ?_)
  obtain ⟨rfl, T1_8, rfl⟩ := e9
  show Go Γ g 1 (rmC 7 152) 0 0 (bxW g ad (N, K, b, z, le, rf, hd, ln, vl) (T1_8, ts, te, tk, br)) 11 [(0, .ref (ad 0))] [.int (lsA N (2 ^ (sN N) - 1))]
  have e9 : x_will (N, K, b, z, le, rf, hd, ln, vl) = ((N, K, b, z, le, rf, hd, ln, vl), (lsA N (2 ^ (sN N) - 1))) := by simp (decide := true) [x_will, rfS, upS_id]
  exact Go.iret X E dX3_will_11 ⟨by rw [e9], _, by rw [e9]⟩ rfl
set_option maxHeartbeats 4000000 in
set_option maxRecDepth 100000 in
theorem b_level (g : gT) (ad : Nat → Nat) (N : Sch) (K : Sch) (b : Bool) (z : Nat) (le : Nat → Nat) (rf : Nat → Int32) (hd : Nat → Int32) (ln : Nat → Nat) (vl : Nat → Nat → Int64) (T : Sch) (ts : Nat) (te : Nat) (tk : Nat) (br : Nat → Nat) (m : Int32) (hN : sOk N) : Ct g yX3_level wsX3_level 7 152 [.ref (ad 0), .int m] (bxW g ad (N, K, b, z, le, rf, hd, ln, vl) (T, ts, te, tk, br)) (fun v9 w9 => v9 = (some (.int (x_level (N, K, b, z, le, rf, hd, ln, vl) m).2)) ∧ ∃ J9, w9 = bxW g ad (x_level (N, K, b, z, le, rf, hd, ln, vl) m).1 J9) := by
  refine Ct.start (cc := cX3_level) (nL := 2) (ret := (some .int)) (own := RX3) (by decide) rfl rfl rfl ?_
  intro Γ X E
  show Go Γ g 2 (rmC 7 152) 0 0 (bxW g ad (N, K, b, z, le, rf, hd, ln, vl) (T, ts, te, tk, br)) 0 [(0, .ref (ad 0)), (1, .int m)] []
  obtain ⟨o1, o2, o3, o4, o5, o6, o7, o8⟩ := id hN
  have o9 := p2_9 o2
  have o10 := sA_512 hN
  refine Go.aload_n X 0 dX3_level_0 rfl ?_
  refine Go.get X f_X3_level_10 0 (v := .ref (ad 1)) rfl rfl dX3_level_1 ?_
  refine Go.iload_n X 1 dX3_level_4 rfl ?_
  refine Go.callVi X  (c_isMorning g (ad 1) (ad 2) (ad 3) (ad 4) N m (by exact hN)) cal_X0_isMorning [1, 2, 3, 4] rfl rfl gX3_level_X0_isMorning (ci := 0) (q0 := 1) rfl rfl rfl rfl rfl dX3_level_5 ?_
  refine Go.if_eqB X 21 dX3_level_8 (by decide) (fun h8 => ?_) (fun h8 => ?_)
  · --
    refine Go.aload_n X 0 dX3_level_21 rfl ?_
    refine Go.bipush X ((-2 : Int32)) dX3_level_22 k_bp_m2 ?_
    refine Go.callV0i X (c_refuse_0 g ad N K b z le rf hd ln vl T ts te tk br) cal_X3_refuse gX3_level_X3_refuse (ci := 3) (q0 := 0) rfl rfl rfl rfl rfl dX3_level_24 ?_
    have e9 : x_level (N, K, b, z, le, rf, hd, ln, vl) m = ((N, K, b, z, le, inc rf 0, hd, ln, vl), (-2)) := by simp (decide := true) [x_level, rfS, upS_id, h8]
    exact Go.iret X E dX3_level_27 ⟨by rw [e9], _, by rw [e9]⟩ rfl
  · --
    obtain ⟨mk, hmk, rfl⟩ := inb_at (by first | omega | (split <;> omega)) h8
    refine Go.aload_n X 0 dX3_level_11 rfl ?_
    refine Go.iconst X (nI 1) dX3_level_12 k_ic_1 ?_
    refine Go.iload_n X 1 dX3_level_13 rfl ?_
    refine Go.ishl_e X (nI (2 ^ mk)) dX3_level_14 (nI_shl1 (by first | omega | (split <;> omega))) ?_
    have o11 : 2 ^ mk < 2 ^ 9 := Nat.pow_lt_pow_right (by decide) (by omega)
    refine Go.callV0 X (c_leastSaid g ad N K b z le rf hd ln vl T ts te tk br (2 ^ mk) (by exact hN) (by first | omega | (split <;> omega))) cal_X3_leastSaidAgainst gX3_level_X3_leastSaidAgainst (ci := 3) (q0 := 0) rfl rfl rfl rfl rfl dX3_level_15 (fun v9 w9 e9 => ?_)
    obtain ⟨rfl, T1_15, rfl⟩ := e9
    show Go Γ g 2 (rmC 7 152) 0 0 (bxW g ad (N, K, b, z, le, rf, hd, ln, vl) (T1_15, ts, te, tk, br)) 18 [(0, .ref (ad 0)), (1, .int (nI mk))] [.int (lsA N (2 ^ mk))]
    refine Go.goto X 27 dX3_level_18 (by decide) ?_
    have e9 : x_level (N, K, b, z, le, rf, hd, ln, vl) (nI mk) = ((N, K, b, z, le, rf, hd, ln, vl), (lsA N (2 ^ mk))) := by simp (decide := true) [x_level, rfS, upS_id, h8, nI_clamp (show mk < 2 ^ 31 by omega)]
    exact Go.iret X E dX3_level_27 ⟨by rw [e9], _, by rw [e9]⟩ rfl
set_option maxHeartbeats 4000000 in
set_option maxRecDepth 100000 in
theorem c_moreWithout (g : gT) (ad : Nat → Nat) (N : Sch) (K : Sch) (b : Bool) (z : Nat) (le : Nat → Nat) (rf : Nat → Int32) (hd : Nat → Int32) (ln : Nat → Nat) (vl : Nat → Nat → Int64) (T : Sch) (ts : Nat) (te : Nat) (tk : Nat) (br : Nat → Nat) (i : Nat) (hN : sOk N) (hi : i < sP N) : Ct g yX3_moreWithout wsX3_moreWithout 6 130 [.ref (ad 0), .int (nI i)] (bxW g ad (N, K, b, z, le, rf, hd, ln, vl) (T, ts, te, tk, br)) (fun v9 w9 => v9 = (some (.int (mwI N i))) ∧ ∃ (T1 : Sch), w9 = bxW g ad (N, K, b, z, le, rf, hd, ln, vl) (T1, ts, te, tk, br)) := by
  refine Ct.start (cc := cX3_moreWithout) (nL := 2) (ret := (some .int)) (own := RX3) (by decide) rfl rfl rfl ?_
  intro Γ X E
  show Go Γ g 2 (rmC 6 130) 0 0 (bxW g ad (N, K, b, z, le, rf, hd, ln, vl) (T, ts, te, tk, br)) 0 [(0, .ref (ad 0)), (1, .int (nI i))] []
  obtain ⟨o1, o2, o3, o4, o5, o6, o7, o8⟩ := id hN
  have o9 := p2_9 o2
  have o10 := sA_512 hN
  refine Go.aload_n X 0 dX3_moreWithout_0 rfl ?_
  refine Go.get X f_X3_moreWithout_16 0 (v := .ref (ad 5)) rfl rfl dX3_moreWithout_1 ?_
  refine Go.aload_n X 0 dX3_moreWithout_4 rfl ?_
  refine Go.get X f_X3_moreWithout_10 0 (v := .ref (ad 1)) rfl rfl dX3_moreWithout_5 ?_
  refine Go.callVvw X (c_become g (ad 5) (ad 6) (ad 7) (ad 8) T (ad 1) (ad 2) (ad 3) (ad 4) N) cal_X0_become [5, 6, 7, 8, 1, 2, 3, 4] rfl rfl gX3_moreWithout_X0_become (ci := 0) (q0 := 5) rfl rfl rfl rfl rfl dX3_moreWithout_8 (M9 := bxW g ad (N, K, b, z, le, rf, hd, ln, vl) (N, ts, te, tk, br)) rfl ?_
  refine Go.aload_n X 0 dX3_moreWithout_11 rfl ?_
  refine Go.get X f_X3_moreWithout_16 0 (v := .ref (ad 5)) rfl rfl dX3_moreWithout_12 ?_
  refine Go.iload_n X 1 dX3_moreWithout_15 rfl ?_
  refine Go.callVvw X (c_removeSomebody g (ad 5) (ad 6) (ad 7) (ad 8) N i (by exact hN) (by first | omega | (split <;> omega))) cal_X0_removeSomebody [5, 6, 7, 8] rfl rfl gX3_moreWithout_X0_removeSomebody (ci := 0) (q0 := 5) rfl rfl rfl rfl rfl dX3_moreWithout_16 (M9 := bxW g ad (N, K, b, z, le, rf, hd, ln, vl) ((sN N, sA N, sW N, sD N, sP N - 1, shf (sK N) i (sP N), shf (sO N) i (sP N), sG N, sT N, sF N, sX N), ts, te, tk, br)) rfl ?_
  refine Go.conv (M1 := bxW g ad (N, K, b, z, le, rf, hd, ln, vl) (rmS N i, ts, te, tk, br)) ?_ (by rfl) rfl rfl
  refine Go.aload_n X 0 dX3_moreWithout_19 rfl ?_
  refine Go.get X f_X3_moreWithout_16 0 (v := .ref (ad 5)) rfl rfl dX3_moreWithout_20 ?_
  have z23 : sOk (rmS N i) := by exact ok_R hN i
  refine Go.callVi X  (c_bySurprise g (ad 5) (ad 6) (ad 7) (ad 8) (rmS N i) (by exact z23)) cal_X0_bySurprise [5, 6, 7, 8] rfl rfl gX3_moreWithout_X0_bySurprise (ci := 0) (q0 := 5) rfl rfl rfl rfl rfl dX3_moreWithout_23 ?_
  have f23_1 := sur_512 z23 6
  refine Go.callSi X  (c_bitCount g (sur (rmS N i) 6) (by first | omega | (split <;> omega))) cal_J6_bitCount_0f7a4 [] rfl rfl gX3_moreWithout_J6_bitCount_0f7a4 rfl rfl rfl dX3_moreWithout_26 ?_
  refine Go.aload_n X 0 dX3_moreWithout_29 rfl ?_
  refine Go.get X f_X3_moreWithout_10 0 (v := .ref (ad 1)) rfl rfl dX3_moreWithout_30 ?_
  refine Go.callVi X  (c_bySurprise g (ad 1) (ad 2) (ad 3) (ad 4) N (by exact hN)) cal_X0_bySurprise [1, 2, 3, 4] rfl rfl gX3_moreWithout_X0_bySurprise (ci := 0) (q0 := 1) rfl rfl rfl rfl rfl dX3_moreWithout_33 ?_
  have f33_2 := sur_512 hN 6
  refine Go.callSi X  (c_bitCount g (sur N 6) (by first | omega | (split <;> omega))) cal_J6_bitCount_0f7a4 [] rfl rfl gX3_moreWithout_J6_bitCount_0f7a4 rfl rfl rfl dX3_moreWithout_36 ?_
  refine Go.isub_e X ((nI (bcn (sur (rmS N i) 6))) - (nI (bcn (sur N 6)))) dX3_moreWithout_39 rfl ?_
  exact Go.iret X E dX3_moreWithout_40 ⟨rv (show ((nI (bcn (sur (rmS N i) 6))) - (nI (bcn (sur N 6)))) = mwI N i from by rfl), _, rfl⟩ rfl
set_option maxHeartbeats 4000000 in
set_option maxRecDepth 100000 in
theorem b_spoils (g : gT) (ad : Nat → Nat) (N : Sch) (K : Sch) (b : Bool) (z : Nat) (le : Nat → Nat) (rf : Nat → Int32) (hd : Nat → Int32) (ln : Nat → Nat) (vl : Nat → Nat → Int64) (T : Sch) (ts : Nat) (te : Nat) (tk : Nat) (br : Nat → Nat) (i : Int32) (hN : sOk N) : Ct g yX3_spoils wsX3_spoils 7 151 [.ref (ad 0), .int i] (bxW g ad (N, K, b, z, le, rf, hd, ln, vl) (T, ts, te, tk, br)) (fun v9 w9 => v9 = (some (.int (x_spoils (N, K, b, z, le, rf, hd, ln, vl) i).2)) ∧ ∃ J9, w9 = bxW g ad (x_spoils (N, K, b, z, le, rf, hd, ln, vl) i).1 J9) := by
  refine Ct.start (cc := cX3_spoils) (nL := 2) (ret := (some .int)) (own := RX3) (by decide) rfl rfl rfl ?_
  intro Γ X E
  show Go Γ g 2 (rmC 7 151) 0 0 (bxW g ad (N, K, b, z, le, rf, hd, ln, vl) (T, ts, te, tk, br)) 0 [(0, .ref (ad 0)), (1, .int i)] []
  obtain ⟨o1, o2, o3, o4, o5, o6, o7, o8⟩ := id hN
  have o9 := p2_9 o2
  have o10 := sA_512 hN
  refine Go.aload_n X 0 dX3_spoils_0 rfl ?_
  refine Go.get X f_X3_spoils_10 0 (v := .ref (ad 1)) rfl rfl dX3_spoils_1 ?_
  refine Go.iload_n X 1 dX3_spoils_4 rfl ?_
  refine Go.callVi X  (c_isSomebody g (ad 1) (ad 2) (ad 3) (ad 4) N i (by exact hN)) cal_X0_isSomebody [1, 2, 3, 4] rfl rfl gX3_spoils_X0_isSomebody (ci := 0) (q0 := 1) rfl rfl rfl rfl rfl dX3_spoils_5 ?_
  refine Go.if_eqB X 19 dX3_spoils_8 (by decide) (fun h8 => ?_) (fun h8 => ?_)
  · --
    refine Go.aload_n X 0 dX3_spoils_19 rfl ?_
    refine Go.bipush X ((-2 : Int32)) dX3_spoils_20 k_bp_m2 ?_
    refine Go.callV0i X (c_refuseFar_0 g ad N K b z le rf hd ln vl T ts te tk br) cal_X3_refuseFarBelow gX3_spoils_X3_refuseFarBelow (ci := 3) (q0 := 0) rfl rfl rfl rfl rfl dX3_spoils_22 ?_
    have e9 : x_spoils (N, K, b, z, le, rf, hd, ln, vl) i = ((N, K, b, z, le, inc rf 0, hd, ln, vl), (-10000002)) := by simp (decide := true) [x_spoils, rfS, upS_id, h8]
    exact Go.iret X E dX3_spoils_25 ⟨by rw [e9], _, by rw [e9]⟩ rfl
  · --
    obtain ⟨ik, hik, rfl⟩ := inb_at (by first | omega | (split <;> omega)) h8
    refine Go.aload_n X 0 dX3_spoils_11 rfl ?_
    refine Go.iload_n X 1 dX3_spoils_12 rfl ?_
    refine Go.callV0 X (c_moreWithout g ad N K b z le rf hd ln vl T ts te tk br ik (by exact hN) (by first | omega | (split <;> omega))) cal_X3_moreWithout gX3_spoils_X3_moreWithout (ci := 3) (q0 := 0) rfl rfl rfl rfl rfl dX3_spoils_13 (fun v9 w9 e9 => ?_)
    obtain ⟨rfl, T1_13, rfl⟩ := e9
    show Go Γ g 2 (rmC 7 151) 0 0 (bxW g ad (N, K, b, z, le, rf, hd, ln, vl) (T1_13, ts, te, tk, br)) 16 [(0, .ref (ad 0)), (1, .int (nI ik))] [.int (mwI N ik)]
    refine Go.goto X 25 dX3_spoils_16 (by decide) ?_
    have e9 : x_spoils (N, K, b, z, le, rf, hd, ln, vl) (nI ik) = ((N, K, b, z, le, rf, hd, ln, vl), (mwI N ik)) := by simp (decide := true) [x_spoils, rfS, upS_id, h8, nI_clamp (show ik < 2 ^ 31 by omega)]
    exact Go.iret X E dX3_spoils_25 ⟨by rw [e9], _, by rw [e9]⟩ rfl
set_option maxHeartbeats 4000000 in
set_option maxRecDepth 100000 in
theorem b_spoiler (g : gT) (ad : Nat → Nat) (N : Sch) (K : Sch) (b : Bool) (z : Nat) (le : Nat → Nat) (rf : Nat → Int32) (hd : Nat → Int32) (ln : Nat → Nat) (vl : Nat → Nat → Int64) (T : Sch) (ts : Nat) (te : Nat) (tk : Nat) (br : Nat → Nat) (hN : sOk N) : Ct g yX3_spoiler wsX3_spoiler 7 151 [.ref (ad 0)] (bxW g ad (N, K, b, z, le, rf, hd, ln, vl) (T, ts, te, tk, br)) (fun v9 w9 => v9 = (some (.int (x_spoiler (N, K, b, z, le, rf, hd, ln, vl)).2)) ∧ ∃ J9, w9 = bxW g ad (x_spoiler (N, K, b, z, le, rf, hd, ln, vl)).1 J9) := by
  refine Ct.start (cc := cX3_spoiler) (nL := 5) (ret := (some .int)) (own := RX3) (by decide) rfl rfl rfl ?_
  intro Γ X E
  show Go Γ g 5 (rmC 7 151) 0 0 (bxW g ad (N, K, b, z, le, rf, hd, ln, vl) (T, ts, te, tk, br)) 0 [(0, .ref (ad 0))] []
  obtain ⟨o1, o2, o3, o4, o5, o6, o7, o8⟩ := id hN
  have o9 := p2_9 o2
  have o10 := sA_512 hN
  refine Go.aload_n X 0 dX3_spoiler_0 rfl ?_
  refine Go.get X f_X3_spoiler_10 0 (v := .ref (ad 1)) rfl rfl dX3_spoiler_1 ?_
  refine Go.get X f_X3_spoiler_123 1 (v := .int (nI (sP N))) rfl rfl dX3_spoiler_4 ?_
  refine Go.if_neN X 17 dX3_spoiler_7 (by decide) (by first | omega | (split <;> omega)) (fun h7 => ?_) (fun h7 => ?_)
  · --
    refine Go.iconst X (nI 0) dX3_spoiler_17 k_ic_0 ?_
    refine Go.istore_n_new X dX3_spoiler_18 (by decide) rfl ?_
    refine Go.aload_n X 1 dX3_spoiler_19 rfl ?_
    refine Go.iconst X (nI 0) dX3_spoiler_20 k_ic_0 ?_
    refine Go.callV0 X (c_moreWithout g ad N K b z le rf hd ln vl T ts te tk br 0 (by exact hN) (by first | omega | (split <;> omega))) cal_X3_moreWithout gX3_spoiler_X3_moreWithout (ci := 3) (q0 := 0) rfl rfl rfl rfl rfl dX3_spoiler_21 (fun v9 w9 e9 => ?_)
    obtain ⟨rfl, T1_21, rfl⟩ := e9
    show Go Γ g 5 (rmC 7 151) 0 0 (bxW g ad (N, K, b, z, le, rf, hd, ln, vl) (T1_21, ts, te, tk, br)) 24 [(1, .int (nI 0)), (0, .ref (ad 0))] [.int (mwI N 0)]
    refine Go.istore_n_new X dX3_spoiler_24 (by decide) rfl ?_
    refine Go.iconst X (nI 1) dX3_spoiler_25 k_ic_1 ?_
    refine Go.istore_n_new X dX3_spoiler_26 (by decide) rfl ?_
    have L27 : ∀ (f27 : Nat) (k : Nat) (t : Sch) (hk : k ≤ sP N) (hk1 : 1 ≤ k) (hf27 : sP N - k < f27), Go Γ g 5 (rmC 7 151) 0 0 (bxW g ad (N, K, b, z, le, rf, hd, ln, vl) (t, ts, te, tk, br)) 27 [(3, .int (nI k)), (2, .int (spM N k)), (1, .int (nI (spF N k))), (0, .ref (ad 0))] [] := by
      intro f27
      induction f27 with
      | zero => intro k t hk hk1 hf27; exact absurd hf27 (Nat.not_lt_zero _)
      | succ f27 ih27 =>
        intro k t hk hk1 hf27
        refine Go.iload_n X 0 dX3_spoiler_27 rfl ?_
        refine Go.aload_n X 3 dX3_spoiler_28 rfl ?_
        refine Go.get X f_X3_spoiler_10 0 (v := .ref (ad 1)) rfl rfl dX3_spoiler_29 ?_
        refine Go.get X f_X3_spoiler_123 1 (v := .int (nI (sP N))) rfl rfl dX3_spoiler_32 ?_
        refine Go.icmp_geN X 62 dX3_spoiler_35 (by decide) (by first | omega | (split <;> omega)) (by first | omega | (split <;> omega)) (fun h35 => ?_) (fun h35 => ?_)
        · --
          refine Go.lv_2 (w := .int (nI (spF N (sP N)))) (by rw [show k = sP N by omega]) ?_
          refine Go.iload_n X 2 dX3_spoiler_62 rfl ?_
          have e9 : x_spoiler (N, K, b, z, le, rf, hd, ln, vl) = ((N, K, b, z, le, rf, hd, ln, vl), (nI (spF N (sP N)))) := by simp (decide := true) [x_spoiler, rfS, upS_id, h7, h35, Nat.not_lt.mpr h35]
          exact Go.iret X E dX3_spoiler_63 ⟨by rw [e9], _, by rw [e9]⟩ rfl
        · --
          have o11 := spF_le N k
          refine Go.aload_n X 3 dX3_spoiler_38 rfl ?_
          refine Go.iload_n X 0 dX3_spoiler_39 rfl ?_
          refine Go.callV0 X (c_moreWithout g ad N K b z le rf hd ln vl t ts te tk br k (by exact hN) (by first | omega | (split <;> omega))) cal_X3_moreWithout gX3_spoiler_X3_moreWithout (ci := 3) (q0 := 0) rfl rfl rfl rfl rfl dX3_spoiler_40 (fun v9 w9 e9 => ?_)
          obtain ⟨rfl, T1_40, rfl⟩ := e9
          show Go Γ g 5 (rmC 7 151) 0 0 (bxW g ad (N, K, b, z, le, rf, hd, ln, vl) (T1_40, ts, te, tk, br)) 43 [(3, .int (nI k)), (2, .int (spM N k)), (1, .int (nI (spF N k))), (0, .ref (ad 0))] [.int (mwI N k)]
          refine Go.istore_new X dX3_spoiler_43 (by decide) rfl ?_
          refine Go.iload X 0 dX3_spoiler_45 rfl ?_
          refine Go.iload_n X 2 dX3_spoiler_47 rfl ?_
          refine Go.icmp_le X 56 dX3_spoiler_48 (by decide) (fun h48 => ?_) (fun h48 => ?_)
          · --
            refine Go.iinc_1 X (nI (k + 1)) dX3_spoiler_56 (by decide) rfl (show nI k + Int32.ofInt 1 = nI (k + 1) from nI_add _ 1) ?_
            refine Go.goto X 27 dX3_spoiler_59 (by decide) ?_
            refine Go.lv_2 (congrArg Value.int (show spM N k = spM N (k + 1) from by rw [spM, if_neg (Int32.not_lt.mpr h48)])) ?_
            refine Go.lv_3 (congrArg (fun z => Value.int (nI z)) (show spF N k = spF N (k + 1) from by rw [spF, if_neg (Int32.not_lt.mpr h48)])) ?_
            refine Go.conv (M1 := bxW g ad (N, K, b, z, le, rf, hd, ln, vl) (T1_40, ts, te, tk, br)) ?_ (by rfl) rfl rfl
            refine Go.sub [1, 2, 3, 4] rfl ?_
            exact ih27 (k + 1) T1_40 (by first | omega | (split <;> omega)) (by first | omega | (split <;> omega)) (by first | omega | (split <;> omega))
          · --
            refine Go.iload X 0 dX3_spoiler_51 rfl ?_
            refine Go.istore_n_2 X dX3_spoiler_53 (by decide) rfl ?_
            refine Go.iload_n X 1 dX3_spoiler_54 rfl ?_
            refine Go.istore_n_3 X dX3_spoiler_55 (by decide) rfl ?_
            refine Go.iinc_1 X (nI (k + 1)) dX3_spoiler_56 (by decide) rfl (show nI k + Int32.ofInt 1 = nI (k + 1) from nI_add _ 1) ?_
            refine Go.goto X 27 dX3_spoiler_59 (by decide) ?_
            refine Go.lv_2 (congrArg Value.int (show mwI N k = spM N (k + 1) from by rw [spM, if_pos (Int32.not_le.mp h48)])) ?_
            refine Go.lv_3 (congrArg (fun z => Value.int (nI z)) (show k = spF N (k + 1) from by rw [spF, if_pos (Int32.not_le.mp h48)])) ?_
            refine Go.conv (M1 := bxW g ad (N, K, b, z, le, rf, hd, ln, vl) (T1_40, ts, te, tk, br)) ?_ (by rfl) rfl rfl
            refine Go.sub [1, 2, 3, 4] rfl ?_
            exact ih27 (k + 1) T1_40 (by first | omega | (split <;> omega)) (by first | omega | (split <;> omega)) (by first | omega | (split <;> omega))
    refine Go.lv_1 (congrArg Value.int (show mwI N 0 = spM N 1 from by rw [spM_1])) ?_
    refine Go.lv_2 (congrArg (fun z => Value.int (nI z)) (show 0 = spF N 1 from by rw [spF_1])) ?_
    refine Go.conv (M1 := bxW g ad (N, K, b, z, le, rf, hd, ln, vl) (T1_21, ts, te, tk, br)) ?_ (by rfl) rfl rfl
    exact L27 (sP N - 1 + 1) 1 T1_21 (by first | omega | (split <;> omega)) (by first | omega | (split <;> omega)) (Nat.lt_succ_self _)
  · --
    refine Go.aload_n X 0 dX3_spoiler_10 rfl ?_
    refine Go.bipush X ((-5 : Int32)) dX3_spoiler_11 k_bp_m5 ?_
    refine Go.callV0i X (c_refuse_3 g ad N K b z le rf hd ln vl T ts te tk br) cal_X3_refuse gX3_spoiler_X3_refuse (ci := 3) (q0 := 0) rfl rfl rfl rfl rfl dX3_spoiler_13 ?_
    have e9 : x_spoiler (N, K, b, z, le, rf, hd, ln, vl) = ((N, K, b, z, le, inc rf 3, hd, ln, vl), (-5)) := by simp (decide := true) [x_spoiler, rfS, upS_id, h7]
    exact Go.iret X E dX3_spoiler_16 ⟨by rw [e9], _, by rw [e9]⟩ rfl
set_option maxHeartbeats 4000000 in
set_option maxRecDepth 100000 in
theorem b_deeper (g : gT) (ad : Nat → Nat) (N : Sch) (K : Sch) (b : Bool) (z : Nat) (le : Nat → Nat) (rf : Nat → Int32) (hd : Nat → Int32) (ln : Nat → Nat) (vl : Nat → Nat → Int64) (T : Sch) (ts : Nat) (te : Nat) (tk : Nat) (br : Nat → Nat) (i : Int32) (m : Int32) (hN : sOk N) : Ct g yX3_deeper wsX3_deeper 5 109 [.ref (ad 0), .int i, .int m] (bxW g ad (N, K, b, z, le, rf, hd, ln, vl) (T, ts, te, tk, br)) (fun v9 w9 => v9 = (some (.int (x_deeper (N, K, b, z, le, rf, hd, ln, vl) i m).2)) ∧ ∃ J9, w9 = bxW g ad (x_deeper (N, K, b, z, le, rf, hd, ln, vl) i m).1 J9) := by
  refine Ct.start (cc := cX3_deeper) (nL := 4) (ret := (some .int)) (own := RX3) (by decide) rfl rfl rfl ?_
  intro Γ X E
  show Go Γ g 4 (rmC 5 109) 0 0 (bxW g ad (N, K, b, z, le, rf, hd, ln, vl) (T, ts, te, tk, br)) 0 [(0, .ref (ad 0)), (1, .int i), (2, .int m)] []
  obtain ⟨o1, o2, o3, o4, o5, o6, o7, o8⟩ := id hN
  have o9 := p2_9 o2
  have o10 := sA_512 hN
  refine Go.aload_n X 0 dX3_deeper_0 rfl ?_
  refine Go.get X f_X3_deeper_10 0 (v := .ref (ad 1)) rfl rfl dX3_deeper_1 ?_
  refine Go.iload_n X 1 dX3_deeper_4 rfl ?_
  refine Go.callVi X  (c_isSomebody g (ad 1) (ad 2) (ad 3) (ad 4) N i (by exact hN)) cal_X0_isSomebody [1, 2, 3, 4] rfl rfl gX3_deeper_X0_isSomebody (ci := 0) (q0 := 1) rfl rfl rfl rfl rfl dX3_deeper_5 ?_
  refine Go.if_eqB X 22 dX3_deeper_8 (by decide) (fun h8 => ?_) (fun h8 => ?_)
  · --
    refine Go.aload_n X 0 dX3_deeper_22 rfl ?_
    refine Go.bipush X ((-2 : Int32)) dX3_deeper_23 k_bp_m2 ?_
    refine Go.callV0i X (c_refuse_0 g ad N K b z le rf hd ln vl T ts te tk br) cal_X3_refuse gX3_deeper_X3_refuse (ci := 3) (q0 := 0) rfl rfl rfl rfl rfl dX3_deeper_25 ?_
    have e9 : x_deeper (N, K, b, z, le, rf, hd, ln, vl) i m = ((N, K, b, z, le, inc rf 0, hd, ln, vl), (-2)) := by simp (decide := true) [x_deeper, rfS, upS_id, h8]
    exact Go.iret X E dX3_deeper_28 ⟨by rw [e9], _, by rw [e9]⟩ rfl
  · --
    obtain ⟨ik, hik, rfl⟩ := inb_at (by first | omega | (split <;> omega)) h8
    refine Go.aload_n X 0 dX3_deeper_11 rfl ?_
    refine Go.get X f_X3_deeper_10 0 (v := .ref (ad 1)) rfl rfl dX3_deeper_12 ?_
    refine Go.iload_n X 2 dX3_deeper_15 rfl ?_
    refine Go.callVi X  (c_isMorning g (ad 1) (ad 2) (ad 3) (ad 4) N m (by exact hN)) cal_X0_isMorning [1, 2, 3, 4] rfl rfl gX3_deeper_X0_isMorning (ci := 0) (q0 := 1) rfl rfl rfl rfl rfl dX3_deeper_16 ?_
    refine Go.if_neB X 29 dX3_deeper_19 (by decide) (fun h19 => ?_) (fun h19 => ?_)
    · --
      obtain ⟨mk, hmk, rfl⟩ := inb_at (by first | omega | (split <;> omega)) h19
      refine Go.aload_n X 0 dX3_deeper_29 rfl ?_
      refine Go.get X f_X3_deeper_16 0 (v := .ref (ad 5)) rfl rfl dX3_deeper_30 ?_
      refine Go.aload_n X 0 dX3_deeper_33 rfl ?_
      refine Go.get X f_X3_deeper_10 0 (v := .ref (ad 1)) rfl rfl dX3_deeper_34 ?_
      refine Go.callVvw X (c_become g (ad 5) (ad 6) (ad 7) (ad 8) T (ad 1) (ad 2) (ad 3) (ad 4) N) cal_X0_become [5, 6, 7, 8, 1, 2, 3, 4] rfl rfl gX3_deeper_X0_become (ci := 0) (q0 := 5) rfl rfl rfl rfl rfl dX3_deeper_37 (M9 := bxW g ad (N, K, b, z, le, rf, hd, ln, vl) (N, ts, te, tk, br)) rfl ?_
      refine Go.iconst X (nI 0) dX3_deeper_40 k_ic_0 ?_
      refine Go.istore_n_new X dX3_deeper_41 (by decide) rfl ?_
      have L42 : ∀ (f42 : Nat) (k : Nat) (w : Nat → Nat) (hk : k ≤ 10) (hw : ∀ a, updN w ik a = updN (sO N) ik a) (hq : ∀ j, j < k → (expd (stO N (updN (sO N) ik j)) 6 ik).testBit mk = false) (hf42 : 10 - k < f42), Go Γ g 4 (rmC 5 109) 0 0 (bxW g ad (N, K, b, z, le, rf, hd, ln, vl) (stO N w, ts, te, tk, br)) 42 [(3, .int (nI k)), (0, .ref (ad 0)), (1, .int (nI ik)), (2, .int (nI mk))] [] := by
        intro f42
        induction f42 with
        | zero => intro k w hk hw hq hf42; exact absurd hf42 (Nat.not_lt_zero _)
        | succ f42 ih42 =>
          intro k w hk hw hq hf42
          refine Go.iload_n X 0 dX3_deeper_42 rfl ?_
          refine Go.bipush X (nI 9) dX3_deeper_43 k_bp_9 ?_
          refine Go.icmp_gtN X 81 dX3_deeper_45 (by decide) (by first | omega | (split <;> omega)) (by decide) (fun h45 => ?_) (fun h45 => ?_)
          · --
            refine Go.iconst X ((-1 : Int32)) dX3_deeper_81 k_ic_m1 ?_
            have e9 : x_deeper (N, K, b, z, le, rf, hd, ln, vl) (nI ik) (nI mk) = ((N, K, b, z, le, rf, hd, ln, vl), (-1)) := by simp only [x_deeper, h8, h19, Bool.and_self, if_true, nI_clamp (show ik < 2 ^ 31 by omega), nI_clamp (show mk < 2 ^ 31 by omega)]; rw [fP_no (n := 10) (fun j hj => hq j (by omega))]
            exact Go.iret X E dX3_deeper_82 ⟨by rw [e9], _, by rw [e9]⟩ rfl
          · --
            refine Go.aload_n X 1 dX3_deeper_48 rfl ?_
            refine Go.get X f_X3_deeper_16 0 (v := .ref (ad 5)) rfl rfl dX3_deeper_49 ?_
            refine Go.get X f_X3_deeper_153 5 (v := .ref (ad 8)) rfl rfl dX3_deeper_52 ?_
            refine Go.iload_n X 2 dX3_deeper_55 rfl ?_
            refine Go.iload_n X 0 dX3_deeper_56 rfl ?_
            refine Go.iastNM X 8 (bxW g ad (N, K, b, z, le, rf, hd, ln, vl) ((sN N, sA N, sW N, sD N, sP N, sK N, updN w ik k, sG N, sT N, sF N, sX N), ts, te, tk, br)) (w := w) rfl (by first | omega | (split <;> omega)) rfl dX3_deeper_57 rfl ?_
            refine Go.conv (M1 := bxW g ad (N, K, b, z, le, rf, hd, ln, vl) (stO N (updN (sO N) ik k), ts, te, tk, br)) ?_ (by rw [hw]) rfl rfl
            refine Go.aload_n X 1 dX3_deeper_58 rfl ?_
            refine Go.get X f_X3_deeper_16 0 (v := .ref (ad 5)) rfl rfl dX3_deeper_59 ?_
            refine Go.iload_n X 2 dX3_deeper_62 rfl ?_
            have z63 : sOk (stO N (updN (sO N) ik k)) := by exact ok_O hN (up_le o8 (by omega))
            refine Go.callVi X  (c_expectedBy g (ad 5) (ad 6) (ad 7) (ad 8) (stO N (updN (sO N) ik k)) ik (by exact z63) (by first | omega | (split <;> omega))) cal_X0_expectedBy [5, 6, 7, 8] rfl rfl gX3_deeper_X0_expectedBy (ci := 0) (q0 := 5) rfl rfl rfl rfl rfl dX3_deeper_63 ?_
            have f63_1 := expd_512 z63 6 ik
            refine Go.iload_n X 3 dX3_deeper_66 rfl ?_
            refine Go.callSi X  (c_isIn g (expd (stO N (updN (sO N) ik k)) 6 ik) mk (by first | omega | (split <;> omega)) (by first | omega | (split <;> omega))) cal_X3_isIn [] rfl rfl gX3_deeper_X3_isIn rfl rfl rfl dX3_deeper_67 ?_
            refine Go.if_eqB X 75 dX3_deeper_70 (by decide) (fun h70 => ?_) (fun h70 => ?_)
            · --
              refine Go.iinc_0 X (nI (k + 1)) dX3_deeper_75 (by decide) rfl (show nI k + Int32.ofInt 1 = nI (k + 1) from nI_add _ 1) ?_
              refine Go.goto X 42 dX3_deeper_78 (by decide) ?_
              refine Go.conv (M1 := bxW g ad (N, K, b, z, le, rf, hd, ln, vl) (stO N (updN (sO N) ik k), ts, te, tk, br)) ?_ (by rfl) rfl rfl
              exact ih42 (k + 1) (updN (sO N) ik k) (by first | omega | (split <;> omega)) (by intro a; exact up_up _ _ _ _) (by exact fP_s (P := fun a => (expd (stO N (updN (sO N) ik a)) 6 ik).testBit mk) hq h70) (by first | omega | (split <;> omega))
            · --
              refine Go.iload_n X 0 dX3_deeper_73 rfl ?_
              have e9 : x_deeper (N, K, b, z, le, rf, hd, ln, vl) (nI ik) (nI mk) = ((N, K, b, z, le, rf, hd, ln, vl), (nI k)) := by simp only [x_deeper, h8, h19, Bool.and_self, if_true, nI_clamp (show ik < 2 ^ 31 by omega), nI_clamp (show mk < 2 ^ 31 by omega)]; rw [fP_at (k := k) (n := 10) (by omega) h70 hq (by omega)]
              exact Go.iret X E dX3_deeper_74 ⟨by rw [e9], _, by rw [e9]⟩ rfl
      refine Go.conv (M1 := bxW g ad (N, K, b, z, le, rf, hd, ln, vl) (stO N (sO N), ts, te, tk, br)) ?_ (by rfl) rfl rfl
      exact L42 (10 - 0 + 1) 0 (sO N) (by first | omega | (split <;> omega)) (by intro a; rfl) (by intro j hj; omega) (Nat.lt_succ_self _)
    · --
      refine Go.aload_n X 0 dX3_deeper_22 rfl ?_
      refine Go.bipush X ((-2 : Int32)) dX3_deeper_23 k_bp_m2 ?_
      refine Go.callV0i X (c_refuse_0 g ad N K b z le rf hd ln vl T ts te tk br) cal_X3_refuse gX3_deeper_X3_refuse (ci := 3) (q0 := 0) rfl rfl rfl rfl rfl dX3_deeper_25 ?_
      have e9 : x_deeper (N, K, b, z, le, rf, hd, ln, vl) (nI ik) m = ((N, K, b, z, le, inc rf 0, hd, ln, vl), (-2)) := by simp (decide := true) [x_deeper, rfS, upS_id, h8, h19, nI_clamp (show ik < 2 ^ 31 by omega)]
      exact Go.iret X E dX3_deeper_28 ⟨by rw [e9], _, by rw [e9]⟩ rfl
set_option maxHeartbeats 4000000 in
set_option maxRecDepth 100000 in
theorem b_crowd (g : gT) (ad : Nat → Nat) (N : Sch) (K : Sch) (b : Bool) (z : Nat) (le : Nat → Nat) (rf : Nat → Int32) (hd : Nat → Int32) (ln : Nat → Nat) (vl : Nat → Nat → Int64) (T : Sch) (ts : Nat) (te : Nat) (tk : Nat) (br : Nat → Nat) (k : Int32) (hN : sOk N) : Ct g yX3_crowd wsX3_crowd 6 130 [.ref (ad 0), .int k] (bxW g ad (N, K, b, z, le, rf, hd, ln, vl) (T, ts, te, tk, br)) (fun v9 w9 => v9 = (some (.int (x_crowd (N, K, b, z, le, rf, hd, ln, vl) k).2)) ∧ ∃ J9, w9 = bxW g ad (x_crowd (N, K, b, z, le, rf, hd, ln, vl) k).1 J9) := by
  refine Ct.start (cc := cX3_crowd) (nL := 3) (ret := (some .int)) (own := RX3) (by decide) rfl rfl rfl ?_
  intro Γ X E
  show Go Γ g 3 (rmC 6 130) 0 0 (bxW g ad (N, K, b, z, le, rf, hd, ln, vl) (T, ts, te, tk, br)) 0 [(0, .ref (ad 0)), (1, .int k)] []
  obtain ⟨o1, o2, o3, o4, o5, o6, o7, o8⟩ := id hN
  have o9 := p2_9 o2
  have o10 := sA_512 hN
  refine Go.iload_n X 1 dX3_crowd_0 rfl ?_
  refine Go.callSi X  (c_isKind g k) cal_X3_isKind [] rfl rfl gX3_crowd_X3_isKind rfl rfl rfl dX3_crowd_1 ?_
  refine Go.if_neB X 14 dX3_crowd_4 (by decide) (fun h4 => ?_) (fun h4 => ?_)
  · --
    obtain ⟨kk, hkk, rfl⟩ := inb_at (by first | omega | (split <;> omega)) h4
    refine Go.aload_n X 0 dX3_crowd_14 rfl ?_
    refine Go.get X f_X3_crowd_16 0 (v := .ref (ad 5)) rfl rfl dX3_crowd_15 ?_
    refine Go.aload_n X 0 dX3_crowd_18 rfl ?_
    refine Go.get X f_X3_crowd_10 0 (v := .ref (ad 1)) rfl rfl dX3_crowd_19 ?_
    refine Go.callVvw X (c_become g (ad 5) (ad 6) (ad 7) (ad 8) T (ad 1) (ad 2) (ad 3) (ad 4) N) cal_X0_become [5, 6, 7, 8, 1, 2, 3, 4] rfl rfl gX3_crowd_X0_become (ci := 0) (q0 := 5) rfl rfl rfl rfl rfl dX3_crowd_22 (M9 := bxW g ad (N, K, b, z, le, rf, hd, ln, vl) (N, ts, te, tk, br)) rfl ?_
    refine Go.iconst X (nI 0) dX3_crowd_25 k_ic_0 ?_
    refine Go.istore_n_new X dX3_crowd_26 (by decide) rfl ?_
    have L27 : ∀ (f27 : Nat) (j : Nat) (hj : j ≤ sP N) (hf27 : sP N - j < f27), Go Γ g 3 (rmC 6 130) 0 0 (bxW g ad (N, K, b, z, le, rf, hd, ln, vl) (stK N (fillN (sK N) kk j), ts, te, tk, br)) 27 [(2, .int (nI j)), (0, .ref (ad 0)), (1, .int (nI kk))] [] := by
      intro f27
      induction f27 with
      | zero => intro j hj hf27; exact absurd hf27 (Nat.not_lt_zero _)
      | succ f27 ih27 =>
        intro j hj hf27
        refine Go.iload_n X 0 dX3_crowd_27 rfl ?_
        refine Go.aload_n X 1 dX3_crowd_28 rfl ?_
        refine Go.get X f_X3_crowd_16 0 (v := .ref (ad 5)) rfl rfl dX3_crowd_29 ?_
        refine Go.get X f_X3_crowd_123 5 (v := .int (nI (sP N))) rfl rfl dX3_crowd_32 ?_
        refine Go.icmp_geN X 54 dX3_crowd_35 (by decide) (by first | omega | (split <;> omega)) (by first | omega | (split <;> omega)) (fun h35 => ?_) (fun h35 => ?_)
        · --
          refine Go.conv (M1 := bxW g ad (N, K, b, z, le, rf, hd, ln, vl) (stK N (fillN (sK N) kk (sP N)), ts, te, tk, br)) ?_ (by rw [show j = sP N by omega]) rfl rfl
          refine Go.aload_n X 1 dX3_crowd_54 rfl ?_
          refine Go.get X f_X3_crowd_16 0 (v := .ref (ad 5)) rfl rfl dX3_crowd_55 ?_
          have z58 : sOk (stK N (fillN (sK N) kk (sP N))) := by exact ok_K hN (fun i hi => by have := fil_le (f := sK N) (n := 6) (b := 5) (v := kk) (fun j hj => by have := o7 j hj; omega) (by omega) (sP N) i hi; omega)
          refine Go.callVi X  (c_bySurprise g (ad 5) (ad 6) (ad 7) (ad 8) (stK N (fillN (sK N) kk (sP N))) (by exact z58)) cal_X0_bySurprise [5, 6, 7, 8] rfl rfl gX3_crowd_X0_bySurprise (ci := 0) (q0 := 5) rfl rfl rfl rfl rfl dX3_crowd_58 ?_
          have f58_1 := sur_512 z58 6
          have e9 : x_crowd (N, K, b, z, le, rf, hd, ln, vl) (nI kk) = ((N, K, b, z, le, rf, hd, ln, vl), (nI (sur (stK N (fillN (sK N) kk (sP N))) 6))) := by simp (decide := true) [x_crowd, rfS, upS_id, h4, h35, Nat.not_lt.mpr h35, nI_clamp (show kk < 2 ^ 31 by omega)]
          exact Go.iret X E dX3_crowd_61 ⟨by rw [e9], _, by rw [e9]⟩ rfl
        · --
          refine Go.aload_n X 1 dX3_crowd_38 rfl ?_
          refine Go.get X f_X3_crowd_16 0 (v := .ref (ad 5)) rfl rfl dX3_crowd_39 ?_
          refine Go.get X f_X3_crowd_107 5 (v := .ref (ad 7)) rfl rfl dX3_crowd_42 ?_
          refine Go.iload_n X 0 dX3_crowd_45 rfl ?_
          refine Go.iload_n X 2 dX3_crowd_46 rfl ?_
          refine Go.iastNM X 7 (bxW g ad (N, K, b, z, le, rf, hd, ln, vl) ((sN N, sA N, sW N, sD N, sP N, updN (fillN (sK N) kk j) j kk, sO N, sG N, sT N, sF N, sX N), ts, te, tk, br)) (w := fillN (sK N) kk j) rfl (by first | omega | (split <;> omega)) rfl dX3_crowd_47 rfl ?_
          refine Go.iinc_0 X (nI (j + 1)) dX3_crowd_48 (by decide) rfl (show nI j + Int32.ofInt 1 = nI (j + 1) from nI_add _ 1) ?_
          refine Go.goto X 27 dX3_crowd_51 (by decide) ?_
          refine Go.conv (M1 := bxW g ad (N, K, b, z, le, rf, hd, ln, vl) (stK N (fillN (sK N) kk (j + 1)), ts, te, tk, br)) ?_ (by rw [fill_s]) rfl rfl
          exact ih27 (j + 1) (by first | omega | (split <;> omega)) (by first | omega | (split <;> omega))
    refine Go.conv (M1 := bxW g ad (N, K, b, z, le, rf, hd, ln, vl) (stK N (fillN (sK N) kk 0), ts, te, tk, br)) ?_ (by rw [fill_0]) rfl rfl
    exact L27 (sP N - 0 + 1) 0 (by first | omega | (split <;> omega)) (Nat.lt_succ_self _)
  · --
    refine Go.aload_n X 0 dX3_crowd_7 rfl ?_
    refine Go.bipush X ((-2 : Int32)) dX3_crowd_8 k_bp_m2 ?_
    refine Go.callV0i X (c_refuse_0 g ad N K b z le rf hd ln vl T ts te tk br) cal_X3_refuse gX3_crowd_X3_refuse (ci := 3) (q0 := 0) rfl rfl rfl rfl rfl dX3_crowd_10 ?_
    have e9 : x_crowd (N, K, b, z, le, rf, hd, ln, vl) k = ((N, K, b, z, le, inc rf 0, hd, ln, vl), (-2)) := by simp (decide := true) [x_crowd, rfS, upS_id, h4]
    exact Go.iret X E dX3_crowd_13 ⟨by rw [e9], _, by rw [e9]⟩ rfl
set_option maxHeartbeats 4000000 in
set_option maxRecDepth 100000 in
theorem c_told (g : gT) (ad : Nat → Nat) (N : Sch) (K : Sch) (b : Bool) (z : Nat) (le : Nat → Nat) (rf : Nat → Int32) (hd : Nat → Int32) (ln : Nat → Nat) (vl : Nat → Nat → Int64) (T : Sch) (ts : Nat) (te : Nat) (tk : Nat) (br : Nat → Nat) (s : Nat) (hN : sOk N) (hs : s < 2 ^ sN N) : Ct g yX3_surprisesTold wsX3_surprisesTold 6 130 [.ref (ad 0), .int (nI s)] (bxW g ad (N, K, b, z, le, rf, hd, ln, vl) (T, ts, te, tk, br)) (fun v9 w9 => v9 = (some (.int (nI (hC N s)))) ∧ ∃ (T1 : Sch), w9 = bxW g ad (N, K, b, z, le, rf, hd, ln, vl) (T1, ts, te, tk, br)) := by
  refine Ct.start (cc := cX3_surprisesTold) (nL := 2) (ret := (some .int)) (own := RX3) (by decide) rfl rfl rfl ?_
  intro Γ X E
  show Go Γ g 2 (rmC 6 130) 0 0 (bxW g ad (N, K, b, z, le, rf, hd, ln, vl) (T, ts, te, tk, br)) 0 [(0, .ref (ad 0)), (1, .int (nI s))] []
  obtain ⟨o1, o2, o3, o4, o5, o6, o7, o8⟩ := id hN
  have o9 := p2_9 o2
  have o10 := sA_512 hN
  refine Go.aload_n X 0 dX3_surprisesTold_0 rfl ?_
  refine Go.get X f_X3_surprisesTold_16 0 (v := .ref (ad 5)) rfl rfl dX3_surprisesTold_1 ?_
  refine Go.aload_n X 0 dX3_surprisesTold_4 rfl ?_
  refine Go.get X f_X3_surprisesTold_10 0 (v := .ref (ad 1)) rfl rfl dX3_surprisesTold_5 ?_
  refine Go.callVvw X (c_become g (ad 5) (ad 6) (ad 7) (ad 8) T (ad 1) (ad 2) (ad 3) (ad 4) N) cal_X0_become [5, 6, 7, 8, 1, 2, 3, 4] rfl rfl gX3_surprisesTold_X0_become (ci := 0) (q0 := 5) rfl rfl rfl rfl rfl dX3_surprisesTold_8 (M9 := bxW g ad (N, K, b, z, le, rf, hd, ln, vl) (N, ts, te, tk, br)) rfl ?_
  refine Go.aload_n X 0 dX3_surprisesTold_11 rfl ?_
  refine Go.get X f_X3_surprisesTold_16 0 (v := .ref (ad 5)) rfl rfl dX3_surprisesTold_12 ?_
  refine Go.iload_n X 1 dX3_surprisesTold_15 rfl ?_
  refine Go.putM X f_X3_surprisesTold_135 fp_0_1 5 (bxW g ad (N, K, b, z, le, rf, hd, ln, vl) ((sN N, s, sW N, sD N, sP N, sK N, sO N, sG N, sT N, sF N, sX N), ts, te, tk, br)) rfl rfl rfl rfl dX3_surprisesTold_16 rfl ?_
  refine Go.conv (M1 := bxW g ad (N, K, b, z, le, rf, hd, ln, vl) (stA N s, ts, te, tk, br)) ?_ (by rfl) rfl rfl
  refine Go.aload_n X 0 dX3_surprisesTold_19 rfl ?_
  refine Go.get X f_X3_surprisesTold_16 0 (v := .ref (ad 5)) rfl rfl dX3_surprisesTold_20 ?_
  have z23 : sOk (stA N s) := by exact ok_A hN hs
  refine Go.callVi X  (c_bySurprise g (ad 5) (ad 6) (ad 7) (ad 8) (stA N s) (by exact z23)) cal_X0_bySurprise [5, 6, 7, 8] rfl rfl gX3_surprisesTold_X0_bySurprise (ci := 0) (q0 := 5) rfl rfl rfl rfl rfl dX3_surprisesTold_23 ?_
  have f23_1 := sur_512 z23 6
  refine Go.callSi X  (c_bitCount g (sur (stA N s) 6) (by first | omega | (split <;> omega))) cal_J6_bitCount_0f7a4 [] rfl rfl gX3_surprisesTold_J6_bitCount_0f7a4 rfl rfl rfl dX3_surprisesTold_26 ?_
  exact Go.iret X E dX3_surprisesTold_29 ⟨rv (congrArg nI (show bcn (sur (stA N s) 6) = hC N s from by simp [*])), _, rfl⟩ rfl
set_option maxHeartbeats 4000000 in
set_option maxRecDepth 100000 in
theorem c_seekHint (g : gT) (ad : Nat → Nat) (N : Sch) (K : Sch) (b : Bool) (z : Nat) (le : Nat → Nat) (rf : Nat → Int32) (hd : Nat → Int32) (ln : Nat → Nat) (vl : Nat → Nat → Int64) (T : Sch) (ts : Nat) (te : Nat) (tk : Nat) (br : Nat → Nat) (hN : sOk N) : Ct g yX3_seekHint wsX3_seekHint 6 130 [.ref (ad 0)] (bxW g ad (N, K, b, z, le, rf, hd, ln, vl) (T, ts, te, tk, br)) (fun v9 w9 => v9 = (some (.int (nI (hF N (sA N + 1))))) ∧ ∃ (T1 : Sch), w9 = bxW g ad (N, K, b, z, le, rf, hd, ln, vl) (T1, ts, te, tk, br)) := by
  refine Ct.start (cc := cX3_seekHint) (nL := 6) (ret := (some .int)) (own := RX3) (by decide) rfl rfl rfl ?_
  intro Γ X E
  show Go Γ g 6 (rmC 6 130) 0 0 (bxW g ad (N, K, b, z, le, rf, hd, ln, vl) (T, ts, te, tk, br)) 0 [(0, .ref (ad 0))] []
  obtain ⟨o1, o2, o3, o4, o5, o6, o7, o8⟩ := id hN
  have o9 := p2_9 o2
  have o10 := sA_512 hN
  refine Go.aload_n X 0 dX3_seekHint_0 rfl ?_
  refine Go.get X f_X3_seekHint_16 0 (v := .ref (ad 5)) rfl rfl dX3_seekHint_1 ?_
  refine Go.aload_n X 0 dX3_seekHint_4 rfl ?_
  refine Go.get X f_X3_seekHint_10 0 (v := .ref (ad 1)) rfl rfl dX3_seekHint_5 ?_
  refine Go.callVvw X (c_become g (ad 5) (ad 6) (ad 7) (ad 8) T (ad 1) (ad 2) (ad 3) (ad 4) N) cal_X0_become [5, 6, 7, 8, 1, 2, 3, 4] rfl rfl gX3_seekHint_X0_become (ci := 0) (q0 := 5) rfl rfl rfl rfl rfl dX3_seekHint_8 (M9 := bxW g ad (N, K, b, z, le, rf, hd, ln, vl) (N, ts, te, tk, br)) rfl ?_
  refine Go.iconst X (nI 0) dX3_seekHint_11 k_ic_0 ?_
  refine Go.istore_n_new X dX3_seekHint_12 (by decide) rfl ?_
  refine Go.iconst X (nI 0) dX3_seekHint_13 k_ic_0 ?_
  refine Go.istore_n_new X dX3_seekHint_14 (by decide) rfl ?_
  refine Go.iconst X (nI 1) dX3_seekHint_15 k_ic_1 ?_
  refine Go.istore_n_new X dX3_seekHint_16 (by decide) rfl ?_
  have L17 : ∀ (f17 : Nat) (k : Nat) (d : Nat) (hk : k ≤ sA N + 1) (hk1 : 1 ≤ k) (hf17 : sA N + 1 - k < f17), Go Γ g 6 (rmC 6 130) 0 0 (bxW g ad (N, K, b, z, le, rf, hd, ln, vl) (stA N d, ts, te, tk, br)) 17 [(3, .int (nI k)), (2, .int (nI (hM N k))), (1, .int (nI (hF N k))), (0, .ref (ad 0))] [] := by
    intro f17
    induction f17 with
    | zero => intro k d hk hk1 hf17; exact absurd hf17 (Nat.not_lt_zero _)
    | succ f17 ih17 =>
      intro k d hk hk1 hf17
      refine Go.iload_n X 0 dX3_seekHint_17 rfl ?_
      refine Go.aload_n X 3 dX3_seekHint_18 rfl ?_
      refine Go.get X f_X3_seekHint_10 0 (v := .ref (ad 1)) rfl rfl dX3_seekHint_19 ?_
      refine Go.get X f_X3_seekHint_135 1 (v := .int (nI (sA N))) rfl rfl dX3_seekHint_22 ?_
      refine Go.icmp_gtN X 111 dX3_seekHint_25 (by decide) (by first | omega | (split <;> omega)) (by first | omega | (split <;> omega)) (fun h25 => ?_) (fun h25 => ?_)
      · --
        refine Go.lv_2 (w := .int (nI (hF N (sA N + 1)))) (by rw [show k = sA N + 1 by omega]) ?_
        refine Go.iload_n X 2 dX3_seekHint_111 rfl ?_
        exact Go.iret X E dX3_seekHint_112 ⟨rfl, _, rfl⟩ rfl
      · --
        have o11 := dif_le k (sA N)
        have o12 := hF_le N k
        have o13 := hM_le N k
        refine Go.iload_n X 0 dX3_seekHint_28 rfl ?_
        refine Go.aload_n X 3 dX3_seekHint_29 rfl ?_
        refine Go.get X f_X3_seekHint_10 0 (v := .ref (ad 1)) rfl rfl dX3_seekHint_30 ?_
        refine Go.get X f_X3_seekHint_135 1 (v := .int (nI (sA N))) rfl rfl dX3_seekHint_33 ?_
        refine Go.iconst X ((-1 : Int32)) dX3_seekHint_36 k_ic_m1 ?_
        refine Go.ixor_e X (nI (sA N) ^^^ (-1)) dX3_seekHint_37 rfl ?_
        refine Go.iand_e X (nI (dif k (sA N))) dX3_seekHint_38 (nI_andnot _ _) ?_
        refine Go.if_eqN X 45 dX3_seekHint_39 (by decide) (by first | omega | (split <;> omega)) (fun h39 => ?_) (fun h39 => ?_)
        · --
          refine Go.aload_n X 3 dX3_seekHint_45 rfl ?_
          refine Go.get X f_X3_seekHint_16 0 (v := .ref (ad 5)) rfl rfl dX3_seekHint_46 ?_
          refine Go.iload_n X 0 dX3_seekHint_49 rfl ?_
          refine Go.putM X f_X3_seekHint_135 fp_0_1 5 (bxW g ad (N, K, b, z, le, rf, hd, ln, vl) ((sN N, k, sW N, sD N, sP N, sK N, sO N, sG N, sT N, sF N, sX N), ts, te, tk, br)) rfl rfl rfl rfl dX3_seekHint_50 rfl ?_
          refine Go.conv (M1 := bxW g ad (N, K, b, z, le, rf, hd, ln, vl) (stA N k, ts, te, tk, br)) ?_ (by rfl) rfl rfl
          refine Go.aload_n X 3 dX3_seekHint_53 rfl ?_
          refine Go.get X f_X3_seekHint_16 0 (v := .ref (ad 5)) rfl rfl dX3_seekHint_54 ?_
          have z57 : sOk (stA N k) := by exact ok_A hN (by omega)
          refine Go.callVi X  (c_bySurprise g (ad 5) (ad 6) (ad 7) (ad 8) (stA N k) (by exact z57)) cal_X0_bySurprise [5, 6, 7, 8] rfl rfl gX3_seekHint_X0_bySurprise (ci := 0) (q0 := 5) rfl rfl rfl rfl rfl dX3_seekHint_57 ?_
          have f57_1 := sur_512 z57 6
          refine Go.callSi X  (c_bitCount g (sur (stA N k) 6) (by first | omega | (split <;> omega))) cal_J6_bitCount_0f7a4 [] rfl rfl gX3_seekHint_J6_bitCount_0f7a4 rfl rfl rfl dX3_seekHint_60 ?_
          refine Go.top (w := .int (nI (hC N k))) (by rfl) ?_
          have o14 : hC N k ≤ 9 := bcn_9 _
          refine Go.istore_new X dX3_seekHint_63 (by decide) rfl ?_
          refine Go.iload X 0 dX3_seekHint_65 rfl ?_
          refine Go.iload_n X 2 dX3_seekHint_67 rfl ?_
          refine Go.icmp_neN X 86 dX3_seekHint_68 (by decide) (by first | omega | (split <;> omega)) (by first | omega | (split <;> omega)) (fun h68 => ?_) (fun h68 => ?_)
          · --
            refine Go.iconst X (nI 0) dX3_seekHint_86 k_ic_0 ?_
            refine Go.istore_new X dX3_seekHint_87 (by decide) rfl ?_
            refine Go.iload X 1 dX3_seekHint_89 rfl ?_
            refine Go.iload_n X 3 dX3_seekHint_91 rfl ?_
            refine Go.icmp_gtN X 100 dX3_seekHint_92 (by decide) (by first | omega | (split <;> omega)) (by first | omega | (split <;> omega)) (fun h92 => ?_) (fun h92 => ?_)
            · --
              refine Go.iload X 1 dX3_seekHint_100 rfl ?_
              refine Go.istore_n_3 X dX3_seekHint_102 (by decide) rfl ?_
              refine Go.iload_n X 2 dX3_seekHint_103 rfl ?_
              refine Go.istore_n_4 X dX3_seekHint_104 (by decide) rfl ?_
              refine Go.iinc_2 X (nI (k + 1)) dX3_seekHint_105 (by decide) rfl (show nI k + Int32.ofInt 1 = nI (k + 1) from nI_add _ 1) ?_
              refine Go.goto X 17 dX3_seekHint_108 (by decide) ?_
              refine Go.lv_3 (congrArg (fun z => Value.int (nI z)) (show hC N k = hM N (k + 1) from by rw [hM_y hk1 h39 (by omega)])) ?_
              refine Go.lv_4 (congrArg (fun z => Value.int (nI z)) (show k = hF N (k + 1) from by rw [hF_y ⟨hk1, h39, by omega⟩])) ?_
              refine Go.conv (M1 := bxW g ad (N, K, b, z, le, rf, hd, ln, vl) (stA N k, ts, te, tk, br)) ?_ (by rfl) rfl rfl
              refine Go.sub [2, 3, 4, 5] rfl ?_
              exact ih17 (k + 1) k (by first | omega | (split <;> omega)) (by first | omega | (split <;> omega)) (by first | omega | (split <;> omega))
            · --
              refine Go.iload X 0 dX3_seekHint_95 rfl ?_
              refine Go.if_eq X 105 dX3_seekHint_97 (by decide) (fun _ => ?_) (fun h => absurd (by decide) h)
              refine Go.iinc_2 X (nI (k + 1)) dX3_seekHint_105 (by decide) rfl (show nI k + Int32.ofInt 1 = nI (k + 1) from nI_add _ 1) ?_
              refine Go.goto X 17 dX3_seekHint_108 (by decide) ?_
              refine Go.lv_3 (congrArg (fun z => Value.int (nI z)) (show hM N k = hM N (k + 1) from by rw [hM_n (fun q => by omega)])) ?_
              refine Go.lv_4 (congrArg (fun z => Value.int (nI z)) (show hF N k = hF N (k + 1) from by rw [hF_n (fun q => by omega)])) ?_
              refine Go.conv (M1 := bxW g ad (N, K, b, z, le, rf, hd, ln, vl) (stA N k, ts, te, tk, br)) ?_ (by rfl) rfl rfl
              refine Go.sub [2, 3, 4, 5] rfl ?_
              exact ih17 (k + 1) k (by first | omega | (split <;> omega)) (by first | omega | (split <;> omega)) (by first | omega | (split <;> omega))
          · --
            refine Go.iload_n X 1 dX3_seekHint_71 rfl ?_
            refine Go.callSi X  (c_bitCount g k (by first | omega | (split <;> omega))) cal_J6_bitCount_0f7a4 [] rfl rfl gX3_seekHint_J6_bitCount_0f7a4 rfl rfl rfl dX3_seekHint_72 ?_
            refine Go.iload_n X 3 dX3_seekHint_75 rfl ?_
            refine Go.callSi X  (c_bitCount g (hF N k) (by first | omega | (split <;> omega))) cal_J6_bitCount_0f7a4 [] rfl rfl gX3_seekHint_J6_bitCount_0f7a4 rfl rfl rfl dX3_seekHint_76 ?_
            have o15 := bcn_9 k
            have o16 := bcn_9 (hF N k)
            refine Go.icmp_geN X 86 dX3_seekHint_79 (by decide) (by first | omega | (split <;> omega)) (by first | omega | (split <;> omega)) (fun h79 => ?_) (fun h79 => ?_)
            · --
              refine Go.iconst X (nI 0) dX3_seekHint_86 k_ic_0 ?_
              refine Go.istore_new X dX3_seekHint_87 (by decide) rfl ?_
              refine Go.iload X 1 dX3_seekHint_89 rfl ?_
              refine Go.iload_n X 3 dX3_seekHint_91 rfl ?_
              refine Go.icmp_gtN X 100 dX3_seekHint_92 (by decide) (by first | omega | (split <;> omega)) (by first | omega | (split <;> omega)) (fun h92 => ?_) (fun h92 => ?_)
              · --
                refine Go.iload X 1 dX3_seekHint_100 rfl ?_
                refine Go.istore_n_3 X dX3_seekHint_102 (by decide) rfl ?_
                refine Go.iload_n X 2 dX3_seekHint_103 rfl ?_
                refine Go.istore_n_4 X dX3_seekHint_104 (by decide) rfl ?_
                refine Go.iinc_2 X (nI (k + 1)) dX3_seekHint_105 (by decide) rfl (show nI k + Int32.ofInt 1 = nI (k + 1) from nI_add _ 1) ?_
                refine Go.goto X 17 dX3_seekHint_108 (by decide) ?_
                refine Go.lv_3 (congrArg (fun z => Value.int (nI z)) (show hC N k = hM N (k + 1) from by rw [hM_y hk1 h39 (by omega)])) ?_
                refine Go.lv_4 (congrArg (fun z => Value.int (nI z)) (show k = hF N (k + 1) from by rw [hF_y ⟨hk1, h39, by omega⟩])) ?_
                refine Go.conv (M1 := bxW g ad (N, K, b, z, le, rf, hd, ln, vl) (stA N k, ts, te, tk, br)) ?_ (by rfl) rfl rfl
                refine Go.sub [2, 3, 4, 5] rfl ?_
                exact ih17 (k + 1) k (by first | omega | (split <;> omega)) (by first | omega | (split <;> omega)) (by first | omega | (split <;> omega))
              · --
                refine Go.iload X 0 dX3_seekHint_95 rfl ?_
                refine Go.if_eq X 105 dX3_seekHint_97 (by decide) (fun _ => ?_) (fun h => absurd (by decide) h)
                refine Go.iinc_2 X (nI (k + 1)) dX3_seekHint_105 (by decide) rfl (show nI k + Int32.ofInt 1 = nI (k + 1) from nI_add _ 1) ?_
                refine Go.goto X 17 dX3_seekHint_108 (by decide) ?_
                refine Go.lv_3 (congrArg (fun z => Value.int (nI z)) (show hM N k = hM N (k + 1) from by rw [hM_n (fun q => by omega)])) ?_
                refine Go.lv_4 (congrArg (fun z => Value.int (nI z)) (show hF N k = hF N (k + 1) from by rw [hF_n (fun q => by omega)])) ?_
                refine Go.conv (M1 := bxW g ad (N, K, b, z, le, rf, hd, ln, vl) (stA N k, ts, te, tk, br)) ?_ (by rfl) rfl rfl
                refine Go.sub [2, 3, 4, 5] rfl ?_
                exact ih17 (k + 1) k (by first | omega | (split <;> omega)) (by first | omega | (split <;> omega)) (by first | omega | (split <;> omega))
            · --
              refine Go.iconst X (nI 1) dX3_seekHint_82 k_ic_1 ?_
              refine Go.goto X 87 dX3_seekHint_83 (by decide) ?_
              refine Go.istore_new X dX3_seekHint_87 (by decide) rfl ?_
              refine Go.iload X 1 dX3_seekHint_89 rfl ?_
              refine Go.iload_n X 3 dX3_seekHint_91 rfl ?_
              refine Go.icmp_gtN X 100 dX3_seekHint_92 (by decide) (by first | omega | (split <;> omega)) (by first | omega | (split <;> omega)) (fun h92 => ?_) (fun h92 => ?_)
              · --
                refine Go.iload X 1 dX3_seekHint_100 rfl ?_
                refine Go.istore_n_3 X dX3_seekHint_102 (by decide) rfl ?_
                refine Go.iload_n X 2 dX3_seekHint_103 rfl ?_
                refine Go.istore_n_4 X dX3_seekHint_104 (by decide) rfl ?_
                refine Go.iinc_2 X (nI (k + 1)) dX3_seekHint_105 (by decide) rfl (show nI k + Int32.ofInt 1 = nI (k + 1) from nI_add _ 1) ?_
                refine Go.goto X 17 dX3_seekHint_108 (by decide) ?_
                refine Go.lv_3 (congrArg (fun z => Value.int (nI z)) (show hC N k = hM N (k + 1) from by rw [hM_y hk1 h39 (by omega)])) ?_
                refine Go.lv_4 (congrArg (fun z => Value.int (nI z)) (show k = hF N (k + 1) from by rw [hF_y ⟨hk1, h39, by omega⟩])) ?_
                refine Go.conv (M1 := bxW g ad (N, K, b, z, le, rf, hd, ln, vl) (stA N k, ts, te, tk, br)) ?_ (by rfl) rfl rfl
                refine Go.sub [2, 3, 4, 5] rfl ?_
                exact ih17 (k + 1) k (by first | omega | (split <;> omega)) (by first | omega | (split <;> omega)) (by first | omega | (split <;> omega))
              · --
                refine Go.iload X 0 dX3_seekHint_95 rfl ?_
                refine Go.if_eq X 105 dX3_seekHint_97 (by decide) (fun h => absurd h (by decide)) (fun _ => ?_)
                refine Go.iload X 1 dX3_seekHint_100 rfl ?_
                refine Go.istore_n_3 X dX3_seekHint_102 (by decide) rfl ?_
                refine Go.iload_n X 2 dX3_seekHint_103 rfl ?_
                refine Go.istore_n_4 X dX3_seekHint_104 (by decide) rfl ?_
                refine Go.iinc_2 X (nI (k + 1)) dX3_seekHint_105 (by decide) rfl (show nI k + Int32.ofInt 1 = nI (k + 1) from nI_add _ 1) ?_
                refine Go.goto X 17 dX3_seekHint_108 (by decide) ?_
                refine Go.lv_3 (congrArg (fun z => Value.int (nI z)) (show hC N k = hM N (k + 1) from by rw [hM_y hk1 h39 (by omega)])) ?_
                refine Go.lv_4 (congrArg (fun z => Value.int (nI z)) (show k = hF N (k + 1) from by rw [hF_y ⟨hk1, h39, by omega⟩])) ?_
                refine Go.conv (M1 := bxW g ad (N, K, b, z, le, rf, hd, ln, vl) (stA N k, ts, te, tk, br)) ?_ (by rfl) rfl rfl
                refine Go.sub [2, 3, 4, 5] rfl ?_
                exact ih17 (k + 1) k (by first | omega | (split <;> omega)) (by first | omega | (split <;> omega)) (by first | omega | (split <;> omega))
        · --
          refine Go.goto X 105 dX3_seekHint_42 (by decide) ?_
          refine Go.iinc_0 X (nI (k + 1)) dX3_seekHint_105 (by decide) rfl (show nI k + Int32.ofInt 1 = nI (k + 1) from nI_add _ 1) ?_
          refine Go.goto X 17 dX3_seekHint_108 (by decide) ?_
          refine Go.lv_1 (congrArg (fun z => Value.int (nI z)) (show hM N k = hM N (k + 1) from by rw [hM_n (fun q => h39 q.2.1)])) ?_
          refine Go.lv_2 (congrArg (fun z => Value.int (nI z)) (show hF N k = hF N (k + 1) from by rw [hF_n (fun q => h39 q.2.1)])) ?_
          refine Go.conv (M1 := bxW g ad (N, K, b, z, le, rf, hd, ln, vl) (stA N d, ts, te, tk, br)) ?_ (by rfl) rfl rfl
          exact ih17 (k + 1) d (by first | omega | (split <;> omega)) (by first | omega | (split <;> omega)) (by first | omega | (split <;> omega))
  refine Go.lv_1 (congrArg (fun z => Value.int (nI z)) (show 0 = hM N 1 from by rw [(h_1 N).2])) ?_
  refine Go.lv_2 (congrArg (fun z => Value.int (nI z)) (show 0 = hF N 1 from by rw [(h_1 N).1])) ?_
  refine Go.conv (M1 := bxW g ad (N, K, b, z, le, rf, hd, ln, vl) (stA N (sA N), ts, te, tk, br)) ?_ (by rfl) rfl rfl
  exact L17 (sA N + 1 - 1 + 1) 1 (sA N) (by first | omega | (split <;> omega)) (by first | omega | (split <;> omega)) (Nat.lt_succ_self _)
set_option maxHeartbeats 4000000 in
set_option maxRecDepth 100000 in
theorem b_hints (g : gT) (ad : Nat → Nat) (N : Sch) (K : Sch) (b : Bool) (z : Nat) (le : Nat → Nat) (rf : Nat → Int32) (hd : Nat → Int32) (ln : Nat → Nat) (vl : Nat → Nat → Int64) (T : Sch) (ts : Nat) (te : Nat) (tk : Nat) (br : Nat → Nat) (w : Int32) (hN : sOk N) : Ct g yX3_hints wsX3_hints 7 155 [.ref (ad 0), .int w] (bxW g ad (N, K, b, z, le, rf, hd, ln, vl) (T, ts, te, tk, br)) (fun v9 w9 => v9 = (some (.int (x_hints (N, K, b, z, le, rf, hd, ln, vl) w).2)) ∧ ∃ J9, w9 = bxW g ad (x_hints (N, K, b, z, le, rf, hd, ln, vl) w).1 J9) := by
  refine Ct.start (cc := cX3_hints) (nL := 3) (ret := (some .int)) (own := RX3) (by decide) rfl rfl rfl ?_
  intro Γ X E
  show Go Γ g 3 (rmC 7 155) 0 0 (bxW g ad (N, K, b, z, le, rf, hd, ln, vl) (T, ts, te, tk, br)) 0 [(0, .ref (ad 0)), (1, .int w)] []
  obtain ⟨o1, o2, o3, o4, o5, o6, o7, o8⟩ := id hN
  have o9 := p2_9 o2
  have o10 := sA_512 hN
  refine Go.iload_n X 1 dX3_hints_0 rfl ?_
  refine Go.iconst X (nI 0) dX3_hints_1 k_ic_0 ?_
  refine Go.iconst X (nI 1) dX3_hints_2 k_ic_1 ?_
  refine Go.callSi X  (c_within_1 g w) cal_X3_isWithin [] rfl rfl gX3_hints_X3_isWithin rfl rfl rfl dX3_hints_3 ?_
  refine Go.if_neB X 16 dX3_hints_6 (by decide) (fun h6 => ?_) (fun h6 => ?_)
  · --
    obtain ⟨wk, hwk, rfl⟩ := inb_at (by first | omega | (split <;> omega)) h6
    refine Go.aload_n X 0 dX3_hints_16 rfl ?_
    refine Go.callV0 X (c_seekHint g ad N K b z le rf hd ln vl T ts te tk br (by exact hN)) cal_X3_seekHint gX3_hints_X3_seekHint (ci := 3) (q0 := 0) rfl rfl rfl rfl rfl dX3_hints_17 (fun v9 w9 e9 => ?_)
    obtain ⟨rfl, T1_17, rfl⟩ := e9
    show Go Γ g 3 (rmC 7 155) 0 0 (bxW g ad (N, K, b, z, le, rf, hd, ln, vl) (T1_17, ts, te, tk, br)) 20 [(0, .ref (ad 0)), (1, .int (nI wk))] [.int (nI (hF N (sA N + 1)))]
    have f17_1 := hF_A N (sA N + 1) (Nat.le_refl _)
    refine Go.istore_n_new X dX3_hints_20 (by decide) rfl ?_
    refine Go.iload_n X 2 dX3_hints_21 rfl ?_
    refine Go.if_neN X 29 dX3_hints_22 (by decide) (by first | omega | (split <;> omega)) (fun h22 => ?_) (fun h22 => ?_)
    · --
      refine Go.aload_n X 1 dX3_hints_29 rfl ?_
      refine Go.iload_n X 0 dX3_hints_30 rfl ?_
      refine Go.callV0 X (c_told g ad N K b z le rf hd ln vl T1_17 ts te tk br (hF N (sA N + 1)) (by exact hN) (by first | omega | (split <;> omega))) cal_X3_surprisesTold gX3_hints_X3_surprisesTold (ci := 3) (q0 := 0) rfl rfl rfl rfl rfl dX3_hints_31 (fun v9 w9 e9 => ?_)
      obtain ⟨rfl, T1_31, rfl⟩ := e9
      show Go Γ g 3 (rmC 7 155) 0 0 (bxW g ad (N, K, b, z, le, rf, hd, ln, vl) (T1_31, ts, te, tk, br)) 34 [(2, .int (nI (hF N (sA N + 1)))), (0, .ref (ad 0)), (1, .int (nI wk))] [.int (nI (hC N (hF N (sA N + 1))))]
      have e9 : x_hints (N, K, b, z, le, rf, hd, ln, vl) (nI wk) = ((N, K, b, z, le, rf, hd, ln, vl), (nI (hC N (hF N (sA N + 1))))) := by simp (decide := true) [x_hints, rfS, upS_id, h6, h22, nI_clamp (show wk < 2 ^ 31 by omega)]
      exact Go.iret X E dX3_hints_34 ⟨by rw [e9], _, by rw [e9]⟩ rfl
    · --
      refine Go.iload_n X 0 dX3_hints_25 rfl ?_
      refine Go.goto X 34 dX3_hints_26 (by decide) ?_
      have e9 : x_hints (N, K, b, z, le, rf, hd, ln, vl) (nI wk) = ((N, K, b, z, le, rf, hd, ln, vl), (nI (hF N (sA N + 1)))) := by simp (decide := true) [x_hints, rfS, upS_id, h6, h22, nI_clamp (show wk < 2 ^ 31 by omega)]
      exact Go.iret X E dX3_hints_34 ⟨by rw [e9], _, by rw [e9]⟩ rfl
  · --
    refine Go.aload_n X 0 dX3_hints_9 rfl ?_
    refine Go.bipush X ((-2 : Int32)) dX3_hints_10 k_bp_m2 ?_
    refine Go.callV0i X (c_refuse_0 g ad N K b z le rf hd ln vl T ts te tk br) cal_X3_refuse gX3_hints_X3_refuse (ci := 3) (q0 := 0) rfl rfl rfl rfl rfl dX3_hints_12 ?_
    have e9 : x_hints (N, K, b, z, le, rf, hd, ln, vl) w = ((N, K, b, z, le, inc rf 0, hd, ln, vl), (-2)) := by simp (decide := true) [x_hints, rfS, upS_id, h6]
    exact Go.iret X E dX3_hints_15 ⟨by rw [e9], _, by rw [e9]⟩ rfl
