/-! 05.m7.bell -/
theorem f_X3_rowRefusal_31 : FL wsX3_rowRefusal RX3 31 3 5 := ⟨RX3, TX3, 8, rfl, fun _ h => List.mem_cons_of_mem _ (List.mem_append_left _ (List.mem_append_right _ h)), by decide, List.mem_of_getElem? (i := 1) (by decide +kernel)⟩
theorem cal_X1_holdsSomebody : Cal yX1_holdsSomebody wsX1_holdsSomebody cX1_holdsSomebody 1 (some .boolean) RX1 0 := ⟨⟨_, rfl⟩, by decide +kernel⟩
theorem cal_X3_rowRefusal : Cal yX3_rowRefusal wsX3_rowRefusal cX3_rowRefusal 2 (some .int) RX3 1 := ⟨⟨_, rfl⟩, by decide +kernel⟩
theorem f_X3_set_31 : FL wsX3_set RX3 31 3 5 := ⟨RX3, TX3, 8, rfl, fun _ h => List.mem_cons_of_mem _ (List.mem_append_left _ (List.mem_append_right _ h)), by decide, List.mem_of_getElem? (i := 1) (by decide +kernel)⟩
theorem cal_X1_put : Cal yX1_put wsX1_put cX1_put 4 none RX1 2 := ⟨⟨_, rfl⟩, by decide +kernel⟩
theorem f_X3_listRefusal_31 : FL wsX3_listRefusal RX3 31 3 5 := ⟨RX3, TX3, 8, rfl, fun _ h => List.mem_cons_of_mem _ (List.mem_append_left _ (List.mem_append_left _ (List.mem_append_right _ h))), by decide, List.mem_of_getElem? (i := 1) (by decide +kernel)⟩
theorem f_X3_listRefusal_10 : FL wsX3_listRefusal RX3 10 3 0 := ⟨RX3, TX3, 8, rfl, fun _ h => List.mem_cons_of_mem _ (List.mem_append_left _ (List.mem_append_left _ (List.mem_append_right _ h))), by decide, List.mem_of_getElem? (i := 2) (by decide +kernel)⟩
theorem f_X3_listRefusal_117 : FL wsX3_listRefusal RX3 117 0 0 := ⟨RX0, TX0, 11, rfl, fun _ h => List.mem_cons_of_mem _ (List.mem_append_left _ (List.mem_append_right _ h)), by decide, List.mem_of_getElem? (i := 3) (by decide +kernel)⟩
theorem cal_X1_hasElements : Cal yX1_hasElements wsX1_hasElements cX1_hasElements 3 (some .boolean) RX1 2 := ⟨⟨_, rfl⟩, by decide +kernel⟩
theorem f_X3_wronglyTold_31 : FL wsX3_wronglyTold RX3 31 3 5 := ⟨RX3, TX3, 8, rfl, fun _ h => List.mem_cons_of_mem _ (List.mem_append_left _ (List.mem_append_left _ (List.mem_append_right _ h))), by decide, List.mem_of_getElem? (i := 1) (by decide +kernel)⟩
theorem f_X3_wronglyTold_84 : FL wsX3_wronglyTold RX3 84 1 2 := ⟨RX1, TX1, 3, rfl, fun _ h => List.mem_cons_of_mem _ (List.mem_append_left _ (List.mem_append_right _ h)), by decide, List.mem_of_getElem? (i := 2) (by decide +kernel)⟩
theorem f_X3_wronglyTold_10 : FL wsX3_wronglyTold RX3 10 3 0 := ⟨RX3, TX3, 8, rfl, fun _ h => List.mem_cons_of_mem _ (List.mem_append_left _ (List.mem_append_left _ (List.mem_append_right _ h))), by decide, List.mem_of_getElem? (i := 3) (by decide +kernel)⟩
theorem cal_X0_allPeople : Cal yX0_allPeople wsX0_allPeople cX0_allPeople 1 (some .int) RX0 0 := ⟨⟨_, rfl⟩, by decide +kernel⟩
theorem cal_X3_listRefusal : Cal yX3_listRefusal wsX3_listRefusal cX3_listRefusal 3 (some .int) RX3 1 := ⟨⟨_, rfl⟩, by decide +kernel⟩
theorem f_X3_judge_10 : FL wsX3_judge RX3 10 3 0 := ⟨RX3, TX3, 8, rfl, fun _ h => List.mem_cons_of_mem _ (List.mem_append_left _ (List.mem_append_left _ (List.mem_append_right _ h))), by decide, List.mem_of_getElem? (i := 1) (by decide +kernel)⟩
theorem f_X3_judge_117 : FL wsX3_judge RX3 117 0 0 := ⟨RX0, TX0, 11, rfl, fun _ h => List.mem_cons_of_mem _ (List.mem_append_left _ (List.mem_append_right _ h)), by decide, List.mem_of_getElem? (i := 2) (by decide +kernel)⟩
theorem cal_X3_wronglyTold : Cal yX3_wronglyTold wsX3_wronglyTold cX3_wronglyTold 4 (some .int) RX3 2 := ⟨⟨_, rfl⟩, by decide +kernel⟩
theorem f_X3_unlike_10 : FL wsX3_unlike RX3 10 3 0 := ⟨RX3, TX3, 8, rfl, fun _ h => List.mem_cons_of_mem _ (List.mem_append_left _ (List.mem_append_left _ (List.mem_append_right _ h))), by decide, List.mem_of_getElem? (i := 1) (by decide +kernel)⟩
theorem f_X3_unlike_117 : FL wsX3_unlike RX3 117 0 0 := ⟨RX0, TX0, 11, rfl, fun _ h => List.mem_cons_of_mem _ (List.mem_append_left _ (List.mem_append_right _ h)), by decide, List.mem_of_getElem? (i := 2) (by decide +kernel)⟩
theorem f_X3_areWagers_84 : FL wsX3_areWagers RX3 84 1 2 := ⟨RX1, TX1, 3, rfl, fun _ h => List.mem_cons_of_mem _ (List.mem_append_left _ (List.mem_append_left _ (List.mem_append_right _ h))), by decide, List.mem_of_getElem? (i := 1) (by decide +kernel)⟩
theorem f_X3_areWagers_10 : FL wsX3_areWagers RX3 10 3 0 := ⟨RX3, TX3, 8, rfl, fun _ h => List.mem_cons_of_mem _ (List.mem_append_left _ (List.mem_append_right _ h)), by decide, List.mem_of_getElem? (i := 3) (by decide +kernel)⟩
theorem f_X3_areWagers_117 : FL wsX3_areWagers RX3 117 0 0 := ⟨RX0, TX0, 11, rfl, fun _ h => List.mem_cons_of_mem _ (List.mem_append_right _ h), by decide, List.mem_of_getElem? (i := 4) (by decide +kernel)⟩
theorem f_X3_areMornings_84 : FL wsX3_areMornings RX3 84 1 2 := ⟨RX1, TX1, 3, rfl, fun _ h => List.mem_cons_of_mem _ (List.mem_append_left _ (List.mem_append_left _ (List.mem_append_right _ h))), by decide, List.mem_of_getElem? (i := 1) (by decide +kernel)⟩
theorem f_X3_areMornings_10 : FL wsX3_areMornings RX3 10 3 0 := ⟨RX3, TX3, 8, rfl, fun _ h => List.mem_cons_of_mem _ (List.mem_append_left _ (List.mem_append_right _ h)), by decide, List.mem_of_getElem? (i := 2) (by decide +kernel)⟩
theorem f_X3_areMornings_117 : FL wsX3_areMornings RX3 117 0 0 := ⟨RX0, TX0, 11, rfl, fun _ h => List.mem_cons_of_mem _ (List.mem_append_right _ h), by decide, List.mem_of_getElem? (i := 3) (by decide +kernel)⟩
theorem f_X3_fits_84 : FL wsX3_fits RX3 84 1 2 := ⟨RX1, TX1, 3, rfl, fun _ h => List.mem_cons_of_mem _ (List.mem_append_left _ (List.mem_append_left _ (List.mem_append_right _ h))), by decide, List.mem_of_getElem? (i := 1) (by decide +kernel)⟩
theorem f_X3_fits_10 : FL wsX3_fits RX3 10 3 0 := ⟨RX3, TX3, 8, rfl, fun _ h => List.mem_cons_of_mem _ (List.mem_append_left _ (List.mem_append_right _ h)), by decide, List.mem_of_getElem? (i := 2) (by decide +kernel)⟩
theorem cal_X0_morningByRule : Cal yX0_morningByRule wsX0_morningByRule cX0_morningByRule 4 (some .int) RX0 3 := ⟨⟨_, rfl⟩, by decide +kernel⟩
theorem f_X3_rules_31 : FL wsX3_rules RX3 31 3 5 := ⟨RX3, TX3, 8, rfl, fun _ h => List.mem_cons_of_mem _ (List.mem_append_left _ (List.mem_append_left _ (List.mem_append_right _ h))), by decide, List.mem_of_getElem? (i := 1) (by decide +kernel)⟩
theorem cal_X3_areMornings : Cal yX3_areMornings wsX3_areMornings cX3_areMornings 4 (some .boolean) RX3 2 := ⟨⟨_, rfl⟩, by decide +kernel⟩
theorem f_X3_rules_10 : FL wsX3_rules RX3 10 3 0 := ⟨RX3, TX3, 8, rfl, fun _ h => List.mem_cons_of_mem _ (List.mem_append_left _ (List.mem_append_left _ (List.mem_append_right _ h))), by decide, List.mem_of_getElem? (i := 2) (by decide +kernel)⟩
theorem f_X3_rules_117 : FL wsX3_rules RX3 117 0 0 := ⟨RX0, TX0, 11, rfl, fun _ h => List.mem_cons_of_mem _ (List.mem_append_left _ (List.mem_append_right _ h)), by decide, List.mem_of_getElem? (i := 3) (by decide +kernel)⟩
theorem cal_X3_fits : Cal yX3_fits wsX3_fits cX3_fits 6 (some .boolean) RX3 4 := ⟨⟨_, rfl⟩, by decide +kernel⟩
theorem f_X3_saidAs_10 : FL wsX3_saidAs RX3 10 3 0 := ⟨RX3, TX3, 8, rfl, fun _ h => List.mem_cons_of_mem _ (List.mem_append_left _ (List.mem_append_right _ h)), by decide, List.mem_of_getElem? (i := 1) (by decide +kernel)⟩
theorem cal_X0_morningsAsleep : Cal yX0_morningsAsleep wsX0_morningsAsleep cX0_morningsAsleep 4 (some .int) RX0 1 := ⟨⟨_, rfl⟩, by decide +kernel⟩
theorem f_X3_saidAs_135 : FL wsX3_saidAs RX3 135 0 1 := ⟨RX0, TX0, 11, rfl, fun _ h => List.mem_cons_of_mem _ (List.mem_append_right _ h), by decide, List.mem_of_getElem? (i := 2) (by decide +kernel)⟩
theorem f_X3_says_31 : FL wsX3_says RX3 31 3 5 := ⟨RX3, TX3, 8, rfl, fun _ h => List.mem_cons_of_mem _ (List.mem_append_left _ (List.mem_append_left _ (List.mem_append_right _ h))), by decide, List.mem_of_getElem? (i := 1) (by decide +kernel)⟩
theorem f_X3_says_76 : FL wsX3_says RX3 76 1 0 := ⟨RX1, TX1, 3, rfl, fun _ h => List.mem_cons_of_mem _ (List.mem_append_left _ (List.mem_append_right _ h)), by decide, List.mem_of_getElem? (i := 2) (by decide +kernel)⟩
theorem f_X3_says_10 : FL wsX3_says RX3 10 3 0 := ⟨RX3, TX3, 8, rfl, fun _ h => List.mem_cons_of_mem _ (List.mem_append_left _ (List.mem_append_left _ (List.mem_append_right _ h))), by decide, List.mem_of_getElem? (i := 3) (by decide +kernel)⟩
theorem f_X3_says_107 : FL wsX3_says RX3 107 0 5 := ⟨RX0, TX0, 11, rfl, fun _ h => List.mem_cons_of_mem _ (List.mem_append_right _ h), by decide, List.mem_of_getElem? (i := 4) (by decide +kernel)⟩
theorem cal_X3_saidAs : Cal yX3_saidAs wsX3_saidAs cX3_saidAs 4 (some .int) RX3 2 := ⟨⟨_, rfl⟩, by decide +kernel⟩
theorem f_X3_hint_10 : FL wsX3_hint RX3 10 3 0 := ⟨RX3, TX3, 8, rfl, fun _ h => List.mem_cons_of_mem _ (List.mem_append_left _ (List.mem_append_right _ h)), by decide, List.mem_of_getElem? (i := 1) (by decide +kernel)⟩
theorem f_X3_hint_135 : FL wsX3_hint RX3 135 0 1 := ⟨RX0, TX0, 11, rfl, fun _ h => List.mem_cons_of_mem _ (List.mem_append_right _ h), by decide, List.mem_of_getElem? (i := 2) (by decide +kernel)⟩
theorem k_bp_m4 : (Int8.ofInt (-4)).toInt32 = (-4 : Int32) := by decide
theorem k_bp_m3 : (Int8.ofInt (-3)).toInt32 = (-3 : Int32) := by decide
set_option maxHeartbeats 4000000 in
set_option maxRecDepth 100000 in
theorem c_rowRefusal (g : gT) (ad : Nat → Nat) (N : Sch) (K : Sch) (b : Bool) (z : Nat) (le : Nat → Nat) (rf : Nat → Int32) (hd : Nat → Int32) (ln : Nat → Nat) (vl : Nat → Nat → Int64) (T : Sch) (ts : Nat) (te : Nat) (tk : Nat) (br : Nat → Nat) (s : Int32)  : Cw g yX3_rowRefusal wsX3_rowRefusal 2 42 [.ref (ad 0), .int s] (bxW g ad (N, K, b, z, le, rf, hd, ln, vl) (T, ts, te, tk, br)) (some (.int (rrS hd s))) (bxW g ad (N, K, b, z, le, rf, hd, ln, vl) (T, ts, te, tk, br)) := by
  refine Ct.start (cc := cX3_rowRefusal) (nL := 2) (ret := (some .int)) (own := RX3) (by decide) rfl rfl rfl ?_
  intro Γ X E
  show Go Γ g 2 (rmC 2 42) 0 0 (bxW g ad (N, K, b, z, le, rf, hd, ln, vl) (T, ts, te, tk, br)) 0 [(0, .ref (ad 0)), (1, .int s)] []
  refine Go.iload_n X 1 dX3_rowRefusal_0 rfl ?_
  refine Go.callSi X  (c_isShelf g s) cal_X3_isShelf [] rfl rfl gX3_rowRefusal_X3_isShelf rfl rfl rfl dX3_rowRefusal_1 ?_
  refine Go.if_neB X 10 dX3_rowRefusal_4 (by decide) (fun h4 => ?_) (fun h4 => ?_)
  · --
    obtain ⟨sk, hsk, rfl⟩ := inb_at (by first | omega | (split <;> omega)) h4
    refine Go.aload_n X 0 dX3_rowRefusal_10 rfl ?_
    refine Go.get X f_X3_rowRefusal_31 0 (v := .ref (ad 15)) rfl rfl dX3_rowRefusal_11 ?_
    refine Go.iload_n X 1 dX3_rowRefusal_14 rfl ?_
    refine Go.aald X 15 (x := ad (18 + 2 * sk)) rfl (vp_in_nI (by first | omega | (split <;> omega)) (by decide)) (by rw [nI_clamp (by first | omega | (split <;> omega))]) dX3_rowRefusal_15 ?_
    refine Go.callVi X  (c_holdsSomebody g (ad (18 + 2 * sk)) (ad (19 + 2 * sk)) (hd sk) (ln sk) (vl sk)) cal_X1_holdsSomebody [(18 + 2 * sk), (19 + 2 * sk)] (bx_pos g ad _ _ (by first | omega | (split <;> omega))) (bx_nd (by first | omega | (split <;> omega))) gX3_rowRefusal_X1_holdsSomebody (ci := 1) (q0 := (18 + 2 * sk)) rfl (bx_sh g ad _ _ (by first | omega | (split <;> omega))) rfl rfl rfl dX3_rowRefusal_16 ?_
    refine Go.if_eqB X 25 dX3_rowRefusal_19 (by decide) (fun h19 => ?_) (fun h19 => ?_)
    · --
      refine Go.aload_n X 0 dX3_rowRefusal_25 rfl ?_
      refine Go.get X f_X3_rowRefusal_31 0 (v := .ref (ad 15)) rfl rfl dX3_rowRefusal_26 ?_
      refine Go.iload_n X 1 dX3_rowRefusal_29 rfl ?_
      refine Go.aald X 15 (x := ad (18 + 2 * sk)) rfl (vp_in_nI (by first | omega | (split <;> omega)) (by decide)) (by rw [nI_clamp (by first | omega | (split <;> omega))]) dX3_rowRefusal_30 ?_
      refine Go.callVi X  (c_holdsRow g (ad (18 + 2 * sk)) (ad (19 + 2 * sk)) (hd sk) (ln sk) (vl sk)) cal_X1_holdsRow [(18 + 2 * sk), (19 + 2 * sk)] (bx_pos g ad _ _ (by first | omega | (split <;> omega))) (bx_nd (by first | omega | (split <;> omega))) gX3_rowRefusal_X1_holdsRow (ci := 1) (q0 := (18 + 2 * sk)) rfl (bx_sh g ad _ _ (by first | omega | (split <;> omega))) rfl rfl rfl dX3_rowRefusal_31 ?_
      refine Go.if_eqB X 41 dX3_rowRefusal_34 (by decide) (fun h34 => ?_) (fun h34 => ?_)
      · --
        refine Go.bipush X ((-4 : Int32)) dX3_rowRefusal_41 k_bp_m4 ?_
        exact Go.iret X E dX3_rowRefusal_43 ⟨rv (show (-4) = rrS hd (nI sk) from by simp (decide := true) [rrS, h4, h19, h34, nI_clamp (show sk < 2 ^ 31 by omega), (of_decide_eq_false h19)]), rfl⟩ rfl
      · --
        refine Go.iconst X (nI 0) dX3_rowRefusal_37 k_ic_0 ?_
        refine Go.goto X 43 dX3_rowRefusal_38 (by decide) ?_
        exact Go.iret X E dX3_rowRefusal_43 ⟨rv (show (nI 0) = rrS hd (nI sk) from by simp (decide := true) [rrS, h4, h19, h34, nI_clamp (show sk < 2 ^ 31 by omega), (of_decide_eq_false h19)]), rfl⟩ rfl
    · --
      refine Go.bipush X ((-3 : Int32)) dX3_rowRefusal_22 k_bp_m3 ?_
      exact Go.iret X E dX3_rowRefusal_24 ⟨rv (show (-3) = rrS hd (nI sk) from by simp (decide := true) [rrS, h4, h19, nI_clamp (show sk < 2 ^ 31 by omega), (of_decide_eq_true h19)]), rfl⟩ rfl
  · --
    refine Go.bipush X ((-2 : Int32)) dX3_rowRefusal_7 k_bp_m2 ?_
    exact Go.iret X E dX3_rowRefusal_9 ⟨rv (show (-2) = rrS hd s from by simp (decide := true) [rrS, h4]), rfl⟩ rfl
set_option maxHeartbeats 4000000 in
set_option maxRecDepth 100000 in
theorem b_set (g : gT) (ad : Nat → Nat) (N : Sch) (K : Sch) (b : Bool) (z : Nat) (le : Nat → Nat) (rf : Nat → Int32) (hd : Nat → Int32) (ln : Nat → Nat) (vl : Nat → Nat → Int64) (T : Sch) (ts : Nat) (te : Nat) (tk : Nat) (br : Nat → Nat) (s : Int32) (i : Int32) (v : Int64) (hl : ∀ s, s < 8 → ln s ≤ 40) : Ct g yX3_set wsX3_set 3 66 [.ref (ad 0), .int s, .int i, .long v] (bxW g ad (N, K, b, z, le, rf, hd, ln, vl) (T, ts, te, tk, br)) (fun v9 w9 => v9 = (some (.int (x_set (N, K, b, z, le, rf, hd, ln, vl) s i v).2)) ∧ ∃ J9, w9 = bxW g ad (x_set (N, K, b, z, le, rf, hd, ln, vl) s i v).1 J9) := by
  refine Ct.start (cc := cX3_set) (nL := 6) (ret := (some .int)) (own := RX3) (by decide) rfl rfl rfl ?_
  intro Γ X E
  show Go Γ g 6 (rmC 3 66) 0 0 (bxW g ad (N, K, b, z, le, rf, hd, ln, vl) (T, ts, te, tk, br)) 0 [(0, .ref (ad 0)), (1, .int s), (2, .int i), (3, .long v)] []
  refine Go.aload_n X 0 dX3_set_0 rfl ?_
  refine Go.iload_n X 1 dX3_set_1 rfl ?_
  refine Go.callV0i X (c_rowRefusal g ad N K b z le rf hd ln vl T ts te tk br s) cal_X3_rowRefusal gX3_set_X3_rowRefusal (ci := 3) (q0 := 0) rfl rfl rfl rfl rfl dX3_set_2 ?_
  rcases rr_c hd s with ⟨q1, q9⟩ | ⟨sk, hsk, rfl, q0, q1, q9⟩ | ⟨sk, hsk, rfl, q0, q1, q2, q9⟩ | ⟨sk, hsk, rfl, q0, q1, q2, q9⟩
  · --
    refine Go.top (w := .int (-2)) (by rw [q9]) ?_
    refine Go.istore_new X dX3_set_5 (by decide) rfl ?_
    refine Go.iload X 0 dX3_set_7 rfl ?_
    refine Go.if_eq X 19 dX3_set_9 (by decide) (fun h => absurd h (by decide)) (fun _ => ?_)
    refine Go.aload_n X 1 dX3_set_12 rfl ?_
    refine Go.iload X 0 dX3_set_13 rfl ?_
    refine Go.callV0i X (c_refuse_0 g ad N K b z le rf hd ln vl T ts te tk br) cal_X3_refuse gX3_set_X3_refuse (ci := 3) (q0 := 0) rfl rfl rfl rfl rfl dX3_set_15 ?_
    have e9 : x_set (N, K, b, z, le, rf, hd, ln, vl) s i v = ((N, K, b, z, le, inc rf 0, hd, ln, vl), (-2)) := by simp (decide := true) [x_set, rfS, upS_id, q1]
    exact Go.iret X E dX3_set_18 ⟨by rw [e9], _, by rw [e9]⟩ rfl
  · --
    refine Go.top (w := .int (-3)) (by rw [q9]) ?_
    refine Go.istore_new X dX3_set_5 (by decide) rfl ?_
    refine Go.iload X 0 dX3_set_7 rfl ?_
    refine Go.if_eq X 19 dX3_set_9 (by decide) (fun h => absurd h (by decide)) (fun _ => ?_)
    refine Go.aload_n X 1 dX3_set_12 rfl ?_
    refine Go.iload X 0 dX3_set_13 rfl ?_
    refine Go.callV0i X (c_refuse_1 g ad N K b z le rf hd ln vl T ts te tk br) cal_X3_refuse gX3_set_X3_refuse (ci := 3) (q0 := 0) rfl rfl rfl rfl rfl dX3_set_15 ?_
    have e9 : x_set (N, K, b, z, le, rf, hd, ln, vl) (nI sk) i v = ((N, K, b, z, le, inc rf 1, hd, ln, vl), (-3)) := by simp (decide := true) [x_set, rfS, upS_id, q0, q1, nI_clamp (show sk < 2 ^ 31 by omega)]
    exact Go.iret X E dX3_set_18 ⟨by rw [e9], _, by rw [e9]⟩ rfl
  · --
    refine Go.top (w := .int (nI 0)) (by rw [q9]) ?_
    refine Go.istore_new X dX3_set_5 (by decide) rfl ?_
    refine Go.iload X 0 dX3_set_7 rfl ?_
    refine Go.if_eq X 19 dX3_set_9 (by decide) (fun _ => ?_) (fun h => absurd (by decide) h)
    refine Go.aload_n X 1 dX3_set_19 rfl ?_
    refine Go.get X f_X3_set_31 0 (v := .ref (ad 15)) rfl rfl dX3_set_20 ?_
    refine Go.iload_n X 2 dX3_set_23 rfl ?_
    refine Go.aald X 15 (x := ad (18 + 2 * sk)) rfl (vp_in_nI (by first | omega | (split <;> omega)) (by decide)) (by rw [nI_clamp (by first | omega | (split <;> omega))]) dX3_set_24 ?_
    refine Go.iload_n X 3 dX3_set_25 rfl ?_
    have hlk := hl sk hsk
    refine Go.callVi X  (c_hasElement g (ad (18 + 2 * sk)) (ad (19 + 2 * sk)) (hd sk) (ln sk) (vl sk) i (by first | omega | (split <;> omega))) cal_X1_hasElement [(18 + 2 * sk), (19 + 2 * sk)] (bx_pos g ad _ _ (by first | omega | (split <;> omega))) (bx_nd (by first | omega | (split <;> omega))) gX3_set_X1_hasElement (ci := 1) (q0 := (18 + 2 * sk)) rfl (bx_sh g ad _ _ (by first | omega | (split <;> omega))) rfl rfl rfl dX3_set_26 ?_
    refine Go.if_neB X 39 dX3_set_29 (by decide) (fun h29 => ?_) (fun h29 => ?_)
    · --
      obtain ⟨ik, hik, rfl⟩ := inb_at (by first | omega | (split <;> omega)) h29
      refine Go.aload_n X 1 dX3_set_39 rfl ?_
      refine Go.get X f_X3_set_31 0 (v := .ref (ad 15)) rfl rfl dX3_set_40 ?_
      refine Go.iload_n X 2 dX3_set_43 rfl ?_
      refine Go.aald X 15 (x := ad (18 + 2 * sk)) rfl (vp_in_nI (by first | omega | (split <;> omega)) (by decide)) (by rw [nI_clamp (by first | omega | (split <;> omega))]) dX3_set_44 ?_
      refine Go.iload_n X 3 dX3_set_45 rfl ?_
      refine Go.lload_n X 4 dX3_set_46 rfl ?_
      have hlk := hl sk hsk
      refine Go.callVvw X (c_put g (ad (18 + 2 * sk)) (ad (19 + 2 * sk)) (hd sk) (ln sk) (vl sk) ik v (by first | omega | (split <;> omega)) (by first | omega | (split <;> omega))) cal_X1_put [(18 + 2 * sk), (19 + 2 * sk)] (bx_pos g ad _ _ (by first | omega | (split <;> omega))) (bx_nd (by first | omega | (split <;> omega))) gX3_set_X1_put (ci := 1) (q0 := (18 + 2 * sk)) rfl (bx_sh g ad _ _ (by first | omega | (split <;> omega))) rfl rfl rfl dX3_set_47 (M9 := bxW g ad (N, K, b, z, le, rf, hd, ln, upS vl sk (vp_updL (vl sk) ik (cutS (hd sk) v))) (T, ts, te, tk, br)) ((bx_put g ad _ _ _ _ _ _ _ _ _ _ (by first | omega | (split <;> omega)) _ _ _).trans (by simp only [upS_id])) ?_
      refine Go.iconst X (nI 1) dX3_set_50 k_ic_1 ?_
      have e9 : x_set (N, K, b, z, le, rf, hd, ln, vl) (nI sk) (nI ik) v = ((N, K, b, z, le, rf, hd, ln, upS vl sk (vp_updL (vl sk) ik (cutS (hd sk) v))), (nI 1)) := by simp (decide := true) [x_set, rfS, upS_id, q0, q1, q2, h29, nI_clamp (show sk < 2 ^ 31 by omega), nI_clamp (show ik < 2 ^ 31 by omega)]
      exact Go.iret X E dX3_set_51 ⟨by rw [e9], _, by rw [e9]⟩ rfl
    · --
      refine Go.aload_n X 1 dX3_set_32 rfl ?_
      refine Go.bipush X ((-2 : Int32)) dX3_set_33 k_bp_m2 ?_
      refine Go.callV0i X (c_refuse_0 g ad N K b z le rf hd ln vl T ts te tk br) cal_X3_refuse gX3_set_X3_refuse (ci := 3) (q0 := 0) rfl rfl rfl rfl rfl dX3_set_35 ?_
      have e9 : x_set (N, K, b, z, le, rf, hd, ln, vl) (nI sk) i v = ((N, K, b, z, le, inc rf 0, hd, ln, vl), (-2)) := by simp (decide := true) [x_set, rfS, upS_id, q0, q1, q2, h29, nI_clamp (show sk < 2 ^ 31 by omega)]
      exact Go.iret X E dX3_set_38 ⟨by rw [e9], _, by rw [e9]⟩ rfl
  · --
    refine Go.top (w := .int (-4)) (by rw [q9]) ?_
    refine Go.istore_new X dX3_set_5 (by decide) rfl ?_
    refine Go.iload X 0 dX3_set_7 rfl ?_
    refine Go.if_eq X 19 dX3_set_9 (by decide) (fun h => absurd h (by decide)) (fun _ => ?_)
    refine Go.aload_n X 1 dX3_set_12 rfl ?_
    refine Go.iload X 0 dX3_set_13 rfl ?_
    refine Go.callV0i X (c_refuse_2 g ad N K b z le rf hd ln vl T ts te tk br) cal_X3_refuse gX3_set_X3_refuse (ci := 3) (q0 := 0) rfl rfl rfl rfl rfl dX3_set_15 ?_
    have e9 : x_set (N, K, b, z, le, rf, hd, ln, vl) (nI sk) i v = ((N, K, b, z, le, inc rf 2, hd, ln, vl), (-4)) := by simp (decide := true) [x_set, rfS, upS_id, q0, q1, q2, nI_clamp (show sk < 2 ^ 31 by omega)]
    exact Go.iret X E dX3_set_18 ⟨by rw [e9], _, by rw [e9]⟩ rfl
set_option maxHeartbeats 4000000 in
set_option maxRecDepth 100000 in
theorem c_listRefusal (g : gT) (ad : Nat → Nat) (N : Sch) (K : Sch) (b : Bool) (z : Nat) (le : Nat → Nat) (rf : Nat → Int32) (hd : Nat → Int32) (ln : Nat → Nat) (vl : Nat → Nat → Int64) (T : Sch) (ts : Nat) (te : Nat) (tk : Nat) (br : Nat → Nat) (s : Int32) (hN : sOk N) (hl : ∀ s, s < 8 → ln s ≤ 40) : Cw g yX3_listRefusal wsX3_listRefusal 3 63 [.ref (ad 0), .int s] (bxW g ad (N, K, b, z, le, rf, hd, ln, vl) (T, ts, te, tk, br)) (some (.int (lrS N hd ln s))) (bxW g ad (N, K, b, z, le, rf, hd, ln, vl) (T, ts, te, tk, br)) := by
  refine Ct.start (cc := cX3_listRefusal) (nL := 3) (ret := (some .int)) (own := RX3) (by decide) rfl rfl rfl ?_
  intro Γ X E
  show Go Γ g 3 (rmC 3 63) 0 0 (bxW g ad (N, K, b, z, le, rf, hd, ln, vl) (T, ts, te, tk, br)) 0 [(0, .ref (ad 0)), (1, .int s)] []
  obtain ⟨o1, o2, o3, o4, o5, o6, o7, o8⟩ := id hN
  have o9 := p2_9 o2
  have o10 := sA_512 hN
  refine Go.aload_n X 0 dX3_listRefusal_0 rfl ?_
  refine Go.iload_n X 1 dX3_listRefusal_1 rfl ?_
  refine Go.callV0i X (c_rowRefusal g ad N K b z le rf hd ln vl T ts te tk br s) cal_X3_rowRefusal gX3_listRefusal_X3_rowRefusal (ci := 3) (q0 := 0) rfl rfl rfl rfl rfl dX3_listRefusal_2 ?_
  rcases rr_c hd s with ⟨q1, q9⟩ | ⟨sk, hsk, rfl, q0, q1, q9⟩ | ⟨sk, hsk, rfl, q0, q1, q2, q9⟩ | ⟨sk, hsk, rfl, q0, q1, q2, q9⟩
  · --
    refine Go.top (w := .int (-2)) (by rw [q9]) ?_
    refine Go.istore_n_new X dX3_listRefusal_5 (by decide) rfl ?_
    refine Go.iload_n X 0 dX3_listRefusal_6 rfl ?_
    refine Go.if_eq X 12 dX3_listRefusal_7 (by decide) (fun h => absurd h (by decide)) (fun _ => ?_)
    refine Go.iload_n X 0 dX3_listRefusal_10 rfl ?_
    exact Go.iret X E dX3_listRefusal_11 ⟨rv (show (-2) = lrS N hd ln s from by simp (decide := true) [lrS, q1]), rfl⟩ rfl
  · --
    refine Go.top (w := .int (-3)) (by rw [q9]) ?_
    refine Go.istore_n_new X dX3_listRefusal_5 (by decide) rfl ?_
    refine Go.iload_n X 0 dX3_listRefusal_6 rfl ?_
    refine Go.if_eq X 12 dX3_listRefusal_7 (by decide) (fun h => absurd h (by decide)) (fun _ => ?_)
    refine Go.iload_n X 0 dX3_listRefusal_10 rfl ?_
    exact Go.iret X E dX3_listRefusal_11 ⟨rv (show (-3) = lrS N hd ln (nI sk) from by simp (decide := true) [lrS, q0, q1, nI_clamp (show sk < 2 ^ 31 by omega)]), rfl⟩ rfl
  · --
    refine Go.top (w := .int (nI 0)) (by rw [q9]) ?_
    refine Go.istore_n_new X dX3_listRefusal_5 (by decide) rfl ?_
    refine Go.iload_n X 0 dX3_listRefusal_6 rfl ?_
    refine Go.if_eq X 12 dX3_listRefusal_7 (by decide) (fun _ => ?_) (fun h => absurd (by decide) h)
    refine Go.aload_n X 1 dX3_listRefusal_12 rfl ?_
    refine Go.get X f_X3_listRefusal_31 0 (v := .ref (ad 15)) rfl rfl dX3_listRefusal_13 ?_
    refine Go.iload_n X 2 dX3_listRefusal_16 rfl ?_
    refine Go.aald X 15 (x := ad (18 + 2 * sk)) rfl (vp_in_nI (by first | omega | (split <;> omega)) (by decide)) (by rw [nI_clamp (by first | omega | (split <;> omega))]) dX3_listRefusal_17 ?_
    refine Go.iconst X (nI 0) dX3_listRefusal_18 k_ic_0 ?_
    refine Go.aload_n X 1 dX3_listRefusal_19 rfl ?_
    refine Go.get X f_X3_listRefusal_10 0 (v := .ref (ad 1)) rfl rfl dX3_listRefusal_20 ?_
    refine Go.get X f_X3_listRefusal_117 1 (v := .int (nI (sN N))) rfl rfl dX3_listRefusal_23 ?_
    have hlk := hl sk hsk
    refine Go.callVi X  (c_hasElements g (ad (18 + 2 * sk)) (ad (19 + 2 * sk)) (hd sk) (ln sk) (vl sk) (nI 0) (nI (sN N)) (by first | omega | (split <;> omega))) cal_X1_hasElements [(18 + 2 * sk), (19 + 2 * sk)] (bx_pos g ad _ _ (by first | omega | (split <;> omega))) (bx_nd (by first | omega | (split <;> omega))) gX3_listRefusal_X1_hasElements (ci := 1) (q0 := (18 + 2 * sk)) rfl (bx_sh g ad _ _ (by first | omega | (split <;> omega))) rfl rfl rfl dX3_listRefusal_26 ?_
    refine Go.top (w := .int (b2i (decide (sN N ≤ ln sk)))) (by rw [hasR_N (by omega) hlk]) ?_
    refine Go.if_eqB X 36 dX3_listRefusal_29 (by decide) (fun h29 => ?_) (fun h29 => ?_)
    · --
      refine Go.bipush X ((-2 : Int32)) dX3_listRefusal_36 k_bp_m2 ?_
      exact Go.iret X E dX3_listRefusal_38 ⟨rv (show (-2) = lrS N hd ln (nI sk) from by simp (decide := true) [lrS, q0, q1, q2, nI_clamp (show sk < 2 ^ 31 by omega), (of_decide_eq_false h29)]), rfl⟩ rfl
    · --
      refine Go.iconst X (nI 0) dX3_listRefusal_32 k_ic_0 ?_
      refine Go.goto X 38 dX3_listRefusal_33 (by decide) ?_
      exact Go.iret X E dX3_listRefusal_38 ⟨rv (show (nI 0) = lrS N hd ln (nI sk) from by simp (decide := true) [lrS, q0, q1, q2, nI_clamp (show sk < 2 ^ 31 by omega), (of_decide_eq_true h29)]), rfl⟩ rfl
  · --
    refine Go.top (w := .int (-4)) (by rw [q9]) ?_
    refine Go.istore_n_new X dX3_listRefusal_5 (by decide) rfl ?_
    refine Go.iload_n X 0 dX3_listRefusal_6 rfl ?_
    refine Go.if_eq X 12 dX3_listRefusal_7 (by decide) (fun h => absurd h (by decide)) (fun _ => ?_)
    refine Go.iload_n X 0 dX3_listRefusal_10 rfl ?_
    exact Go.iret X E dX3_listRefusal_11 ⟨rv (show (-4) = lrS N hd ln (nI sk) from by simp (decide := true) [lrS, q0, q1, q2, nI_clamp (show sk < 2 ^ 31 by omega)]), rfl⟩ rfl
set_option maxHeartbeats 4000000 in
set_option maxRecDepth 100000 in
theorem c_wrong (g : gT) (ad : Nat → Nat) (N : Sch) (K : Sch) (b : Bool) (z : Nat) (le : Nat → Nat) (rf : Nat → Int32) (hd : Nat → Int32) (ln : Nat → Nat) (vl : Nat → Nat → Int64) (T : Sch) (ts : Nat) (te : Nat) (tk : Nat) (br : Nat → Nat) (s : Nat) (m : Nat) (hN : sOk N) (hs : s < 8) (hm : m < sN N) : Cw g yX3_wronglyTold wsX3_wronglyTold 6 132 [.ref (ad 0), .int (nI s), .int (nI m)] (bxW g ad (N, K, b, z, le, rf, hd, ln, vl) (T, ts, te, tk, br)) (some (.int (nI (wrg N (vl s) m)))) (bxW g ad (N, K, b, z, le, rf, hd, ln, vl) (T, ts, te, tk, br)) := by
  refine Ct.start (cc := cX3_wronglyTold) (nL := 4) (ret := (some .int)) (own := RX3) (by decide) rfl rfl rfl ?_
  intro Γ X E
  show Go Γ g 4 (rmC 6 132) 0 0 (bxW g ad (N, K, b, z, le, rf, hd, ln, vl) (T, ts, te, tk, br)) 0 [(0, .ref (ad 0)), (1, .int (nI s)), (2, .int (nI m))] []
  obtain ⟨o1, o2, o3, o4, o5, o6, o7, o8⟩ := id hN
  have o9 := p2_9 o2
  have o10 := sA_512 hN
  refine Go.aload_n X 0 dX3_wronglyTold_0 rfl ?_
  refine Go.get X f_X3_wronglyTold_31 0 (v := .ref (ad 15)) rfl rfl dX3_wronglyTold_1 ?_
  refine Go.iload_n X 1 dX3_wronglyTold_4 rfl ?_
  refine Go.aald X 15 (x := ad (18 + 2 * s)) rfl (vp_in_nI (by first | omega | (split <;> omega)) (by decide)) (by rw [nI_clamp (by first | omega | (split <;> omega))]) dX3_wronglyTold_5 ?_
  refine Go.get X f_X3_wronglyTold_84 (18 + 2 * s) (v := .ref (ad (19 + 2 * s))) (bx_sh g ad _ _ (by first | omega | (split <;> omega))) rfl dX3_wronglyTold_6 ?_
  refine Go.iload_n X 2 dX3_wronglyTold_9 rfl ?_
  refine Go.laldF X (19 + 2 * s) (f := vl s) (bx_va g ad _ _ (by first | omega | (split <;> omega))) (by first | omega | (split <;> omega)) rfl dX3_wronglyTold_10 ?_
  refine Go.aload_n X 0 dX3_wronglyTold_11 rfl ?_
  refine Go.get X f_X3_wronglyTold_10 0 (v := .ref (ad 1)) rfl rfl dX3_wronglyTold_12 ?_
  refine Go.callVi X  (c_allPeople g (ad 1) (ad 2) (ad 3) (ad 4) N (by exact hN)) cal_X0_allPeople [1, 2, 3, 4] rfl rfl gX3_wronglyTold_X0_allPeople (ci := 0) (q0 := 1) rfl rfl rfl rfl rfl dX3_wronglyTold_15 ?_
  have o11 := tol_at (vl s m) o6
  refine Go.i2l X (((nI (2 ^ (sP N) - 1)) : Int32).toInt64) dX3_wronglyTold_18 rfl ?_
  refine Go.land X (((vl s) m) &&& (((nI (2 ^ (sP N) - 1)) : Int32).toInt64)) dX3_wronglyTold_19 rfl ?_
  refine Go.l2i X ((((vl s) m) &&& (((nI (2 ^ (sP N) - 1)) : Int32).toInt64)).toInt32) dX3_wronglyTold_20 rfl ?_
  refine Go.top (w := .int (nI (tolN (vl s m) (sP N)))) (by exact congrArg Value.int o11.1) ?_
  refine Go.istore_n_new X dX3_wronglyTold_21 (by decide) rfl ?_
  refine Go.iload_n X 0 dX3_wronglyTold_22 rfl ?_
  refine Go.aload_n X 1 dX3_wronglyTold_23 rfl ?_
  refine Go.get X f_X3_wronglyTold_10 0 (v := .ref (ad 1)) rfl rfl dX3_wronglyTold_24 ?_
  refine Go.iload_n X 3 dX3_wronglyTold_27 rfl ?_
  refine Go.callVi X  (c_expectingOn g (ad 1) (ad 2) (ad 3) (ad 4) N m (by exact hN) (by first | omega | (split <;> omega))) cal_X0_expectingOn [1, 2, 3, 4] rfl rfl gX3_wronglyTold_X0_expectingOn (ci := 0) (q0 := 1) rfl rfl rfl rfl rfl dX3_wronglyTold_28 ?_
  have f28_1 := whoE_64 hN 6 m
  refine Go.ixor_e X (nI ((tolN (vl s m) (sP N)) ^^^ (whoE N 6 m))) dX3_wronglyTold_31 (nI_xor _ _) ?_
  exact Go.iret X E dX3_wronglyTold_32 ⟨rv (congrArg nI (show (tolN (vl s m) (sP N)) ^^^ (whoE N 6 m) = wrg N (vl s) m from by rfl)), rfl⟩ rfl
set_option maxHeartbeats 4000000 in
set_option maxRecDepth 100000 in
theorem b_judge (g : gT) (ad : Nat → Nat) (N : Sch) (K : Sch) (b : Bool) (z : Nat) (le : Nat → Nat) (rf : Nat → Int32) (hd : Nat → Int32) (ln : Nat → Nat) (vl : Nat → Nat → Int64) (T : Sch) (ts : Nat) (te : Nat) (tk : Nat) (br : Nat → Nat) (s : Int32) (hN : sOk N) (hl : ∀ s, s < 8 → ln s ≤ 40) : Ct g yX3_judge wsX3_judge 7 155 [.ref (ad 0), .int s] (bxW g ad (N, K, b, z, le, rf, hd, ln, vl) (T, ts, te, tk, br)) (fun v9 w9 => v9 = (some (.int (x_judge (N, K, b, z, le, rf, hd, ln, vl) s).2)) ∧ ∃ J9, w9 = bxW g ad (x_judge (N, K, b, z, le, rf, hd, ln, vl) s).1 J9) := by
  refine Ct.start (cc := cX3_judge) (nL := 4) (ret := (some .int)) (own := RX3) (by decide) rfl rfl rfl ?_
  intro Γ X E
  show Go Γ g 4 (rmC 7 155) 0 0 (bxW g ad (N, K, b, z, le, rf, hd, ln, vl) (T, ts, te, tk, br)) 0 [(0, .ref (ad 0)), (1, .int s)] []
  obtain ⟨o1, o2, o3, o4, o5, o6, o7, o8⟩ := id hN
  have o9 := p2_9 o2
  have o10 := sA_512 hN
  refine Go.aload_n X 0 dX3_judge_0 rfl ?_
  refine Go.iload_n X 1 dX3_judge_1 rfl ?_
  refine Go.callV0i X (c_listRefusal g ad N K b z le rf hd ln vl T ts te tk br s (by exact hN) (by exact hl)) cal_X3_listRefusal gX3_judge_X3_listRefusal (ci := 3) (q0 := 0) rfl rfl rfl rfl rfl dX3_judge_2 ?_
  rcases lr_c N hd ln s with ⟨q1, q9⟩ | ⟨sk, hsk, rfl, q0, q1, q9⟩ | ⟨sk, hsk, rfl, q0, q1, q2, q3, q9⟩ | ⟨sk, hsk, rfl, q0, q1, q2, q3, q9⟩ | ⟨sk, hsk, rfl, q0, q1, q2, q9⟩
  · --
    refine Go.top (w := .int (-2)) (by rw [q9]) ?_
    refine Go.istore_n_new X dX3_judge_5 (by decide) rfl ?_
    refine Go.iload_n X 0 dX3_judge_6 rfl ?_
    refine Go.if_eq X 16 dX3_judge_7 (by decide) (fun h => absurd h (by decide)) (fun _ => ?_)
    refine Go.aload_n X 1 dX3_judge_10 rfl ?_
    refine Go.iload_n X 0 dX3_judge_11 rfl ?_
    refine Go.callV0i X (c_refuse_0 g ad N K b z le rf hd ln vl T ts te tk br) cal_X3_refuse gX3_judge_X3_refuse (ci := 3) (q0 := 0) rfl rfl rfl rfl rfl dX3_judge_12 ?_
    have e9 : x_judge (N, K, b, z, le, rf, hd, ln, vl) s = ((N, K, b, z, le, inc rf 0, hd, ln, vl), (-2)) := by simp (decide := true) [x_judge, rfS, upS_id, q1, listS]
    exact Go.iret X E dX3_judge_15 ⟨by rw [e9], _, by rw [e9]⟩ rfl
  · --
    refine Go.top (w := .int (-3)) (by rw [q9]) ?_
    refine Go.istore_n_new X dX3_judge_5 (by decide) rfl ?_
    refine Go.iload_n X 0 dX3_judge_6 rfl ?_
    refine Go.if_eq X 16 dX3_judge_7 (by decide) (fun h => absurd h (by decide)) (fun _ => ?_)
    refine Go.aload_n X 1 dX3_judge_10 rfl ?_
    refine Go.iload_n X 0 dX3_judge_11 rfl ?_
    refine Go.callV0i X (c_refuse_1 g ad N K b z le rf hd ln vl T ts te tk br) cal_X3_refuse gX3_judge_X3_refuse (ci := 3) (q0 := 0) rfl rfl rfl rfl rfl dX3_judge_12 ?_
    have e9 : x_judge (N, K, b, z, le, rf, hd, ln, vl) (nI sk) = ((N, K, b, z, le, inc rf 1, hd, ln, vl), (-3)) := by simp (decide := true) [x_judge, rfS, upS_id, q0, q1, nI_clamp (show sk < 2 ^ 31 by omega), listS]
    exact Go.iret X E dX3_judge_15 ⟨by rw [e9], _, by rw [e9]⟩ rfl
  · --
    refine Go.top (w := .int (nI 0)) (by rw [q9]) ?_
    refine Go.istore_n_new X dX3_judge_5 (by decide) rfl ?_
    refine Go.iload_n X 0 dX3_judge_6 rfl ?_
    refine Go.if_eq X 16 dX3_judge_7 (by decide) (fun _ => ?_) (fun h => absurd (by decide) h)
    refine Go.iconst X (nI 0) dX3_judge_16 k_ic_0 ?_
    refine Go.istore_n_new X dX3_judge_17 (by decide) rfl ?_
    have L18 : ∀ (f18 : Nat) (k : Nat) (hk : k ≤ sN N) (hq : ∀ j, j < k → decide (wrg N (vl sk) j ≠ 0) = false) (hf18 : sN N - k < f18), Go Γ g 4 (rmC 7 155) 0 0 (bxW g ad (N, K, b, z, le, rf, hd, ln, vl) (T, ts, te, tk, br)) 18 [(3, .int (nI k)), (2, .int (nI 0)), (0, .ref (ad 0)), (1, .int (nI sk))] [] := by
      intro f18
      induction f18 with
      | zero => intro k hk hq hf18; exact absurd hf18 (Nat.not_lt_zero _)
      | succ f18 ih18 =>
        intro k hk hq hf18
        refine Go.iload_n X 0 dX3_judge_18 rfl ?_
        refine Go.aload_n X 2 dX3_judge_19 rfl ?_
        refine Go.get X f_X3_judge_10 0 (v := .ref (ad 1)) rfl rfl dX3_judge_20 ?_
        refine Go.get X f_X3_judge_117 1 (v := .int (nI (sN N))) rfl rfl dX3_judge_23 ?_
        refine Go.icmp_geN X 46 dX3_judge_26 (by decide) (by first | omega | (split <;> omega)) (by first | omega | (split <;> omega)) (fun h26 => ?_) (fun h26 => ?_)
        · --
          refine Go.iconst X ((-1 : Int32)) dX3_judge_46 k_ic_m1 ?_
          have e9 : x_judge (N, K, b, z, le, rf, hd, ln, vl) (nI sk) = ((N, K, b, z, le, rf, hd, ln, vl), (-1)) := by simp only [x_judge, listS, q0, q1, q2, q3, if_true, if_false, nI_clamp (show sk < 2 ^ 31 by omega)]; show ((N, K, b, z, le, rf, hd, ln, vl), fP (fun m => decide (wrg N (vl sk) m ≠ 0)) (sN N)) = _; rw [fP_no (fun j hj => hq j (by omega))]
          exact Go.iret X E dX3_judge_47 ⟨by rw [e9], _, by rw [e9]⟩ rfl
        · --
          refine Go.aload_n X 2 dX3_judge_29 rfl ?_
          refine Go.iload_n X 3 dX3_judge_30 rfl ?_
          refine Go.iload_n X 0 dX3_judge_31 rfl ?_
          refine Go.callV0i X (c_wrong g ad N K b z le rf hd ln vl T ts te tk br sk k (by exact hN) (by first | omega | (split <;> omega)) (by first | omega | (split <;> omega))) cal_X3_wronglyTold gX3_judge_X3_wronglyTold (ci := 3) (q0 := 0) rfl rfl rfl rfl rfl dX3_judge_32 ?_
          have f32_1 := wrg_lt hN (vl sk) k
          refine Go.if_eqN X 40 dX3_judge_35 (by decide) (by first | omega | (split <;> omega)) (fun h35 => ?_) (fun h35 => ?_)
          · --
            refine Go.iinc_0 X (nI (k + 1)) dX3_judge_40 (by decide) rfl (show nI k + Int32.ofInt 1 = nI (k + 1) from nI_add _ 1) ?_
            refine Go.goto X 18 dX3_judge_43 (by decide) ?_
            exact ih18 (k + 1) (by first | omega | (split <;> omega)) (by exact fP_s (P := fun m => decide (wrg N (vl sk) m ≠ 0)) hq (by simp [h35])) (by first | omega | (split <;> omega))
          · --
            refine Go.iload_n X 0 dX3_judge_38 rfl ?_
            have e9 : x_judge (N, K, b, z, le, rf, hd, ln, vl) (nI sk) = ((N, K, b, z, le, rf, hd, ln, vl), (nI k)) := by simp only [x_judge, listS, q0, q1, q2, q3, if_true, if_false, nI_clamp (show sk < 2 ^ 31 by omega)]; show ((N, K, b, z, le, rf, hd, ln, vl), fP (fun m => decide (wrg N (vl sk) m ≠ 0)) (sN N)) = _; rw [fP_at (k := k) (by omega) (decide_eq_true h35) hq h26]
            exact Go.iret X E dX3_judge_39 ⟨by rw [e9], _, by rw [e9]⟩ rfl
    exact L18 (sN N - 0 + 1) 0 (by first | omega | (split <;> omega)) (by intro j hj; omega) (Nat.lt_succ_self _)
  · --
    refine Go.top (w := .int (-2)) (by rw [q9]) ?_
    refine Go.istore_n_new X dX3_judge_5 (by decide) rfl ?_
    refine Go.iload_n X 0 dX3_judge_6 rfl ?_
    refine Go.if_eq X 16 dX3_judge_7 (by decide) (fun h => absurd h (by decide)) (fun _ => ?_)
    refine Go.aload_n X 1 dX3_judge_10 rfl ?_
    refine Go.iload_n X 0 dX3_judge_11 rfl ?_
    refine Go.callV0i X (c_refuse_0 g ad N K b z le rf hd ln vl T ts te tk br) cal_X3_refuse gX3_judge_X3_refuse (ci := 3) (q0 := 0) rfl rfl rfl rfl rfl dX3_judge_12 ?_
    have e9 : x_judge (N, K, b, z, le, rf, hd, ln, vl) (nI sk) = ((N, K, b, z, le, inc rf 0, hd, ln, vl), (-2)) := by simp (decide := true) [x_judge, rfS, upS_id, q0, q1, q2, q3, nI_clamp (show sk < 2 ^ 31 by omega), listS]
    exact Go.iret X E dX3_judge_15 ⟨by rw [e9], _, by rw [e9]⟩ rfl
  · --
    refine Go.top (w := .int (-4)) (by rw [q9]) ?_
    refine Go.istore_n_new X dX3_judge_5 (by decide) rfl ?_
    refine Go.iload_n X 0 dX3_judge_6 rfl ?_
    refine Go.if_eq X 16 dX3_judge_7 (by decide) (fun h => absurd h (by decide)) (fun _ => ?_)
    refine Go.aload_n X 1 dX3_judge_10 rfl ?_
    refine Go.iload_n X 0 dX3_judge_11 rfl ?_
    refine Go.callV0i X (c_refuse_2 g ad N K b z le rf hd ln vl T ts te tk br) cal_X3_refuse gX3_judge_X3_refuse (ci := 3) (q0 := 0) rfl rfl rfl rfl rfl dX3_judge_12 ?_
    have e9 : x_judge (N, K, b, z, le, rf, hd, ln, vl) (nI sk) = ((N, K, b, z, le, inc rf 2, hd, ln, vl), (-4)) := by simp (decide := true) [x_judge, rfS, upS_id, q0, q1, q2, nI_clamp (show sk < 2 ^ 31 by omega), listS]
    exact Go.iret X E dX3_judge_15 ⟨by rw [e9], _, by rw [e9]⟩ rfl
set_option maxHeartbeats 4000000 in
set_option maxRecDepth 100000 in
theorem b_unlike (g : gT) (ad : Nat → Nat) (N : Sch) (K : Sch) (b : Bool) (z : Nat) (le : Nat → Nat) (rf : Nat → Int32) (hd : Nat → Int32) (ln : Nat → Nat) (vl : Nat → Nat → Int64) (T : Sch) (ts : Nat) (te : Nat) (tk : Nat) (br : Nat → Nat) (s : Int32) (hN : sOk N) (hl : ∀ s, s < 8 → ln s ≤ 40) : Ct g yX3_unlike wsX3_unlike 7 155 [.ref (ad 0), .int s] (bxW g ad (N, K, b, z, le, rf, hd, ln, vl) (T, ts, te, tk, br)) (fun v9 w9 => v9 = (some (.int (x_unlike (N, K, b, z, le, rf, hd, ln, vl) s).2)) ∧ ∃ J9, w9 = bxW g ad (x_unlike (N, K, b, z, le, rf, hd, ln, vl) s).1 J9) := by
  refine Ct.start (cc := cX3_unlike) (nL := 5) (ret := (some .int)) (own := RX3) (by decide) rfl rfl rfl ?_
  intro Γ X E
  show Go Γ g 5 (rmC 7 155) 0 0 (bxW g ad (N, K, b, z, le, rf, hd, ln, vl) (T, ts, te, tk, br)) 0 [(0, .ref (ad 0)), (1, .int s)] []
  obtain ⟨o1, o2, o3, o4, o5, o6, o7, o8⟩ := id hN
  have o9 := p2_9 o2
  have o10 := sA_512 hN
  refine Go.aload_n X 0 dX3_unlike_0 rfl ?_
  refine Go.iload_n X 1 dX3_unlike_1 rfl ?_
  refine Go.callV0i X (c_listRefusal g ad N K b z le rf hd ln vl T ts te tk br s (by exact hN) (by exact hl)) cal_X3_listRefusal gX3_unlike_X3_listRefusal (ci := 3) (q0 := 0) rfl rfl rfl rfl rfl dX3_unlike_2 ?_
  rcases lr_c N hd ln s with ⟨q1, q9⟩ | ⟨sk, hsk, rfl, q0, q1, q9⟩ | ⟨sk, hsk, rfl, q0, q1, q2, q3, q9⟩ | ⟨sk, hsk, rfl, q0, q1, q2, q3, q9⟩ | ⟨sk, hsk, rfl, q0, q1, q2, q9⟩
  · --
    refine Go.top (w := .int (-2)) (by rw [q9]) ?_
    refine Go.istore_n_new X dX3_unlike_5 (by decide) rfl ?_
    refine Go.iload_n X 0 dX3_unlike_6 rfl ?_
    refine Go.if_eq X 16 dX3_unlike_7 (by decide) (fun h => absurd h (by decide)) (fun _ => ?_)
    refine Go.aload_n X 1 dX3_unlike_10 rfl ?_
    refine Go.iload_n X 0 dX3_unlike_11 rfl ?_
    refine Go.callV0i X (c_refuse_0 g ad N K b z le rf hd ln vl T ts te tk br) cal_X3_refuse gX3_unlike_X3_refuse (ci := 3) (q0 := 0) rfl rfl rfl rfl rfl dX3_unlike_12 ?_
    have e9 : x_unlike (N, K, b, z, le, rf, hd, ln, vl) s = ((N, K, b, z, le, inc rf 0, hd, ln, vl), (-2)) := by simp (decide := true) [x_unlike, rfS, upS_id, q1, listS]
    exact Go.iret X E dX3_unlike_15 ⟨by rw [e9], _, by rw [e9]⟩ rfl
  · --
    refine Go.top (w := .int (-3)) (by rw [q9]) ?_
    refine Go.istore_n_new X dX3_unlike_5 (by decide) rfl ?_
    refine Go.iload_n X 0 dX3_unlike_6 rfl ?_
    refine Go.if_eq X 16 dX3_unlike_7 (by decide) (fun h => absurd h (by decide)) (fun _ => ?_)
    refine Go.aload_n X 1 dX3_unlike_10 rfl ?_
    refine Go.iload_n X 0 dX3_unlike_11 rfl ?_
    refine Go.callV0i X (c_refuse_1 g ad N K b z le rf hd ln vl T ts te tk br) cal_X3_refuse gX3_unlike_X3_refuse (ci := 3) (q0 := 0) rfl rfl rfl rfl rfl dX3_unlike_12 ?_
    have e9 : x_unlike (N, K, b, z, le, rf, hd, ln, vl) (nI sk) = ((N, K, b, z, le, inc rf 1, hd, ln, vl), (-3)) := by simp (decide := true) [x_unlike, rfS, upS_id, q0, q1, nI_clamp (show sk < 2 ^ 31 by omega), listS]
    exact Go.iret X E dX3_unlike_15 ⟨by rw [e9], _, by rw [e9]⟩ rfl
  · --
    refine Go.top (w := .int (nI 0)) (by rw [q9]) ?_
    refine Go.istore_n_new X dX3_unlike_5 (by decide) rfl ?_
    refine Go.iload_n X 0 dX3_unlike_6 rfl ?_
    refine Go.if_eq X 16 dX3_unlike_7 (by decide) (fun _ => ?_) (fun h => absurd (by decide) h)
    refine Go.iconst X (nI 0) dX3_unlike_16 k_ic_0 ?_
    refine Go.istore_n_new X dX3_unlike_17 (by decide) rfl ?_
    refine Go.iconst X (nI 0) dX3_unlike_18 k_ic_0 ?_
    refine Go.istore_new X dX3_unlike_19 (by decide) rfl ?_
    have L21 : ∀ (f21 : Nat) (k : Nat) (hk : k ≤ sN N) (hf21 : sN N - k < f21), Go Γ g 5 (rmC 7 155) 0 0 (bxW g ad (N, K, b, z, le, rf, hd, ln, vl) (T, ts, te, tk, br)) 21 [(4, .int (nI k)), (3, .int (nI (unS N (vl sk) k))), (2, .int (nI 0)), (0, .ref (ad 0)), (1, .int (nI sk))] [] := by
      intro f21
      induction f21 with
      | zero => intro k hk hf21; exact absurd hf21 (Nat.not_lt_zero _)
      | succ f21 ih21 =>
        intro k hk hf21
        refine Go.iload X 0 dX3_unlike_21 rfl ?_
        refine Go.aload_n X 3 dX3_unlike_23 rfl ?_
        refine Go.get X f_X3_unlike_10 0 (v := .ref (ad 1)) rfl rfl dX3_unlike_24 ?_
        refine Go.get X f_X3_unlike_117 1 (v := .int (nI (sN N))) rfl rfl dX3_unlike_27 ?_
        refine Go.icmp_geN X 52 dX3_unlike_30 (by decide) (by first | omega | (split <;> omega)) (by first | omega | (split <;> omega)) (fun h30 => ?_) (fun h30 => ?_)
        · --
          refine Go.lv_1 (w := .int (nI (unS N (vl sk) (sN N)))) (by rw [show k = sN N by omega]) ?_
          refine Go.iload_n X 1 dX3_unlike_52 rfl ?_
          have e9 : x_unlike (N, K, b, z, le, rf, hd, ln, vl) (nI sk) = ((N, K, b, z, le, rf, hd, ln, vl), (nI (unS N (vl sk) (sN N)))) := by simp (decide := true) [x_unlike, rfS, upS_id, q0, q1, q2, q3, h30, Nat.not_lt.mpr h30, nI_clamp (show sk < 2 ^ 31 by omega), listS]
          exact Go.iret X E dX3_unlike_53 ⟨by rw [e9], _, by rw [e9]⟩ rfl
        · --
          refine Go.iload_n X 1 dX3_unlike_33 rfl ?_
          refine Go.aload_n X 3 dX3_unlike_34 rfl ?_
          refine Go.iload_n X 4 dX3_unlike_35 rfl ?_
          refine Go.iload X 0 dX3_unlike_36 rfl ?_
          refine Go.callV0i X (c_wrong g ad N K b z le rf hd ln vl T ts te tk br sk k (by exact hN) (by first | omega | (split <;> omega)) (by first | omega | (split <;> omega))) cal_X3_wronglyTold gX3_unlike_X3_wronglyTold (ci := 3) (q0 := 0) rfl rfl rfl rfl rfl dX3_unlike_38 ?_
          have f38_1 := wrg_lt hN (vl sk) k
          refine Go.callSi X  (c_bitCount g (wrg N (vl sk) k) (by first | omega | (split <;> omega))) cal_J6_bitCount_0f7a4 [] rfl rfl gX3_unlike_J6_bitCount_0f7a4 rfl rfl rfl dX3_unlike_41 ?_
          refine Go.iadd_e X (nI (unS N (vl sk) k + bcn (wrg N (vl sk) k))) dX3_unlike_44 (nI_add _ _) ?_
          refine Go.istore_n_1 X dX3_unlike_45 (by decide) rfl ?_
          refine Go.iinc_0 X (nI (k + 1)) dX3_unlike_46 (by decide) rfl (show nI k + Int32.ofInt 1 = nI (k + 1) from nI_add _ 1) ?_
          refine Go.goto X 21 dX3_unlike_49 (by decide) ?_
          refine Go.lv_1 (congrArg (fun z => Value.int (nI z)) (show unS N (vl sk) k + bcn (wrg N (vl sk) k) = unS N (vl sk) (k + 1) from by rfl)) ?_
          exact ih21 (k + 1) (by first | omega | (split <;> omega)) (by first | omega | (split <;> omega))
    refine Go.lv_1 (congrArg (fun z => Value.int (nI z)) (show 0 = unS N (vl sk) 0 from by rfl)) ?_
    exact L21 (sN N - 0 + 1) 0 (by first | omega | (split <;> omega)) (Nat.lt_succ_self _)
  · --
    refine Go.top (w := .int (-2)) (by rw [q9]) ?_
    refine Go.istore_n_new X dX3_unlike_5 (by decide) rfl ?_
    refine Go.iload_n X 0 dX3_unlike_6 rfl ?_
    refine Go.if_eq X 16 dX3_unlike_7 (by decide) (fun h => absurd h (by decide)) (fun _ => ?_)
    refine Go.aload_n X 1 dX3_unlike_10 rfl ?_
    refine Go.iload_n X 0 dX3_unlike_11 rfl ?_
    refine Go.callV0i X (c_refuse_0 g ad N K b z le rf hd ln vl T ts te tk br) cal_X3_refuse gX3_unlike_X3_refuse (ci := 3) (q0 := 0) rfl rfl rfl rfl rfl dX3_unlike_12 ?_
    have e9 : x_unlike (N, K, b, z, le, rf, hd, ln, vl) (nI sk) = ((N, K, b, z, le, inc rf 0, hd, ln, vl), (-2)) := by simp (decide := true) [x_unlike, rfS, upS_id, q0, q1, q2, q3, nI_clamp (show sk < 2 ^ 31 by omega), listS]
    exact Go.iret X E dX3_unlike_15 ⟨by rw [e9], _, by rw [e9]⟩ rfl
  · --
    refine Go.top (w := .int (-4)) (by rw [q9]) ?_
    refine Go.istore_n_new X dX3_unlike_5 (by decide) rfl ?_
    refine Go.iload_n X 0 dX3_unlike_6 rfl ?_
    refine Go.if_eq X 16 dX3_unlike_7 (by decide) (fun h => absurd h (by decide)) (fun _ => ?_)
    refine Go.aload_n X 1 dX3_unlike_10 rfl ?_
    refine Go.iload_n X 0 dX3_unlike_11 rfl ?_
    refine Go.callV0i X (c_refuse_2 g ad N K b z le rf hd ln vl T ts te tk br) cal_X3_refuse gX3_unlike_X3_refuse (ci := 3) (q0 := 0) rfl rfl rfl rfl rfl dX3_unlike_12 ?_
    have e9 : x_unlike (N, K, b, z, le, rf, hd, ln, vl) (nI sk) = ((N, K, b, z, le, inc rf 2, hd, ln, vl), (-4)) := by simp (decide := true) [x_unlike, rfS, upS_id, q0, q1, q2, nI_clamp (show sk < 2 ^ 31 by omega), listS]
    exact Go.iret X E dX3_unlike_15 ⟨by rw [e9], _, by rw [e9]⟩ rfl
set_option maxHeartbeats 4000000 in
set_option maxRecDepth 100000 in
theorem c_areWagers (g : gT) (ad : Nat → Nat) (N : Sch) (K : Sch) (b : Bool) (z : Nat) (le : Nat → Nat) (rf : Nat → Int32) (hd : Nat → Int32) (ln : Nat → Nat) (vl : Nat → Nat → Int64) (T : Sch) (ts : Nat) (te : Nat) (tk : Nat) (br : Nat → Nat) (s : Nat) (n : Nat) (hN : sOk N) (hl : ∀ s, s < 8 → ln s ≤ 40) (hs : s < 8) (hn : n ≤ 40) : Cw g yX3_areWagers wsX3_areWagers 2 42 [.ref (ad 0), .ref (ad (18 + 2 * s)), .int (nI n)] (bxW g ad (N, K, b, z, le, rf, hd, ln, vl) (T, ts, te, tk, br)) (some (.int (b2i (decide (n ≤ ln s) && allB (fun j => wagP N (vl s j)) n)))) (bxW g ad (N, K, b, z, le, rf, hd, ln, vl) (T, ts, te, tk, br)) := by
  refine Ct.start (cc := cX3_areWagers) (nL := 6) (ret := (some .boolean)) (own := RX3) (by decide) rfl rfl rfl ?_
  intro Γ X E
  show Go Γ g 6 (rmC 2 42) 0 0 (bxW g ad (N, K, b, z, le, rf, hd, ln, vl) (T, ts, te, tk, br)) 0 [(0, .ref (ad 0)), (1, .ref (ad (18 + 2 * s))), (2, .int (nI n))] []
  obtain ⟨o1, o2, o3, o4, o5, o6, o7, o8⟩ := id hN
  have o9 := p2_9 o2
  have o10 := sA_512 hN
  refine Go.aload_n X 1 dX3_areWagers_0 rfl ?_
  refine Go.iconst X (nI 0) dX3_areWagers_1 k_ic_0 ?_
  refine Go.iload_n X 2 dX3_areWagers_2 rfl ?_
  have hlk := hl s hs
  refine Go.callVi X  (c_hasElements g (ad (18 + 2 * s)) (ad (19 + 2 * s)) (hd s) (ln s) (vl s) (nI 0) (nI n) (by first | omega | (split <;> omega))) cal_X1_hasElements [(18 + 2 * s), (19 + 2 * s)] (bx_pos g ad _ _ (by first | omega | (split <;> omega))) (bx_nd (by first | omega | (split <;> omega))) gX3_areWagers_X1_hasElements (ci := 1) (q0 := (18 + 2 * s)) rfl (bx_sh g ad _ _ (by first | omega | (split <;> omega))) rfl rfl rfl dX3_areWagers_3 ?_
  refine Go.top (w := .int (b2i (decide (n ≤ ln s)))) (by rw [hasR_N (by omega) hlk]) ?_
  refine Go.if_neB X 11 dX3_areWagers_6 (by decide) (fun h6 => ?_) (fun h6 => ?_)
  · --
    refine Go.iconst X (nI 0) dX3_areWagers_11 k_ic_0 ?_
    refine Go.istore_n_new X dX3_areWagers_12 (by decide) rfl ?_
    have L13 : ∀ (f13 : Nat) (k : Nat) (hk : k ≤ n) (hq : ∀ j, j < k → wagP N (vl s j) = true) (hf13 : n - k < f13), Go Γ g 6 (rmC 2 42) 0 0 (bxW g ad (N, K, b, z, le, rf, hd, ln, vl) (T, ts, te, tk, br)) 13 [(3, .int (nI k)), (0, .ref (ad 0)), (1, .ref (ad (18 + 2 * s))), (2, .int (nI n))] [] := by
      intro f13
      induction f13 with
      | zero => intro k hk hq hf13; exact absurd hf13 (Nat.not_lt_zero _)
      | succ f13 ih13 =>
        intro k hk hq hf13
        refine Go.iload_n X 0 dX3_areWagers_13 rfl ?_
        refine Go.iload_n X 3 dX3_areWagers_14 rfl ?_
        refine Go.icmp_geN X 72 dX3_areWagers_15 (by decide) (by first | omega | (split <;> omega)) (by first | omega | (split <;> omega)) (fun h15 => ?_) (fun h15 => ?_)
        · --
          refine Go.iconst X (nI 1) dX3_areWagers_72 k_ic_1 ?_
          exact Go.nret X E rfl dX3_areWagers_73 ⟨rv (b2i_t (by rw [h6, allB_t (fun j hj => hq j (by omega))]; rfl)), rfl⟩ rfl
        · --
          refine Go.aload_n X 2 dX3_areWagers_18 rfl ?_
          refine Go.get X f_X3_areWagers_84 (18 + 2 * s) (v := .ref (ad (19 + 2 * s))) (bx_sh g ad _ _ (by first | omega | (split <;> omega))) rfl dX3_areWagers_19 ?_
          refine Go.iload_n X 0 dX3_areWagers_22 rfl ?_
          refine Go.laldF X (19 + 2 * s) (f := vl s) (bx_va g ad _ _ (by first | omega | (split <;> omega))) (by first | omega | (split <;> omega)) rfl dX3_areWagers_23 ?_
          refine Go.lstore_new X dX3_areWagers_24 (by decide) rfl ?_
          refine Go.lload X 0 dX3_areWagers_26 rfl ?_
          refine Go.lconst X (0) dX3_areWagers_28 rfl ?_
          refine Go.lcmp X dX3_areWagers_29 ?_
          refine Go.if_lt X 64 dX3_areWagers_30 (by decide) (fun h30 => ?_) (fun h30 => ?_)
          · --
            refine Go.iconst X (nI 0) dX3_areWagers_64 k_ic_0 ?_
            exact Go.nret X E rfl dX3_areWagers_65 ⟨rv (b2i_f (by rw [h6, allB_f (P := fun j => wagP N (vl s j)) h15 (wag_n1 h30)]; rfl)), rfl⟩ rfl
          · --
            refine Go.lload X 0 dX3_areWagers_33 rfl ?_
            refine Go.ldc2 X (100) dX3_areWagers_35 (List.mem_of_getElem? (i := 2) (by decide +kernel)) ?_
            refine Go.ldiv X (((vl s) k) / (100)) dX3_areWagers_38 (by decide) rfl ?_
            refine Go.aload_n X 2 dX3_areWagers_39 rfl ?_
            refine Go.get X f_X3_areWagers_10 0 (v := .ref (ad 1)) rfl rfl dX3_areWagers_40 ?_
            refine Go.get X f_X3_areWagers_117 1 (v := .int (nI (sN N))) rfl rfl dX3_areWagers_43 ?_
            refine Go.i2l X (((nI (sN N)) : Int32).toInt64) dX3_areWagers_46 rfl ?_
            refine Go.lcmp X dX3_areWagers_47 ?_
            refine Go.if_ge X 64 dX3_areWagers_48 (by decide) (fun h48 => ?_) (fun h48 => ?_)
            · --
              refine Go.iconst X (nI 0) dX3_areWagers_64 k_ic_0 ?_
              exact Go.nret X E rfl dX3_areWagers_65 ⟨rv (b2i_f (by rw [h6, allB_f (P := fun j => wagP N (vl s j)) h15 (wag_n2 h48)]; rfl)), rfl⟩ rfl
            · --
              refine Go.lload X 0 dX3_areWagers_51 rfl ?_
              refine Go.ldc2 X (100) dX3_areWagers_53 (List.mem_of_getElem? (i := 2) (by decide +kernel)) ?_
              refine Go.lrem X (((vl s) k) - ((vl s) k) / (100) * (100)) dX3_areWagers_56 (by decide) rfl ?_
              refine Go.l2i X ((((vl s) k) - ((vl s) k) / (100) * (100)).toInt32) dX3_areWagers_57 rfl ?_
              refine Go.callSi X  (c_isCoin g ((((vl s) k) - ((vl s) k) / (100) * (100)).toInt32)) cal_X3_isCoin [] rfl rfl gX3_areWagers_X3_isCoin rfl rfl rfl dX3_areWagers_58 ?_
              refine Go.if_neB X 66 dX3_areWagers_61 (by decide) (fun h61 => ?_) (fun h61 => ?_)
              · --
                refine Go.iinc_1 X (nI (k + 1)) dX3_areWagers_66 (by decide) rfl (show nI k + Int32.ofInt 1 = nI (k + 1) from nI_add _ 1) ?_
                refine Go.goto X 13 dX3_areWagers_69 (by decide) ?_
                refine Go.sub [1, 2, 3, 4] rfl ?_
                exact ih13 (k + 1) (by first | omega | (split <;> omega)) (by exact all_s (P := fun j => wagP N (vl s j)) hq (wag_y h30 h48 h61)) (by first | omega | (split <;> omega))
              · --
                refine Go.iconst X (nI 0) dX3_areWagers_64 k_ic_0 ?_
                exact Go.nret X E rfl dX3_areWagers_65 ⟨rv (b2i_f (by rw [h6, allB_f (P := fun j => wagP N (vl s j)) h15 (wag_n3 h61)]; rfl)), rfl⟩ rfl
    exact L13 (n - 0 + 1) 0 (by first | omega | (split <;> omega)) (by intro j hj; omega) (Nat.lt_succ_self _)
  · --
    refine Go.iconst X (nI 0) dX3_areWagers_9 k_ic_0 ?_
    exact Go.nret X E rfl dX3_areWagers_10 ⟨rv (b2i_f (by rw [h6]; rfl)), rfl⟩ rfl
set_option maxHeartbeats 4000000 in
set_option maxRecDepth 100000 in
theorem c_areMornings (g : gT) (ad : Nat → Nat) (N : Sch) (K : Sch) (b : Bool) (z : Nat) (le : Nat → Nat) (rf : Nat → Int32) (hd : Nat → Int32) (ln : Nat → Nat) (vl : Nat → Nat → Int64) (T : Sch) (ts : Nat) (te : Nat) (tk : Nat) (br : Nat → Nat) (s : Nat) (n : Nat) (hN : sOk N) (hl : ∀ s, s < 8 → ln s ≤ 40) (hs : s < 8) (hn : n ≤ 40) : Cw g yX3_areMornings wsX3_areMornings 1 22 [.ref (ad 0), .ref (ad (18 + 2 * s)), .int (nI n)] (bxW g ad (N, K, b, z, le, rf, hd, ln, vl) (T, ts, te, tk, br)) (some (.int (b2i (decide (n ≤ ln s) && allB (fun j => morP N (vl s j)) n)))) (bxW g ad (N, K, b, z, le, rf, hd, ln, vl) (T, ts, te, tk, br)) := by
  refine Ct.start (cc := cX3_areMornings) (nL := 4) (ret := (some .boolean)) (own := RX3) (by decide) rfl rfl rfl ?_
  intro Γ X E
  show Go Γ g 4 (rmC 1 22) 0 0 (bxW g ad (N, K, b, z, le, rf, hd, ln, vl) (T, ts, te, tk, br)) 0 [(0, .ref (ad 0)), (1, .ref (ad (18 + 2 * s))), (2, .int (nI n))] []
  obtain ⟨o1, o2, o3, o4, o5, o6, o7, o8⟩ := id hN
  have o9 := p2_9 o2
  have o10 := sA_512 hN
  refine Go.aload_n X 1 dX3_areMornings_0 rfl ?_
  refine Go.iconst X (nI 0) dX3_areMornings_1 k_ic_0 ?_
  refine Go.iload_n X 2 dX3_areMornings_2 rfl ?_
  have hlk := hl s hs
  refine Go.callVi X  (c_hasElements g (ad (18 + 2 * s)) (ad (19 + 2 * s)) (hd s) (ln s) (vl s) (nI 0) (nI n) (by first | omega | (split <;> omega))) cal_X1_hasElements [(18 + 2 * s), (19 + 2 * s)] (bx_pos g ad _ _ (by first | omega | (split <;> omega))) (bx_nd (by first | omega | (split <;> omega))) gX3_areMornings_X1_hasElements (ci := 1) (q0 := (18 + 2 * s)) rfl (bx_sh g ad _ _ (by first | omega | (split <;> omega))) rfl rfl rfl dX3_areMornings_3 ?_
  refine Go.top (w := .int (b2i (decide (n ≤ ln s)))) (by rw [hasR_N (by omega) hlk]) ?_
  refine Go.if_neB X 11 dX3_areMornings_6 (by decide) (fun h6 => ?_) (fun h6 => ?_)
  · --
    refine Go.iconst X (nI 0) dX3_areMornings_11 k_ic_0 ?_
    refine Go.istore_n_new X dX3_areMornings_12 (by decide) rfl ?_
    have L13 : ∀ (f13 : Nat) (k : Nat) (hk : k ≤ n) (hq : ∀ j, j < k → morP N (vl s j) = true) (hf13 : n - k < f13), Go Γ g 4 (rmC 1 22) 0 0 (bxW g ad (N, K, b, z, le, rf, hd, ln, vl) (T, ts, te, tk, br)) 13 [(3, .int (nI k)), (0, .ref (ad 0)), (1, .ref (ad (18 + 2 * s))), (2, .int (nI n))] [] := by
      intro f13
      induction f13 with
      | zero => intro k hk hq hf13; exact absurd hf13 (Nat.not_lt_zero _)
      | succ f13 ih13 =>
        intro k hk hq hf13
        refine Go.iload_n X 0 dX3_areMornings_13 rfl ?_
        refine Go.iload_n X 3 dX3_areMornings_14 rfl ?_
        refine Go.icmp_geN X 55 dX3_areMornings_15 (by decide) (by first | omega | (split <;> omega)) (by first | omega | (split <;> omega)) (fun h15 => ?_) (fun h15 => ?_)
        · --
          refine Go.iconst X (nI 1) dX3_areMornings_55 k_ic_1 ?_
          exact Go.nret X E rfl dX3_areMornings_56 ⟨rv (b2i_t (by rw [h6, allB_t (fun j hj => hq j (by omega))]; rfl)), rfl⟩ rfl
        · --
          refine Go.aload_n X 2 dX3_areMornings_18 rfl ?_
          refine Go.get X f_X3_areMornings_84 (18 + 2 * s) (v := .ref (ad (19 + 2 * s))) (bx_sh g ad _ _ (by first | omega | (split <;> omega))) rfl dX3_areMornings_19 ?_
          refine Go.iload_n X 0 dX3_areMornings_22 rfl ?_
          refine Go.laldF X (19 + 2 * s) (f := vl s) (bx_va g ad _ _ (by first | omega | (split <;> omega))) (by first | omega | (split <;> omega)) rfl dX3_areMornings_23 ?_
          refine Go.lconst X (0) dX3_areMornings_24 rfl ?_
          refine Go.lcmp X dX3_areMornings_25 ?_
          refine Go.if_lt X 47 dX3_areMornings_26 (by decide) (fun h26 => ?_) (fun h26 => ?_)
          · --
            refine Go.iconst X (nI 0) dX3_areMornings_47 k_ic_0 ?_
            exact Go.nret X E rfl dX3_areMornings_48 ⟨rv (b2i_f (by rw [h6, allB_f (P := fun j => morP N (vl s j)) h15 (mor_n1 h26)]; rfl)), rfl⟩ rfl
          · --
            refine Go.aload_n X 2 dX3_areMornings_29 rfl ?_
            refine Go.get X f_X3_areMornings_84 (18 + 2 * s) (v := .ref (ad (19 + 2 * s))) (bx_sh g ad _ _ (by first | omega | (split <;> omega))) rfl dX3_areMornings_30 ?_
            refine Go.iload_n X 0 dX3_areMornings_33 rfl ?_
            refine Go.laldF X (19 + 2 * s) (f := vl s) (bx_va g ad _ _ (by first | omega | (split <;> omega))) (by first | omega | (split <;> omega)) rfl dX3_areMornings_34 ?_
            refine Go.aload_n X 1 dX3_areMornings_35 rfl ?_
            refine Go.get X f_X3_areMornings_10 0 (v := .ref (ad 1)) rfl rfl dX3_areMornings_36 ?_
            refine Go.get X f_X3_areMornings_117 1 (v := .int (nI (sN N))) rfl rfl dX3_areMornings_39 ?_
            refine Go.i2l X (((nI (sN N)) : Int32).toInt64) dX3_areMornings_42 rfl ?_
            refine Go.lcmp X dX3_areMornings_43 ?_
            refine Go.if_lt X 49 dX3_areMornings_44 (by decide) (fun h44 => ?_) (fun h44 => ?_)
            · --
              refine Go.iinc_0 X (nI (k + 1)) dX3_areMornings_49 (by decide) rfl (show nI k + Int32.ofInt 1 = nI (k + 1) from nI_add _ 1) ?_
              refine Go.goto X 13 dX3_areMornings_52 (by decide) ?_
              exact ih13 (k + 1) (by first | omega | (split <;> omega)) (by exact all_s (P := fun j => morP N (vl s j)) hq (mor_y h26 h44)) (by first | omega | (split <;> omega))
            · --
              refine Go.iconst X (nI 0) dX3_areMornings_47 k_ic_0 ?_
              exact Go.nret X E rfl dX3_areMornings_48 ⟨rv (b2i_f (by rw [h6, allB_f (P := fun j => morP N (vl s j)) h15 (mor_n2 h44)]; rfl)), rfl⟩ rfl
    exact L13 (n - 0 + 1) 0 (by first | omega | (split <;> omega)) (by intro j hj; omega) (Nat.lt_succ_self _)
  · --
    refine Go.iconst X (nI 0) dX3_areMornings_9 k_ic_0 ?_
    exact Go.nret X E rfl dX3_areMornings_10 ⟨rv (b2i_f (by rw [h6]; rfl)), rfl⟩ rfl
set_option maxHeartbeats 4000000 in
set_option maxRecDepth 100000 in
theorem c_fits (g : gT) (ad : Nat → Nat) (N : Sch) (K : Sch) (b : Bool) (z : Nat) (le : Nat → Nat) (rf : Nat → Int32) (hd : Nat → Int32) (ln : Nat → Nat) (vl : Nat → Nat → Int64) (T : Sch) (ts : Nat) (te : Nat) (tk : Nat) (br : Nat → Nat) (s : Nat) (n : Nat) (c : Nat) (k : Nat) (hN : sOk N) (hs : s < 8) (hn : n ≤ 40) (hc : c < 9) (hk : k < 9) : Cw g yX3_fits wsX3_fits 1 23 [.ref (ad 0), .ref (ad (18 + 2 * s)), .int (nI n), .int (nI c), .int (nI k)] (bxW g ad (N, K, b, z, le, rf, hd, ln, vl) (T, ts, te, tk, br)) (some (.int (b2i (allB (fitP N (vl s) c k) n)))) (bxW g ad (N, K, b, z, le, rf, hd, ln, vl) (T, ts, te, tk, br)) := by
  refine Ct.start (cc := cX3_fits) (nL := 6) (ret := (some .boolean)) (own := RX3) (by decide) rfl rfl rfl ?_
  intro Γ X E
  show Go Γ g 6 (rmC 1 23) 0 0 (bxW g ad (N, K, b, z, le, rf, hd, ln, vl) (T, ts, te, tk, br)) 0 [(0, .ref (ad 0)), (1, .ref (ad (18 + 2 * s))), (2, .int (nI n)), (3, .int (nI c)), (4, .int (nI k))] []
  obtain ⟨o1, o2, o3, o4, o5, o6, o7, o8⟩ := id hN
  have o9 := p2_9 o2
  have o10 := sA_512 hN
  refine Go.iconst X (nI 0) dX3_fits_0 k_ic_0 ?_
  refine Go.istore_new X dX3_fits_1 (by decide) rfl ?_
  have L3 : ∀ (f3 : Nat) (j : Nat) (hj : j ≤ n) (hq : ∀ i, i < j → fitP N (vl s) c k i = true) (hf3 : n - j < f3), Go Γ g 6 (rmC 1 23) 0 0 (bxW g ad (N, K, b, z, le, rf, hd, ln, vl) (T, ts, te, tk, br)) 3 [(5, .int (nI j)), (0, .ref (ad 0)), (1, .ref (ad (18 + 2 * s))), (2, .int (nI n)), (3, .int (nI c)), (4, .int (nI k))] [] := by
    intro f3
    induction f3 with
    | zero => intro j hj hq hf3; exact absurd hf3 (Nat.not_lt_zero _)
    | succ f3 ih3 =>
      intro j hj hq hf3
      refine Go.iload X 0 dX3_fits_3 rfl ?_
      refine Go.iload_n X 3 dX3_fits_5 rfl ?_
      refine Go.icmp_geN X 41 dX3_fits_6 (by decide) (by first | omega | (split <;> omega)) (by first | omega | (split <;> omega)) (fun h6 => ?_) (fun h6 => ?_)
      · --
        refine Go.iconst X (nI 1) dX3_fits_41 k_ic_1 ?_
        exact Go.nret X E rfl dX3_fits_42 ⟨rv (b2i_t (by rw [allB_t (fun i hi => hq i (by omega))])), rfl⟩ rfl
      · --
        refine Go.aload_n X 2 dX3_fits_9 rfl ?_
        refine Go.get X f_X3_fits_84 (18 + 2 * s) (v := .ref (ad (19 + 2 * s))) (bx_sh g ad _ _ (by first | omega | (split <;> omega))) rfl dX3_fits_10 ?_
        refine Go.iload X 0 dX3_fits_13 rfl ?_
        refine Go.laldF X (19 + 2 * s) (f := vl s) (bx_va g ad _ _ (by first | omega | (split <;> omega))) (by first | omega | (split <;> omega)) rfl dX3_fits_15 ?_
        refine Go.aload_n X 1 dX3_fits_16 rfl ?_
        refine Go.get X f_X3_fits_10 0 (v := .ref (ad 1)) rfl rfl dX3_fits_17 ?_
        refine Go.iload_n X 4 dX3_fits_20 rfl ?_
        refine Go.iload X 5 dX3_fits_21 rfl ?_
        refine Go.iload X 0 dX3_fits_23 rfl ?_
        have o11 : k * j ≤ 9 * 40 := Nat.mul_le_mul (by omega) (by omega)
        refine Go.callVi X  (c_morningByRule g (ad 1) (ad 2) (ad 3) (ad 4) N c k j (by exact hN) (by first | omega | (split <;> omega))) cal_X0_morningByRule [1, 2, 3, 4] rfl rfl gX3_fits_X0_morningByRule (ci := 0) (q0 := 1) rfl rfl rfl rfl rfl dX3_fits_25 ?_
        have f25_1 := Nat.mod_lt (c + k * j) (show 0 < sN N from hN.1)
        refine Go.i2l X (((nI ((c + k * j) % (sN N))) : Int32).toInt64) dX3_fits_28 rfl ?_
        refine Go.lcmp X dX3_fits_29 ?_
        refine Go.if_eq X 35 dX3_fits_30 (by decide) (fun h30 => ?_) (fun h30 => ?_)
        · --
          refine Go.iinc_0 X (nI (j + 1)) dX3_fits_35 (by decide) rfl (show nI j + Int32.ofInt 1 = nI (j + 1) from nI_add _ 1) ?_
          refine Go.goto X 3 dX3_fits_38 (by decide) ?_
          exact ih3 (j + 1) (by first | omega | (split <;> omega)) (by exact all_s (P := fitP N (vl s) c k) hq (decide_eq_true (lc_e h30))) (by first | omega | (split <;> omega))
        · --
          refine Go.iconst X (nI 0) dX3_fits_33 k_ic_0 ?_
          exact Go.nret X E rfl dX3_fits_34 ⟨rv (b2i_f (by rw [allB_f h6 (decide_eq_false (lc_n h30))])), rfl⟩ rfl
  exact L3 (n - 0 + 1) 0 (by first | omega | (split <;> omega)) (by intro i hi; omega) (Nat.lt_succ_self _)
set_option maxHeartbeats 4000000 in
set_option maxRecDepth 100000 in
theorem b_rules (g : gT) (ad : Nat → Nat) (N : Sch) (K : Sch) (b : Bool) (z : Nat) (le : Nat → Nat) (rf : Nat → Int32) (hd : Nat → Int32) (ln : Nat → Nat) (vl : Nat → Nat → Int64) (T : Sch) (ts : Nat) (te : Nat) (tk : Nat) (br : Nat → Nat) (s : Int32) (n : Int32) (w : Int32) (hN : sOk N) (hl : ∀ s, s < 8 → ln s ≤ 40) : Ct g yX3_rules wsX3_rules 3 63 [.ref (ad 0), .int s, .int n, .int w] (bxW g ad (N, K, b, z, le, rf, hd, ln, vl) (T, ts, te, tk, br)) (fun v9 w9 => v9 = (some (.int (x_rules (N, K, b, z, le, rf, hd, ln, vl) s n w).2)) ∧ ∃ J9, w9 = bxW g ad (x_rules (N, K, b, z, le, rf, hd, ln, vl) s n w).1 J9) := by
  refine Ct.start (cc := cX3_rules) (nL := 9) (ret := (some .int)) (own := RX3) (by decide) rfl rfl rfl ?_
  intro Γ X E
  show Go Γ g 9 (rmC 3 63) 0 0 (bxW g ad (N, K, b, z, le, rf, hd, ln, vl) (T, ts, te, tk, br)) 0 [(0, .ref (ad 0)), (1, .int s), (2, .int n), (3, .int w)] []
  obtain ⟨o1, o2, o3, o4, o5, o6, o7, o8⟩ := id hN
  have o9 := p2_9 o2
  have o10 := sA_512 hN
  refine Go.iload_n X 2 dX3_rules_0 rfl ?_
  refine Go.iconst X (nI 1) dX3_rules_1 k_ic_1 ?_
  refine Go.bipush X (nI 40) dX3_rules_2 k_bp_40 ?_
  refine Go.callSi X  (c_isWithin g n (nI 1) (nI 40)) cal_X3_isWithin [] rfl rfl gX3_rules_X3_isWithin rfl rfl rfl dX3_rules_4 ?_
  refine Go.if_eqB X 19 dX3_rules_7 (by decide) (fun h7 => ?_) (fun h7 => ?_)
  · --
    refine Go.aload_n X 0 dX3_rules_19 rfl ?_
    refine Go.bipush X ((-2 : Int32)) dX3_rules_20 k_bp_m2 ?_
    refine Go.callV0i X (c_refuse_0 g ad N K b z le rf hd ln vl T ts te tk br) cal_X3_refuse gX3_rules_X3_refuse (ci := 3) (q0 := 0) rfl rfl rfl rfl rfl dX3_rules_22 ?_
    have e9 : x_rules (N, K, b, z, le, rf, hd, ln, vl) s n w = ((N, K, b, z, le, inc rf 0, hd, ln, vl), (-2)) := by simp (decide := true) [x_rules, rfS, upS_id, h7]
    exact Go.iret X E dX3_rules_25 ⟨by rw [e9], _, by rw [e9]⟩ rfl
  · --
    obtain ⟨nk, hnk, rfl⟩ := wi_at (by first | omega | (split <;> omega)) (by first | omega | (split <;> omega)) h7
    refine Go.iload_n X 3 dX3_rules_10 rfl ?_
    refine Go.iconst X (nI 0) dX3_rules_11 k_ic_0 ?_
    refine Go.iconst X (nI 1) dX3_rules_12 k_ic_1 ?_
    refine Go.callSi X  (c_within_1 g w) cal_X3_isWithin [] rfl rfl gX3_rules_X3_isWithin rfl rfl rfl dX3_rules_13 ?_
    refine Go.if_neB X 26 dX3_rules_16 (by decide) (fun h16 => ?_) (fun h16 => ?_)
    · --
      obtain ⟨wk, hwk, rfl⟩ := inb_at (by first | omega | (split <;> omega)) h16
      refine Go.aload_n X 0 dX3_rules_26 rfl ?_
      refine Go.iload_n X 1 dX3_rules_27 rfl ?_
      refine Go.callV0i X (c_rowRefusal g ad N K b z le rf hd ln vl T ts te tk br s) cal_X3_rowRefusal gX3_rules_X3_rowRefusal (ci := 3) (q0 := 0) rfl rfl rfl rfl rfl dX3_rules_28 ?_
      rcases rr_c hd s with ⟨q1, q9⟩ | ⟨sk, hsk, rfl, q0, q1, q9⟩ | ⟨sk, hsk, rfl, q0, q1, q2, q9⟩ | ⟨sk, hsk, rfl, q0, q1, q2, q9⟩
      · --
        refine Go.top (w := .int (-2)) (by rw [q9]) ?_
        refine Go.istore_new X dX3_rules_31 (by decide) rfl ?_
        refine Go.iload X 0 dX3_rules_33 rfl ?_
        refine Go.if_eq X 45 dX3_rules_35 (by decide) (fun h => absurd h (by decide)) (fun _ => ?_)
        refine Go.aload_n X 1 dX3_rules_38 rfl ?_
        refine Go.iload X 0 dX3_rules_39 rfl ?_
        refine Go.callV0i X (c_refuse_0 g ad N K b z le rf hd ln vl T ts te tk br) cal_X3_refuse gX3_rules_X3_refuse (ci := 3) (q0 := 0) rfl rfl rfl rfl rfl dX3_rules_41 ?_
        have e9 : x_rules (N, K, b, z, le, rf, hd, ln, vl) s (nI nk) (nI wk) = ((N, K, b, z, le, inc rf 0, hd, ln, vl), (-2)) := by simp (decide := true) [x_rules, rfS, upS_id, h7, h16, q1, nI_clamp (show nk < 2 ^ 31 by omega), nI_clamp (show wk < 2 ^ 31 by omega)]
        exact Go.iret X E dX3_rules_44 ⟨by rw [e9], _, by rw [e9]⟩ rfl
      · --
        refine Go.top (w := .int (-3)) (by rw [q9]) ?_
        refine Go.istore_new X dX3_rules_31 (by decide) rfl ?_
        refine Go.iload X 0 dX3_rules_33 rfl ?_
        refine Go.if_eq X 45 dX3_rules_35 (by decide) (fun h => absurd h (by decide)) (fun _ => ?_)
        refine Go.aload_n X 1 dX3_rules_38 rfl ?_
        refine Go.iload X 0 dX3_rules_39 rfl ?_
        refine Go.callV0i X (c_refuse_1 g ad N K b z le rf hd ln vl T ts te tk br) cal_X3_refuse gX3_rules_X3_refuse (ci := 3) (q0 := 0) rfl rfl rfl rfl rfl dX3_rules_41 ?_
        have e9 : x_rules (N, K, b, z, le, rf, hd, ln, vl) (nI sk) (nI nk) (nI wk) = ((N, K, b, z, le, inc rf 1, hd, ln, vl), (-3)) := by simp (decide := true) [x_rules, rfS, upS_id, h7, h16, q0, q1, nI_clamp (show nk < 2 ^ 31 by omega), nI_clamp (show wk < 2 ^ 31 by omega), nI_clamp (show sk < 2 ^ 31 by omega)]
        exact Go.iret X E dX3_rules_44 ⟨by rw [e9], _, by rw [e9]⟩ rfl
      · --
        refine Go.top (w := .int (nI 0)) (by rw [q9]) ?_
        refine Go.istore_new X dX3_rules_31 (by decide) rfl ?_
        refine Go.iload X 0 dX3_rules_33 rfl ?_
        refine Go.if_eq X 45 dX3_rules_35 (by decide) (fun _ => ?_) (fun h => absurd (by decide) h)
        refine Go.aload_n X 1 dX3_rules_45 rfl ?_
        refine Go.aload_n X 1 dX3_rules_46 rfl ?_
        refine Go.get X f_X3_rules_31 0 (v := .ref (ad 15)) rfl rfl dX3_rules_47 ?_
        refine Go.iload_n X 2 dX3_rules_50 rfl ?_
        refine Go.aald X 15 (x := ad (18 + 2 * sk)) rfl (vp_in_nI (by first | omega | (split <;> omega)) (by decide)) (by rw [nI_clamp (by first | omega | (split <;> omega))]) dX3_rules_51 ?_
        refine Go.iload_n X 3 dX3_rules_52 rfl ?_
        refine Go.callV0i X (c_areMornings g ad N K b z le rf hd ln vl T ts te tk br sk nk (by exact hN) (by exact hl) (by first | omega | (split <;> omega)) (by first | omega | (split <;> omega))) cal_X3_areMornings gX3_rules_X3_areMornings (ci := 3) (q0 := 0) rfl rfl rfl rfl rfl dX3_rules_53 ?_
        refine Go.if_neB X 66 dX3_rules_56 (by decide) (fun h56 => ?_) (fun h56 => ?_)
        · --
          refine Go.iconst X (nI 0) dX3_rules_66 k_ic_0 ?_
          refine Go.istore_new X dX3_rules_67 (by decide) rfl ?_
          refine Go.iconst X (nI 0) dX3_rules_69 k_ic_0 ?_
          refine Go.istore_new X dX3_rules_70 (by decide) rfl ?_
          refine Go.iconst X (nI 0) dX3_rules_72 k_ic_0 ?_
          refine Go.istore_new X dX3_rules_73 (by decide) rfl ?_
          have L75 : ∀ (f75 : Nat) (c : Nat) (hc : c ≤ sN N) (hf75 : sN N - c < f75), Go Γ g 9 (rmC 3 63) 0 0 (bxW g ad (N, K, b, z, le, rf, hd, ln, vl) (T, ts, te, tk, br)) 75 [(7, .int (nI c)), (6, .int (nI (ruY (ruP N (vl sk) nk) (sN N) nk c))), (5, .int (nI (ruT (ruP N (vl sk) nk) (sN N) c))), (4, .int (nI 0)), (0, .ref (ad 0)), (1, .int (nI sk)), (2, .int (nI nk)), (3, .int (nI wk))] [] := by
            intro f75
            induction f75 with
            | zero => intro c hc hf75; exact absurd hf75 (Nat.not_lt_zero _)
            | succ f75 ih75 =>
              intro c hc hf75
              refine Go.iload X 0 dX3_rules_75 rfl ?_
              refine Go.aload_n X 4 dX3_rules_77 rfl ?_
              refine Go.get X f_X3_rules_10 0 (v := .ref (ad 1)) rfl rfl dX3_rules_78 ?_
              refine Go.get X f_X3_rules_117 1 (v := .int (nI (sN N))) rfl rfl dX3_rules_81 ?_
              refine Go.icmp_geN X 154 dX3_rules_84 (by decide) (by first | omega | (split <;> omega)) (by first | omega | (split <;> omega)) (fun h84 => ?_) (fun h84 => ?_)
              · --
                refine Go.lv_2 (w := .int (nI (ruT (ruP N (vl sk) nk) (sN N) (sN N)))) (by rw [show c = sN N by omega]) ?_
                refine Go.lv_1 (w := .int (nI (ruY (ruP N (vl sk) nk) (sN N) nk (sN N)))) (by rw [show c = sN N by omega]) ?_
                refine Go.iload_n X 7 dX3_rules_154 rfl ?_
                refine Go.if_neN X 163 dX3_rules_155 (by decide) (by first | omega | (split <;> omega)) (fun h155 => ?_) (fun h155 => ?_)
                · --
                  refine Go.iload X 1 dX3_rules_163 rfl ?_
                  have e9 : x_rules (N, K, b, z, le, rf, hd, ln, vl) (nI sk) (nI nk) (nI wk) = ((N, K, b, z, le, rf, hd, ln, vl), (nI (ruY (ruP N (vl sk) nk) (sN N) nk (sN N)))) := by simp (decide := true) [x_rules, rfS, upS_id, h7, h16, q0, q1, q2, h56, h84, h155, Nat.not_lt.mpr h84, nI_clamp (show nk < 2 ^ 31 by omega), nI_clamp (show wk < 2 ^ 31 by omega), nI_clamp (show sk < 2 ^ 31 by omega)]
                  exact Go.iret X E dX3_rules_165 ⟨by rw [e9], _, by rw [e9]⟩ rfl
                · --
                  refine Go.iload X 2 dX3_rules_158 rfl ?_
                  refine Go.goto X 165 dX3_rules_160 (by decide) ?_
                  have e9 : x_rules (N, K, b, z, le, rf, hd, ln, vl) (nI sk) (nI nk) (nI wk) = ((N, K, b, z, le, rf, hd, ln, vl), (nI (ruT (ruP N (vl sk) nk) (sN N) (sN N)))) := by simp (decide := true) [x_rules, rfS, upS_id, h7, h16, q0, q1, q2, h56, h84, h155, Nat.not_lt.mpr h84, nI_clamp (show nk < 2 ^ 31 by omega), nI_clamp (show wk < 2 ^ 31 by omega), nI_clamp (show sk < 2 ^ 31 by omega)]
                  exact Go.iret X E dX3_rules_165 ⟨by rw [e9], _, by rw [e9]⟩ rfl
              · --
                refine Go.iconst X (nI 0) dX3_rules_87 k_ic_0 ?_
                refine Go.istore_new X dX3_rules_88 (by decide) rfl ?_
                have L90 : ∀ (f90 : Nat) (k : Nat) (hk : k ≤ sN N) (hf90 : sN N - k < f90), Go Γ g 9 (rmC 3 63) 0 0 (bxW g ad (N, K, b, z, le, rf, hd, ln, vl) (T, ts, te, tk, br)) 90 [(8, .int (nI k)), (7, .int (nI c)), (6, .int (nI (ruY (ruP N (vl sk) nk) (sN N) nk c ||| ruX (ruP N (vl sk) nk) (sN N) nk c k))), (5, .int (nI (ruT (ruP N (vl sk) nk) (sN N) c + ruC (ruP N (vl sk) nk) c k))), (4, .int (nI 0)), (0, .ref (ad 0)), (1, .int (nI sk)), (2, .int (nI nk)), (3, .int (nI wk))] [] := by
                  intro f90
                  induction f90 with
                  | zero => intro k hk hf90; exact absurd hf90 (Nat.not_lt_zero _)
                  | succ f90 ih90 =>
                    intro k hk hf90
                    refine Go.iload X 0 dX3_rules_90 rfl ?_
                    refine Go.aload_n X 5 dX3_rules_92 rfl ?_
                    refine Go.get X f_X3_rules_10 0 (v := .ref (ad 1)) rfl rfl dX3_rules_93 ?_
                    refine Go.get X f_X3_rules_117 1 (v := .int (nI (sN N))) rfl rfl dX3_rules_96 ?_
                    refine Go.icmp_geN X 148 dX3_rules_99 (by decide) (by first | omega | (split <;> omega)) (by first | omega | (split <;> omega)) (fun h99 => ?_) (fun h99 => ?_)
                    · --
                      refine Go.iinc_1 X (nI (c + 1)) dX3_rules_148 (by decide) rfl (show nI c + Int32.ofInt 1 = nI (c + 1) from nI_add _ 1) ?_
                      refine Go.goto X 75 dX3_rules_151 (by decide) ?_
                      refine Go.lv_2 (congrArg (fun z => Value.int (nI z)) (show ruY (ruP N (vl sk) nk) (sN N) nk c ||| ruX (ruP N (vl sk) nk) (sN N) nk c k = ruY (ruP N (vl sk) nk) (sN N) nk (c + 1) from by rw [show k = sN N by omega]; rfl)) ?_
                      refine Go.lv_3 (congrArg (fun z => Value.int (nI z)) (show ruT (ruP N (vl sk) nk) (sN N) c + ruC (ruP N (vl sk) nk) c k = ruT (ruP N (vl sk) nk) (sN N) (c + 1) from by rw [show k = sN N by omega]; rfl)) ?_
                      refine Go.sub [1, 2, 3, 4, 5, 6, 7, 8] rfl ?_
                      exact ih75 (c + 1) (by first | omega | (split <;> omega)) (by first | omega | (split <;> omega))
                    · --
                      refine Go.aload_n X 5 dX3_rules_102 rfl ?_
                      refine Go.aload_n X 5 dX3_rules_103 rfl ?_
                      refine Go.get X f_X3_rules_31 0 (v := .ref (ad 15)) rfl rfl dX3_rules_104 ?_
                      refine Go.iload_n X 6 dX3_rules_107 rfl ?_
                      refine Go.aald X 15 (x := ad (18 + 2 * sk)) rfl (vp_in_nI (by first | omega | (split <;> omega)) (by decide)) (by rw [nI_clamp (by first | omega | (split <;> omega))]) dX3_rules_108 ?_
                      refine Go.iload_n X 7 dX3_rules_109 rfl ?_
                      refine Go.iload X 1 dX3_rules_110 rfl ?_
                      refine Go.iload X 0 dX3_rules_112 rfl ?_
                      refine Go.callV0i X (c_fits g ad N K b z le rf hd ln vl T ts te tk br sk nk c k (by exact hN) (by first | omega | (split <;> omega)) (by first | omega | (split <;> omega)) (by first | omega | (split <;> omega)) (by first | omega | (split <;> omega))) cal_X3_fits gX3_rules_X3_fits (ci := 3) (q0 := 0) rfl rfl rfl rfl rfl dX3_rules_114 ?_
                      refine Go.if_eqB X 142 dX3_rules_117 (by decide) (fun h117 => ?_) (fun h117 => ?_)
                      · --
                        refine Go.iinc_0 X (nI (k + 1)) dX3_rules_142 (by decide) rfl (show nI k + Int32.ofInt 1 = nI (k + 1) from nI_add _ 1) ?_
                        refine Go.goto X 90 dX3_rules_145 (by decide) ?_
                        refine Go.lv_2 (congrArg (fun z => Value.int (nI z)) (show ruY (ruP N (vl sk) nk) (sN N) nk c ||| ruX (ruP N (vl sk) nk) (sN N) nk c k = ruY (ruP N (vl sk) nk) (sN N) nk c ||| ruX (ruP N (vl sk) nk) (sN N) nk c (k + 1) from by rw [show ruX (ruP N (vl sk) nk) (sN N) nk c (k + 1) = ruX (ruP N (vl sk) nk) (sN N) nk c k from by rw [ruX, if_neg (by simp [h117])]])) ?_
                        refine Go.lv_3 (congrArg (fun z => Value.int (nI z)) (show ruT (ruP N (vl sk) nk) (sN N) c + ruC (ruP N (vl sk) nk) c k = ruT (ruP N (vl sk) nk) (sN N) c + ruC (ruP N (vl sk) nk) c (k + 1) from by rw [show ruC (ruP N (vl sk) nk) c (k + 1) = ruC (ruP N (vl sk) nk) c k from by rw [ruC, if_neg (by simp [h117])]])) ?_
                        exact ih90 (k + 1) (by first | omega | (split <;> omega)) (by first | omega | (split <;> omega))
                      · --
                        refine Go.iinc_3 X (nI (ruT (ruP N (vl sk) nk) (sN N) c + ruC (ruP N (vl sk) nk) c k + 1)) dX3_rules_120 (by decide) rfl (show nI (ruT (ruP N (vl sk) nk) (sN N) c + ruC (ruP N (vl sk) nk) c k) + Int32.ofInt 1 = nI (ruT (ruP N (vl sk) nk) (sN N) c + ruC (ruP N (vl sk) nk) c k + 1) from nI_add _ 1) ?_
                        refine Go.iload X 2 dX3_rules_123 rfl ?_
                        refine Go.iconst X (nI 1) dX3_rules_125 k_ic_1 ?_
                        refine Go.aload_n X 5 dX3_rules_126 rfl ?_
                        refine Go.get X f_X3_rules_10 0 (v := .ref (ad 1)) rfl rfl dX3_rules_127 ?_
                        refine Go.iload X 1 dX3_rules_130 rfl ?_
                        refine Go.iload X 0 dX3_rules_132 rfl ?_
                        refine Go.iload_n X 7 dX3_rules_134 rfl ?_
                        have o11 : k * nk ≤ 9 * 40 := Nat.mul_le_mul (by omega) (by omega)
                        refine Go.callVi X  (c_morningByRule g (ad 1) (ad 2) (ad 3) (ad 4) N c k nk (by exact hN) (by first | omega | (split <;> omega))) cal_X0_morningByRule [1, 2, 3, 4] rfl rfl gX3_rules_X0_morningByRule (ci := 0) (q0 := 1) rfl rfl rfl rfl rfl dX3_rules_135 ?_
                        have f135_1 := Nat.mod_lt (c + k * nk) (show 0 < sN N from hN.1)
                        refine Go.ishl_e X (nI (2 ^ ((c + k * nk) % (sN N)))) dX3_rules_138 (nI_shl1 (by first | omega | (split <;> omega))) ?_
                        refine Go.ior_e X (nI ((ruY (ruP N (vl sk) nk) (sN N) nk c ||| ruX (ruP N (vl sk) nk) (sN N) nk c k) ||| (2 ^ ((c + k * nk) % (sN N))))) dX3_rules_139 (nI_or _ _) ?_
                        refine Go.istore_2 X dX3_rules_140 (by decide) rfl ?_
                        refine Go.iinc_0 X (nI (k + 1)) dX3_rules_142 (by decide) rfl (show nI k + Int32.ofInt 1 = nI (k + 1) from nI_add _ 1) ?_
                        refine Go.goto X 90 dX3_rules_145 (by decide) ?_
                        refine Go.lv_2 (congrArg (fun z => Value.int (nI z)) (show (ruY (ruP N (vl sk) nk) (sN N) nk c ||| ruX (ruP N (vl sk) nk) (sN N) nk c k) ||| (2 ^ ((c + k * nk) % (sN N))) = ruY (ruP N (vl sk) nk) (sN N) nk c ||| ruX (ruP N (vl sk) nk) (sN N) nk c (k + 1) from by rw [show ruX (ruP N (vl sk) nk) (sN N) nk c (k + 1) = ruX (ruP N (vl sk) nk) (sN N) nk c k ||| 2 ^ ((c + k * nk) % sN N) from by rw [ruX, if_pos h117], Nat.or_assoc])) ?_
                        refine Go.lv_3 (congrArg (fun z => Value.int (nI z)) (show ruT (ruP N (vl sk) nk) (sN N) c + ruC (ruP N (vl sk) nk) c k + 1 = ruT (ruP N (vl sk) nk) (sN N) c + ruC (ruP N (vl sk) nk) c (k + 1) from by rw [show ruC (ruP N (vl sk) nk) c (k + 1) = ruC (ruP N (vl sk) nk) c k + 1 from by rw [ruC, if_pos h117]]; rfl)) ?_
                        exact ih90 (k + 1) (by first | omega | (split <;> omega)) (by first | omega | (split <;> omega))
                refine Go.lv_2 (congrArg (fun z => Value.int (nI z)) (show ruY (ruP N (vl sk) nk) (sN N) nk c = ruY (ruP N (vl sk) nk) (sN N) nk c ||| ruX (ruP N (vl sk) nk) (sN N) nk c 0 from by rw [ruX, Nat.or_zero])) ?_
                refine Go.lv_3 (congrArg (fun z => Value.int (nI z)) (show ruT (ruP N (vl sk) nk) (sN N) c = ruT (ruP N (vl sk) nk) (sN N) c + ruC (ruP N (vl sk) nk) c 0 from by rfl)) ?_
                exact L90 (sN N - 0 + 1) 0 (by first | omega | (split <;> omega)) (Nat.lt_succ_self _)
          refine Go.lv_1 (congrArg (fun z => Value.int (nI z)) (show 0 = ruY (ruP N (vl sk) nk) (sN N) nk 0 from by rfl)) ?_
          refine Go.lv_2 (congrArg (fun z => Value.int (nI z)) (show 0 = ruT (ruP N (vl sk) nk) (sN N) 0 from by rfl)) ?_
          exact L75 (sN N - 0 + 1) 0 (by first | omega | (split <;> omega)) (Nat.lt_succ_self _)
        · --
          refine Go.aload_n X 1 dX3_rules_59 rfl ?_
          refine Go.bipush X ((-2 : Int32)) dX3_rules_60 k_bp_m2 ?_
          refine Go.callV0i X (c_refuse_0 g ad N K b z le rf hd ln vl T ts te tk br) cal_X3_refuse gX3_rules_X3_refuse (ci := 3) (q0 := 0) rfl rfl rfl rfl rfl dX3_rules_62 ?_
          have e9 : x_rules (N, K, b, z, le, rf, hd, ln, vl) (nI sk) (nI nk) (nI wk) = ((N, K, b, z, le, inc rf 0, hd, ln, vl), (-2)) := by simp (decide := true) [x_rules, rfS, upS_id, h7, h16, q0, q1, q2, h56, nI_clamp (show nk < 2 ^ 31 by omega), nI_clamp (show wk < 2 ^ 31 by omega), nI_clamp (show sk < 2 ^ 31 by omega)]
          exact Go.iret X E dX3_rules_65 ⟨by rw [e9], _, by rw [e9]⟩ rfl
      · --
        refine Go.top (w := .int (-4)) (by rw [q9]) ?_
        refine Go.istore_new X dX3_rules_31 (by decide) rfl ?_
        refine Go.iload X 0 dX3_rules_33 rfl ?_
        refine Go.if_eq X 45 dX3_rules_35 (by decide) (fun h => absurd h (by decide)) (fun _ => ?_)
        refine Go.aload_n X 1 dX3_rules_38 rfl ?_
        refine Go.iload X 0 dX3_rules_39 rfl ?_
        refine Go.callV0i X (c_refuse_2 g ad N K b z le rf hd ln vl T ts te tk br) cal_X3_refuse gX3_rules_X3_refuse (ci := 3) (q0 := 0) rfl rfl rfl rfl rfl dX3_rules_41 ?_
        have e9 : x_rules (N, K, b, z, le, rf, hd, ln, vl) (nI sk) (nI nk) (nI wk) = ((N, K, b, z, le, inc rf 2, hd, ln, vl), (-4)) := by simp (decide := true) [x_rules, rfS, upS_id, h7, h16, q0, q1, q2, nI_clamp (show nk < 2 ^ 31 by omega), nI_clamp (show wk < 2 ^ 31 by omega), nI_clamp (show sk < 2 ^ 31 by omega)]
        exact Go.iret X E dX3_rules_44 ⟨by rw [e9], _, by rw [e9]⟩ rfl
    · --
      refine Go.aload_n X 0 dX3_rules_19 rfl ?_
      refine Go.bipush X ((-2 : Int32)) dX3_rules_20 k_bp_m2 ?_
      refine Go.callV0i X (c_refuse_0 g ad N K b z le rf hd ln vl T ts te tk br) cal_X3_refuse gX3_rules_X3_refuse (ci := 3) (q0 := 0) rfl rfl rfl rfl rfl dX3_rules_22 ?_
      have e9 : x_rules (N, K, b, z, le, rf, hd, ln, vl) s (nI nk) w = ((N, K, b, z, le, inc rf 0, hd, ln, vl), (-2)) := by simp (decide := true) [x_rules, rfS, upS_id, h7, h16, nI_clamp (show nk < 2 ^ 31 by omega)]
      exact Go.iret X E dX3_rules_25 ⟨by rw [e9], _, by rw [e9]⟩ rfl
set_option maxHeartbeats 4000000 in
set_option maxRecDepth 100000 in
theorem c_saidAs_0 (g : gT) (ad : Nat → Nat) (N : Sch) (K : Sch) (b : Bool) (z : Nat) (le : Nat → Nat) (rf : Nat → Int32) (hd : Nat → Int32) (ln : Nat → Nat) (vl : Nat → Nat → Int64) (T : Sch) (ts : Nat) (te : Nat) (tk : Nat) (br : Nat → Nat) (i : Nat) (hN : sOk N) (hi : i < 6) : Cw g yX3_saidAs wsX3_saidAs 5 109 [.ref (ad 0), .int (nI i), .int (nI 0)] (bxW g ad (N, K, b, z, le, rf, hd, ln, vl) (T, ts, te, tk, br)) (some (.int (saiI N i 0))) (bxW g ad (N, K, b, z, le, rf, hd, ln, vl) (T, ts, te, tk, br)) := by
  refine Ct.start (cc := cX3_saidAs) (nL := 4) (ret := (some .int)) (own := RX3) (by decide) rfl rfl rfl ?_
  intro Γ X E
  show Go Γ g 4 (rmC 5 109) 0 0 (bxW g ad (N, K, b, z, le, rf, hd, ln, vl) (T, ts, te, tk, br)) 0 [(0, .ref (ad 0)), (1, .int (nI i)), (2, .int (nI 0))] []
  obtain ⟨o1, o2, o3, o4, o5, o6, o7, o8⟩ := id hN
  have o9 := p2_9 o2
  have o10 := sA_512 hN
  refine Go.aload_n X 0 dX3_saidAs_0 rfl ?_
  refine Go.get X f_X3_saidAs_10 0 (v := .ref (ad 1)) rfl rfl dX3_saidAs_1 ?_
  refine Go.iload_n X 1 dX3_saidAs_4 rfl ?_
  refine Go.callVi X  (c_expectedBy g (ad 1) (ad 2) (ad 3) (ad 4) N i (by exact hN) (by first | omega | (split <;> omega))) cal_X0_expectedBy [1, 2, 3, 4] rfl rfl gX3_saidAs_X0_expectedBy (ci := 0) (q0 := 1) rfl rfl rfl rfl rfl dX3_saidAs_5 ?_
  have f5_1 := expd_512 hN 6 i
  refine Go.istore_n_new X dX3_saidAs_8 (by decide) rfl ?_
  refine Go.iload_n X 3 dX3_saidAs_9 rfl ?_
  refine Go.tableIn X 48 dX3_saidAs_10 (by decide) (by decide) rfl (by decide) ?_
  refine Go.iload_n X 0 dX3_saidAs_48 rfl ?_
  refine Go.callSi X  (c_firstOf g (expd N 6 i) (by first | omega | (split <;> omega))) cal_X3_firstOf [] rfl rfl gX3_saidAs_X3_firstOf rfl rfl rfl dX3_saidAs_49 ?_
  exact Go.iret X E dX3_saidAs_52 ⟨rv (show (fstI (expd N 6 i)) = saiI N i 0 from by rfl), rfl⟩ rfl
set_option maxHeartbeats 4000000 in
set_option maxRecDepth 100000 in
theorem c_saidAs_1 (g : gT) (ad : Nat → Nat) (N : Sch) (K : Sch) (b : Bool) (z : Nat) (le : Nat → Nat) (rf : Nat → Int32) (hd : Nat → Int32) (ln : Nat → Nat) (vl : Nat → Nat → Int64) (T : Sch) (ts : Nat) (te : Nat) (tk : Nat) (br : Nat → Nat) (i : Nat) (hN : sOk N) (hi : i < 6) : Cw g yX3_saidAs wsX3_saidAs 5 109 [.ref (ad 0), .int (nI i), .int (nI 1)] (bxW g ad (N, K, b, z, le, rf, hd, ln, vl) (T, ts, te, tk, br)) (some (.int (saiI N i 1))) (bxW g ad (N, K, b, z, le, rf, hd, ln, vl) (T, ts, te, tk, br)) := by
  refine Ct.start (cc := cX3_saidAs) (nL := 4) (ret := (some .int)) (own := RX3) (by decide) rfl rfl rfl ?_
  intro Γ X E
  show Go Γ g 4 (rmC 5 109) 0 0 (bxW g ad (N, K, b, z, le, rf, hd, ln, vl) (T, ts, te, tk, br)) 0 [(0, .ref (ad 0)), (1, .int (nI i)), (2, .int (nI 1))] []
  obtain ⟨o1, o2, o3, o4, o5, o6, o7, o8⟩ := id hN
  have o9 := p2_9 o2
  have o10 := sA_512 hN
  refine Go.aload_n X 0 dX3_saidAs_0 rfl ?_
  refine Go.get X f_X3_saidAs_10 0 (v := .ref (ad 1)) rfl rfl dX3_saidAs_1 ?_
  refine Go.iload_n X 1 dX3_saidAs_4 rfl ?_
  refine Go.callVi X  (c_expectedBy g (ad 1) (ad 2) (ad 3) (ad 4) N i (by exact hN) (by first | omega | (split <;> omega))) cal_X0_expectedBy [1, 2, 3, 4] rfl rfl gX3_saidAs_X0_expectedBy (ci := 0) (q0 := 1) rfl rfl rfl rfl rfl dX3_saidAs_5 ?_
  have f5_1 := expd_512 hN 6 i
  refine Go.istore_n_new X dX3_saidAs_8 (by decide) rfl ?_
  refine Go.iload_n X 3 dX3_saidAs_9 rfl ?_
  refine Go.tableIn X 53 dX3_saidAs_10 (by decide) (by decide) rfl (by decide) ?_
  refine Go.aload_n X 1 dX3_saidAs_53 rfl ?_
  refine Go.get X f_X3_saidAs_10 0 (v := .ref (ad 1)) rfl rfl dX3_saidAs_54 ?_
  refine Go.iload_n X 2 dX3_saidAs_57 rfl ?_
  refine Go.callVi X  (c_morningsAsleep g (ad 1) (ad 2) (ad 3) (ad 4) N i (by exact hN) (by first | omega | (split <;> omega))) cal_X0_morningsAsleep [1, 2, 3, 4] rfl rfl gX3_saidAs_X0_morningsAsleep (ci := 0) (q0 := 1) rfl rfl rfl rfl rfl dX3_saidAs_58 ?_
  have f58_2 := cnt_le (slp N i) (sN N)
  exact Go.iret X E dX3_saidAs_61 ⟨rv (show (nI (cnt (slp N i) (sN N))) = saiI N i 1 from by rfl), rfl⟩ rfl
set_option maxHeartbeats 4000000 in
set_option maxRecDepth 100000 in
theorem c_saidAs_2 (g : gT) (ad : Nat → Nat) (N : Sch) (K : Sch) (b : Bool) (z : Nat) (le : Nat → Nat) (rf : Nat → Int32) (hd : Nat → Int32) (ln : Nat → Nat) (vl : Nat → Nat → Int64) (T : Sch) (ts : Nat) (te : Nat) (tk : Nat) (br : Nat → Nat) (i : Nat) (hN : sOk N) (hi : i < 6) : Cw g yX3_saidAs wsX3_saidAs 5 109 [.ref (ad 0), .int (nI i), .int (nI 2)] (bxW g ad (N, K, b, z, le, rf, hd, ln, vl) (T, ts, te, tk, br)) (some (.int (saiI N i 2))) (bxW g ad (N, K, b, z, le, rf, hd, ln, vl) (T, ts, te, tk, br)) := by
  refine Ct.start (cc := cX3_saidAs) (nL := 4) (ret := (some .int)) (own := RX3) (by decide) rfl rfl rfl ?_
  intro Γ X E
  show Go Γ g 4 (rmC 5 109) 0 0 (bxW g ad (N, K, b, z, le, rf, hd, ln, vl) (T, ts, te, tk, br)) 0 [(0, .ref (ad 0)), (1, .int (nI i)), (2, .int (nI 2))] []
  obtain ⟨o1, o2, o3, o4, o5, o6, o7, o8⟩ := id hN
  have o9 := p2_9 o2
  have o10 := sA_512 hN
  refine Go.aload_n X 0 dX3_saidAs_0 rfl ?_
  refine Go.get X f_X3_saidAs_10 0 (v := .ref (ad 1)) rfl rfl dX3_saidAs_1 ?_
  refine Go.iload_n X 1 dX3_saidAs_4 rfl ?_
  refine Go.callVi X  (c_expectedBy g (ad 1) (ad 2) (ad 3) (ad 4) N i (by exact hN) (by first | omega | (split <;> omega))) cal_X0_expectedBy [1, 2, 3, 4] rfl rfl gX3_saidAs_X0_expectedBy (ci := 0) (q0 := 1) rfl rfl rfl rfl rfl dX3_saidAs_5 ?_
  have f5_1 := expd_512 hN 6 i
  refine Go.istore_n_new X dX3_saidAs_8 (by decide) rfl ?_
  refine Go.iload_n X 3 dX3_saidAs_9 rfl ?_
  refine Go.tableIn X 62 dX3_saidAs_10 (by decide) (by decide) rfl (by decide) ?_
  refine Go.iload_n X 0 dX3_saidAs_62 rfl ?_
  refine Go.callSi X  (c_bitCount g (expd N 6 i) (by first | omega | (split <;> omega))) cal_J6_bitCount_0f7a4 [] rfl rfl gX3_saidAs_J6_bitCount_0f7a4 rfl rfl rfl dX3_saidAs_63 ?_
  exact Go.iret X E dX3_saidAs_66 ⟨rv (show (nI (bcn (expd N 6 i))) = saiI N i 2 from by rfl), rfl⟩ rfl
set_option maxHeartbeats 4000000 in
set_option maxRecDepth 100000 in
theorem c_saidAs_3 (g : gT) (ad : Nat → Nat) (N : Sch) (K : Sch) (b : Bool) (z : Nat) (le : Nat → Nat) (rf : Nat → Int32) (hd : Nat → Int32) (ln : Nat → Nat) (vl : Nat → Nat → Int64) (T : Sch) (ts : Nat) (te : Nat) (tk : Nat) (br : Nat → Nat) (i : Nat) (hN : sOk N) (hi : i < 6) : Cw g yX3_saidAs wsX3_saidAs 5 109 [.ref (ad 0), .int (nI i), .int (nI 3)] (bxW g ad (N, K, b, z, le, rf, hd, ln, vl) (T, ts, te, tk, br)) (some (.int (saiI N i 3))) (bxW g ad (N, K, b, z, le, rf, hd, ln, vl) (T, ts, te, tk, br)) := by
  refine Ct.start (cc := cX3_saidAs) (nL := 4) (ret := (some .int)) (own := RX3) (by decide) rfl rfl rfl ?_
  intro Γ X E
  show Go Γ g 4 (rmC 5 109) 0 0 (bxW g ad (N, K, b, z, le, rf, hd, ln, vl) (T, ts, te, tk, br)) 0 [(0, .ref (ad 0)), (1, .int (nI i)), (2, .int (nI 3))] []
  obtain ⟨o1, o2, o3, o4, o5, o6, o7, o8⟩ := id hN
  have o9 := p2_9 o2
  have o10 := sA_512 hN
  refine Go.aload_n X 0 dX3_saidAs_0 rfl ?_
  refine Go.get X f_X3_saidAs_10 0 (v := .ref (ad 1)) rfl rfl dX3_saidAs_1 ?_
  refine Go.iload_n X 1 dX3_saidAs_4 rfl ?_
  refine Go.callVi X  (c_expectedBy g (ad 1) (ad 2) (ad 3) (ad 4) N i (by exact hN) (by first | omega | (split <;> omega))) cal_X0_expectedBy [1, 2, 3, 4] rfl rfl gX3_saidAs_X0_expectedBy (ci := 0) (q0 := 1) rfl rfl rfl rfl rfl dX3_saidAs_5 ?_
  have f5_1 := expd_512 hN 6 i
  refine Go.istore_n_new X dX3_saidAs_8 (by decide) rfl ?_
  refine Go.iload_n X 3 dX3_saidAs_9 rfl ?_
  refine Go.tableIn X 90 dX3_saidAs_10 (by decide) (by decide) rfl (by decide) ?_
  refine Go.aload_n X 1 dX3_saidAs_90 rfl ?_
  refine Go.get X f_X3_saidAs_10 0 (v := .ref (ad 1)) rfl rfl dX3_saidAs_91 ?_
  refine Go.iload_n X 2 dX3_saidAs_94 rfl ?_
  refine Go.callVi X  (c_depthOf g (ad 1) (ad 2) (ad 3) (ad 4) N i (by exact hN) (by first | omega | (split <;> omega))) cal_X0_depthOf [1, 2, 3, 4] rfl rfl gX3_saidAs_X0_depthOf (ci := 0) (q0 := 1) rfl rfl rfl rfl rfl dX3_saidAs_95 ?_
  have f95_2 := dep_le hN 6 i
  exact Go.iret X E dX3_saidAs_98 ⟨rv (show (nI (dep N 6 i)) = saiI N i 3 from by rfl), rfl⟩ rfl
set_option maxHeartbeats 4000000 in
set_option maxRecDepth 100000 in
theorem c_saidAs_4 (g : gT) (ad : Nat → Nat) (N : Sch) (K : Sch) (b : Bool) (z : Nat) (le : Nat → Nat) (rf : Nat → Int32) (hd : Nat → Int32) (ln : Nat → Nat) (vl : Nat → Nat → Int64) (T : Sch) (ts : Nat) (te : Nat) (tk : Nat) (br : Nat → Nat) (i : Nat) (hN : sOk N) (hi : i < 6) : Cw g yX3_saidAs wsX3_saidAs 5 109 [.ref (ad 0), .int (nI i), .int (nI 4)] (bxW g ad (N, K, b, z, le, rf, hd, ln, vl) (T, ts, te, tk, br)) (some (.int (saiI N i 4))) (bxW g ad (N, K, b, z, le, rf, hd, ln, vl) (T, ts, te, tk, br)) := by
  refine Ct.start (cc := cX3_saidAs) (nL := 4) (ret := (some .int)) (own := RX3) (by decide) rfl rfl rfl ?_
  intro Γ X E
  show Go Γ g 4 (rmC 5 109) 0 0 (bxW g ad (N, K, b, z, le, rf, hd, ln, vl) (T, ts, te, tk, br)) 0 [(0, .ref (ad 0)), (1, .int (nI i)), (2, .int (nI 4))] []
  obtain ⟨o1, o2, o3, o4, o5, o6, o7, o8⟩ := id hN
  have o9 := p2_9 o2
  have o10 := sA_512 hN
  refine Go.aload_n X 0 dX3_saidAs_0 rfl ?_
  refine Go.get X f_X3_saidAs_10 0 (v := .ref (ad 1)) rfl rfl dX3_saidAs_1 ?_
  refine Go.iload_n X 1 dX3_saidAs_4 rfl ?_
  refine Go.callVi X  (c_expectedBy g (ad 1) (ad 2) (ad 3) (ad 4) N i (by exact hN) (by first | omega | (split <;> omega))) cal_X0_expectedBy [1, 2, 3, 4] rfl rfl gX3_saidAs_X0_expectedBy (ci := 0) (q0 := 1) rfl rfl rfl rfl rfl dX3_saidAs_5 ?_
  have f5_1 := expd_512 hN 6 i
  refine Go.istore_n_new X dX3_saidAs_8 (by decide) rfl ?_
  refine Go.iload_n X 3 dX3_saidAs_9 rfl ?_
  refine Go.tableIn X 90 dX3_saidAs_10 (by decide) (by decide) rfl (by decide) ?_
  refine Go.aload_n X 1 dX3_saidAs_90 rfl ?_
  refine Go.get X f_X3_saidAs_10 0 (v := .ref (ad 1)) rfl rfl dX3_saidAs_91 ?_
  refine Go.iload_n X 2 dX3_saidAs_94 rfl ?_
  refine Go.callVi X  (c_depthOf g (ad 1) (ad 2) (ad 3) (ad 4) N i (by exact hN) (by first | omega | (split <;> omega))) cal_X0_depthOf [1, 2, 3, 4] rfl rfl gX3_saidAs_X0_depthOf (ci := 0) (q0 := 1) rfl rfl rfl rfl rfl dX3_saidAs_95 ?_
  have f95_2 := dep_le hN 6 i
  exact Go.iret X E dX3_saidAs_98 ⟨rv (show (nI (dep N 6 i)) = saiI N i 4 from by rfl), rfl⟩ rfl
set_option maxHeartbeats 4000000 in
set_option maxRecDepth 100000 in
theorem c_saidAs_5 (g : gT) (ad : Nat → Nat) (N : Sch) (K : Sch) (b : Bool) (z : Nat) (le : Nat → Nat) (rf : Nat → Int32) (hd : Nat → Int32) (ln : Nat → Nat) (vl : Nat → Nat → Int64) (T : Sch) (ts : Nat) (te : Nat) (tk : Nat) (br : Nat → Nat) (i : Nat) (hN : sOk N) (hi : i < 6) : Cw g yX3_saidAs wsX3_saidAs 5 109 [.ref (ad 0), .int (nI i), .int (nI 5)] (bxW g ad (N, K, b, z, le, rf, hd, ln, vl) (T, ts, te, tk, br)) (some (.int (saiI N i 5))) (bxW g ad (N, K, b, z, le, rf, hd, ln, vl) (T, ts, te, tk, br)) := by
  refine Ct.start (cc := cX3_saidAs) (nL := 4) (ret := (some .int)) (own := RX3) (by decide) rfl rfl rfl ?_
  intro Γ X E
  show Go Γ g 4 (rmC 5 109) 0 0 (bxW g ad (N, K, b, z, le, rf, hd, ln, vl) (T, ts, te, tk, br)) 0 [(0, .ref (ad 0)), (1, .int (nI i)), (2, .int (nI 5))] []
  obtain ⟨o1, o2, o3, o4, o5, o6, o7, o8⟩ := id hN
  have o9 := p2_9 o2
  have o10 := sA_512 hN
  refine Go.aload_n X 0 dX3_saidAs_0 rfl ?_
  refine Go.get X f_X3_saidAs_10 0 (v := .ref (ad 1)) rfl rfl dX3_saidAs_1 ?_
  refine Go.iload_n X 1 dX3_saidAs_4 rfl ?_
  refine Go.callVi X  (c_expectedBy g (ad 1) (ad 2) (ad 3) (ad 4) N i (by exact hN) (by first | omega | (split <;> omega))) cal_X0_expectedBy [1, 2, 3, 4] rfl rfl gX3_saidAs_X0_expectedBy (ci := 0) (q0 := 1) rfl rfl rfl rfl rfl dX3_saidAs_5 ?_
  have f5_1 := expd_512 hN 6 i
  refine Go.istore_n_new X dX3_saidAs_8 (by decide) rfl ?_
  refine Go.iload_n X 3 dX3_saidAs_9 rfl ?_
  refine Go.tableIn X 67 dX3_saidAs_10 (by decide) (by decide) rfl (by decide) ?_
  refine Go.iload_n X 0 dX3_saidAs_67 rfl ?_
  refine Go.aload_n X 1 dX3_saidAs_68 rfl ?_
  refine Go.get X f_X3_saidAs_10 0 (v := .ref (ad 1)) rfl rfl dX3_saidAs_69 ?_
  refine Go.get X f_X3_saidAs_135 1 (v := .int (nI (sA N))) rfl rfl dX3_saidAs_72 ?_
  refine Go.callSi X  (c_lastOf g (sA N) (by first | omega | (split <;> omega))) cal_X3_lastOf [] rfl rfl gX3_saidAs_X3_lastOf rfl rfl rfl dX3_saidAs_75 ?_
  by_cases hz : sA N = 0
  · --
    refine Go.top (w := .int (-1)) (by rw [lstI, if_pos hz]) ?_
    refine Go.callSi X  (c_isIn_m g (expd N 6 i)) cal_X3_isIn [] rfl rfl gX3_saidAs_X3_isIn rfl rfl rfl dX3_saidAs_78 ?_
    refine Go.if_eqB X 88 dX3_saidAs_81 (by decide) (fun h81 => ?_) (fun h81 => ?_)
    · --
      refine Go.iconst X (nI 0) dX3_saidAs_88 k_ic_0 ?_
      exact Go.iret X E dX3_saidAs_89 ⟨rv (show (nI 0) = saiI N i 5 from by simp [saiI, saiB, hz]), rfl⟩ rfl
    · --
      exact absurd h81 (by decide)
  · --
    have o11 := log2_lt9 o10
    refine Go.top (w := .int (nI (Nat.log2 (sA N)))) (by rw [lstI, if_neg hz]) ?_
    refine Go.callSi X  (c_isIn g (expd N 6 i) (Nat.log2 (sA N)) (by first | omega | (split <;> omega)) (by first | omega | (split <;> omega))) cal_X3_isIn [] rfl rfl gX3_saidAs_X3_isIn rfl rfl rfl dX3_saidAs_78 ?_
    refine Go.if_eqB X 88 dX3_saidAs_81 (by decide) (fun h81 => ?_) (fun h81 => ?_)
    · --
      refine Go.iconst X (nI 0) dX3_saidAs_88 k_ic_0 ?_
      exact Go.iret X E dX3_saidAs_89 ⟨rv (show (nI 0) = saiI N i 5 from by simp [saiI, saiB, hz, h81]), rfl⟩ rfl
    · --
      refine Go.iconst X (nI 1) dX3_saidAs_84 k_ic_1 ?_
      refine Go.goto X 89 dX3_saidAs_85 (by decide) ?_
      exact Go.iret X E dX3_saidAs_89 ⟨rv (show (nI 1) = saiI N i 5 from by simp [saiI, saiB, hz, h81]), rfl⟩ rfl
theorem c_saidAs (g : gT) (ad : Nat → Nat) (N : Sch) (K : Sch) (b : Bool) (z : Nat) (le : Nat → Nat) (rf : Nat → Int32) (hd : Nat → Int32) (ln : Nat → Nat) (vl : Nat → Nat → Int64) (T : Sch) (ts : Nat) (te : Nat) (tk : Nat) (br : Nat → Nat) (i : Nat) (k : Nat) (hN : sOk N) (hi : i < 6) (hk : k < 6) : Cw g yX3_saidAs wsX3_saidAs 5 109 [.ref (ad 0), .int (nI i), .int (nI k)] (bxW g ad (N, K, b, z, le, rf, hd, ln, vl) (T, ts, te, tk, br)) (some (.int (saiI N i k))) (bxW g ad (N, K, b, z, le, rf, hd, ln, vl) (T, ts, te, tk, br)) := by
  rcases (show k = 0 ∨ k = 1 ∨ k = 2 ∨ k = 3 ∨ k = 4 ∨ k = 5 by omega) with rfl | rfl | rfl | rfl | rfl | rfl
  · exact c_saidAs_0 g ad N K b z le rf hd ln vl T ts te tk br i hN hi
  · exact c_saidAs_1 g ad N K b z le rf hd ln vl T ts te tk br i hN hi
  · exact c_saidAs_2 g ad N K b z le rf hd ln vl T ts te tk br i hN hi
  · exact c_saidAs_3 g ad N K b z le rf hd ln vl T ts te tk br i hN hi
  · exact c_saidAs_4 g ad N K b z le rf hd ln vl T ts te tk br i hN hi
  · exact c_saidAs_5 g ad N K b z le rf hd ln vl T ts te tk br i hN hi
set_option maxHeartbeats 4000000 in
set_option maxRecDepth 100000 in
theorem b_says (g : gT) (ad : Nat → Nat) (N : Sch) (K : Sch) (b : Bool) (z : Nat) (le : Nat → Nat) (rf : Nat → Int32) (hd : Nat → Int32) (ln : Nat → Nat) (vl : Nat → Nat → Int64) (T : Sch) (ts : Nat) (te : Nat) (tk : Nat) (br : Nat → Nat) (s : Int32) (k : Int32) (hN : sOk N) : Ct g yX3_says wsX3_says 6 132 [.ref (ad 0), .int s, .int k] (bxW g ad (N, K, b, z, le, rf, hd, ln, vl) (T, ts, te, tk, br)) (fun v9 w9 => v9 = (some (.int (x_says (N, K, b, z, le, rf, hd, ln, vl) s k).2)) ∧ ∃ J9, w9 = bxW g ad (x_says (N, K, b, z, le, rf, hd, ln, vl) s k).1 J9) := by
  refine Ct.start (cc := cX3_says) (nL := 5) (ret := (some .int)) (own := RX3) (by decide) rfl rfl rfl ?_
  intro Γ X E
  show Go Γ g 5 (rmC 6 132) 0 0 (bxW g ad (N, K, b, z, le, rf, hd, ln, vl) (T, ts, te, tk, br)) 0 [(0, .ref (ad 0)), (1, .int s), (2, .int k)] []
  obtain ⟨o1, o2, o3, o4, o5, o6, o7, o8⟩ := id hN
  have o9 := p2_9 o2
  have o10 := sA_512 hN
  refine Go.iload_n X 1 dX3_says_0 rfl ?_
  refine Go.callSi X  (c_isShelf g s) cal_X3_isShelf [] rfl rfl gX3_says_X3_isShelf rfl rfl rfl dX3_says_1 ?_
  refine Go.if_eqB X 14 dX3_says_4 (by decide) (fun h4 => ?_) (fun h4 => ?_)
  · --
    refine Go.aload_n X 0 dX3_says_14 rfl ?_
    refine Go.bipush X ((-2 : Int32)) dX3_says_15 k_bp_m2 ?_
    refine Go.callV0i X (c_refuse_0 g ad N K b z le rf hd ln vl T ts te tk br) cal_X3_refuse gX3_says_X3_refuse (ci := 3) (q0 := 0) rfl rfl rfl rfl rfl dX3_says_17 ?_
    have e9 : x_says (N, K, b, z, le, rf, hd, ln, vl) s k = ((N, K, b, z, le, inc rf 0, hd, ln, vl), (-2)) := by simp (decide := true) [x_says, rfS, h4]
    exact Go.iret X E dX3_says_20 ⟨by rw [e9], _, by rw [e9]⟩ rfl
  · --
    obtain ⟨sk, hsk, rfl⟩ := inb_at (by first | omega | (split <;> omega)) h4
    refine Go.iload_n X 2 dX3_says_7 rfl ?_
    refine Go.callSi X  (c_isKind g k) cal_X3_isKind [] rfl rfl gX3_says_X3_isKind rfl rfl rfl dX3_says_8 ?_
    refine Go.if_neB X 21 dX3_says_11 (by decide) (fun h11 => ?_) (fun h11 => ?_)
    · --
      obtain ⟨kk, hkk, rfl⟩ := inb_at (by first | omega | (split <;> omega)) h11
      refine Go.aload_n X 0 dX3_says_21 rfl ?_
      refine Go.get X f_X3_says_31 0 (v := .ref (ad 15)) rfl rfl dX3_says_22 ?_
      refine Go.iload_n X 1 dX3_says_25 rfl ?_
      refine Go.aald X 15 (x := ad (18 + 2 * sk)) rfl (vp_in_nI (by first | omega | (split <;> omega)) (by decide)) (by rw [nI_clamp (by first | omega | (split <;> omega))]) dX3_says_26 ?_
      refine Go.astore_n_new X dX3_says_27 (by decide) rfl ?_
      refine Go.aload_n X 0 dX3_says_28 rfl ?_
      refine Go.callVi X  (c_holdsRow g (ad (18 + 2 * sk)) (ad (19 + 2 * sk)) (hd sk) (ln sk) (vl sk)) cal_X1_holdsRow [(18 + 2 * sk), (19 + 2 * sk)] (bx_pos g ad _ _ (by first | omega | (split <;> omega))) (bx_nd (by first | omega | (split <;> omega))) gX3_says_X1_holdsRow (ci := 1) (q0 := (18 + 2 * sk)) rfl (bx_sh g ad _ _ (by first | omega | (split <;> omega))) rfl rfl rfl dX3_says_29 ?_
      refine Go.if_eqB X 42 dX3_says_32 (by decide) (fun h32 => ?_) (fun h32 => ?_)
      · --
        refine Go.aload_n X 0 dX3_says_42 rfl ?_
        refine Go.callVi X  (c_holdsSomebody g (ad (18 + 2 * sk)) (ad (19 + 2 * sk)) (hd sk) (ln sk) (vl sk)) cal_X1_holdsSomebody [(18 + 2 * sk), (19 + 2 * sk)] (bx_pos g ad _ _ (by first | omega | (split <;> omega))) (bx_nd (by first | omega | (split <;> omega))) gX3_says_X1_holdsSomebody (ci := 1) (q0 := (18 + 2 * sk)) rfl (bx_sh g ad _ _ (by first | omega | (split <;> omega))) rfl rfl rfl dX3_says_43 ?_
        refine Go.if_neB X 56 dX3_says_46 (by decide) (fun h46 => ?_) (fun h46 => ?_)
        · --
          refine Go.aload_n X 0 dX3_says_56 rfl ?_
          refine Go.get X f_X3_says_76 (18 + 2 * sk) (v := .int (hd sk)) (bx_sh g ad _ _ (by first | omega | (split <;> omega))) rfl dX3_says_57 ?_
          refine Go.bipush X (nI 10) dX3_says_60 k_bp_10 ?_
          refine Go.isub_e X ((hd sk) - (nI 10)) dX3_says_62 rfl ?_
          refine Go.istore_new X dX3_says_63 (by decide) rfl ?_
          refine Go.aload_n X 2 dX3_says_65 rfl ?_
          refine Go.get X f_X3_says_10 0 (v := .ref (ad 1)) rfl rfl dX3_says_66 ?_
          refine Go.iload X 0 dX3_says_69 rfl ?_
          refine Go.callVi X  (c_isSomebody g (ad 1) (ad 2) (ad 3) (ad 4) N ((hd sk) - (nI 10)) (by exact hN)) cal_X0_isSomebody [1, 2, 3, 4] rfl rfl gX3_says_X0_isSomebody (ci := 0) (q0 := 1) rfl rfl rfl rfl rfl dX3_says_71 ?_
          refine Go.if_eqB X 94 dX3_says_74 (by decide) (fun h74 => ?_) (fun h74 => ?_)
          · --
            refine Go.aload_n X 2 dX3_says_94 rfl ?_
            refine Go.bipush X ((-3 : Int32)) dX3_says_95 k_bp_m3 ?_
            refine Go.callV0i X (c_refuse_1 g ad N K b z le rf hd ln vl T ts te tk br) cal_X3_refuse gX3_says_X3_refuse (ci := 3) (q0 := 0) rfl rfl rfl rfl rfl dX3_says_97 ?_
            have e9 : x_says (N, K, b, z, le, rf, hd, ln, vl) (nI sk) (nI kk) = ((N, K, b, z, le, inc rf 1, hd, ln, vl), (-3)) := by simp (decide := true) [x_says, rfS, h4, h11, h32, h74, (of_decide_eq_true h46), nI_clamp (show sk < 2 ^ 31 by omega), nI_clamp (show kk < 2 ^ 31 by omega)]
            exact Go.iret X E dX3_says_100 ⟨by rw [e9], _, by rw [e9]⟩ rfl
          · --
            obtain ⟨j, hj, ej⟩ := inb_at (by omega) h74
            refine Go.lv_0 (w := .int (nI j)) (by rw [ej]) ?_
            refine Go.aload_n X 2 dX3_says_77 rfl ?_
            refine Go.get X f_X3_says_10 0 (v := .ref (ad 1)) rfl rfl dX3_says_78 ?_
            refine Go.get X f_X3_says_107 1 (v := .ref (ad 3)) rfl rfl dX3_says_81 ?_
            refine Go.iload X 0 dX3_says_84 rfl ?_
            refine Go.ialdN X 3 (w := sK N) rfl (by first | omega | (split <;> omega)) rfl dX3_says_86 ?_
            refine Go.iload_n X 4 dX3_says_87 rfl ?_
            have o11 := o7 j (by omega)
            refine Go.callSi X  (c_isOfKind g ((sK N) j) kk (by first | omega | (split <;> omega)) (by first | omega | (split <;> omega))) cal_X3_isOfKind [] rfl rfl gX3_says_X3_isOfKind rfl rfl rfl dX3_says_88 ?_
            refine Go.if_neB X 101 dX3_says_91 (by decide) (fun h91 => ?_) (fun h91 => ?_)
            · --
              have o12 : j < 6 := by omega
              refine Go.aload_n X 2 dX3_says_101 rfl ?_
              refine Go.iload X 0 dX3_says_102 rfl ?_
              refine Go.iload_n X 4 dX3_says_104 rfl ?_
              refine Go.callV0i X (c_saidAs g ad N K b z le rf hd ln vl T ts te tk br j kk (by first | omega | (split <;> omega)) (by first | omega | (split <;> omega)) (by first | omega | (split <;> omega))) cal_X3_saidAs gX3_says_X3_saidAs (ci := 3) (q0 := 0) rfl rfl rfl rfl rfl dX3_says_105 ?_
              have e9 : x_says (N, K, b, z, le, rf, hd, ln, vl) (nI sk) (nI kk) = ((N, K, b, z, le, rf, hd, ln, vl), (saiI N j kk)) := by simp (decide := true) [x_says, rfS, h4, h11, h32, h74, h91, (of_decide_eq_true h46), nI_clamp (show sk < 2 ^ 31 by omega), nI_clamp (show kk < 2 ^ 31 by omega), ej, (show inb (nI j) (sP N) = true by rw [← ej]; exact h74), nI_clamp (show j < 2 ^ 31 by omega)]
              exact Go.iret X E dX3_says_108 ⟨by rw [e9], _, by rw [e9]⟩ rfl
            · --
              refine Go.aload_n X 2 dX3_says_94 rfl ?_
              refine Go.bipush X ((-3 : Int32)) dX3_says_95 k_bp_m3 ?_
              refine Go.callV0i X (c_refuse_1 g ad N K b z le rf hd ln vl T ts te tk br) cal_X3_refuse gX3_says_X3_refuse (ci := 3) (q0 := 0) rfl rfl rfl rfl rfl dX3_says_97 ?_
              have e9 : x_says (N, K, b, z, le, rf, hd, ln, vl) (nI sk) (nI kk) = ((N, K, b, z, le, inc rf 1, hd, ln, vl), (-3)) := by simp (decide := true) [x_says, rfS, h4, h11, h32, h74, h91, (of_decide_eq_true h46), nI_clamp (show sk < 2 ^ 31 by omega), nI_clamp (show kk < 2 ^ 31 by omega), ej, (show inb (nI j) (sP N) = true by rw [← ej]; exact h74), nI_clamp (show j < 2 ^ 31 by omega)]
              exact Go.iret X E dX3_says_100 ⟨by rw [e9], _, by rw [e9]⟩ rfl
        · --
          refine Go.aload_n X 1 dX3_says_49 rfl ?_
          refine Go.bipush X ((-4 : Int32)) dX3_says_50 k_bp_m4 ?_
          refine Go.callV0i X (c_refuse_2 g ad N K b z le rf hd ln vl T ts te tk br) cal_X3_refuse gX3_says_X3_refuse (ci := 3) (q0 := 0) rfl rfl rfl rfl rfl dX3_says_52 ?_
          have e9 : x_says (N, K, b, z, le, rf, hd, ln, vl) (nI sk) (nI kk) = ((N, K, b, z, le, inc rf 2, hd, ln, vl), (-4)) := by simp (decide := true) [x_says, rfS, h4, h11, h32, (of_decide_eq_false h46), nI_clamp (show sk < 2 ^ 31 by omega), nI_clamp (show kk < 2 ^ 31 by omega)]
          exact Go.iret X E dX3_says_55 ⟨by rw [e9], _, by rw [e9]⟩ rfl
      · --
        refine Go.aload_n X 1 dX3_says_35 rfl ?_
        refine Go.bipush X ((-3 : Int32)) dX3_says_36 k_bp_m3 ?_
        refine Go.callV0i X (c_refuse_1 g ad N K b z le rf hd ln vl T ts te tk br) cal_X3_refuse gX3_says_X3_refuse (ci := 3) (q0 := 0) rfl rfl rfl rfl rfl dX3_says_38 ?_
        have e9 : x_says (N, K, b, z, le, rf, hd, ln, vl) (nI sk) (nI kk) = ((N, K, b, z, le, inc rf 1, hd, ln, vl), (-3)) := by simp (decide := true) [x_says, rfS, h4, h11, h32, nI_clamp (show sk < 2 ^ 31 by omega), nI_clamp (show kk < 2 ^ 31 by omega)]
        exact Go.iret X E dX3_says_41 ⟨by rw [e9], _, by rw [e9]⟩ rfl
    · --
      refine Go.aload_n X 0 dX3_says_14 rfl ?_
      refine Go.bipush X ((-2 : Int32)) dX3_says_15 k_bp_m2 ?_
      refine Go.callV0i X (c_refuse_0 g ad N K b z le rf hd ln vl T ts te tk br) cal_X3_refuse gX3_says_X3_refuse (ci := 3) (q0 := 0) rfl rfl rfl rfl rfl dX3_says_17 ?_
      have e9 : x_says (N, K, b, z, le, rf, hd, ln, vl) (nI sk) k = ((N, K, b, z, le, inc rf 0, hd, ln, vl), (-2)) := by simp (decide := true) [x_says, rfS, h4, h11, nI_clamp (show sk < 2 ^ 31 by omega)]
      exact Go.iret X E dX3_says_20 ⟨by rw [e9], _, by rw [e9]⟩ rfl
set_option maxHeartbeats 4000000 in
set_option maxRecDepth 100000 in
theorem b_hint (g : gT) (ad : Nat → Nat) (N : Sch) (K : Sch) (b : Bool) (z : Nat) (le : Nat → Nat) (rf : Nat → Int32) (hd : Nat → Int32) (ln : Nat → Nat) (vl : Nat → Nat → Int64) (T : Sch) (ts : Nat) (te : Nat) (tk : Nat) (br : Nat → Nat) (x : Int32) (hN : sOk N) : Ct g yX3_hint wsX3_hint 2 44 [.ref (ad 0), .int x] (bxW g ad (N, K, b, z, le, rf, hd, ln, vl) (T, ts, te, tk, br)) (fun v9 w9 => v9 = (some (.int (x_hint (N, K, b, z, le, rf, hd, ln, vl) x).2)) ∧ ∃ J9, w9 = bxW g ad (x_hint (N, K, b, z, le, rf, hd, ln, vl) x).1 J9) := by
  refine Ct.start (cc := cX3_hint) (nL := 2) (ret := (some .int)) (own := RX3) (by decide) rfl rfl rfl ?_
  intro Γ X E
  show Go Γ g 2 (rmC 2 44) 0 0 (bxW g ad (N, K, b, z, le, rf, hd, ln, vl) (T, ts, te, tk, br)) 0 [(0, .ref (ad 0)), (1, .int x)] []
  obtain ⟨o1, o2, o3, o4, o5, o6, o7, o8⟩ := id hN
  have o9 := p2_9 o2
  have o10 := sA_512 hN
  refine Go.iload_n X 1 dX3_hint_0 rfl ?_
  refine Go.aload_n X 0 dX3_hint_1 rfl ?_
  refine Go.get X f_X3_hint_10 0 (v := .ref (ad 1)) rfl rfl dX3_hint_2 ?_
  refine Go.callVi X  (c_allMornings g (ad 1) (ad 2) (ad 3) (ad 4) N (by first | omega | (split <;> omega))) cal_X0_allMornings [1, 2, 3, 4] rfl rfl gX3_hint_X0_allMornings (ci := 0) (q0 := 1) rfl rfl rfl rfl rfl dX3_hint_5 ?_
  refine Go.iconst X ((-1 : Int32)) dX3_hint_8 k_ic_m1 ?_
  refine Go.ixor_e X (nI (2 ^ (sN N) - 1) ^^^ (-1)) dX3_hint_9 rfl ?_
  refine Go.iand_e X (x &&& (nI (2 ^ (sN N) - 1) ^^^ (-1))) dX3_hint_10 rfl ?_
  refine Go.if_eq X 21 dX3_hint_11 (by decide) (fun h11 => ?_) (fun h11 => ?_)
  · --
    have q0 : hinO N x = true := decide_eq_true h11
    obtain ⟨xk, hxk, rfl⟩ := hin_at o2 q0
    refine Go.aload_n X 0 dX3_hint_21 rfl ?_
    refine Go.get X f_X3_hint_10 0 (v := .ref (ad 1)) rfl rfl dX3_hint_22 ?_
    refine Go.aload_n X 0 dX3_hint_25 rfl ?_
    refine Go.get X f_X3_hint_10 0 (v := .ref (ad 1)) rfl rfl dX3_hint_26 ?_
    refine Go.get X f_X3_hint_135 1 (v := .int (nI (sA N))) rfl rfl dX3_hint_29 ?_
    refine Go.iload_n X 1 dX3_hint_32 rfl ?_
    refine Go.iand_e X (nI ((sA N) &&& xk)) dX3_hint_33 (nI_and _ _) ?_
    refine Go.putM X f_X3_hint_135 fp_0_1 1 (bxW g ad ((sN N, (sA N) &&& xk, sW N, sD N, sP N, sK N, sO N, sG N, sT N, sF N, sX N), K, b, z, le, rf, hd, ln, vl) (T, ts, te, tk, br)) rfl rfl rfl rfl dX3_hint_34 rfl ?_
    refine Go.aload_n X 0 dX3_hint_37 rfl ?_
    refine Go.get X f_X3_hint_10 0 (v := .ref (ad 1)) rfl rfl dX3_hint_38 ?_
    refine Go.get X f_X3_hint_135 1 (v := .int (nI ((sA N) &&& xk))) rfl rfl dX3_hint_41 ?_
    have o11 : sA N &&& xk ≤ sA N := Nat.and_le_left
    refine Go.callSi X  (c_bitCount g ((sA N) &&& xk) (by first | omega | (split <;> omega))) cal_J6_bitCount_0f7a4 [] rfl rfl gX3_hint_J6_bitCount_0f7a4 rfl rfl rfl dX3_hint_44 ?_
    have e9 : x_hint (N, K, b, z, le, rf, hd, ln, vl) (nI xk) = (((sN N, (sA N) &&& xk, sW N, sD N, sP N, sK N, sO N, sG N, sT N, sF N, sX N), K, b, z, le, rf, hd, ln, vl), (nI (bcn ((sA N) &&& xk)))) := by simp [x_hint, rfS, q0, nI_clamp (show xk < 2 ^ 31 by omega)]
    exact Go.iret X E dX3_hint_47 ⟨by rw [e9], _, by rw [e9]⟩ rfl
  · --
    have q0 : hinO N x = false := decide_eq_false h11
    refine Go.aload_n X 0 dX3_hint_14 rfl ?_
    refine Go.bipush X ((-2 : Int32)) dX3_hint_15 k_bp_m2 ?_
    refine Go.callV0i X (c_refuse_0 g ad N K b z le rf hd ln vl T ts te tk br) cal_X3_refuse gX3_hint_X3_refuse (ci := 3) (q0 := 0) rfl rfl rfl rfl rfl dX3_hint_17 ?_
    have e9 : x_hint (N, K, b, z, le, rf, hd, ln, vl) x = ((N, K, b, z, le, inc rf 0, hd, ln, vl), (-2)) := by simp [x_hint, rfS, q0]
    exact Go.iret X E dX3_hint_20 ⟨by rw [e9], _, by rw [e9]⟩ rfl
