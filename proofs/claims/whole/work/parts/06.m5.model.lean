/-! 06.m5.model -/
theorem f_X4_lastAllowed_111 : FL wsX4_lastAllowed RX4 111 4 4 := ⟨RX4, TX4, 27, rfl, fun _ h => List.mem_cons_of_mem _ (List.mem_append_right _ h), by decide, List.mem_of_getElem? (i := 1) (by decide +kernel)⟩
theorem cal_X4_lastOf : Cal yX4_lastOf wsX4_lastOf cX4_lastOf 1 (some .int) RX4 1 := ⟨⟨_, rfl⟩, by decide +kernel⟩
theorem cal_X4_expected : Cal yX4_expected wsX4_expected cX4_expected 4 (some .int) RX4 1 := ⟨⟨_, rfl⟩, by decide +kernel⟩
theorem cal_J6_numberOfTrailingZeros_0f7a4 : Cal yJ6_numberOfTrailingZeros_0f7a4 wsJ6_numberOfTrailingZeros_0f7a4 cJ6_numberOfTrailingZeros_0f7a4 2 (some .int) RJ6 1 := ⟨⟨_, rfl⟩, by decide +kernel⟩
theorem f_X4_personOf_26 : FL wsX4_personOf RX4 26 4 9 := ⟨RX4, TX4, 27, rfl, fun _ h => List.mem_cons_of_mem _ (List.mem_append_right _ h), by decide, List.mem_of_getElem? (i := 2) (by decide +kernel)⟩
theorem f_X4_personOf_23 : FL wsX4_personOf RX4 23 4 8 := ⟨RX4, TX4, 27, rfl, fun _ h => List.mem_cons_of_mem _ (List.mem_append_right _ h), by decide, List.mem_of_getElem? (i := 1) (by decide +kernel)⟩
theorem f_X4_morningOf_20 : FL wsX4_morningOf RX4 20 4 5 := ⟨RX4, TX4, 27, rfl, fun _ h => List.mem_cons_of_mem _ (List.mem_append_right _ h), by decide, List.mem_of_getElem? (i := 2) (by decide +kernel)⟩
theorem f_X4_morningOf_111 : FL wsX4_morningOf RX4 111 4 4 := ⟨RX4, TX4, 27, rfl, fun _ h => List.mem_cons_of_mem _ (List.mem_append_right _ h), by decide, List.mem_of_getElem? (i := 1) (by decide +kernel)⟩
theorem cal_X4_firstOf : Cal yX4_firstOf wsX4_firstOf cX4_firstOf 3 (some .int) RX4 1 := ⟨⟨_, rfl⟩, by decide +kernel⟩
theorem cal_X4_lastAllowed : Cal yX4_lastAllowed wsX4_lastAllowed cX4_lastAllowed 1 (some .int) RX4 0 := ⟨⟨_, rfl⟩, by decide +kernel⟩
theorem f_X4_agree_59 : FL wsX4_agree RX4 59 4 7 := ⟨RX4, TX4, 27, rfl, fun _ h => List.mem_cons_of_mem _ (List.mem_append_right _ h), by decide, List.mem_of_getElem? (i := 1) (by decide +kernel)⟩
theorem f_X4_oddsOf_111 : FL wsX4_oddsOf RX4 111 4 4 := ⟨RX4, TX4, 27, rfl, fun _ h => List.mem_cons_of_mem _ (List.mem_append_right _ h), by decide, List.mem_of_getElem? (i := 1) (by decide +kernel)⟩
theorem f_X4_oddsOf_20 : FL wsX4_oddsOf RX4 20 4 5 := ⟨RX4, TX4, 27, rfl, fun _ h => List.mem_cons_of_mem _ (List.mem_append_right _ h), by decide, List.mem_of_getElem? (i := 3) (by decide +kernel)⟩
theorem cal_X4_oddsOf : Cal yX4_oddsOf wsX4_oddsOf cX4_oddsOf 2 (some .int) RX4 1 := ⟨⟨_, rfl⟩, by decide +kernel⟩
theorem f_X4_likeliest_66 : FL wsX4_likeliest RX4 66 4 3 := ⟨RX4, TX4, 27, rfl, fun _ h => List.mem_cons_of_mem _ (List.mem_append_right _ h), by decide, List.mem_of_getElem? (i := 1) (by decide +kernel)⟩
theorem f_X4_caught_111 : FL wsX4_caught RX4 111 4 4 := ⟨RX4, TX4, 27, rfl, fun _ h => List.mem_cons_of_mem _ (List.mem_append_right _ h), by decide, List.mem_of_getElem? (i := 1) (by decide +kernel)⟩
theorem f_X4_by_111 : FL wsX4_by RX4 111 4 4 := ⟨RX4, TX4, 27, rfl, fun _ h => List.mem_cons_of_mem _ (List.mem_append_right _ h), by decide, List.mem_of_getElem? (i := 1) (by decide +kernel)⟩
theorem f_X4_mean_111 : FL wsX4_mean RX4 111 4 4 := ⟨RX4, TX4, 27, rfl, fun _ h => List.mem_cons_of_mem _ (List.mem_append_right _ h), by decide, List.mem_of_getElem? (i := 1) (by decide +kernel)⟩
theorem f_X4_mean_66 : FL wsX4_mean RX4 66 4 3 := ⟨RX4, TX4, 27, rfl, fun _ h => List.mem_cons_of_mem _ (List.mem_append_right _ h), by decide, List.mem_of_getElem? (i := 2) (by decide +kernel)⟩
theorem f_X4_mean_20 : FL wsX4_mean RX4 20 4 5 := ⟨RX4, TX4, 27, rfl, fun _ h => List.mem_cons_of_mem _ (List.mem_append_right _ h), by decide, List.mem_of_getElem? (i := 3) (by decide +kernel)⟩
theorem f_X4_gains_111 : FL wsX4_gains RX4 111 4 4 := ⟨RX4, TX4, 27, rfl, fun _ h => List.mem_cons_of_mem _ (List.mem_append_right _ h), by decide, List.mem_of_getElem? (i := 1) (by decide +kernel)⟩
theorem f_X4_gains_20 : FL wsX4_gains RX4 20 4 5 := ⟨RX4, TX4, 27, rfl, fun _ h => List.mem_cons_of_mem _ (List.mem_append_right _ h), by decide, List.mem_of_getElem? (i := 3) (by decide +kernel)⟩
theorem cal_X4_noFar : Cal yX4_noFar wsX4_noFar cX4_noFar 2 (some .int) RX4 1 := ⟨⟨_, rfl⟩, by decide +kernel⟩
theorem cal_X4_gains : Cal yX4_gains wsX4_gains cX4_gains 3 (some .int) RX4 2 := ⟨⟨_, rfl⟩, by decide +kernel⟩
theorem f_X4_bet_66 : FL wsX4_bet RX4 66 4 3 := ⟨RX4, TX4, 27, rfl, fun _ h => List.mem_cons_of_mem _ (List.mem_append_right _ h), by decide, List.mem_of_getElem? (i := 1) (by decide +kernel)⟩
theorem f_X4_bet_111 : FL wsX4_bet RX4 111 4 4 := ⟨RX4, TX4, 27, rfl, fun _ h => List.mem_cons_of_mem _ (List.mem_append_right _ h), by decide, List.mem_of_getElem? (i := 2) (by decide +kernel)⟩
theorem f_X4_second_66 : FL wsX4_second RX4 66 4 3 := ⟨RX4, TX4, 27, rfl, fun _ h => List.mem_cons_of_mem _ (List.mem_append_right _ h), by decide, List.mem_of_getElem? (i := 1) (by decide +kernel)⟩
theorem f_X4_second_111 : FL wsX4_second RX4 111 4 4 := ⟨RX4, TX4, 27, rfl, fun _ h => List.mem_cons_of_mem _ (List.mem_append_right _ h), by decide, List.mem_of_getElem? (i := 2) (by decide +kernel)⟩
theorem f_X4_foreseesIt_23 : FL wsX4_foreseesIt RX4 23 4 8 := ⟨RX4, TX4, 27, rfl, fun _ h => List.mem_cons_of_mem _ (List.mem_append_right _ h), by decide, List.mem_of_getElem? (i := 1) (by decide +kernel)⟩
theorem cal_X4_foreseesIt : Cal yX4_foreseesIt wsX4_foreseesIt cX4_foreseesIt 3 (some .boolean) RX4 2 := ⟨⟨_, rfl⟩, by decide +kernel⟩
theorem f_X4_foreseen_59 : FL wsX4_foreseen RX4 59 4 7 := ⟨RX4, TX4, 27, rfl, fun _ h => List.mem_cons_of_mem _ (List.mem_append_right _ h), by decide, List.mem_of_getElem? (i := 1) (by decide +kernel)⟩
theorem f_X4_deepest_59 : FL wsX4_deepest RX4 59 4 7 := ⟨RX4, TX4, 27, rfl, fun _ h => List.mem_cons_of_mem _ (List.mem_append_right _ h), by decide, List.mem_of_getElem? (i := 1) (by decide +kernel)⟩
theorem f_X4_asleep_59 : FL wsX4_asleep RX4 59 4 7 := ⟨RX4, TX4, 27, rfl, fun _ h => List.mem_cons_of_mem _ (List.mem_append_right _ h), by decide, List.mem_of_getElem? (i := 1) (by decide +kernel)⟩
theorem k_bp_41 : (Int8.ofInt (41)).toInt32 = nI 41 := by decide
set_option maxHeartbeats 4000000 in
set_option maxRecDepth 100000 in
theorem d_lastOf (g : gT) (a : Nat) (ha : a < 512) : Cw g yX4_lastOf wsX4_lastOf 1 21 [.int (nI a)] ([]) (some (.int (lstI a))) ([]) := by
  refine Ct.start (cc := cX4_lastOf) (nL := 1) (ret := (some .int)) (own := RX4) (by decide) rfl rfl rfl ?_
  intro Γ X E
  show Go Γ g 1 (rmC 1 21) 0 0 ([]) 0 [(0, .int (nI a))] []
  refine Go.iload_n X 0 dX4_lastOf_0 rfl ?_
  refine Go.if_neN X 8 dX4_lastOf_1 (by decide) (by first | omega | (split <;> omega)) (fun h1 => ?_) (fun h1 => ?_)
  · --
    refine Go.bipush X (nI 31) dX4_lastOf_8 k_bp_31 ?_
    refine Go.iload_n X 0 dX4_lastOf_10 rfl ?_
    refine Go.callSi X  (c_nlz g a (by first | omega | (split <;> omega)) (by first | omega | (split <;> omega))) cal_J6_numberOfLeadingZeros_0f7a4 [] rfl rfl gX4_lastOf_J6_numberOfLeadingZeros_0f7a4 rfl rfl rfl dX4_lastOf_11 ?_
    have f11_1 := log2_lt9 (show a < 512 by omega)
    refine Go.isub_e X (nI (31 - (31 - Nat.log2 a))) dX4_lastOf_14 (pk_sub (by first | omega | (split <;> omega))) ?_
    exact Go.iret X E dX4_lastOf_15 ⟨rv (show (nI (31 - (31 - Nat.log2 a))) = lstI a from by rw [lstI, if_neg h1, show 31 - (31 - a.log2) = a.log2 by omega]), rfl⟩ rfl
  · --
    refine Go.iconst X ((-1 : Int32)) dX4_lastOf_4 k_ic_m1 ?_
    refine Go.goto X 15 dX4_lastOf_5 (by decide) ?_
    exact Go.iret X E dX4_lastOf_15 ⟨rv (show (-1) = lstI a from by rw [lstI, if_pos h1]), rfl⟩ rfl
set_option maxHeartbeats 4000000 in
set_option maxRecDepth 100000 in
theorem d_lastAllowed (g : gT) (ad : Nat → Nat) (N : Sch) (K : Sch) (b : Bool) (z : Nat) (le : Nat → Nat) (rf : Nat → Int32) (hd : Nat → Int32) (ln : Nat → Nat) (vl : Nat → Nat → Int64) (aw : Nat) (at1 : Nat) (tk : Nat) (so : Int32) (va : Int32) (lm : Nat → Nat) (ol : Nat → Int32) (ah : Nat → Int32) (lt : Int32) (lo : Nat → Int32) (hN : sOk N) : Cw g yX4_lastAllowed wsX4_lastAllowed 2 41 [.ref (ad 0)] (mdW g ad (N, K, b, z, le, rf, hd, ln, vl) (aw, at1, tk, so, va, lm, ol, ah, lt, lo)) (some (.int (lstI (sA N)))) (mdW g ad (N, K, b, z, le, rf, hd, ln, vl) (aw, at1, tk, so, va, lm, ol, ah, lt, lo)) := by
  refine Ct.start (cc := cX4_lastAllowed) (nL := 1) (ret := (some .int)) (own := RX4) (by decide) rfl rfl rfl ?_
  intro Γ X E
  show Go Γ g 1 (rmC 2 41) 0 0 (mdW g ad (N, K, b, z, le, rf, hd, ln, vl) (aw, at1, tk, so, va, lm, ol, ah, lt, lo)) 0 [(0, .ref (ad 0))] []
  obtain ⟨o1, o2, o3, o4, o5, o6, o7, o8⟩ := id hN
  have o9 := p2_9 o2
  have o10 := sA_512 hN
  refine Go.aload_n X 0 dX4_lastAllowed_0 rfl ?_
  refine Go.get X f_X4_lastAllowed_111 0 (v := .int (nI (sA N))) rfl rfl dX4_lastAllowed_1 ?_
  refine Go.callSi X  (d_lastOf g (sA N) (by first | omega | (split <;> omega))) cal_X4_lastOf [] rfl rfl gX4_lastAllowed_X4_lastOf rfl rfl rfl dX4_lastAllowed_4 ?_
  exact Go.iret X E dX4_lastAllowed_7 ⟨rfl, rfl⟩ rfl
set_option maxHeartbeats 4000000 in
set_option maxRecDepth 100000 in
theorem d_firstOf (g : gT) (ad : Nat → Nat) (N : Sch) (K : Sch) (b : Bool) (z : Nat) (le : Nat → Nat) (rf : Nat → Int32) (hd : Nat → Int32) (ln : Nat → Nat) (vl : Nat → Nat → Int64) (aw : Nat) (at1 : Nat) (tk : Nat) (so : Int32) (va : Int32) (lm : Nat → Nat) (ol : Nat → Int32) (ah : Nat → Int32) (lt : Int32) (lo : Nat → Int32) (i : Nat) (hN : sOk N) (hi : i < 6) (ha : aw ≤ 6) : Cw g yX4_firstOf wsX4_firstOf 6 139 [.ref (ad 0), .int (nI i)] (mdW g ad (N, K, b, z, le, rf, hd, ln, vl) (aw, at1, tk, so, va, lm, ol, ah, lt, lo)) (some (.int (fstI (expd N aw i)))) (mdW g ad (N, K, b, z, le, rf, hd, ln, vl) (aw, at1, tk, so, va, lm, ol, ah, lt, lo)) := by
  refine Ct.start (cc := cX4_firstOf) (nL := 3) (ret := (some .int)) (own := RX4) (by decide) rfl rfl rfl ?_
  intro Γ X E
  show Go Γ g 3 (rmC 6 139) 0 0 (mdW g ad (N, K, b, z, le, rf, hd, ln, vl) (aw, at1, tk, so, va, lm, ol, ah, lt, lo)) 0 [(0, .ref (ad 0)), (1, .int (nI i))] []
  obtain ⟨o1, o2, o3, o4, o5, o6, o7, o8⟩ := id hN
  have o9 := p2_9 o2
  have o10 := sA_512 hN
  refine Go.aload_n X 0 dX4_firstOf_0 rfl ?_
  refine Go.iload_n X 1 dX4_firstOf_1 rfl ?_
  refine Go.callV0i X (d_expected g ad N K b z le rf hd ln vl aw at1 tk so va lm ol ah lt lo i (by exact hN) (by first | omega | (split <;> omega)) (by first | omega | (split <;> omega))) cal_X4_expected gX4_firstOf_X4_expected (ci := 4) (q0 := 0) rfl rfl rfl rfl rfl dX4_firstOf_2 ?_
  have f2_1 := expd_512 hN aw i
  refine Go.istore_n_new X dX4_firstOf_5 (by decide) rfl ?_
  refine Go.iload_n X 0 dX4_firstOf_6 rfl ?_
  refine Go.if_neN X 14 dX4_firstOf_7 (by decide) (by first | omega | (split <;> omega)) (fun h7 => ?_) (fun h7 => ?_)
  · --
    refine Go.iload_n X 0 dX4_firstOf_14 rfl ?_
    refine Go.callSi X  (c_ntz g (expd N aw i) (by first | omega | (split <;> omega)) (by first | omega | (split <;> omega))) cal_J6_numberOfTrailingZeros_0f7a4 [] rfl rfl gX4_firstOf_J6_numberOfTrailingZeros_0f7a4 rfl rfl rfl dX4_firstOf_15 ?_
    exact Go.iret X E dX4_firstOf_18 ⟨rv (show (nI (ctz 9 (expd N aw i) 0)) = fstI (expd N aw i) from by rw [fstI, if_neg h7]), rfl⟩ rfl
  · --
    refine Go.iconst X ((-1 : Int32)) dX4_firstOf_10 k_ic_m1 ?_
    refine Go.goto X 18 dX4_firstOf_11 (by decide) ?_
    exact Go.iret X E dX4_firstOf_18 ⟨rv (show (-1) = fstI (expd N aw i) from by rw [fstI, if_pos h7]), rfl⟩ rfl
set_option maxHeartbeats 4000000 in
set_option maxRecDepth 100000 in
theorem e_personOf (g : gT) (ad : Nat → Nat) (N : Sch) (K : Sch) (b : Bool) (z : Nat) (le : Nat → Nat) (rf : Nat → Int32) (hd : Nat → Int32) (ln : Nat → Nat) (vl : Nat → Nat → Int64) (at1 : Nat) (tk : Nat) (so : Int32) (va : Int32) (lm : Nat → Nat) (ol : Nat → Int32) (ah : Nat → Int32) (lt : Int32) (lo : Nat → Int32) (i : Int32) (w : Int32) (hN : sOk N) (hH : hOk (sP N) hd) (hm : mOk (N, K, b, z, le, rf, hd, ln, vl) (6, at1, tk, so, va, lm, ol, ah, lt, lo)) : Ct g yX4_personOf wsX4_personOf 6 139 [.ref (ad 0), .int i, .int w] (mdW g ad (N, K, b, z, le, rf, hd, ln, vl) (6, at1, tk, so, va, lm, ol, ah, lt, lo)) (fun v9 w9 => v9 = (some (.int (x_personOf (N, K, b, z, le, rf, hd, ln, vl) i w).2)) ∧ ∃ J9, mOk (x_personOf (N, K, b, z, le, rf, hd, ln, vl) i w).1 J9 ∧ w9 = mdW g ad (x_personOf (N, K, b, z, le, rf, hd, ln, vl) i w).1 J9) := by
  refine Ct.start (cc := cX4_personOf) (nL := 3) (ret := (some .int)) (own := RX4) (by decide) rfl rfl rfl ?_
  intro Γ X E
  show Go Γ g 3 (rmC 6 139) 0 0 (mdW g ad (N, K, b, z, le, rf, hd, ln, vl) (6, at1, tk, so, va, lm, ol, ah, lt, lo)) 0 [(0, .ref (ad 0)), (1, .int i), (2, .int w)] []
  obtain ⟨o1, o2, o3, o4, o5, o6, o7, o8⟩ := id hN
  have o9 := p2_9 o2
  have o10 := sA_512 hN
  refine Go.aload_n X 0 dX4_personOf_0 rfl ?_
  refine Go.iload_n X 1 dX4_personOf_1 rfl ?_
  refine Go.callV0i X (d_isOne g ad N K b z le rf hd ln vl 6 at1 tk so va lm ol ah lt lo i (by exact hN)) cal_X4_isOne gX4_personOf_X4_isOne (ci := 4) (q0 := 0) rfl rfl rfl rfl rfl dX4_personOf_2 ?_
  refine Go.if_eqB X 17 dX4_personOf_5 (by decide) (fun h5 => ?_) (fun h5 => ?_)
  · --
    refine Go.aload_n X 0 dX4_personOf_17 rfl ?_
    refine Go.bipush X ((-2 : Int32)) dX4_personOf_18 k_bp_m2 ?_
    refine Go.callV0i X (d_no_0 g ad N K b z le rf hd ln vl 6 at1 tk so va lm ol ah lt lo) cal_X4_no gX4_personOf_X4_no (ci := 4) (q0 := 0) rfl rfl rfl rfl rfl dX4_personOf_20 ?_
    have e9 : x_personOf (N, K, b, z, le, rf, hd, ln, vl) i w = ((N, K, b, z, le, inc rf 0, hd, ln, vl), (-2)) := by simp (decide := true) [x_personOf, rfS, upS_id, h5]
    have m9 : mOk (N, K, b, z, le, inc rf 0, hd, ln, vl) (6, at1, tk, so, va, lm, ol, ah, lt, lo) := ⟨rfl, hm.2.1, hm.2.2⟩
    exact Go.iret X E dX4_personOf_23 ⟨by rw [e9], _, by rw [e9]; exact m9, by rw [e9]⟩ rfl
  · --
    obtain ⟨ik, hik, rfl⟩ := inb_at (by first | omega | (split <;> omega)) h5
    refine Go.iload_n X 2 dX4_personOf_8 rfl ?_
    refine Go.iconst X (nI 0) dX4_personOf_9 k_ic_0 ?_
    refine Go.iconst X (nI 3) dX4_personOf_10 k_ic_3 ?_
    refine Go.callSi X  (d_within_3 g w) cal_X4_within [] rfl rfl gX4_personOf_X4_within rfl rfl rfl dX4_personOf_11 ?_
    refine Go.if_neB X 24 dX4_personOf_14 (by decide) (fun h14 => ?_) (fun h14 => ?_)
    · --
      obtain ⟨wk, hwk, rfl⟩ := inb_at (by first | omega | (split <;> omega)) h14
      refine Go.iload_n X 2 dX4_personOf_24 rfl ?_
      refine Go.if_neN X 37 dX4_personOf_25 (by decide) (by first | omega | (split <;> omega)) (fun h25 => ?_) (fun h25 => ?_)
      · --
        refine Go.iload_n X 2 dX4_personOf_37 rfl ?_
        refine Go.iconst X (nI 1) dX4_personOf_38 k_ic_1 ?_
        refine Go.icmp_neN X 51 dX4_personOf_39 (by decide) (by first | omega | (split <;> omega)) (by decide) (fun h39 => ?_) (fun h39 => ?_)
        · --
          refine Go.iload_n X 2 dX4_personOf_51 rfl ?_
          refine Go.iconst X (nI 2) dX4_personOf_52 k_ic_2 ?_
          refine Go.icmp_neN X 64 dX4_personOf_53 (by decide) (by first | omega | (split <;> omega)) (by decide) (fun h53 => ?_) (fun h53 => ?_)
          · --
            refine Go.aload_n X 0 dX4_personOf_64 rfl ?_
            refine Go.iload_n X 1 dX4_personOf_65 rfl ?_
            refine Go.callV0i X (d_expected g ad N K b z le rf hd ln vl 6 at1 tk so va lm ol ah lt lo ik (by exact hN) (by first | omega | (split <;> omega)) (by first | omega | (split <;> omega))) cal_X4_expected gX4_personOf_X4_expected (ci := 4) (q0 := 0) rfl rfl rfl rfl rfl dX4_personOf_66 ?_
            have f66_1 := expd_512 hN 6 ik
            have e9 : x_personOf (N, K, b, z, le, rf, hd, ln, vl) (nI ik) (nI wk) = ((N, K, b, z, le, rf, hd, ln, vl), (nI (expd N 6 ik))) := by have e9 : wk = 3 := (by omega); subst e9; simp (decide := true) [x_personOf, rfS, h5, nI_clamp (show ik < 2 ^ 31 by omega), nI_clamp (show (0 : Nat) < 2 ^ 31 by decide)]
            have m9 : mOk (N, K, b, z, le, rf, hd, ln, vl) (6, at1, tk, so, va, lm, ol, ah, lt, lo) := ⟨rfl, hm.2.1, hm.2.2⟩
            exact Go.iret X E dX4_personOf_69 ⟨by rw [e9], _, by rw [e9]; exact m9, by rw [e9]⟩ rfl
          · --
            refine Go.aload_n X 0 dX4_personOf_56 rfl ?_
            refine Go.iload_n X 1 dX4_personOf_57 rfl ?_
            refine Go.callV0i X (d_depth g ad N K b z le rf hd ln vl 6 at1 tk so va lm ol ah lt lo ik (by exact hN) (by first | omega | (split <;> omega)) (by first | omega | (split <;> omega))) cal_X4_depth gX4_personOf_X4_depth (ci := 4) (q0 := 0) rfl rfl rfl rfl rfl dX4_personOf_58 ?_
            have f58_2 := dep_le hN 6 ik
            refine Go.goto X 69 dX4_personOf_61 (by decide) ?_
            have e9 : x_personOf (N, K, b, z, le, rf, hd, ln, vl) (nI ik) (nI wk) = ((N, K, b, z, le, rf, hd, ln, vl), (nI (dep N 6 ik))) := by have e9 : wk = 2 := (by omega); subst e9; simp (decide := true) [x_personOf, rfS, h5, nI_clamp (show ik < 2 ^ 31 by omega), nI_clamp (show (0 : Nat) < 2 ^ 31 by decide)]
            have m9 : mOk (N, K, b, z, le, rf, hd, ln, vl) (6, at1, tk, so, va, lm, ol, ah, lt, lo) := ⟨rfl, hm.2.1, hm.2.2⟩
            exact Go.iret X E dX4_personOf_69 ⟨by rw [e9], _, by rw [e9]; exact m9, by rw [e9]⟩ rfl
        · --
          refine Go.aload_n X 0 dX4_personOf_42 rfl ?_
          refine Go.get X f_X4_personOf_26 0 (v := .ref (ad 6)) rfl rfl dX4_personOf_43 ?_
          refine Go.iload_n X 1 dX4_personOf_46 rfl ?_
          refine Go.ialdN X 6 (w := sO N) rfl (by first | omega | (split <;> omega)) rfl dX4_personOf_47 ?_
          refine Go.goto X 69 dX4_personOf_48 (by decide) ?_
          have e9 : x_personOf (N, K, b, z, le, rf, hd, ln, vl) (nI ik) (nI wk) = ((N, K, b, z, le, rf, hd, ln, vl), (nI ((sO N) ik))) := by have e9 : wk = 1 := (by omega); subst e9; simp (decide := true) [x_personOf, rfS, h5, nI_clamp (show ik < 2 ^ 31 by omega), nI_clamp (show (0 : Nat) < 2 ^ 31 by decide)]
          have m9 : mOk (N, K, b, z, le, rf, hd, ln, vl) (6, at1, tk, so, va, lm, ol, ah, lt, lo) := ⟨rfl, hm.2.1, hm.2.2⟩
          exact Go.iret X E dX4_personOf_69 ⟨by rw [e9], _, by rw [e9]; exact m9, by rw [e9]⟩ rfl
      · --
        refine Go.aload_n X 0 dX4_personOf_28 rfl ?_
        refine Go.get X f_X4_personOf_23 0 (v := .ref (ad 5)) rfl rfl dX4_personOf_29 ?_
        refine Go.iload_n X 1 dX4_personOf_32 rfl ?_
        refine Go.ialdN X 5 (w := sK N) rfl (by first | omega | (split <;> omega)) rfl dX4_personOf_33 ?_
        refine Go.goto X 69 dX4_personOf_34 (by decide) ?_
        have e9 : x_personOf (N, K, b, z, le, rf, hd, ln, vl) (nI ik) (nI wk) = ((N, K, b, z, le, rf, hd, ln, vl), (nI ((sK N) ik))) := by have e9 : wk = 0 := (by omega); subst e9; simp (decide := true) [x_personOf, rfS, h5, nI_clamp (show ik < 2 ^ 31 by omega), nI_clamp (show (0 : Nat) < 2 ^ 31 by decide)]
        have m9 : mOk (N, K, b, z, le, rf, hd, ln, vl) (6, at1, tk, so, va, lm, ol, ah, lt, lo) := ⟨rfl, hm.2.1, hm.2.2⟩
        exact Go.iret X E dX4_personOf_69 ⟨by rw [e9], _, by rw [e9]; exact m9, by rw [e9]⟩ rfl
    · --
      refine Go.aload_n X 0 dX4_personOf_17 rfl ?_
      refine Go.bipush X ((-2 : Int32)) dX4_personOf_18 k_bp_m2 ?_
      refine Go.callV0i X (d_no_0 g ad N K b z le rf hd ln vl 6 at1 tk so va lm ol ah lt lo) cal_X4_no gX4_personOf_X4_no (ci := 4) (q0 := 0) rfl rfl rfl rfl rfl dX4_personOf_20 ?_
      have e9 : x_personOf (N, K, b, z, le, rf, hd, ln, vl) (nI ik) w = ((N, K, b, z, le, inc rf 0, hd, ln, vl), (-2)) := by obtain ⟨e0, e1, e2, e3⟩ := nw4 h14; simp (decide := true) [x_personOf, rfS, h5, e0, e1, e2, e3, nI_clamp (show ik < 2 ^ 31 by omega)]
      have m9 : mOk (N, K, b, z, le, inc rf 0, hd, ln, vl) (6, at1, tk, so, va, lm, ol, ah, lt, lo) := ⟨rfl, hm.2.1, hm.2.2⟩
      exact Go.iret X E dX4_personOf_23 ⟨by rw [e9], _, by rw [e9]; exact m9, by rw [e9]⟩ rfl
set_option maxHeartbeats 4000000 in
set_option maxRecDepth 100000 in
theorem e_morningOf (g : gT) (ad : Nat → Nat) (N : Sch) (K : Sch) (b : Bool) (z : Nat) (le : Nat → Nat) (rf : Nat → Int32) (hd : Nat → Int32) (ln : Nat → Nat) (vl : Nat → Nat → Int64) (at1 : Nat) (tk : Nat) (so : Int32) (va : Int32) (lm : Nat → Nat) (ol : Nat → Int32) (ah : Nat → Int32) (lt : Int32) (lo : Nat → Int32) (m : Int32) (w : Int32) (hN : sOk N) (hH : hOk (sP N) hd) (hm : mOk (N, K, b, z, le, rf, hd, ln, vl) (6, at1, tk, so, va, lm, ol, ah, lt, lo)) : Ct g yX4_morningOf wsX4_morningOf 2 44 [.ref (ad 0), .int m, .int w] (mdW g ad (N, K, b, z, le, rf, hd, ln, vl) (6, at1, tk, so, va, lm, ol, ah, lt, lo)) (fun v9 w9 => v9 = (some (.int (x_morningOf (N, K, b, z, le, rf, hd, ln, vl) m w).2)) ∧ ∃ J9, mOk (x_morningOf (N, K, b, z, le, rf, hd, ln, vl) m w).1 J9 ∧ w9 = mdW g ad (x_morningOf (N, K, b, z, le, rf, hd, ln, vl) m w).1 J9) := by
  refine Ct.start (cc := cX4_morningOf) (nL := 3) (ret := (some .int)) (own := RX4) (by decide) rfl rfl rfl ?_
  intro Γ X E
  show Go Γ g 3 (rmC 2 44) 0 0 (mdW g ad (N, K, b, z, le, rf, hd, ln, vl) (6, at1, tk, so, va, lm, ol, ah, lt, lo)) 0 [(0, .ref (ad 0)), (1, .int m), (2, .int w)] []
  obtain ⟨o1, o2, o3, o4, o5, o6, o7, o8⟩ := id hN
  have o9 := p2_9 o2
  have o10 := sA_512 hN
  refine Go.aload_n X 0 dX4_morningOf_0 rfl ?_
  refine Go.iload_n X 1 dX4_morningOf_1 rfl ?_
  refine Go.callV0i X (d_isMorning g ad N K b z le rf hd ln vl 6 at1 tk so va lm ol ah lt lo m (by exact hN)) cal_X4_isMorning gX4_morningOf_X4_isMorning (ci := 4) (q0 := 0) rfl rfl rfl rfl rfl dX4_morningOf_2 ?_
  refine Go.if_eqB X 17 dX4_morningOf_5 (by decide) (fun h5 => ?_) (fun h5 => ?_)
  · --
    refine Go.aload_n X 0 dX4_morningOf_17 rfl ?_
    refine Go.bipush X ((-2 : Int32)) dX4_morningOf_18 k_bp_m2 ?_
    refine Go.callV0i X (d_no_0 g ad N K b z le rf hd ln vl 6 at1 tk so va lm ol ah lt lo) cal_X4_no gX4_morningOf_X4_no (ci := 4) (q0 := 0) rfl rfl rfl rfl rfl dX4_morningOf_20 ?_
    have e9 : x_morningOf (N, K, b, z, le, rf, hd, ln, vl) m w = ((N, K, b, z, le, inc rf 0, hd, ln, vl), (-2)) := by simp (decide := true) [x_morningOf, rfS, upS_id, h5]
    have m9 : mOk (N, K, b, z, le, inc rf 0, hd, ln, vl) (6, at1, tk, so, va, lm, ol, ah, lt, lo) := ⟨rfl, hm.2.1, hm.2.2⟩
    exact Go.iret X E dX4_morningOf_23 ⟨by rw [e9], _, by rw [e9]; exact m9, by rw [e9]⟩ rfl
  · --
    obtain ⟨mk, hmk, rfl⟩ := inb_at (by first | omega | (split <;> omega)) h5
    refine Go.iload_n X 2 dX4_morningOf_8 rfl ?_
    refine Go.iconst X (nI 0) dX4_morningOf_9 k_ic_0 ?_
    refine Go.iconst X (nI 3) dX4_morningOf_10 k_ic_3 ?_
    refine Go.callSi X  (d_within_3 g w) cal_X4_within [] rfl rfl gX4_morningOf_X4_within rfl rfl rfl dX4_morningOf_11 ?_
    refine Go.if_neB X 24 dX4_morningOf_14 (by decide) (fun h14 => ?_) (fun h14 => ?_)
    · --
      obtain ⟨wk, hwk, rfl⟩ := inb_at (by first | omega | (split <;> omega)) h14
      refine Go.iload_n X 2 dX4_morningOf_24 rfl ?_
      refine Go.if_neN X 39 dX4_morningOf_25 (by decide) (by first | omega | (split <;> omega)) (fun h25 => ?_) (fun h25 => ?_)
      · --
        refine Go.iload_n X 2 dX4_morningOf_39 rfl ?_
        refine Go.iconst X (nI 1) dX4_morningOf_40 k_ic_1 ?_
        refine Go.icmp_neN X 53 dX4_morningOf_41 (by decide) (by first | omega | (split <;> omega)) (by decide) (fun h41 => ?_) (fun h41 => ?_)
        · --
          refine Go.iload_n X 2 dX4_morningOf_53 rfl ?_
          refine Go.iconst X (nI 2) dX4_morningOf_54 k_ic_2 ?_
          refine Go.icmp_neN X 66 dX4_morningOf_55 (by decide) (by first | omega | (split <;> omega)) (by decide) (fun h55 => ?_) (fun h55 => ?_)
          · --
            refine Go.aload_n X 0 dX4_morningOf_66 rfl ?_
            refine Go.aload_n X 0 dX4_morningOf_67 rfl ?_
            refine Go.iload_n X 1 dX4_morningOf_68 rfl ?_
            refine Go.callV0i X (d_still g ad N K b z le rf hd ln vl 6 at1 tk so va lm ol ah lt lo mk (by exact hN) (by first | omega | (split <;> omega))) cal_X4_still gX4_morningOf_X4_still (ci := 4) (q0 := 0) rfl rfl rfl rfl rfl dX4_morningOf_69 ?_
            have f69_1 := still_le (sA N) mk
            refine Go.callV0i X (d_weights g ad N K b z le rf hd ln vl 6 at1 tk so va lm ol ah lt lo (still (sA N) mk) (by exact hN) (by first | omega | (split <;> omega))) cal_X4_weights gX4_morningOf_X4_weights (ci := 4) (q0 := 0) rfl rfl rfl rfl rfl dX4_morningOf_72 ?_
            have f72_2 := wsum_81 hN (still (sA N) mk)
            have e9 : x_morningOf (N, K, b, z, le, rf, hd, ln, vl) (nI mk) (nI wk) = ((N, K, b, z, le, rf, hd, ln, vl), (nI (wsum (sW N) (still (sA N) mk) (sN N)))) := by have e9 : wk = 3 := (by omega); subst e9; simp (decide := true) [x_morningOf, rfS, h5, nI_clamp (show mk < 2 ^ 31 by omega), nI_clamp (show (0 : Nat) < 2 ^ 31 by decide)]
            have m9 : mOk (N, K, b, z, le, rf, hd, ln, vl) (6, at1, tk, so, va, lm, ol, ah, lt, lo) := ⟨rfl, hm.2.1, hm.2.2⟩
            exact Go.iret X E dX4_morningOf_75 ⟨by rw [e9], _, by rw [e9]; exact m9, by rw [e9]⟩ rfl
          · --
            refine Go.aload_n X 0 dX4_morningOf_58 rfl ?_
            refine Go.iload_n X 1 dX4_morningOf_59 rfl ?_
            refine Go.callV0i X (d_still g ad N K b z le rf hd ln vl 6 at1 tk so va lm ol ah lt lo mk (by exact hN) (by first | omega | (split <;> omega))) cal_X4_still gX4_morningOf_X4_still (ci := 4) (q0 := 0) rfl rfl rfl rfl rfl dX4_morningOf_60 ?_
            have f60_3 := still_le (sA N) mk
            refine Go.goto X 75 dX4_morningOf_63 (by decide) ?_
            have e9 : x_morningOf (N, K, b, z, le, rf, hd, ln, vl) (nI mk) (nI wk) = ((N, K, b, z, le, rf, hd, ln, vl), (nI (still (sA N) mk))) := by have e9 : wk = 2 := (by omega); subst e9; simp (decide := true) [x_morningOf, rfS, h5, nI_clamp (show mk < 2 ^ 31 by omega), nI_clamp (show (0 : Nat) < 2 ^ 31 by decide)]
            have m9 : mOk (N, K, b, z, le, rf, hd, ln, vl) (6, at1, tk, so, va, lm, ol, ah, lt, lo) := ⟨rfl, hm.2.1, hm.2.2⟩
            exact Go.iret X E dX4_morningOf_75 ⟨by rw [e9], _, by rw [e9]; exact m9, by rw [e9]⟩ rfl
        · --
          refine Go.aload_n X 0 dX4_morningOf_44 rfl ?_
          refine Go.get X f_X4_morningOf_20 0 (v := .ref (ad 4)) rfl rfl dX4_morningOf_45 ?_
          refine Go.iload_n X 1 dX4_morningOf_48 rfl ?_
          refine Go.ialdN X 4 (w := sW N) rfl (by first | omega | (split <;> omega)) rfl dX4_morningOf_49 ?_
          refine Go.goto X 75 dX4_morningOf_50 (by decide) ?_
          have e9 : x_morningOf (N, K, b, z, le, rf, hd, ln, vl) (nI mk) (nI wk) = ((N, K, b, z, le, rf, hd, ln, vl), (nI ((sW N) mk))) := by have e9 : wk = 1 := (by omega); subst e9; simp (decide := true) [x_morningOf, rfS, h5, nI_clamp (show mk < 2 ^ 31 by omega), nI_clamp (show (0 : Nat) < 2 ^ 31 by decide)]
          have m9 : mOk (N, K, b, z, le, rf, hd, ln, vl) (6, at1, tk, so, va, lm, ol, ah, lt, lo) := ⟨rfl, hm.2.1, hm.2.2⟩
          exact Go.iret X E dX4_morningOf_75 ⟨by rw [e9], _, by rw [e9]; exact m9, by rw [e9]⟩ rfl
      · --
        refine Go.aload_n X 0 dX4_morningOf_28 rfl ?_
        refine Go.get X f_X4_morningOf_111 0 (v := .int (nI (sA N))) rfl rfl dX4_morningOf_29 ?_
        refine Go.iload_n X 1 dX4_morningOf_32 rfl ?_
        refine Go.ishr_e X (nI ((sA N) >>> mk)) dX4_morningOf_33 (nI_shr (by first | omega | (split <;> omega)) (by first | omega | (split <;> omega))) ?_
        refine Go.iconst X (nI 1) dX4_morningOf_34 k_ic_1 ?_
        refine Go.iand_e X (nI (((sA N) >>> mk) &&& 1)) dX4_morningOf_35 (nI_and _ _) ?_
        refine Go.top (w := .int (nI (if Nat.testBit (sA N) mk then 1 else 0))) (by rw [shr_tb]) ?_
        refine Go.goto X 75 dX4_morningOf_36 (by decide) ?_
        have e9 : x_morningOf (N, K, b, z, le, rf, hd, ln, vl) (nI mk) (nI wk) = ((N, K, b, z, le, rf, hd, ln, vl), (nI (if Nat.testBit (sA N) mk then 1 else 0))) := by cases hq : Nat.testBit (sA N) mk <;> (have e9 : wk = 0 := (by omega); subst e9; simp (decide := true) [x_morningOf, rfS, hq, h5, nI_clamp (show mk < 2 ^ 31 by omega), nI_clamp (show (0 : Nat) < 2 ^ 31 by decide)])
        have m9 : mOk (N, K, b, z, le, rf, hd, ln, vl) (6, at1, tk, so, va, lm, ol, ah, lt, lo) := ⟨rfl, hm.2.1, hm.2.2⟩
        exact Go.iret X E dX4_morningOf_75 ⟨by rw [e9], _, by rw [e9]; exact m9, by rw [e9]⟩ rfl
    · --
      refine Go.aload_n X 0 dX4_morningOf_17 rfl ?_
      refine Go.bipush X ((-2 : Int32)) dX4_morningOf_18 k_bp_m2 ?_
      refine Go.callV0i X (d_no_0 g ad N K b z le rf hd ln vl 6 at1 tk so va lm ol ah lt lo) cal_X4_no gX4_morningOf_X4_no (ci := 4) (q0 := 0) rfl rfl rfl rfl rfl dX4_morningOf_20 ?_
      have e9 : x_morningOf (N, K, b, z, le, rf, hd, ln, vl) (nI mk) w = ((N, K, b, z, le, inc rf 0, hd, ln, vl), (-2)) := by obtain ⟨e0, e1, e2, e3⟩ := nw4 h14; simp (decide := true) [x_morningOf, rfS, h5, e0, e1, e2, e3, nI_clamp (show mk < 2 ^ 31 by omega)]
      have m9 : mOk (N, K, b, z, le, inc rf 0, hd, ln, vl) (6, at1, tk, so, va, lm, ol, ah, lt, lo) := ⟨rfl, hm.2.1, hm.2.2⟩
      exact Go.iret X E dX4_morningOf_23 ⟨by rw [e9], _, by rw [e9]; exact m9, by rw [e9]⟩ rfl
set_option maxHeartbeats 4000000 in
set_option maxRecDepth 100000 in
theorem e_can (g : gT) (ad : Nat → Nat) (N : Sch) (K : Sch) (b : Bool) (z : Nat) (le : Nat → Nat) (rf : Nat → Int32) (hd : Nat → Int32) (ln : Nat → Nat) (vl : Nat → Nat → Int64) (at1 : Nat) (tk : Nat) (so : Int32) (va : Int32) (lm : Nat → Nat) (ol : Nat → Int32) (ah : Nat → Int32) (lt : Int32) (lo : Nat → Int32) (i : Int32) (m : Int32) (hN : sOk N) (hH : hOk (sP N) hd) (hm : mOk (N, K, b, z, le, rf, hd, ln, vl) (6, at1, tk, so, va, lm, ol, ah, lt, lo)) : Ct g yX4_can wsX4_can 4 93 [.ref (ad 0), .int i, .int m] (mdW g ad (N, K, b, z, le, rf, hd, ln, vl) (6, at1, tk, so, va, lm, ol, ah, lt, lo)) (fun v9 w9 => v9 = (some (.int (x_can (N, K, b, z, le, rf, hd, ln, vl) i m).2)) ∧ ∃ J9, mOk (x_can (N, K, b, z, le, rf, hd, ln, vl) i m).1 J9 ∧ w9 = mdW g ad (x_can (N, K, b, z, le, rf, hd, ln, vl) i m).1 J9) := by
  refine Ct.start (cc := cX4_can) (nL := 3) (ret := (some .int)) (own := RX4) (by decide) rfl rfl rfl ?_
  intro Γ X E
  show Go Γ g 3 (rmC 4 93) 0 0 (mdW g ad (N, K, b, z, le, rf, hd, ln, vl) (6, at1, tk, so, va, lm, ol, ah, lt, lo)) 0 [(0, .ref (ad 0)), (1, .int i), (2, .int m)] []
  obtain ⟨o1, o2, o3, o4, o5, o6, o7, o8⟩ := id hN
  have o9 := p2_9 o2
  have o10 := sA_512 hN
  refine Go.aload_n X 0 dX4_can_0 rfl ?_
  refine Go.iload_n X 1 dX4_can_1 rfl ?_
  refine Go.callV0i X (d_isOne g ad N K b z le rf hd ln vl 6 at1 tk so va lm ol ah lt lo i (by exact hN)) cal_X4_isOne gX4_can_X4_isOne (ci := 4) (q0 := 0) rfl rfl rfl rfl rfl dX4_can_2 ?_
  refine Go.if_eqB X 25 dX4_can_5 (by decide) (fun h5 => ?_) (fun h5 => ?_)
  · --
    refine Go.aload_n X 0 dX4_can_25 rfl ?_
    refine Go.bipush X ((-2 : Int32)) dX4_can_26 k_bp_m2 ?_
    refine Go.callV0i X (d_no_0 g ad N K b z le rf hd ln vl 6 at1 tk so va lm ol ah lt lo) cal_X4_no gX4_can_X4_no (ci := 4) (q0 := 0) rfl rfl rfl rfl rfl dX4_can_28 ?_
    have e9 : x_can (N, K, b, z, le, rf, hd, ln, vl) i m = ((N, K, b, z, le, inc rf 0, hd, ln, vl), (-2)) := by simp (decide := true) [x_can, rfS, upS_id, h5]
    have m9 : mOk (N, K, b, z, le, inc rf 0, hd, ln, vl) (6, at1, tk, so, va, lm, ol, ah, lt, lo) := ⟨rfl, hm.2.1, hm.2.2⟩
    exact Go.iret X E dX4_can_31 ⟨by rw [e9], _, by rw [e9]; exact m9, by rw [e9]⟩ rfl
  · --
    obtain ⟨ik, hik, rfl⟩ := inb_at (by first | omega | (split <;> omega)) h5
    refine Go.aload_n X 0 dX4_can_8 rfl ?_
    refine Go.iload_n X 2 dX4_can_9 rfl ?_
    refine Go.callV0i X (d_isMorning g ad N K b z le rf hd ln vl 6 at1 tk so va lm ol ah lt lo m (by exact hN)) cal_X4_isMorning gX4_can_X4_isMorning (ci := 4) (q0 := 0) rfl rfl rfl rfl rfl dX4_can_10 ?_
    refine Go.if_eqB X 25 dX4_can_13 (by decide) (fun h13 => ?_) (fun h13 => ?_)
    · --
      refine Go.aload_n X 0 dX4_can_25 rfl ?_
      refine Go.bipush X ((-2 : Int32)) dX4_can_26 k_bp_m2 ?_
      refine Go.callV0i X (d_no_0 g ad N K b z le rf hd ln vl 6 at1 tk so va lm ol ah lt lo) cal_X4_no gX4_can_X4_no (ci := 4) (q0 := 0) rfl rfl rfl rfl rfl dX4_can_28 ?_
      have e9 : x_can (N, K, b, z, le, rf, hd, ln, vl) (nI ik) m = ((N, K, b, z, le, inc rf 0, hd, ln, vl), (-2)) := by simp (decide := true) [x_can, rfS, upS_id, h5, h13, nI_clamp (show ik < 2 ^ 31 by omega)]
      have m9 : mOk (N, K, b, z, le, inc rf 0, hd, ln, vl) (6, at1, tk, so, va, lm, ol, ah, lt, lo) := ⟨rfl, hm.2.1, hm.2.2⟩
      exact Go.iret X E dX4_can_31 ⟨by rw [e9], _, by rw [e9]; exact m9, by rw [e9]⟩ rfl
    · --
      obtain ⟨mk, hmk, rfl⟩ := inb_at (by first | omega | (split <;> omega)) h13
      refine Go.aload_n X 0 dX4_can_16 rfl ?_
      refine Go.iload_n X 1 dX4_can_17 rfl ?_
      refine Go.iload_n X 2 dX4_can_18 rfl ?_
      refine Go.callV0i X (d_canBe g ad N K b z le rf hd ln vl 6 at1 tk so va lm ol ah lt lo ik mk (by exact hN) (by first | omega | (split <;> omega)) (by first | omega | (split <;> omega)) (by first | omega | (split <;> omega))) cal_X4_canBe gX4_can_X4_canBe (ci := 4) (q0 := 0) rfl rfl rfl rfl rfl dX4_can_19 ?_
      have f19_1 := can_512 hN 6 ik mk
      refine Go.goto X 31 dX4_can_22 (by decide) ?_
      have e9 : x_can (N, K, b, z, le, rf, hd, ln, vl) (nI ik) (nI mk) = ((N, K, b, z, le, rf, hd, ln, vl), (nI (canB N 6 ik mk))) := by simp (decide := true) [x_can, rfS, upS_id, h5, h13, nI_clamp (show ik < 2 ^ 31 by omega), nI_clamp (show mk < 2 ^ 31 by omega)]
      have m9 : mOk (N, K, b, z, le, rf, hd, ln, vl) (6, at1, tk, so, va, lm, ol, ah, lt, lo) := ⟨rfl, hm.2.1, hm.2.2⟩
      exact Go.iret X E dX4_can_31 ⟨by rw [e9], _, by rw [e9]; exact m9, by rw [e9]⟩ rfl
set_option maxHeartbeats 4000000 in
set_option maxRecDepth 100000 in
theorem e_expects (g : gT) (ad : Nat → Nat) (N : Sch) (K : Sch) (b : Bool) (z : Nat) (le : Nat → Nat) (rf : Nat → Int32) (hd : Nat → Int32) (ln : Nat → Nat) (vl : Nat → Nat → Int64) (at1 : Nat) (tk : Nat) (so : Int32) (va : Int32) (lm : Nat → Nat) (ol : Nat → Int32) (ah : Nat → Int32) (lt : Int32) (lo : Nat → Int32) (i : Int32) (m : Int32) (hN : sOk N) (hH : hOk (sP N) hd) (hm : mOk (N, K, b, z, le, rf, hd, ln, vl) (6, at1, tk, so, va, lm, ol, ah, lt, lo)) : Ct g yX4_expects wsX4_expects 5 116 [.ref (ad 0), .int i, .int m] (mdW g ad (N, K, b, z, le, rf, hd, ln, vl) (6, at1, tk, so, va, lm, ol, ah, lt, lo)) (fun v9 w9 => v9 = (some (.int (x_expects (N, K, b, z, le, rf, hd, ln, vl) i m).2)) ∧ ∃ J9, mOk (x_expects (N, K, b, z, le, rf, hd, ln, vl) i m).1 J9 ∧ w9 = mdW g ad (x_expects (N, K, b, z, le, rf, hd, ln, vl) i m).1 J9) := by
  refine Ct.start (cc := cX4_expects) (nL := 3) (ret := (some .int)) (own := RX4) (by decide) rfl rfl rfl ?_
  intro Γ X E
  show Go Γ g 3 (rmC 5 116) 0 0 (mdW g ad (N, K, b, z, le, rf, hd, ln, vl) (6, at1, tk, so, va, lm, ol, ah, lt, lo)) 0 [(0, .ref (ad 0)), (1, .int i), (2, .int m)] []
  obtain ⟨o1, o2, o3, o4, o5, o6, o7, o8⟩ := id hN
  have o9 := p2_9 o2
  have o10 := sA_512 hN
  refine Go.aload_n X 0 dX4_expects_0 rfl ?_
  refine Go.iload_n X 1 dX4_expects_1 rfl ?_
  refine Go.callV0i X (d_isOne g ad N K b z le rf hd ln vl 6 at1 tk so va lm ol ah lt lo i (by exact hN)) cal_X4_isOne gX4_expects_X4_isOne (ci := 4) (q0 := 0) rfl rfl rfl rfl rfl dX4_expects_2 ?_
  refine Go.if_eqB X 16 dX4_expects_5 (by decide) (fun h5 => ?_) (fun h5 => ?_)
  · --
    refine Go.aload_n X 0 dX4_expects_16 rfl ?_
    refine Go.bipush X ((-2 : Int32)) dX4_expects_17 k_bp_m2 ?_
    refine Go.callV0i X (d_no_0 g ad N K b z le rf hd ln vl 6 at1 tk so va lm ol ah lt lo) cal_X4_no gX4_expects_X4_no (ci := 4) (q0 := 0) rfl rfl rfl rfl rfl dX4_expects_19 ?_
    have e9 : x_expects (N, K, b, z, le, rf, hd, ln, vl) i m = ((N, K, b, z, le, inc rf 0, hd, ln, vl), (-2)) := by simp (decide := true) [x_expects, rfS, upS_id, h5]
    have m9 : mOk (N, K, b, z, le, inc rf 0, hd, ln, vl) (6, at1, tk, so, va, lm, ol, ah, lt, lo) := ⟨rfl, hm.2.1, hm.2.2⟩
    exact Go.iret X E dX4_expects_22 ⟨by rw [e9], _, by rw [e9]; exact m9, by rw [e9]⟩ rfl
  · --
    obtain ⟨ik, hik, rfl⟩ := inb_at (by first | omega | (split <;> omega)) h5
    refine Go.aload_n X 0 dX4_expects_8 rfl ?_
    refine Go.iload_n X 2 dX4_expects_9 rfl ?_
    refine Go.callV0i X (d_isMorning g ad N K b z le rf hd ln vl 6 at1 tk so va lm ol ah lt lo m (by exact hN)) cal_X4_isMorning gX4_expects_X4_isMorning (ci := 4) (q0 := 0) rfl rfl rfl rfl rfl dX4_expects_10 ?_
    refine Go.if_neB X 23 dX4_expects_13 (by decide) (fun h13 => ?_) (fun h13 => ?_)
    · --
      obtain ⟨mk, hmk, rfl⟩ := inb_at (by first | omega | (split <;> omega)) h13
      refine Go.aload_n X 0 dX4_expects_23 rfl ?_
      refine Go.iload_n X 1 dX4_expects_24 rfl ?_
      refine Go.iload_n X 2 dX4_expects_25 rfl ?_
      refine Go.callV0i X (d_expectsIt g ad N K b z le rf hd ln vl 6 at1 tk so va lm ol ah lt lo ik mk (by exact hN) (by first | omega | (split <;> omega)) (by first | omega | (split <;> omega)) (by first | omega | (split <;> omega))) cal_X4_expectsIt gX4_expects_X4_expectsIt (ci := 4) (q0 := 0) rfl rfl rfl rfl rfl dX4_expects_26 ?_
      refine Go.if_eqB X 36 dX4_expects_29 (by decide) (fun h29 => ?_) (fun h29 => ?_)
      · --
        refine Go.iconst X (nI 0) dX4_expects_36 k_ic_0 ?_
        have e9 : x_expects (N, K, b, z, le, rf, hd, ln, vl) (nI ik) (nI mk) = ((N, K, b, z, le, rf, hd, ln, vl), (nI 0)) := by simp (decide := true) [x_expects, rfS, h5, h13, h29, expd_bit (S := N) (i := ik) hmk, nI_clamp (show ik < 2 ^ 31 by omega), nI_clamp (show mk < 2 ^ 31 by omega)]
        have m9 : mOk (N, K, b, z, le, rf, hd, ln, vl) (6, at1, tk, so, va, lm, ol, ah, lt, lo) := ⟨rfl, hm.2.1, hm.2.2⟩
        exact Go.iret X E dX4_expects_37 ⟨by rw [e9], _, by rw [e9]; exact m9, by rw [e9]⟩ rfl
      · --
        refine Go.iconst X (nI 1) dX4_expects_32 k_ic_1 ?_
        refine Go.goto X 37 dX4_expects_33 (by decide) ?_
        have e9 : x_expects (N, K, b, z, le, rf, hd, ln, vl) (nI ik) (nI mk) = ((N, K, b, z, le, rf, hd, ln, vl), (nI 1)) := by simp (decide := true) [x_expects, rfS, h5, h13, h29, expd_bit (S := N) (i := ik) hmk, nI_clamp (show ik < 2 ^ 31 by omega), nI_clamp (show mk < 2 ^ 31 by omega)]
        have m9 : mOk (N, K, b, z, le, rf, hd, ln, vl) (6, at1, tk, so, va, lm, ol, ah, lt, lo) := ⟨rfl, hm.2.1, hm.2.2⟩
        exact Go.iret X E dX4_expects_37 ⟨by rw [e9], _, by rw [e9]; exact m9, by rw [e9]⟩ rfl
    · --
      refine Go.aload_n X 0 dX4_expects_16 rfl ?_
      refine Go.bipush X ((-2 : Int32)) dX4_expects_17 k_bp_m2 ?_
      refine Go.callV0i X (d_no_0 g ad N K b z le rf hd ln vl 6 at1 tk so va lm ol ah lt lo) cal_X4_no gX4_expects_X4_no (ci := 4) (q0 := 0) rfl rfl rfl rfl rfl dX4_expects_19 ?_
      have e9 : x_expects (N, K, b, z, le, rf, hd, ln, vl) (nI ik) m = ((N, K, b, z, le, inc rf 0, hd, ln, vl), (-2)) := by simp (decide := true) [x_expects, rfS, upS_id, h5, h13, nI_clamp (show ik < 2 ^ 31 by omega)]
      have m9 : mOk (N, K, b, z, le, inc rf 0, hd, ln, vl) (6, at1, tk, so, va, lm, ol, ah, lt, lo) := ⟨rfl, hm.2.1, hm.2.2⟩
      exact Go.iret X E dX4_expects_22 ⟨by rw [e9], _, by rw [e9]; exact m9, by rw [e9]⟩ rfl
set_option maxHeartbeats 4000000 in
set_option maxRecDepth 100000 in
theorem e_who (g : gT) (ad : Nat → Nat) (N : Sch) (K : Sch) (b : Bool) (z : Nat) (le : Nat → Nat) (rf : Nat → Int32) (hd : Nat → Int32) (ln : Nat → Nat) (vl : Nat → Nat → Int64) (at1 : Nat) (tk : Nat) (so : Int32) (va : Int32) (lm : Nat → Nat) (ol : Nat → Int32) (ah : Nat → Int32) (lt : Int32) (lo : Nat → Int32) (m : Int32) (hN : sOk N) (hH : hOk (sP N) hd) (hm : mOk (N, K, b, z, le, rf, hd, ln, vl) (6, at1, tk, so, va, lm, ol, ah, lt, lo)) : Ct g yX4_who wsX4_who 6 139 [.ref (ad 0), .int m] (mdW g ad (N, K, b, z, le, rf, hd, ln, vl) (6, at1, tk, so, va, lm, ol, ah, lt, lo)) (fun v9 w9 => v9 = (some (.int (x_who (N, K, b, z, le, rf, hd, ln, vl) m).2)) ∧ ∃ J9, mOk (x_who (N, K, b, z, le, rf, hd, ln, vl) m).1 J9 ∧ w9 = mdW g ad (x_who (N, K, b, z, le, rf, hd, ln, vl) m).1 J9) := by
  refine Ct.start (cc := cX4_who) (nL := 2) (ret := (some .int)) (own := RX4) (by decide) rfl rfl rfl ?_
  intro Γ X E
  show Go Γ g 2 (rmC 6 139) 0 0 (mdW g ad (N, K, b, z, le, rf, hd, ln, vl) (6, at1, tk, so, va, lm, ol, ah, lt, lo)) 0 [(0, .ref (ad 0)), (1, .int m)] []
  obtain ⟨o1, o2, o3, o4, o5, o6, o7, o8⟩ := id hN
  have o9 := p2_9 o2
  have o10 := sA_512 hN
  refine Go.aload_n X 0 dX4_who_0 rfl ?_
  refine Go.iload_n X 1 dX4_who_1 rfl ?_
  refine Go.callV0i X (d_isMorning g ad N K b z le rf hd ln vl 6 at1 tk so va lm ol ah lt lo m (by exact hN)) cal_X4_isMorning gX4_who_X4_isMorning (ci := 4) (q0 := 0) rfl rfl rfl rfl rfl dX4_who_2 ?_
  refine Go.if_eqB X 16 dX4_who_5 (by decide) (fun h5 => ?_) (fun h5 => ?_)
  · --
    refine Go.aload_n X 0 dX4_who_16 rfl ?_
    refine Go.bipush X ((-2 : Int32)) dX4_who_17 k_bp_m2 ?_
    refine Go.callV0i X (d_no_0 g ad N K b z le rf hd ln vl 6 at1 tk so va lm ol ah lt lo) cal_X4_no gX4_who_X4_no (ci := 4) (q0 := 0) rfl rfl rfl rfl rfl dX4_who_19 ?_
    have e9 : x_who (N, K, b, z, le, rf, hd, ln, vl) m = ((N, K, b, z, le, inc rf 0, hd, ln, vl), (-2)) := by simp (decide := true) [x_who, rfS, upS_id, h5]
    have m9 : mOk (N, K, b, z, le, inc rf 0, hd, ln, vl) (6, at1, tk, so, va, lm, ol, ah, lt, lo) := ⟨rfl, hm.2.1, hm.2.2⟩
    exact Go.iret X E dX4_who_22 ⟨by rw [e9], _, by rw [e9]; exact m9, by rw [e9]⟩ rfl
  · --
    obtain ⟨mk, hmk, rfl⟩ := inb_at (by first | omega | (split <;> omega)) h5
    refine Go.aload_n X 0 dX4_who_8 rfl ?_
    refine Go.iload_n X 1 dX4_who_9 rfl ?_
    refine Go.callV0i X (d_whoExpects g ad N K b z le rf hd ln vl 6 at1 tk so va lm ol ah lt lo mk (by exact hN) (by first | omega | (split <;> omega)) (by first | omega | (split <;> omega))) cal_X4_whoExpects gX4_who_X4_whoExpects (ci := 4) (q0 := 0) rfl rfl rfl rfl rfl dX4_who_10 ?_
    have f10_1 := whoE_64 hN 6 mk
    refine Go.goto X 22 dX4_who_13 (by decide) ?_
    have e9 : x_who (N, K, b, z, le, rf, hd, ln, vl) (nI mk) = ((N, K, b, z, le, rf, hd, ln, vl), (nI (whoE N 6 mk))) := by simp (decide := true) [x_who, rfS, upS_id, h5, nI_clamp (show mk < 2 ^ 31 by omega)]
    have m9 : mOk (N, K, b, z, le, rf, hd, ln, vl) (6, at1, tk, so, va, lm, ol, ah, lt, lo) := ⟨rfl, hm.2.1, hm.2.2⟩
    exact Go.iret X E dX4_who_22 ⟨by rw [e9], _, by rw [e9]; exact m9, by rw [e9]⟩ rfl
set_option maxHeartbeats 4000000 in
set_option maxRecDepth 100000 in
theorem e_first (g : gT) (ad : Nat → Nat) (N : Sch) (K : Sch) (b : Bool) (z : Nat) (le : Nat → Nat) (rf : Nat → Int32) (hd : Nat → Int32) (ln : Nat → Nat) (vl : Nat → Nat → Int64) (at1 : Nat) (tk : Nat) (so : Int32) (va : Int32) (lm : Nat → Nat) (ol : Nat → Int32) (ah : Nat → Int32) (lt : Int32) (lo : Nat → Int32) (i : Int32) (hN : sOk N) (hH : hOk (sP N) hd) (hm : mOk (N, K, b, z, le, rf, hd, ln, vl) (6, at1, tk, so, va, lm, ol, ah, lt, lo)) : Ct g yX4_first wsX4_first 7 161 [.ref (ad 0), .int i] (mdW g ad (N, K, b, z, le, rf, hd, ln, vl) (6, at1, tk, so, va, lm, ol, ah, lt, lo)) (fun v9 w9 => v9 = (some (.int (x_first (N, K, b, z, le, rf, hd, ln, vl) i).2)) ∧ ∃ J9, mOk (x_first (N, K, b, z, le, rf, hd, ln, vl) i).1 J9 ∧ w9 = mdW g ad (x_first (N, K, b, z, le, rf, hd, ln, vl) i).1 J9) := by
  refine Ct.start (cc := cX4_first) (nL := 2) (ret := (some .int)) (own := RX4) (by decide) rfl rfl rfl ?_
  intro Γ X E
  show Go Γ g 2 (rmC 7 161) 0 0 (mdW g ad (N, K, b, z, le, rf, hd, ln, vl) (6, at1, tk, so, va, lm, ol, ah, lt, lo)) 0 [(0, .ref (ad 0)), (1, .int i)] []
  obtain ⟨o1, o2, o3, o4, o5, o6, o7, o8⟩ := id hN
  have o9 := p2_9 o2
  have o10 := sA_512 hN
  refine Go.aload_n X 0 dX4_first_0 rfl ?_
  refine Go.iload_n X 1 dX4_first_1 rfl ?_
  refine Go.callV0i X (d_isOne g ad N K b z le rf hd ln vl 6 at1 tk so va lm ol ah lt lo i (by exact hN)) cal_X4_isOne gX4_first_X4_isOne (ci := 4) (q0 := 0) rfl rfl rfl rfl rfl dX4_first_2 ?_
  refine Go.if_eqB X 16 dX4_first_5 (by decide) (fun h5 => ?_) (fun h5 => ?_)
  · --
    refine Go.aload_n X 0 dX4_first_16 rfl ?_
    refine Go.bipush X ((-2 : Int32)) dX4_first_17 k_bp_m2 ?_
    refine Go.callV0i X (d_no_0 g ad N K b z le rf hd ln vl 6 at1 tk so va lm ol ah lt lo) cal_X4_no gX4_first_X4_no (ci := 4) (q0 := 0) rfl rfl rfl rfl rfl dX4_first_19 ?_
    have e9 : x_first (N, K, b, z, le, rf, hd, ln, vl) i = ((N, K, b, z, le, inc rf 0, hd, ln, vl), (-2)) := by simp (decide := true) [x_first, rfS, upS_id, h5]
    have m9 : mOk (N, K, b, z, le, inc rf 0, hd, ln, vl) (6, at1, tk, so, va, lm, ol, ah, lt, lo) := ⟨rfl, hm.2.1, hm.2.2⟩
    exact Go.iret X E dX4_first_22 ⟨by rw [e9], _, by rw [e9]; exact m9, by rw [e9]⟩ rfl
  · --
    obtain ⟨ik, hik, rfl⟩ := inb_at (by first | omega | (split <;> omega)) h5
    refine Go.aload_n X 0 dX4_first_8 rfl ?_
    refine Go.iload_n X 1 dX4_first_9 rfl ?_
    refine Go.callV0i X (d_firstOf g ad N K b z le rf hd ln vl 6 at1 tk so va lm ol ah lt lo ik (by exact hN) (by first | omega | (split <;> omega)) (by first | omega | (split <;> omega))) cal_X4_firstOf gX4_first_X4_firstOf (ci := 4) (q0 := 0) rfl rfl rfl rfl rfl dX4_first_10 ?_
    refine Go.goto X 22 dX4_first_13 (by decide) ?_
    have e9 : x_first (N, K, b, z, le, rf, hd, ln, vl) (nI ik) = ((N, K, b, z, le, rf, hd, ln, vl), (fstI (expd N 6 ik))) := by simp (decide := true) [x_first, rfS, upS_id, h5, nI_clamp (show ik < 2 ^ 31 by omega)]
    have m9 : mOk (N, K, b, z, le, rf, hd, ln, vl) (6, at1, tk, so, va, lm, ol, ah, lt, lo) := ⟨rfl, hm.2.1, hm.2.2⟩
    exact Go.iret X E dX4_first_22 ⟨by rw [e9], _, by rw [e9]; exact m9, by rw [e9]⟩ rfl
set_option maxHeartbeats 4000000 in
set_option maxRecDepth 100000 in
theorem e_lasts (g : gT) (ad : Nat → Nat) (N : Sch) (K : Sch) (b : Bool) (z : Nat) (le : Nat → Nat) (rf : Nat → Int32) (hd : Nat → Int32) (ln : Nat → Nat) (vl : Nat → Nat → Int64) (at1 : Nat) (tk : Nat) (so : Int32) (va : Int32) (lm : Nat → Nat) (ol : Nat → Int32) (ah : Nat → Int32) (lt : Int32) (lo : Nat → Int32) (i : Int32) (hN : sOk N) (hH : hOk (sP N) hd) (hm : mOk (N, K, b, z, le, rf, hd, ln, vl) (6, at1, tk, so, va, lm, ol, ah, lt, lo)) : Ct g yX4_lasts wsX4_lasts 4 93 [.ref (ad 0), .int i] (mdW g ad (N, K, b, z, le, rf, hd, ln, vl) (6, at1, tk, so, va, lm, ol, ah, lt, lo)) (fun v9 w9 => v9 = (some (.int (x_lasts (N, K, b, z, le, rf, hd, ln, vl) i).2)) ∧ ∃ J9, mOk (x_lasts (N, K, b, z, le, rf, hd, ln, vl) i).1 J9 ∧ w9 = mdW g ad (x_lasts (N, K, b, z, le, rf, hd, ln, vl) i).1 J9) := by
  refine Ct.start (cc := cX4_lasts) (nL := 2) (ret := (some .int)) (own := RX4) (by decide) rfl rfl rfl ?_
  intro Γ X E
  show Go Γ g 2 (rmC 4 93) 0 0 (mdW g ad (N, K, b, z, le, rf, hd, ln, vl) (6, at1, tk, so, va, lm, ol, ah, lt, lo)) 0 [(0, .ref (ad 0)), (1, .int i)] []
  obtain ⟨o1, o2, o3, o4, o5, o6, o7, o8⟩ := id hN
  have o9 := p2_9 o2
  have o10 := sA_512 hN
  refine Go.aload_n X 0 dX4_lasts_0 rfl ?_
  refine Go.iload_n X 1 dX4_lasts_1 rfl ?_
  refine Go.callV0i X (d_isOne g ad N K b z le rf hd ln vl 6 at1 tk so va lm ol ah lt lo i (by exact hN)) cal_X4_isOne gX4_lasts_X4_isOne (ci := 4) (q0 := 0) rfl rfl rfl rfl rfl dX4_lasts_2 ?_
  refine Go.if_eqB X 20 dX4_lasts_5 (by decide) (fun h5 => ?_) (fun h5 => ?_)
  · --
    refine Go.aload_n X 0 dX4_lasts_20 rfl ?_
    refine Go.bipush X ((-2 : Int32)) dX4_lasts_21 k_bp_m2 ?_
    refine Go.callV0i X (d_no_0 g ad N K b z le rf hd ln vl 6 at1 tk so va lm ol ah lt lo) cal_X4_no gX4_lasts_X4_no (ci := 4) (q0 := 0) rfl rfl rfl rfl rfl dX4_lasts_23 ?_
    have e9 : x_lasts (N, K, b, z, le, rf, hd, ln, vl) i = ((N, K, b, z, le, inc rf 0, hd, ln, vl), (-2)) := by simp (decide := true) [x_lasts, rfS, upS_id, h5]
    have m9 : mOk (N, K, b, z, le, inc rf 0, hd, ln, vl) (6, at1, tk, so, va, lm, ol, ah, lt, lo) := ⟨rfl, hm.2.1, hm.2.2⟩
    exact Go.iret X E dX4_lasts_26 ⟨by rw [e9], _, by rw [e9]; exact m9, by rw [e9]⟩ rfl
  · --
    obtain ⟨ik, hik, rfl⟩ := inb_at (by first | omega | (split <;> omega)) h5
    refine Go.aload_n X 0 dX4_lasts_8 rfl ?_
    refine Go.iload_n X 1 dX4_lasts_9 rfl ?_
    refine Go.iconst X (nI 0) dX4_lasts_10 k_ic_0 ?_
    refine Go.callV0i X (d_canBe g ad N K b z le rf hd ln vl 6 at1 tk so va lm ol ah lt lo ik 0 (by exact hN) (by first | omega | (split <;> omega)) (by first | omega | (split <;> omega)) (by first | omega | (split <;> omega))) cal_X4_canBe gX4_lasts_X4_canBe (ci := 4) (q0 := 0) rfl rfl rfl rfl rfl dX4_lasts_11 ?_
    have f11_1 := can_512 hN 6 ik 0
    refine Go.callSi X  (d_lastOf g (canB N 6 ik 0) (by first | omega | (split <;> omega))) cal_X4_lastOf [] rfl rfl gX4_lasts_X4_lastOf rfl rfl rfl dX4_lasts_14 ?_
    refine Go.goto X 26 dX4_lasts_17 (by decide) ?_
    have e9 : x_lasts (N, K, b, z, le, rf, hd, ln, vl) (nI ik) = ((N, K, b, z, le, rf, hd, ln, vl), (lstI (canB N 6 ik 0))) := by simp (decide := true) [x_lasts, rfS, upS_id, h5, nI_clamp (show ik < 2 ^ 31 by omega)]
    have m9 : mOk (N, K, b, z, le, rf, hd, ln, vl) (6, at1, tk, so, va, lm, ol, ah, lt, lo) := ⟨rfl, hm.2.1, hm.2.2⟩
    exact Go.iret X E dX4_lasts_26 ⟨by rw [e9], _, by rw [e9]; exact m9, by rw [e9]⟩ rfl
set_option maxHeartbeats 4000000 in
set_option maxRecDepth 100000 in
theorem e_ends (g : gT) (ad : Nat → Nat) (N : Sch) (K : Sch) (b : Bool) (z : Nat) (le : Nat → Nat) (rf : Nat → Int32) (hd : Nat → Int32) (ln : Nat → Nat) (vl : Nat → Nat → Int64) (at1 : Nat) (tk : Nat) (so : Int32) (va : Int32) (lm : Nat → Nat) (ol : Nat → Int32) (ah : Nat → Int32) (lt : Int32) (lo : Nat → Int32) (hN : sOk N) (hH : hOk (sP N) hd) (hm : mOk (N, K, b, z, le, rf, hd, ln, vl) (6, at1, tk, so, va, lm, ol, ah, lt, lo)) : Ct g yX4_ends wsX4_ends 3 61 [.ref (ad 0)] (mdW g ad (N, K, b, z, le, rf, hd, ln, vl) (6, at1, tk, so, va, lm, ol, ah, lt, lo)) (fun v9 w9 => v9 = (some (.int (x_ends (N, K, b, z, le, rf, hd, ln, vl)).2)) ∧ ∃ J9, mOk (x_ends (N, K, b, z, le, rf, hd, ln, vl)).1 J9 ∧ w9 = mdW g ad (x_ends (N, K, b, z, le, rf, hd, ln, vl)).1 J9) := by
  refine Ct.start (cc := cX4_ends) (nL := 1) (ret := (some .int)) (own := RX4) (by decide) rfl rfl rfl ?_
  intro Γ X E
  show Go Γ g 1 (rmC 3 61) 0 0 (mdW g ad (N, K, b, z, le, rf, hd, ln, vl) (6, at1, tk, so, va, lm, ol, ah, lt, lo)) 0 [(0, .ref (ad 0))] []
  obtain ⟨o1, o2, o3, o4, o5, o6, o7, o8⟩ := id hN
  have o9 := p2_9 o2
  have o10 := sA_512 hN
  refine Go.aload_n X 0 dX4_ends_0 rfl ?_
  refine Go.callV0i X (d_lastAllowed g ad N K b z le rf hd ln vl 6 at1 tk so va lm ol ah lt lo (by exact hN)) cal_X4_lastAllowed gX4_ends_X4_lastAllowed (ci := 4) (q0 := 0) rfl rfl rfl rfl rfl dX4_ends_1 ?_
  have e9 : x_ends (N, K, b, z, le, rf, hd, ln, vl) = ((N, K, b, z, le, rf, hd, ln, vl), (lstI (sA N))) := by simp (decide := true) [x_ends, rfS, upS_id]
  have m9 : mOk (N, K, b, z, le, rf, hd, ln, vl) (6, at1, tk, so, va, lm, ol, ah, lt, lo) := ⟨rfl, hm.2.1, hm.2.2⟩
  exact Go.iret X E dX4_ends_4 ⟨by rw [e9], _, by rw [e9]; exact m9, by rw [e9]⟩ rfl
set_option maxHeartbeats 4000000 in
set_option maxRecDepth 100000 in
theorem e_agree (g : gT) (ad : Nat → Nat) (N : Sch) (K : Sch) (b : Bool) (z : Nat) (le : Nat → Nat) (rf : Nat → Int32) (hd : Nat → Int32) (ln : Nat → Nat) (vl : Nat → Nat → Int64) (at1 : Nat) (tk : Nat) (so : Int32) (va : Int32) (lm : Nat → Nat) (ol : Nat → Int32) (ah : Nat → Int32) (lt : Int32) (lo : Nat → Int32) (m : Int32) (hN : sOk N) (hH : hOk (sP N) hd) (hm : mOk (N, K, b, z, le, rf, hd, ln, vl) (6, at1, tk, so, va, lm, ol, ah, lt, lo)) : Ct g yX4_agree wsX4_agree 4 93 [.ref (ad 0), .int m] (mdW g ad (N, K, b, z, le, rf, hd, ln, vl) (6, at1, tk, so, va, lm, ol, ah, lt, lo)) (fun v9 w9 => v9 = (some (.int (x_agree (N, K, b, z, le, rf, hd, ln, vl) m).2)) ∧ ∃ J9, mOk (x_agree (N, K, b, z, le, rf, hd, ln, vl) m).1 J9 ∧ w9 = mdW g ad (x_agree (N, K, b, z, le, rf, hd, ln, vl) m).1 J9) := by
  refine Ct.start (cc := cX4_agree) (nL := 5) (ret := (some .int)) (own := RX4) (by decide) rfl rfl rfl ?_
  intro Γ X E
  show Go Γ g 5 (rmC 4 93) 0 0 (mdW g ad (N, K, b, z, le, rf, hd, ln, vl) (6, at1, tk, so, va, lm, ol, ah, lt, lo)) 0 [(0, .ref (ad 0)), (1, .int m)] []
  obtain ⟨o1, o2, o3, o4, o5, o6, o7, o8⟩ := id hN
  have o9 := p2_9 o2
  have o10 := sA_512 hN
  refine Go.aload_n X 0 dX4_agree_0 rfl ?_
  refine Go.iload_n X 1 dX4_agree_1 rfl ?_
  refine Go.callV0i X (d_isMorning g ad N K b z le rf hd ln vl 6 at1 tk so va lm ol ah lt lo m (by exact hN)) cal_X4_isMorning gX4_agree_X4_isMorning (ci := 4) (q0 := 0) rfl rfl rfl rfl rfl dX4_agree_2 ?_
  refine Go.if_neB X 15 dX4_agree_5 (by decide) (fun h5 => ?_) (fun h5 => ?_)
  · --
    obtain ⟨mk, hmk, rfl⟩ := inb_at (by first | omega | (split <;> omega)) h5
    refine Go.iconst X (nI 0) dX4_agree_15 k_ic_0 ?_
    refine Go.istore_n_new X dX4_agree_16 (by decide) rfl ?_
    refine Go.iconst X (nI 0) dX4_agree_17 k_ic_0 ?_
    refine Go.istore_n_new X dX4_agree_18 (by decide) rfl ?_
    have L19 : ∀ (f19 : Nat) (k : Nat) (hk : k ≤ sP N) (hf19 : sP N - k < f19), Go Γ g 5 (rmC 4 93) 0 0 (mdW g ad (N, K, b, z, le, rf, hd, ln, vl) (6, at1, tk, so, va, lm, ol, ah, lt, lo)) 19 [(3, .int (nI k)), (2, .int (nI (pmS (agF N mk) k))), (0, .ref (ad 0)), (1, .int (nI mk))] [] := by
      intro f19
      induction f19 with
      | zero => intro k hk hf19; exact absurd hf19 (Nat.not_lt_zero _)
      | succ f19 ih19 =>
        intro k hk hf19
        refine Go.iload_n X 0 dX4_agree_19 rfl ?_
        refine Go.aload_n X 2 dX4_agree_20 rfl ?_
        refine Go.get X f_X4_agree_59 0 (v := .int (nI (sP N))) rfl rfl dX4_agree_21 ?_
        refine Go.icmp_geN X 67 dX4_agree_24 (by decide) (by first | omega | (split <;> omega)) (by first | omega | (split <;> omega)) (fun h24 => ?_) (fun h24 => ?_)
        · --
          refine Go.lv_1 (w := .int (nI (prs (agF N mk) (sP N) (sP N)))) (by rw [prs_pm (ag_sym N mk), show k = sP N by omega]) ?_
          refine Go.iload_n X 1 dX4_agree_67 rfl ?_
          have e9 : x_agree (N, K, b, z, le, rf, hd, ln, vl) (nI mk) = ((N, K, b, z, le, rf, hd, ln, vl), (nI (prs (agF N mk) (sP N) (sP N)))) := by simp (decide := true) [x_agree, rfS, upS_id, h5, h24, Nat.not_lt.mpr h24, nI_clamp (show mk < 2 ^ 31 by omega)]
          have m9 : mOk (N, K, b, z, le, rf, hd, ln, vl) (6, at1, tk, so, va, lm, ol, ah, lt, lo) := ⟨rfl, hm.2.1, hm.2.2⟩
          exact Go.iret X E dX4_agree_68 ⟨by rw [e9], _, by rw [e9]; exact m9, by rw [e9]⟩ rfl
        · --
          refine Go.iconst X (nI 0) dX4_agree_27 k_ic_0 ?_
          refine Go.istore_new X dX4_agree_28 (by decide) rfl ?_
          have L30 : ∀ (f30 : Nat) (j : Nat) (hj : j ≤ k) (hf30 : k - j < f30), Go Γ g 5 (rmC 4 93) 0 0 (mdW g ad (N, K, b, z, le, rf, hd, ln, vl) (6, at1, tk, so, va, lm, ol, ah, lt, lo)) 30 [(4, .int (nI j)), (3, .int (nI k)), (2, .int (nI (pmS (agF N mk) k + cnt (fun y => (agF N mk) k y) j))), (0, .ref (ad 0)), (1, .int (nI mk))] [] := by
            intro f30
            induction f30 with
            | zero => intro j hj hf30; exact absurd hf30 (Nat.not_lt_zero _)
            | succ f30 ih30 =>
              intro j hj hf30
              refine Go.iload X 0 dX4_agree_30 rfl ?_
              refine Go.iload_n X 1 dX4_agree_32 rfl ?_
              refine Go.icmp_geN X 61 dX4_agree_33 (by decide) (by first | omega | (split <;> omega)) (by first | omega | (split <;> omega)) (fun h33 => ?_) (fun h33 => ?_)
              · --
                refine Go.iinc_1 X (nI (k + 1)) dX4_agree_61 (by decide) rfl (show nI k + Int32.ofInt 1 = nI (k + 1) from nI_add _ 1) ?_
                refine Go.goto X 19 dX4_agree_64 (by decide) ?_
                refine Go.lv_2 (congrArg (fun z => Value.int (nI z)) (show pmS (agF N mk) k + cnt (fun y => (agF N mk) k y) j = pmS (agF N mk) (k + 1) from by rw [show j = k by omega]; rfl)) ?_
                refine Go.sub [1, 2, 3, 4] rfl ?_
                exact ih19 (k + 1) (by first | omega | (split <;> omega)) (by first | omega | (split <;> omega))
              · --
                refine Go.aload_n X 3 dX4_agree_36 rfl ?_
                refine Go.iload_n X 1 dX4_agree_37 rfl ?_
                refine Go.iload_n X 4 dX4_agree_38 rfl ?_
                refine Go.callV0i X (d_canBe g ad N K b z le rf hd ln vl 6 at1 tk so va lm ol ah lt lo k mk (by exact hN) (by first | omega | (split <;> omega)) (by first | omega | (split <;> omega)) (by first | omega | (split <;> omega))) cal_X4_canBe gX4_agree_X4_canBe (ci := 4) (q0 := 0) rfl rfl rfl rfl rfl dX4_agree_39 ?_
                have f39_1 := can_512 hN 6 k mk
                refine Go.aload_n X 3 dX4_agree_42 rfl ?_
                refine Go.iload X 0 dX4_agree_43 rfl ?_
                refine Go.iload_n X 4 dX4_agree_45 rfl ?_
                refine Go.callV0i X (d_canBe g ad N K b z le rf hd ln vl 6 at1 tk so va lm ol ah lt lo j mk (by exact hN) (by first | omega | (split <;> omega)) (by first | omega | (split <;> omega)) (by first | omega | (split <;> omega))) cal_X4_canBe gX4_agree_X4_canBe (ci := 4) (q0 := 0) rfl rfl rfl rfl rfl dX4_agree_46 ?_
                have f46_2 := can_512 hN 6 j mk
                refine Go.icmp_neN X 55 dX4_agree_49 (by decide) (by first | omega | (split <;> omega)) (by first | omega | (split <;> omega)) (fun h49 => ?_) (fun h49 => ?_)
                · --
                  refine Go.iinc_0 X (nI (j + 1)) dX4_agree_55 (by decide) rfl (show nI j + Int32.ofInt 1 = nI (j + 1) from nI_add _ 1) ?_
                  refine Go.goto X 30 dX4_agree_58 (by decide) ?_
                  refine Go.lv_2 (congrArg (fun z => Value.int (nI z)) (show pmS (agF N mk) k + cnt (fun y => (agF N mk) k y) j = pmS (agF N mk) k + cnt (fun y => (agF N mk) k y) (j + 1) from by rw [cnt, if_neg (fun q => h49 (of_decide_eq_true q))]; rfl)) ?_
                  exact ih30 (j + 1) (by first | omega | (split <;> omega)) (by first | omega | (split <;> omega))
                · --
                  have o11 := pmS_le (agF N mk) 6 k (by omega)
                  have o12 := cnt_le (fun y => (agF N mk) k y) j
                  refine Go.iinc_2 X (nI (pmS (agF N mk) k + cnt (fun y => (agF N mk) k y) j + 1)) dX4_agree_52 (by decide) rfl (show nI (pmS (agF N mk) k + cnt (fun y => (agF N mk) k y) j) + Int32.ofInt 1 = nI (pmS (agF N mk) k + cnt (fun y => (agF N mk) k y) j + 1) from nI_add _ 1) ?_
                  refine Go.iinc_0 X (nI (j + 1)) dX4_agree_55 (by decide) rfl (show nI j + Int32.ofInt 1 = nI (j + 1) from nI_add _ 1) ?_
                  refine Go.goto X 30 dX4_agree_58 (by decide) ?_
                  refine Go.lv_2 (congrArg (fun z => Value.int (nI z)) (show pmS (agF N mk) k + cnt (fun y => (agF N mk) k y) j + 1 = pmS (agF N mk) k + cnt (fun y => (agF N mk) k y) (j + 1) from by rw [cnt, if_pos (decide_eq_true h49)]; rfl)) ?_
                  exact ih30 (j + 1) (by first | omega | (split <;> omega)) (by first | omega | (split <;> omega))
          refine Go.lv_2 (congrArg (fun z => Value.int (nI z)) (show pmS (agF N mk) k = pmS (agF N mk) k + cnt (fun y => (agF N mk) k y) 0 from by rfl)) ?_
          exact L30 (k - 0 + 1) 0 (by first | omega | (split <;> omega)) (Nat.lt_succ_self _)
    refine Go.lv_1 (congrArg (fun z => Value.int (nI z)) (show 0 = pmS (agF N mk) 0 from by rfl)) ?_
    exact L19 (sP N - 0 + 1) 0 (by first | omega | (split <;> omega)) (Nat.lt_succ_self _)
  · --
    refine Go.aload_n X 0 dX4_agree_8 rfl ?_
    refine Go.bipush X ((-2 : Int32)) dX4_agree_9 k_bp_m2 ?_
    refine Go.callV0i X (d_no_0 g ad N K b z le rf hd ln vl 6 at1 tk so va lm ol ah lt lo) cal_X4_no gX4_agree_X4_no (ci := 4) (q0 := 0) rfl rfl rfl rfl rfl dX4_agree_11 ?_
    have e9 : x_agree (N, K, b, z, le, rf, hd, ln, vl) m = ((N, K, b, z, le, inc rf 0, hd, ln, vl), (-2)) := by simp (decide := true) [x_agree, rfS, upS_id, h5]
    have m9 : mOk (N, K, b, z, le, inc rf 0, hd, ln, vl) (6, at1, tk, so, va, lm, ol, ah, lt, lo) := ⟨rfl, hm.2.1, hm.2.2⟩
    exact Go.iret X E dX4_agree_14 ⟨by rw [e9], _, by rw [e9]; exact m9, by rw [e9]⟩ rfl
set_option maxHeartbeats 4000000 in
set_option maxRecDepth 100000 in
theorem e_surprises (g : gT) (ad : Nat → Nat) (N : Sch) (K : Sch) (b : Bool) (z : Nat) (le : Nat → Nat) (rf : Nat → Int32) (hd : Nat → Int32) (ln : Nat → Nat) (vl : Nat → Nat → Int64) (at1 : Nat) (tk : Nat) (so : Int32) (va : Int32) (lm : Nat → Nat) (ol : Nat → Int32) (ah : Nat → Int32) (lt : Int32) (lo : Nat → Int32) (hN : sOk N) (hH : hOk (sP N) hd) (hm : mOk (N, K, b, z, le, rf, hd, ln, vl) (6, at1, tk, so, va, lm, ol, ah, lt, lo)) : Ct g yX4_surprises wsX4_surprises 7 161 [.ref (ad 0)] (mdW g ad (N, K, b, z, le, rf, hd, ln, vl) (6, at1, tk, so, va, lm, ol, ah, lt, lo)) (fun v9 w9 => v9 = (some (.int (x_surprises (N, K, b, z, le, rf, hd, ln, vl)).2)) ∧ ∃ J9, mOk (x_surprises (N, K, b, z, le, rf, hd, ln, vl)).1 J9 ∧ w9 = mdW g ad (x_surprises (N, K, b, z, le, rf, hd, ln, vl)).1 J9) := by
  refine Ct.start (cc := cX4_surprises) (nL := 1) (ret := (some .int)) (own := RX4) (by decide) rfl rfl rfl ?_
  intro Γ X E
  show Go Γ g 1 (rmC 7 161) 0 0 (mdW g ad (N, K, b, z, le, rf, hd, ln, vl) (6, at1, tk, so, va, lm, ol, ah, lt, lo)) 0 [(0, .ref (ad 0))] []
  obtain ⟨o1, o2, o3, o4, o5, o6, o7, o8⟩ := id hN
  have o9 := p2_9 o2
  have o10 := sA_512 hN
  refine Go.aload_n X 0 dX4_surprises_0 rfl ?_
  refine Go.callV0i X (d_bySurprise g ad N K b z le rf hd ln vl 6 at1 tk so va lm ol ah lt lo (by exact hN) (by first | omega | (split <;> omega))) cal_X4_bySurprise gX4_surprises_X4_bySurprise (ci := 4) (q0 := 0) rfl rfl rfl rfl rfl dX4_surprises_1 ?_
  have f1_1 := sur_512 hN 6
  have e9 : x_surprises (N, K, b, z, le, rf, hd, ln, vl) = ((N, K, b, z, le, rf, hd, ln, vl), (nI (sur N 6))) := by simp (decide := true) [x_surprises, rfS, upS_id]
  have m9 : mOk (N, K, b, z, le, rf, hd, ln, vl) (6, at1, tk, so, va, lm, ol, ah, lt, lo) := ⟨rfl, hm.2.1, hm.2.2⟩
  exact Go.iret X E dX4_surprises_4 ⟨by rw [e9], _, by rw [e9]; exact m9, by rw [e9]⟩ rfl
set_option maxHeartbeats 4000000 in
set_option maxRecDepth 100000 in
theorem d_oddsOf (g : gT) (ad : Nat → Nat) (N : Sch) (K : Sch) (b : Bool) (z : Nat) (le : Nat → Nat) (rf : Nat → Int32) (hd : Nat → Int32) (ln : Nat → Nat) (vl : Nat → Nat → Int64) (at1 : Nat) (tk : Nat) (so : Int32) (va : Int32) (lm : Nat → Nat) (ol : Nat → Int32) (ah : Nat → Int32) (lt : Int32) (lo : Nat → Int32) (m : Nat) (hN : sOk N) (hm : m < 9) (h0 : ¬ wst N m = 0) : Cw g yX4_oddsOf wsX4_oddsOf 2 44 [.ref (ad 0), .int (nI m)] (mdW g ad (N, K, b, z, le, rf, hd, ln, vl) (6, at1, tk, so, va, lm, ol, ah, lt, lo)) (some (.int (odI N m))) (mdW g ad (N, K, b, z, le, rf, hd, ln, vl) (6, at1, tk, so, va, lm, ol, ah, lt, lo)) := by
  refine Ct.start (cc := cX4_oddsOf) (nL := 2) (ret := (some .int)) (own := RX4) (by decide) rfl rfl rfl ?_
  intro Γ X E
  show Go Γ g 2 (rmC 2 44) 0 0 (mdW g ad (N, K, b, z, le, rf, hd, ln, vl) (6, at1, tk, so, va, lm, ol, ah, lt, lo)) 0 [(0, .ref (ad 0)), (1, .int (nI m))] []
  obtain ⟨o1, o2, o3, o4, o5, o6, o7, o8⟩ := id hN
  have o9 := p2_9 o2
  have o10 := sA_512 hN
  refine Go.aload_n X 0 dX4_oddsOf_0 rfl ?_
  refine Go.get X f_X4_oddsOf_111 0 (v := .int (nI (sA N))) rfl rfl dX4_oddsOf_1 ?_
  refine Go.iload_n X 1 dX4_oddsOf_4 rfl ?_
  refine Go.callSi X  (d_has g (sA N) m (by first | omega | (split <;> omega)) (by first | omega | (split <;> omega))) cal_X4_has [] rfl rfl gX4_oddsOf_X4_has rfl rfl rfl dX4_oddsOf_5 ?_
  refine Go.if_eqB X 33 dX4_oddsOf_8 (by decide) (fun h8 => ?_) (fun h8 => ?_)
  · --
    refine Go.iconst X (nI 0) dX4_oddsOf_33 k_ic_0 ?_
    exact Go.iret X E dX4_oddsOf_34 ⟨rv (show (nI 0) = odI N m from by rw [od_n h0, lotN, if_neg (by rw [h8]; decide)]; simp), rfl⟩ rfl
  · --
    refine Go.ldc X (nI 1000000) dX4_oddsOf_11 (List.mem_of_getElem? (i := 2) (by decide +kernel)) ?_
    refine Go.aload_n X 0 dX4_oddsOf_13 rfl ?_
    refine Go.get X f_X4_oddsOf_20 0 (v := .ref (ad 4)) rfl rfl dX4_oddsOf_14 ?_
    refine Go.iload_n X 1 dX4_oddsOf_17 rfl ?_
    refine Go.ialdN X 4 (w := sW N) rfl (by first | omega | (split <;> omega)) rfl dX4_oddsOf_18 ?_
    refine Go.imul_e X (nI (1000000 * ((sW N) m))) dX4_oddsOf_19 (pk_mul _ _) ?_
    have o11 := o4 m hm
    have o12 : 0 < wsum (sW N) (still (sA N) m) (sN N) := Nat.pos_of_ne_zero h0
    refine Go.aload_n X 0 dX4_oddsOf_20 rfl ?_
    refine Go.aload_n X 0 dX4_oddsOf_21 rfl ?_
    refine Go.iload_n X 1 dX4_oddsOf_22 rfl ?_
    refine Go.callV0i X (d_still g ad N K b z le rf hd ln vl 6 at1 tk so va lm ol ah lt lo m (by exact hN) (by first | omega | (split <;> omega))) cal_X4_still gX4_oddsOf_X4_still (ci := 4) (q0 := 0) rfl rfl rfl rfl rfl dX4_oddsOf_23 ?_
    have f23_1 := still_le (sA N) m
    refine Go.callV0i X (d_weights g ad N K b z le rf hd ln vl 6 at1 tk so va lm ol ah lt lo (still (sA N) m) (by exact hN) (by first | omega | (split <;> omega))) cal_X4_weights gX4_oddsOf_X4_weights (ci := 4) (q0 := 0) rfl rfl rfl rfl rfl dX4_oddsOf_26 ?_
    have f26_2 := wsum_81 hN (still (sA N) m)
    refine Go.idiv_e X (nI ((1000000 * ((sW N) m)) / (wsum (sW N) (still (sA N) m) (sN N)))) dX4_oddsOf_29 (nI_ne0 (by first | omega | (split <;> omega)) (by first | omega | (split <;> omega))) (pk_div (by first | omega | (split <;> omega)) (by first | omega | (split <;> omega)) (by first | omega | (split <;> omega))) ?_
    refine Go.goto X 34 dX4_oddsOf_30 (by decide) ?_
    exact Go.iret X E dX4_oddsOf_34 ⟨rv (show (nI ((1000000 * ((sW N) m)) / (wsum (sW N) (still (sA N) m) (sN N)))) = odI N m from by rw [od_n h0, lotN, if_pos h8]), rfl⟩ rfl
set_option maxHeartbeats 4000000 in
set_option maxRecDepth 100000 in
theorem e_odds (g : gT) (ad : Nat → Nat) (N : Sch) (K : Sch) (b : Bool) (z : Nat) (le : Nat → Nat) (rf : Nat → Int32) (hd : Nat → Int32) (ln : Nat → Nat) (vl : Nat → Nat → Int64) (at1 : Nat) (tk : Nat) (so : Int32) (va : Int32) (lm : Nat → Nat) (ol : Nat → Int32) (ah : Nat → Int32) (lt : Int32) (lo : Nat → Int32) (m : Int32) (hN : sOk N) (hH : hOk (sP N) hd) (hm : mOk (N, K, b, z, le, rf, hd, ln, vl) (6, at1, tk, so, va, lm, ol, ah, lt, lo)) : Ct g yX4_odds wsX4_odds 3 65 [.ref (ad 0), .int m] (mdW g ad (N, K, b, z, le, rf, hd, ln, vl) (6, at1, tk, so, va, lm, ol, ah, lt, lo)) (fun v9 w9 => v9 = (some (.int (x_odds (N, K, b, z, le, rf, hd, ln, vl) m).2)) ∧ ∃ J9, mOk (x_odds (N, K, b, z, le, rf, hd, ln, vl) m).1 J9 ∧ w9 = mdW g ad (x_odds (N, K, b, z, le, rf, hd, ln, vl) m).1 J9) := by
  refine Ct.start (cc := cX4_odds) (nL := 2) (ret := (some .int)) (own := RX4) (by decide) rfl rfl rfl ?_
  intro Γ X E
  show Go Γ g 2 (rmC 3 65) 0 0 (mdW g ad (N, K, b, z, le, rf, hd, ln, vl) (6, at1, tk, so, va, lm, ol, ah, lt, lo)) 0 [(0, .ref (ad 0)), (1, .int m)] []
  obtain ⟨o1, o2, o3, o4, o5, o6, o7, o8⟩ := id hN
  have o9 := p2_9 o2
  have o10 := sA_512 hN
  refine Go.aload_n X 0 dX4_odds_0 rfl ?_
  refine Go.iload_n X 1 dX4_odds_1 rfl ?_
  refine Go.callV0i X (d_isMorning g ad N K b z le rf hd ln vl 6 at1 tk so va lm ol ah lt lo m (by exact hN)) cal_X4_isMorning gX4_odds_X4_isMorning (ci := 4) (q0 := 0) rfl rfl rfl rfl rfl dX4_odds_2 ?_
  refine Go.if_neB X 15 dX4_odds_5 (by decide) (fun h5 => ?_) (fun h5 => ?_)
  · --
    obtain ⟨mk, hmk, rfl⟩ := inb_at (by first | omega | (split <;> omega)) h5
    refine Go.aload_n X 0 dX4_odds_15 rfl ?_
    refine Go.aload_n X 0 dX4_odds_16 rfl ?_
    refine Go.iload_n X 1 dX4_odds_17 rfl ?_
    refine Go.callV0i X (d_still g ad N K b z le rf hd ln vl 6 at1 tk so va lm ol ah lt lo mk (by exact hN) (by first | omega | (split <;> omega))) cal_X4_still gX4_odds_X4_still (ci := 4) (q0 := 0) rfl rfl rfl rfl rfl dX4_odds_18 ?_
    have f18_1 := still_le (sA N) mk
    refine Go.callV0i X (d_weights g ad N K b z le rf hd ln vl 6 at1 tk so va lm ol ah lt lo (still (sA N) mk) (by exact hN) (by first | omega | (split <;> omega))) cal_X4_weights gX4_odds_X4_weights (ci := 4) (q0 := 0) rfl rfl rfl rfl rfl dX4_odds_21 ?_
    have f21_2 := wsum_81 hN (still (sA N) mk)
    refine Go.if_neN X 36 dX4_odds_24 (by decide) (by first | omega | (split <;> omega)) (fun h24 => ?_) (fun h24 => ?_)
    · --
      refine Go.aload_n X 0 dX4_odds_36 rfl ?_
      refine Go.iload_n X 1 dX4_odds_37 rfl ?_
      refine Go.callV0i X (d_oddsOf g ad N K b z le rf hd ln vl at1 tk so va lm ol ah lt lo mk (by exact hN) (by first | omega | (split <;> omega)) (by exact h24)) cal_X4_oddsOf gX4_odds_X4_oddsOf (ci := 4) (q0 := 0) rfl rfl rfl rfl rfl dX4_odds_38 ?_
      have e9 : x_odds (N, K, b, z, le, rf, hd, ln, vl) (nI mk) = ((N, K, b, z, le, rf, hd, ln, vl), (odI N mk)) := by simp [x_odds, h5, h24, odI, wst, nI_clamp (show mk < 2 ^ 31 by omega)]
      have m9 : mOk (N, K, b, z, le, rf, hd, ln, vl) (6, at1, tk, so, va, lm, ol, ah, lt, lo) := ⟨rfl, hm.2.1, hm.2.2⟩
      exact Go.iret X E dX4_odds_41 ⟨by rw [e9], _, by rw [e9]; exact m9, by rw [e9]⟩ rfl
    · --
      refine Go.aload_n X 0 dX4_odds_27 rfl ?_
      refine Go.bipush X ((-5 : Int32)) dX4_odds_28 k_bp_m5 ?_
      refine Go.callV0i X (d_no_3 g ad N K b z le rf hd ln vl 6 at1 tk so va lm ol ah lt lo) cal_X4_no gX4_odds_X4_no (ci := 4) (q0 := 0) rfl rfl rfl rfl rfl dX4_odds_30 ?_
      refine Go.goto X 41 dX4_odds_33 (by decide) ?_
      have e9 : x_odds (N, K, b, z, le, rf, hd, ln, vl) (nI mk) = ((N, K, b, z, le, inc rf 3, hd, ln, vl), (-5)) := by simp (decide := true) [x_odds, rfS, upS_id, h5, h24, nI_clamp (show mk < 2 ^ 31 by omega)]
      have m9 : mOk (N, K, b, z, le, inc rf 3, hd, ln, vl) (6, at1, tk, so, va, lm, ol, ah, lt, lo) := ⟨rfl, hm.2.1, hm.2.2⟩
      exact Go.iret X E dX4_odds_41 ⟨by rw [e9], _, by rw [e9]; exact m9, by rw [e9]⟩ rfl
  · --
    refine Go.aload_n X 0 dX4_odds_8 rfl ?_
    refine Go.bipush X ((-2 : Int32)) dX4_odds_9 k_bp_m2 ?_
    refine Go.callV0i X (d_no_0 g ad N K b z le rf hd ln vl 6 at1 tk so va lm ol ah lt lo) cal_X4_no gX4_odds_X4_no (ci := 4) (q0 := 0) rfl rfl rfl rfl rfl dX4_odds_11 ?_
    have e9 : x_odds (N, K, b, z, le, rf, hd, ln, vl) m = ((N, K, b, z, le, inc rf 0, hd, ln, vl), (-2)) := by simp (decide := true) [x_odds, rfS, upS_id, h5]
    have m9 : mOk (N, K, b, z, le, inc rf 0, hd, ln, vl) (6, at1, tk, so, va, lm, ol, ah, lt, lo) := ⟨rfl, hm.2.1, hm.2.2⟩
    exact Go.iret X E dX4_odds_14 ⟨by rw [e9], _, by rw [e9]; exact m9, by rw [e9]⟩ rfl
set_option maxHeartbeats 4000000 in
set_option maxRecDepth 100000 in
theorem e_likeliest (g : gT) (ad : Nat → Nat) (N : Sch) (K : Sch) (b : Bool) (z : Nat) (le : Nat → Nat) (rf : Nat → Int32) (hd : Nat → Int32) (ln : Nat → Nat) (vl : Nat → Nat → Int64) (at1 : Nat) (tk : Nat) (so : Int32) (va : Int32) (lm : Nat → Nat) (ol : Nat → Int32) (ah : Nat → Int32) (lt : Int32) (lo : Nat → Int32) (hN : sOk N) (hH : hOk (sP N) hd) (hm : mOk (N, K, b, z, le, rf, hd, ln, vl) (6, at1, tk, so, va, lm, ol, ah, lt, lo)) : Ct g yX4_likeliest wsX4_likeliest 3 65 [.ref (ad 0)] (mdW g ad (N, K, b, z, le, rf, hd, ln, vl) (6, at1, tk, so, va, lm, ol, ah, lt, lo)) (fun v9 w9 => v9 = (some (.int (x_likeliest (N, K, b, z, le, rf, hd, ln, vl)).2)) ∧ ∃ J9, mOk (x_likeliest (N, K, b, z, le, rf, hd, ln, vl)).1 J9 ∧ w9 = mdW g ad (x_likeliest (N, K, b, z, le, rf, hd, ln, vl)).1 J9) := by
  refine Ct.start (cc := cX4_likeliest) (nL := 3) (ret := (some .int)) (own := RX4) (by decide) rfl rfl rfl ?_
  intro Γ X E
  show Go Γ g 3 (rmC 3 65) 0 0 (mdW g ad (N, K, b, z, le, rf, hd, ln, vl) (6, at1, tk, so, va, lm, ol, ah, lt, lo)) 0 [(0, .ref (ad 0))] []
  obtain ⟨o1, o2, o3, o4, o5, o6, o7, o8⟩ := id hN
  have o9 := p2_9 o2
  have o10 := sA_512 hN
  refine Go.iconst X ((-1 : Int32)) dX4_likeliest_0 k_ic_m1 ?_
  refine Go.istore_n_new X dX4_likeliest_1 (by decide) rfl ?_
  refine Go.iconst X (nI 0) dX4_likeliest_2 k_ic_0 ?_
  refine Go.istore_n_new X dX4_likeliest_3 (by decide) rfl ?_
  have L4 : ∀ (f4 : Nat) (k : Nat) (hk : k ≤ sN N) (hf4 : sN N - k < f4), Go Γ g 3 (rmC 3 65) 0 0 (mdW g ad (N, K, b, z, le, rf, hd, ln, vl) (6, at1, tk, so, va, lm, ol, ah, lt, lo)) 4 [(2, .int (nI k)), (1, .int (likF N k)), (0, .ref (ad 0))] [] := by
    intro f4
    induction f4 with
    | zero => intro k hk hf4; exact absurd hf4 (Nat.not_lt_zero _)
    | succ f4 ih4 =>
      intro k hk hf4
      refine Go.iload_n X 0 dX4_likeliest_4 rfl ?_
      refine Go.aload_n X 2 dX4_likeliest_5 rfl ?_
      refine Go.get X f_X4_likeliest_66 0 (v := .int (nI (sN N))) rfl rfl dX4_likeliest_6 ?_
      refine Go.icmp_geN X 49 dX4_likeliest_9 (by decide) (by first | omega | (split <;> omega)) (by first | omega | (split <;> omega)) (fun h9 => ?_) (fun h9 => ?_)
      · --
        rcases lik_c hN (k := sN N) o2 with ⟨e1, e2⟩ | ⟨j, hj, e1, e2, e3⟩
        · --
          refine Go.lv_1 (w := .int (-1)) (by rw [show k = sN N by omega, e1]) ?_
          refine Go.iload_n X 1 dX4_likeliest_49 rfl ?_
          refine Go.if_ge X 62 dX4_likeliest_50 (by decide) (fun h => absurd h (by decide)) (fun _ => ?_)
          refine Go.aload_n X 2 dX4_likeliest_53 rfl ?_
          refine Go.bipush X ((-5 : Int32)) dX4_likeliest_54 k_bp_m5 ?_
          refine Go.callV0i X (d_no_3 g ad N K b z le rf hd ln vl 6 at1 tk so va lm ol ah lt lo) cal_X4_no gX4_likeliest_X4_no (ci := 4) (q0 := 0) rfl rfl rfl rfl rfl dX4_likeliest_56 ?_
          refine Go.goto X 63 dX4_likeliest_59 (by decide) ?_
          have e9 : x_likeliest (N, K, b, z, le, rf, hd, ln, vl) = ((N, K, b, z, le, inc rf 3, hd, ln, vl), (-5)) := by simp [x_likeliest, rfS, e1]
          have m9 : mOk (N, K, b, z, le, inc rf 3, hd, ln, vl) (6, at1, tk, so, va, lm, ol, ah, lt, lo) := ⟨rfl, hm.2.1, hm.2.2⟩
          exact Go.iret X E dX4_likeliest_63 ⟨by rw [e9], _, by rw [e9]; exact m9, by rw [e9]⟩ rfl
        · --
          refine Go.lv_1 (w := .int (nI j)) (by rw [show k = sN N by omega, e1]) ?_
          refine Go.iload_n X 1 dX4_likeliest_49 rfl ?_
          refine Go.if_geN X 62 dX4_likeliest_50 (by decide) (by first | omega | (split <;> omega)) ?_
          refine Go.iload_n X 1 dX4_likeliest_62 rfl ?_
          have e9 : x_likeliest (N, K, b, z, le, rf, hd, ln, vl) = ((N, K, b, z, le, rf, hd, ln, vl), (nI j)) := by simp [x_likeliest, e1, show ¬ nI j = -1 from fun q => m1_ne (by omega) q.symm]
          have m9 : mOk (N, K, b, z, le, rf, hd, ln, vl) (6, at1, tk, so, va, lm, ol, ah, lt, lo) := ⟨rfl, hm.2.1, hm.2.2⟩
          exact Go.iret X E dX4_likeliest_63 ⟨by rw [e9], _, by rw [e9]; exact m9, by rw [e9]⟩ rfl
      · --
        refine Go.aload_n X 2 dX4_likeliest_12 rfl ?_
        refine Go.aload_n X 2 dX4_likeliest_13 rfl ?_
        refine Go.iload_n X 0 dX4_likeliest_14 rfl ?_
        refine Go.callV0i X (d_still g ad N K b z le rf hd ln vl 6 at1 tk so va lm ol ah lt lo k (by exact hN) (by first | omega | (split <;> omega))) cal_X4_still gX4_likeliest_X4_still (ci := 4) (q0 := 0) rfl rfl rfl rfl rfl dX4_likeliest_15 ?_
        have f15_1 := still_le (sA N) k
        refine Go.callV0i X (d_weights g ad N K b z le rf hd ln vl 6 at1 tk so va lm ol ah lt lo (still (sA N) k) (by exact hN) (by first | omega | (split <;> omega))) cal_X4_weights gX4_likeliest_X4_weights (ci := 4) (q0 := 0) rfl rfl rfl rfl rfl dX4_likeliest_18 ?_
        have f18_2 := wsum_81 hN (still (sA N) k)
        refine Go.if_leN X 43 dX4_likeliest_21 (by decide) (by first | omega | (split <;> omega)) (fun h21 => ?_) (fun h21 => ?_)
        · --
          refine Go.iinc_0 X (nI (k + 1)) dX4_likeliest_43 (by decide) rfl (show nI k + Int32.ofInt 1 = nI (k + 1) from nI_add _ 1) ?_
          refine Go.goto X 4 dX4_likeliest_46 (by decide) ?_
          refine Go.lv_1 (congrArg Value.int (show likF N k = likF N (k + 1) from by rw [likF, if_neg (lik_z hN (by omega) h21)])) ?_
          exact ih4 (k + 1) (by first | omega | (split <;> omega)) (by first | omega | (split <;> omega))
        · --
          rcases lik_c hN (k := k) (by omega) with ⟨e1, e2⟩ | ⟨j, hj, e1, e2, e3⟩
          · --
            refine Go.lv_1 (w := .int (-1)) (by rw [e1]) ?_
            refine Go.iload_n X 1 dX4_likeliest_24 rfl ?_
            refine Go.if_lt X 41 dX4_likeliest_25 (by decide) (fun _ => ?_) (fun h => absurd (by decide) h)
            refine Go.iload_n X 0 dX4_likeliest_41 rfl ?_
            refine Go.istore_n_1 X dX4_likeliest_42 (by decide) rfl ?_
            refine Go.iinc_0 X (nI (k + 1)) dX4_likeliest_43 (by decide) rfl (show nI k + Int32.ofInt 1 = nI (k + 1) from nI_add _ 1) ?_
            refine Go.goto X 4 dX4_likeliest_46 (by decide) ?_
            refine Go.lv_1 (show (.int (nI k) : Value) = .int (likF N (k + 1)) from by rw [likF, if_pos (by rw [e2]; exact od_pos hN (by omega) (Nat.ne_of_gt h21))]) ?_
            exact ih4 (k + 1) (by first | omega | (split <;> omega)) (by first | omega | (split <;> omega))
          · --
            refine Go.lv_1 (w := .int (nI j)) (by rw [e1]) ?_
            refine Go.iload_n X 1 dX4_likeliest_24 rfl ?_
            refine Go.if_ltN X 41 dX4_likeliest_25 (by decide) (by first | omega | (split <;> omega)) ?_
            refine Go.aload_n X 2 dX4_likeliest_28 rfl ?_
            refine Go.iload_n X 0 dX4_likeliest_29 rfl ?_
            refine Go.callV0i X (d_oddsOf g ad N K b z le rf hd ln vl at1 tk so va lm ol ah lt lo k (by exact hN) (by first | omega | (split <;> omega)) (by exact Nat.ne_of_gt h21)) cal_X4_oddsOf gX4_likeliest_X4_oddsOf (ci := 4) (q0 := 0) rfl rfl rfl rfl rfl dX4_likeliest_30 ?_
            refine Go.aload_n X 2 dX4_likeliest_33 rfl ?_
            refine Go.iload_n X 1 dX4_likeliest_34 rfl ?_
            refine Go.callV0i X (d_oddsOf g ad N K b z le rf hd ln vl at1 tk so va lm ol ah lt lo j (by exact hN) (by first | omega | (split <;> omega)) (by exact e3)) cal_X4_oddsOf gX4_likeliest_X4_oddsOf (ci := 4) (q0 := 0) rfl rfl rfl rfl rfl dX4_likeliest_35 ?_
            refine Go.icmp_le X 43 dX4_likeliest_38 (by decide) (fun h38 => ?_) (fun h38 => ?_)
            · --
              refine Go.iinc_0 X (nI (k + 1)) dX4_likeliest_43 (by decide) rfl (show nI k + Int32.ofInt 1 = nI (k + 1) from nI_add _ 1) ?_
              refine Go.goto X 4 dX4_likeliest_46 (by decide) ?_
              refine Go.lv_1 (show (.int (nI j) : Value) = .int (likF N (k + 1)) from by rw [likF, if_neg (by rw [e2]; exact Int32.not_lt.mpr h38), e1]) ?_
              exact ih4 (k + 1) (by first | omega | (split <;> omega)) (by first | omega | (split <;> omega))
            · --
              refine Go.iload_n X 0 dX4_likeliest_41 rfl ?_
              refine Go.istore_n_1 X dX4_likeliest_42 (by decide) rfl ?_
              refine Go.iinc_0 X (nI (k + 1)) dX4_likeliest_43 (by decide) rfl (show nI k + Int32.ofInt 1 = nI (k + 1) from nI_add _ 1) ?_
              refine Go.goto X 4 dX4_likeliest_46 (by decide) ?_
              refine Go.lv_1 (show (.int (nI k) : Value) = .int (likF N (k + 1)) from by rw [likF, if_pos (by rw [e2]; exact Int32.not_le.mp h38)]) ?_
              exact ih4 (k + 1) (by first | omega | (split <;> omega)) (by first | omega | (split <;> omega))
  refine Go.lv_1 (congrArg Value.int (show (-1) = likF N 0 from by rfl)) ?_
  exact L4 (sN N - 0 + 1) 0 (by first | omega | (split <;> omega)) (Nat.lt_succ_self _)
set_option maxHeartbeats 4000000 in
set_option maxRecDepth 100000 in
theorem e_caught (g : gT) (ad : Nat → Nat) (N : Sch) (K : Sch) (b : Bool) (z : Nat) (le : Nat → Nat) (rf : Nat → Int32) (hd : Nat → Int32) (ln : Nat → Nat) (vl : Nat → Nat → Int64) (at1 : Nat) (tk : Nat) (so : Int32) (va : Int32) (lm : Nat → Nat) (ol : Nat → Int32) (ah : Nat → Int32) (lt : Int32) (lo : Nat → Int32) (hN : sOk N) (hH : hOk (sP N) hd) (hm : mOk (N, K, b, z, le, rf, hd, ln, vl) (6, at1, tk, so, va, lm, ol, ah, lt, lo)) : Ct g yX4_caught wsX4_caught 7 161 [.ref (ad 0)] (mdW g ad (N, K, b, z, le, rf, hd, ln, vl) (6, at1, tk, so, va, lm, ol, ah, lt, lo)) (fun v9 w9 => v9 = (some (.int (x_caught (N, K, b, z, le, rf, hd, ln, vl)).2)) ∧ ∃ J9, mOk (x_caught (N, K, b, z, le, rf, hd, ln, vl)).1 J9 ∧ w9 = mdW g ad (x_caught (N, K, b, z, le, rf, hd, ln, vl)).1 J9) := by
  refine Ct.start (cc := cX4_caught) (nL := 2) (ret := (some .int)) (own := RX4) (by decide) rfl rfl rfl ?_
  intro Γ X E
  show Go Γ g 2 (rmC 7 161) 0 0 (mdW g ad (N, K, b, z, le, rf, hd, ln, vl) (6, at1, tk, so, va, lm, ol, ah, lt, lo)) 0 [(0, .ref (ad 0))] []
  obtain ⟨o1, o2, o3, o4, o5, o6, o7, o8⟩ := id hN
  have o9 := p2_9 o2
  have o10 := sA_512 hN
  refine Go.aload_n X 0 dX4_caught_0 rfl ?_
  refine Go.aload_n X 0 dX4_caught_1 rfl ?_
  refine Go.get X f_X4_caught_111 0 (v := .int (nI (sA N))) rfl rfl dX4_caught_2 ?_
  refine Go.callV0i X (d_weights g ad N K b z le rf hd ln vl 6 at1 tk so va lm ol ah lt lo (sA N) (by exact hN) (by first | omega | (split <;> omega))) cal_X4_weights gX4_caught_X4_weights (ci := 4) (q0 := 0) rfl rfl rfl rfl rfl dX4_caught_5 ?_
  have f5_1 := wsum_81 hN (sA N)
  refine Go.istore_n_new X dX4_caught_8 (by decide) rfl ?_
  refine Go.iload_n X 0 dX4_caught_9 rfl ?_
  refine Go.if_neN X 22 dX4_caught_10 (by decide) (by first | omega | (split <;> omega)) (fun h10 => ?_) (fun h10 => ?_)
  · --
    refine Go.ldc X (nI 1000000) dX4_caught_22 (List.mem_of_getElem? (i := 2) (by decide +kernel)) ?_
    refine Go.aload_n X 1 dX4_caught_24 rfl ?_
    refine Go.aload_n X 1 dX4_caught_25 rfl ?_
    refine Go.get X f_X4_caught_111 0 (v := .int (nI (sA N))) rfl rfl dX4_caught_26 ?_
    refine Go.aload_n X 1 dX4_caught_29 rfl ?_
    refine Go.callV0i X (d_bySurprise g ad N K b z le rf hd ln vl 6 at1 tk so va lm ol ah lt lo (by exact hN) (by first | omega | (split <;> omega))) cal_X4_bySurprise gX4_caught_X4_bySurprise (ci := 4) (q0 := 0) rfl rfl rfl rfl rfl dX4_caught_30 ?_
    have f30_2 := sur_512 hN 6
    refine Go.iconst X ((-1 : Int32)) dX4_caught_33 k_ic_m1 ?_
    refine Go.ixor_e X (nI (sur N 6) ^^^ (-1)) dX4_caught_34 rfl ?_
    refine Go.iand_e X (nI (dif (sA N) (sur N 6))) dX4_caught_35 (nI_andnot _ _) ?_
    have o11 := dif_le (sA N) (sur N 6)
    refine Go.callV0i X (d_weights g ad N K b z le rf hd ln vl 6 at1 tk so va lm ol ah lt lo (dif (sA N) (sur N 6)) (by exact hN) (by first | omega | (split <;> omega))) cal_X4_weights gX4_caught_X4_weights (ci := 4) (q0 := 0) rfl rfl rfl rfl rfl dX4_caught_36 ?_
    have f36_3 := wsum_81 hN (dif (sA N) (sur N 6))
    refine Go.imul_e X (nI (1000000 * (wsum (sW N) (dif (sA N) (sur N 6)) (sN N)))) dX4_caught_39 (pk_mul _ _) ?_
    refine Go.iload_n X 0 dX4_caught_40 rfl ?_
    refine Go.idiv_e X (nI ((1000000 * (wsum (sW N) (dif (sA N) (sur N 6)) (sN N))) / (wsum (sW N) (sA N) (sN N)))) dX4_caught_41 (nI_ne0 (by first | omega | (split <;> omega)) (by first | omega | (split <;> omega))) (pk_div (by first | omega | (split <;> omega)) (by first | omega | (split <;> omega)) (by first | omega | (split <;> omega))) ?_
    have e9 : x_caught (N, K, b, z, le, rf, hd, ln, vl) = ((N, K, b, z, le, rf, hd, ln, vl), (nI ((1000000 * (wsum (sW N) (dif (sA N) (sur N 6)) (sN N))) / (wsum (sW N) (sA N) (sN N))))) := by simp (decide := true) [x_caught, rfS, h10, shI, wal]
    have m9 : mOk (N, K, b, z, le, rf, hd, ln, vl) (6, at1, tk, so, va, lm, ol, ah, lt, lo) := ⟨rfl, hm.2.1, hm.2.2⟩
    exact Go.iret X E dX4_caught_42 ⟨by rw [e9], _, by rw [e9]; exact m9, by rw [e9]⟩ rfl
  · --
    refine Go.aload_n X 1 dX4_caught_13 rfl ?_
    refine Go.bipush X ((-5 : Int32)) dX4_caught_14 k_bp_m5 ?_
    refine Go.callV0i X (d_no_3 g ad N K b z le rf hd ln vl 6 at1 tk so va lm ol ah lt lo) cal_X4_no gX4_caught_X4_no (ci := 4) (q0 := 0) rfl rfl rfl rfl rfl dX4_caught_16 ?_
    refine Go.goto X 42 dX4_caught_19 (by decide) ?_
    have e9 : x_caught (N, K, b, z, le, rf, hd, ln, vl) = ((N, K, b, z, le, inc rf 3, hd, ln, vl), (-5)) := by simp (decide := true) [x_caught, rfS, h10, shI, wal]
    have m9 : mOk (N, K, b, z, le, inc rf 3, hd, ln, vl) (6, at1, tk, so, va, lm, ol, ah, lt, lo) := ⟨rfl, hm.2.1, hm.2.2⟩
    exact Go.iret X E dX4_caught_42 ⟨by rw [e9], _, by rw [e9]; exact m9, by rw [e9]⟩ rfl
set_option maxHeartbeats 4000000 in
set_option maxRecDepth 100000 in
theorem e_by (g : gT) (ad : Nat → Nat) (N : Sch) (K : Sch) (b : Bool) (z : Nat) (le : Nat → Nat) (rf : Nat → Int32) (hd : Nat → Int32) (ln : Nat → Nat) (vl : Nat → Nat → Int64) (at1 : Nat) (tk : Nat) (so : Int32) (va : Int32) (lm : Nat → Nat) (ol : Nat → Int32) (ah : Nat → Int32) (lt : Int32) (lo : Nat → Int32) (m : Int32) (hN : sOk N) (hH : hOk (sP N) hd) (hm : mOk (N, K, b, z, le, rf, hd, ln, vl) (6, at1, tk, so, va, lm, ol, ah, lt, lo)) : Ct g yX4_by wsX4_by 2 44 [.ref (ad 0), .int m] (mdW g ad (N, K, b, z, le, rf, hd, ln, vl) (6, at1, tk, so, va, lm, ol, ah, lt, lo)) (fun v9 w9 => v9 = (some (.int (x_by (N, K, b, z, le, rf, hd, ln, vl) m).2)) ∧ ∃ J9, mOk (x_by (N, K, b, z, le, rf, hd, ln, vl) m).1 J9 ∧ w9 = mdW g ad (x_by (N, K, b, z, le, rf, hd, ln, vl) m).1 J9) := by
  refine Ct.start (cc := cX4_by) (nL := 3) (ret := (some .int)) (own := RX4) (by decide) rfl rfl rfl ?_
  intro Γ X E
  show Go Γ g 3 (rmC 2 44) 0 0 (mdW g ad (N, K, b, z, le, rf, hd, ln, vl) (6, at1, tk, so, va, lm, ol, ah, lt, lo)) 0 [(0, .ref (ad 0)), (1, .int m)] []
  obtain ⟨o1, o2, o3, o4, o5, o6, o7, o8⟩ := id hN
  have o9 := p2_9 o2
  have o10 := sA_512 hN
  refine Go.aload_n X 0 dX4_by_0 rfl ?_
  refine Go.iload_n X 1 dX4_by_1 rfl ?_
  refine Go.callV0i X (d_isMorning g ad N K b z le rf hd ln vl 6 at1 tk so va lm ol ah lt lo m (by exact hN)) cal_X4_isMorning gX4_by_X4_isMorning (ci := 4) (q0 := 0) rfl rfl rfl rfl rfl dX4_by_2 ?_
  refine Go.if_neB X 15 dX4_by_5 (by decide) (fun h5 => ?_) (fun h5 => ?_)
  · --
    obtain ⟨mk, hmk, rfl⟩ := inb_at (by first | omega | (split <;> omega)) h5
    refine Go.aload_n X 0 dX4_by_15 rfl ?_
    refine Go.aload_n X 0 dX4_by_16 rfl ?_
    refine Go.get X f_X4_by_111 0 (v := .int (nI (sA N))) rfl rfl dX4_by_17 ?_
    refine Go.callV0i X (d_weights g ad N K b z le rf hd ln vl 6 at1 tk so va lm ol ah lt lo (sA N) (by exact hN) (by first | omega | (split <;> omega))) cal_X4_weights gX4_by_X4_weights (ci := 4) (q0 := 0) rfl rfl rfl rfl rfl dX4_by_20 ?_
    have f20_1 := wsum_81 hN (sA N)
    refine Go.istore_n_new X dX4_by_23 (by decide) rfl ?_
    refine Go.iload_n X 0 dX4_by_24 rfl ?_
    refine Go.if_neN X 37 dX4_by_25 (by decide) (by first | omega | (split <;> omega)) (fun h25 => ?_) (fun h25 => ?_)
    · --
      refine Go.ldc X (nI 1000000) dX4_by_37 (List.mem_of_getElem? (i := 2) (by decide +kernel)) ?_
      refine Go.aload_n X 1 dX4_by_39 rfl ?_
      refine Go.aload_n X 1 dX4_by_40 rfl ?_
      refine Go.get X f_X4_by_111 0 (v := .int (nI (sA N))) rfl rfl dX4_by_41 ?_
      refine Go.iconst X (nI 2) dX4_by_44 k_ic_2 ?_
      refine Go.iload_n X 2 dX4_by_45 rfl ?_
      refine Go.ishl_e X (nI (2 ^ (mk + 1))) dX4_by_46 (nI_shl2 (by first | omega | (split <;> omega))) ?_
      refine Go.iconst X (nI 1) dX4_by_47 k_ic_1 ?_
      have o12 := Nat.one_le_two_pow (n := mk + 1)
      refine Go.isub_e X (nI (2 ^ (mk + 1) - 1)) dX4_by_48 (pk_sub (by first | omega | (split <;> omega))) ?_
      refine Go.iand_e X (nI ((sA N) &&& (2 ^ (mk + 1) - 1))) dX4_by_49 (nI_and _ _) ?_
      refine Go.top (w := .int (nI (dif (sA N) (dif (still (sA N) mk) (2 ^ mk))))) (by rw [by_eq]) ?_
      have o11 := dif_le (sA N) (dif (still (sA N) mk) (2 ^ mk))
      refine Go.callV0i X (d_weights g ad N K b z le rf hd ln vl 6 at1 tk so va lm ol ah lt lo (dif (sA N) (dif (still (sA N) mk) (2 ^ mk))) (by exact hN) (by first | omega | (split <;> omega))) cal_X4_weights gX4_by_X4_weights (ci := 4) (q0 := 0) rfl rfl rfl rfl rfl dX4_by_50 ?_
      have f50_2 := wsum_81 hN (dif (sA N) (dif (still (sA N) mk) (2 ^ mk)))
      refine Go.imul_e X (nI (1000000 * (wsum (sW N) (dif (sA N) (dif (still (sA N) mk) (2 ^ mk))) (sN N)))) dX4_by_53 (pk_mul _ _) ?_
      refine Go.iload_n X 0 dX4_by_54 rfl ?_
      refine Go.idiv_e X (nI ((1000000 * (wsum (sW N) (dif (sA N) (dif (still (sA N) mk) (2 ^ mk))) (sN N))) / (wsum (sW N) (sA N) (sN N)))) dX4_by_55 (nI_ne0 (by first | omega | (split <;> omega)) (by first | omega | (split <;> omega))) (pk_div (by first | omega | (split <;> omega)) (by first | omega | (split <;> omega)) (by first | omega | (split <;> omega))) ?_
      have e9 : x_by (N, K, b, z, le, rf, hd, ln, vl) (nI mk) = ((N, K, b, z, le, rf, hd, ln, vl), (nI ((1000000 * (wsum (sW N) (dif (sA N) (dif (still (sA N) mk) (2 ^ mk))) (sN N))) / (wsum (sW N) (sA N) (sN N))))) := by simp (decide := true) [x_by, rfS, h5, h25, shI, wal, nI_clamp (show mk < 2 ^ 31 by omega)]
      have m9 : mOk (N, K, b, z, le, rf, hd, ln, vl) (6, at1, tk, so, va, lm, ol, ah, lt, lo) := ⟨rfl, hm.2.1, hm.2.2⟩
      exact Go.iret X E dX4_by_56 ⟨by rw [e9], _, by rw [e9]; exact m9, by rw [e9]⟩ rfl
    · --
      refine Go.aload_n X 1 dX4_by_28 rfl ?_
      refine Go.bipush X ((-5 : Int32)) dX4_by_29 k_bp_m5 ?_
      refine Go.callV0i X (d_no_3 g ad N K b z le rf hd ln vl 6 at1 tk so va lm ol ah lt lo) cal_X4_no gX4_by_X4_no (ci := 4) (q0 := 0) rfl rfl rfl rfl rfl dX4_by_31 ?_
      refine Go.goto X 56 dX4_by_34 (by decide) ?_
      have e9 : x_by (N, K, b, z, le, rf, hd, ln, vl) (nI mk) = ((N, K, b, z, le, inc rf 3, hd, ln, vl), (-5)) := by simp (decide := true) [x_by, rfS, h5, h25, shI, wal, nI_clamp (show mk < 2 ^ 31 by omega)]
      have m9 : mOk (N, K, b, z, le, inc rf 3, hd, ln, vl) (6, at1, tk, so, va, lm, ol, ah, lt, lo) := ⟨rfl, hm.2.1, hm.2.2⟩
      exact Go.iret X E dX4_by_56 ⟨by rw [e9], _, by rw [e9]; exact m9, by rw [e9]⟩ rfl
  · --
    refine Go.aload_n X 0 dX4_by_8 rfl ?_
    refine Go.bipush X ((-2 : Int32)) dX4_by_9 k_bp_m2 ?_
    refine Go.callV0i X (d_no_0 g ad N K b z le rf hd ln vl 6 at1 tk so va lm ol ah lt lo) cal_X4_no gX4_by_X4_no (ci := 4) (q0 := 0) rfl rfl rfl rfl rfl dX4_by_11 ?_
    have e9 : x_by (N, K, b, z, le, rf, hd, ln, vl) m = ((N, K, b, z, le, inc rf 0, hd, ln, vl), (-2)) := by simp (decide := true) [x_by, rfS, upS_id, h5]
    have m9 : mOk (N, K, b, z, le, inc rf 0, hd, ln, vl) (6, at1, tk, so, va, lm, ol, ah, lt, lo) := ⟨rfl, hm.2.1, hm.2.2⟩
    exact Go.iret X E dX4_by_14 ⟨by rw [e9], _, by rw [e9]; exact m9, by rw [e9]⟩ rfl
set_option maxHeartbeats 4000000 in
set_option maxRecDepth 100000 in
theorem e_mean (g : gT) (ad : Nat → Nat) (N : Sch) (K : Sch) (b : Bool) (z : Nat) (le : Nat → Nat) (rf : Nat → Int32) (hd : Nat → Int32) (ln : Nat → Nat) (vl : Nat → Nat → Int64) (at1 : Nat) (tk : Nat) (so : Int32) (va : Int32) (lm : Nat → Nat) (ol : Nat → Int32) (ah : Nat → Int32) (lt : Int32) (lo : Nat → Int32) (hN : sOk N) (hH : hOk (sP N) hd) (hm : mOk (N, K, b, z, le, rf, hd, ln, vl) (6, at1, tk, so, va, lm, ol, ah, lt, lo)) : Ct g yX4_mean wsX4_mean 2 44 [.ref (ad 0)] (mdW g ad (N, K, b, z, le, rf, hd, ln, vl) (6, at1, tk, so, va, lm, ol, ah, lt, lo)) (fun v9 w9 => v9 = (some (.int (x_mean (N, K, b, z, le, rf, hd, ln, vl)).2)) ∧ ∃ J9, mOk (x_mean (N, K, b, z, le, rf, hd, ln, vl)).1 J9 ∧ w9 = mdW g ad (x_mean (N, K, b, z, le, rf, hd, ln, vl)).1 J9) := by
  refine Ct.start (cc := cX4_mean) (nL := 4) (ret := (some .int)) (own := RX4) (by decide) rfl rfl rfl ?_
  intro Γ X E
  show Go Γ g 4 (rmC 2 44) 0 0 (mdW g ad (N, K, b, z, le, rf, hd, ln, vl) (6, at1, tk, so, va, lm, ol, ah, lt, lo)) 0 [(0, .ref (ad 0))] []
  obtain ⟨o1, o2, o3, o4, o5, o6, o7, o8⟩ := id hN
  have o9 := p2_9 o2
  have o10 := sA_512 hN
  refine Go.aload_n X 0 dX4_mean_0 rfl ?_
  refine Go.aload_n X 0 dX4_mean_1 rfl ?_
  refine Go.get X f_X4_mean_111 0 (v := .int (nI (sA N))) rfl rfl dX4_mean_2 ?_
  refine Go.callV0i X (d_weights g ad N K b z le rf hd ln vl 6 at1 tk so va lm ol ah lt lo (sA N) (by exact hN) (by first | omega | (split <;> omega))) cal_X4_weights gX4_mean_X4_weights (ci := 4) (q0 := 0) rfl rfl rfl rfl rfl dX4_mean_5 ?_
  have f5_1 := wsum_81 hN (sA N)
  refine Go.istore_n_new X dX4_mean_8 (by decide) rfl ?_
  refine Go.iload_n X 0 dX4_mean_9 rfl ?_
  refine Go.if_neN X 20 dX4_mean_10 (by decide) (by first | omega | (split <;> omega)) (fun h10 => ?_) (fun h10 => ?_)
  · --
    refine Go.iconst X (nI 0) dX4_mean_20 k_ic_0 ?_
    refine Go.istore_n_new X dX4_mean_21 (by decide) rfl ?_
    refine Go.iconst X (nI 0) dX4_mean_22 k_ic_0 ?_
    refine Go.istore_n_new X dX4_mean_23 (by decide) rfl ?_
    have L24 : ∀ (f24 : Nat) (k : Nat) (hk : k ≤ sN N) (hf24 : sN N - k < f24), Go Γ g 4 (rmC 2 44) 0 0 (mdW g ad (N, K, b, z, le, rf, hd, ln, vl) (6, at1, tk, so, va, lm, ol, ah, lt, lo)) 24 [(3, .int (nI k)), (2, .int (nI (meanS N k))), (1, .int (nI (wsum (sW N) (sA N) (sN N)))), (0, .ref (ad 0))] [] := by
      intro f24
      induction f24 with
      | zero => intro k hk hf24; exact absurd hf24 (Nat.not_lt_zero _)
      | succ f24 ih24 =>
        intro k hk hf24
        refine Go.iload_n X 0 dX4_mean_24 rfl ?_
        refine Go.aload_n X 3 dX4_mean_25 rfl ?_
        refine Go.get X f_X4_mean_66 0 (v := .int (nI (sN N))) rfl rfl dX4_mean_26 ?_
        refine Go.icmp_geN X 60 dX4_mean_29 (by decide) (by first | omega | (split <;> omega)) (by first | omega | (split <;> omega)) (fun h29 => ?_) (fun h29 => ?_)
        · --
          refine Go.lv_1 (w := .int (nI (meanS N (sN N)))) (by rw [show k = sN N by omega]) ?_
          have o11 := meanS_le hN (sN N) o2
          refine Go.sipush X (nI 1000) dX4_mean_60 k_sp_1000 ?_
          refine Go.iload_n X 1 dX4_mean_63 rfl ?_
          refine Go.imul_e X (nI (1000 * (meanS N (sN N)))) dX4_mean_64 (pk_mul _ _) ?_
          refine Go.iload_n X 2 dX4_mean_65 rfl ?_
          refine Go.idiv_e X (nI ((1000 * (meanS N (sN N))) / (wsum (sW N) (sA N) (sN N)))) dX4_mean_66 (nI_ne0 (by first | omega | (split <;> omega)) (by first | omega | (split <;> omega))) (pk_div (by first | omega | (split <;> omega)) (by first | omega | (split <;> omega)) (by first | omega | (split <;> omega))) ?_
          have e9 : x_mean (N, K, b, z, le, rf, hd, ln, vl) = ((N, K, b, z, le, rf, hd, ln, vl), (nI ((1000 * (meanS N (sN N))) / (wsum (sW N) (sA N) (sN N))))) := by simp (decide := true) [x_mean, rfS, h10, h29, Nat.not_lt.mpr h29, wal]
          have m9 : mOk (N, K, b, z, le, rf, hd, ln, vl) (6, at1, tk, so, va, lm, ol, ah, lt, lo) := ⟨rfl, hm.2.1, hm.2.2⟩
          exact Go.iret X E dX4_mean_67 ⟨by rw [e9], _, by rw [e9]; exact m9, by rw [e9]⟩ rfl
        · --
          refine Go.aload_n X 3 dX4_mean_32 rfl ?_
          refine Go.get X f_X4_mean_111 0 (v := .int (nI (sA N))) rfl rfl dX4_mean_33 ?_
          refine Go.iload_n X 0 dX4_mean_36 rfl ?_
          refine Go.callSi X  (d_has g (sA N) k (by first | omega | (split <;> omega)) (by first | omega | (split <;> omega))) cal_X4_has [] rfl rfl gX4_mean_X4_has rfl rfl rfl dX4_mean_37 ?_
          refine Go.if_eqB X 54 dX4_mean_40 (by decide) (fun h40 => ?_) (fun h40 => ?_)
          · --
            refine Go.iinc_0 X (nI (k + 1)) dX4_mean_54 (by decide) rfl (show nI k + Int32.ofInt 1 = nI (k + 1) from nI_add _ 1) ?_
            refine Go.goto X 24 dX4_mean_57 (by decide) ?_
            refine Go.lv_1 (congrArg (fun z => Value.int (nI z)) (show meanS N k = meanS N (k + 1) from by rw [meanS, lotN, if_neg (by rw [h40]; decide), Nat.mul_zero]; rfl)) ?_
            exact ih24 (k + 1) (by first | omega | (split <;> omega)) (by first | omega | (split <;> omega))
          · --
            refine Go.iload_n X 1 dX4_mean_43 rfl ?_
            refine Go.iload_n X 0 dX4_mean_44 rfl ?_
            refine Go.aload_n X 3 dX4_mean_45 rfl ?_
            refine Go.get X f_X4_mean_20 0 (v := .ref (ad 4)) rfl rfl dX4_mean_46 ?_
            refine Go.iload_n X 0 dX4_mean_49 rfl ?_
            refine Go.ialdN X 4 (w := sW N) rfl (by first | omega | (split <;> omega)) rfl dX4_mean_50 ?_
            refine Go.imul_e X (nI (k * ((sW N) k))) dX4_mean_51 (pk_mul _ _) ?_
            refine Go.iadd_e X (nI (meanS N k + k * ((sW N) k))) dX4_mean_52 (nI_add _ _) ?_
            refine Go.istore_n_1 X dX4_mean_53 (by decide) rfl ?_
            refine Go.iinc_0 X (nI (k + 1)) dX4_mean_54 (by decide) rfl (show nI k + Int32.ofInt 1 = nI (k + 1) from nI_add _ 1) ?_
            refine Go.goto X 24 dX4_mean_57 (by decide) ?_
            refine Go.lv_1 (congrArg (fun z => Value.int (nI z)) (show meanS N k + k * ((sW N) k) = meanS N (k + 1) from by rw [meanS, lotN, if_pos h40])) ?_
            exact ih24 (k + 1) (by first | omega | (split <;> omega)) (by first | omega | (split <;> omega))
    refine Go.lv_1 (congrArg (fun z => Value.int (nI z)) (show 0 = meanS N 0 from by rfl)) ?_
    exact L24 (sN N - 0 + 1) 0 (by first | omega | (split <;> omega)) (Nat.lt_succ_self _)
  · --
    refine Go.aload_n X 1 dX4_mean_13 rfl ?_
    refine Go.bipush X ((-5 : Int32)) dX4_mean_14 k_bp_m5 ?_
    refine Go.callV0i X (d_no_3 g ad N K b z le rf hd ln vl 6 at1 tk so va lm ol ah lt lo) cal_X4_no gX4_mean_X4_no (ci := 4) (q0 := 0) rfl rfl rfl rfl rfl dX4_mean_16 ?_
    have e9 : x_mean (N, K, b, z, le, rf, hd, ln, vl) = ((N, K, b, z, le, inc rf 3, hd, ln, vl), (-5)) := by simp (decide := true) [x_mean, rfS, h10, wal]
    have m9 : mOk (N, K, b, z, le, inc rf 3, hd, ln, vl) (6, at1, tk, so, va, lm, ol, ah, lt, lo) := ⟨rfl, hm.2.1, hm.2.2⟩
    exact Go.iret X E dX4_mean_19 ⟨by rw [e9], _, by rw [e9]; exact m9, by rw [e9]⟩ rfl
set_option maxHeartbeats 4000000 in
set_option maxRecDepth 100000 in
theorem d_gains (g : gT) (ad : Nat → Nat) (N : Sch) (K : Sch) (b : Bool) (z : Nat) (le : Nat → Nat) (rf : Nat → Int32) (hd : Nat → Int32) (ln : Nat → Nat) (vl : Nat → Nat → Int64) (at1 : Nat) (tk : Nat) (so : Int32) (va : Int32) (lm : Nat → Nat) (ol : Nat → Int32) (ah : Nat → Int32) (lt : Int32) (lo : Nat → Int32) (m : Nat) (w : Nat) (hN : sOk N) (hm : m < 9) (hw : w ≤ 40) (h0 : ¬ wst N m = 0) : Cw g yX4_gains wsX4_gains 2 44 [.ref (ad 0), .int (nI m), .int (nI w)] (mdW g ad (N, K, b, z, le, rf, hd, ln, vl) (6, at1, tk, so, va, lm, ol, ah, lt, lo)) (some (.int (wgr (lotN N m) w (wst N m)))) (mdW g ad (N, K, b, z, le, rf, hd, ln, vl) (6, at1, tk, so, va, lm, ol, ah, lt, lo)) := by
  refine Ct.start (cc := cX4_gains) (nL := 3) (ret := (some .int)) (own := RX4) (by decide) rfl rfl rfl ?_
  intro Γ X E
  show Go Γ g 3 (rmC 2 44) 0 0 (mdW g ad (N, K, b, z, le, rf, hd, ln, vl) (6, at1, tk, so, va, lm, ol, ah, lt, lo)) 0 [(0, .ref (ad 0)), (1, .int (nI m)), (2, .int (nI w))] []
  obtain ⟨o1, o2, o3, o4, o5, o6, o7, o8⟩ := id hN
  have o9 := p2_9 o2
  have o10 := sA_512 hN
  refine Go.aload_n X 0 dX4_gains_0 rfl ?_
  refine Go.get X f_X4_gains_111 0 (v := .int (nI (sA N))) rfl rfl dX4_gains_1 ?_
  refine Go.iload_n X 1 dX4_gains_4 rfl ?_
  refine Go.callSi X  (d_has g (sA N) m (by first | omega | (split <;> omega)) (by first | omega | (split <;> omega))) cal_X4_has [] rfl rfl gX4_gains_X4_has rfl rfl rfl dX4_gains_5 ?_
  refine Go.if_eqB X 40 dX4_gains_8 (by decide) (fun h8 => ?_) (fun h8 => ?_)
  · --
    refine Go.iconst X (nI 0) dX4_gains_40 k_ic_0 ?_
    refine Go.ldc X (nI 1000000) dX4_gains_41 (List.mem_of_getElem? (i := 4) (by decide +kernel)) ?_
    refine Go.isub_e X (-1000000) dX4_gains_43 (by decide) ?_
    exact Go.iret X E dX4_gains_44 ⟨rv (show (-1000000) = wgr (lotN N m) w (wst N m) from by rw [wgr, lotN, if_neg (by rw [h8]; decide), Nat.zero_mul, Nat.mul_zero, Nat.zero_div]; decide), rfl⟩ rfl
  · --
    refine Go.ldc2 X (1000000) dX4_gains_11 (List.mem_of_getElem? (i := 2) (by decide +kernel)) ?_
    refine Go.aload_n X 0 dX4_gains_14 rfl ?_
    refine Go.get X f_X4_gains_20 0 (v := .ref (ad 4)) rfl rfl dX4_gains_15 ?_
    refine Go.iload_n X 1 dX4_gains_18 rfl ?_
    refine Go.ialdN X 4 (w := sW N) rfl (by first | omega | (split <;> omega)) rfl dX4_gains_19 ?_
    refine Go.i2l X (((nI ((sW N) m)) : Int32).toInt64) dX4_gains_20 rfl ?_
    refine Go.lmul X ((1000000) * (((nI ((sW N) m)) : Int32).toInt64)) dX4_gains_21 rfl ?_
    refine Go.iload_n X 2 dX4_gains_22 rfl ?_
    refine Go.i2l X (((nI w) : Int32).toInt64) dX4_gains_23 rfl ?_
    refine Go.lmul X (((1000000) * (((nI ((sW N) m)) : Int32).toInt64)) * (((nI w) : Int32).toInt64)) dX4_gains_24 rfl ?_
    refine Go.aload_n X 0 dX4_gains_25 rfl ?_
    refine Go.aload_n X 0 dX4_gains_26 rfl ?_
    refine Go.iload_n X 1 dX4_gains_27 rfl ?_
    refine Go.callV0i X (d_still g ad N K b z le rf hd ln vl 6 at1 tk so va lm ol ah lt lo m (by exact hN) (by first | omega | (split <;> omega))) cal_X4_still gX4_gains_X4_still (ci := 4) (q0 := 0) rfl rfl rfl rfl rfl dX4_gains_28 ?_
    have f28_1 := still_le (sA N) m
    have o11 := o4 m hm
    have o12 := still_le (sA N) m
    refine Go.callV0i X (d_weights g ad N K b z le rf hd ln vl 6 at1 tk so va lm ol ah lt lo (still (sA N) m) (by exact hN) (by first | omega | (split <;> omega))) cal_X4_weights gX4_gains_X4_weights (ci := 4) (q0 := 0) rfl rfl rfl rfl rfl dX4_gains_31 ?_
    have f31_2 := wsum_81 hN (still (sA N) m)
    have o13 := wsum_81 hN (still (sA N) m)
    refine Go.i2l X (((nI (wsum (sW N) (still (sA N) m) (sN N))) : Int32).toInt64) dX4_gains_34 rfl ?_
    refine Go.ldiv X ((((1000000) * (((nI ((sW N) m)) : Int32).toInt64)) * (((nI w) : Int32).toInt64)) / (((nI (wsum (sW N) (still (sA N) m) (sN N))) : Int32).toInt64)) dX4_gains_35 (by exact i64_ne (Nat.pos_of_ne_zero h0) (by omega)) rfl ?_
    refine Go.l2i X (((((1000000) * (((nI ((sW N) m)) : Int32).toInt64)) * (((nI w) : Int32).toInt64)) / (((nI (wsum (sW N) (still (sA N) m) (sN N))) : Int32).toInt64)).toInt32) dX4_gains_36 rfl ?_
    refine Go.top (w := .int (nI ((1000000 * (sW N m * w)) / wst N m))) (by exact congrArg Value.int (gl_at o11 hw (Nat.pos_of_ne_zero h0) o13)) ?_
    refine Go.goto X 41 dX4_gains_37 (by decide) ?_
    refine Go.ldc X (nI 1000000) dX4_gains_41 (List.mem_of_getElem? (i := 4) (by decide +kernel)) ?_
    refine Go.isub_e X ((nI ((1000000 * (sW N m * w)) / wst N m)) - (nI 1000000)) dX4_gains_43 rfl ?_
    exact Go.iret X E dX4_gains_44 ⟨rv (show ((nI ((1000000 * (sW N m * w)) / wst N m)) - (nI 1000000)) = wgr (lotN N m) w (wst N m) from by rw [wgr, lotN, if_pos h8]), rfl⟩ rfl
set_option maxHeartbeats 4000000 in
set_option maxRecDepth 100000 in
theorem e_gain (g : gT) (ad : Nat → Nat) (N : Sch) (K : Sch) (b : Bool) (z : Nat) (le : Nat → Nat) (rf : Nat → Int32) (hd : Nat → Int32) (ln : Nat → Nat) (vl : Nat → Nat → Int64) (at1 : Nat) (tk : Nat) (so : Int32) (va : Int32) (lm : Nat → Nat) (ol : Nat → Int32) (ah : Nat → Int32) (lt : Int32) (lo : Nat → Int32) (m : Int32) (w : Int32) (hN : sOk N) (hH : hOk (sP N) hd) (hm : mOk (N, K, b, z, le, rf, hd, ln, vl) (6, at1, tk, so, va, lm, ol, ah, lt, lo)) : Ct g yX4_gain wsX4_gain 3 66 [.ref (ad 0), .int m, .int w] (mdW g ad (N, K, b, z, le, rf, hd, ln, vl) (6, at1, tk, so, va, lm, ol, ah, lt, lo)) (fun v9 w9 => v9 = (some (.int (x_gain (N, K, b, z, le, rf, hd, ln, vl) m w).2)) ∧ ∃ J9, mOk (x_gain (N, K, b, z, le, rf, hd, ln, vl) m w).1 J9 ∧ w9 = mdW g ad (x_gain (N, K, b, z, le, rf, hd, ln, vl) m w).1 J9) := by
  refine Ct.start (cc := cX4_gain) (nL := 3) (ret := (some .int)) (own := RX4) (by decide) rfl rfl rfl ?_
  intro Γ X E
  show Go Γ g 3 (rmC 3 66) 0 0 (mdW g ad (N, K, b, z, le, rf, hd, ln, vl) (6, at1, tk, so, va, lm, ol, ah, lt, lo)) 0 [(0, .ref (ad 0)), (1, .int m), (2, .int w)] []
  obtain ⟨o1, o2, o3, o4, o5, o6, o7, o8⟩ := id hN
  have o9 := p2_9 o2
  have o10 := sA_512 hN
  refine Go.aload_n X 0 dX4_gain_0 rfl ?_
  refine Go.iload_n X 1 dX4_gain_1 rfl ?_
  refine Go.callV0i X (d_isMorning g ad N K b z le rf hd ln vl 6 at1 tk so va lm ol ah lt lo m (by exact hN)) cal_X4_isMorning gX4_gain_X4_isMorning (ci := 4) (q0 := 0) rfl rfl rfl rfl rfl dX4_gain_2 ?_
  refine Go.if_eqB X 18 dX4_gain_5 (by decide) (fun h5 => ?_) (fun h5 => ?_)
  · --
    refine Go.aload_n X 0 dX4_gain_18 rfl ?_
    refine Go.bipush X ((-2 : Int32)) dX4_gain_19 k_bp_m2 ?_
    refine Go.callV0i X (d_noFar_0 g ad N K b z le rf hd ln vl 6 at1 tk so va lm ol ah lt lo) cal_X4_noFar gX4_gain_X4_noFar (ci := 4) (q0 := 0) rfl rfl rfl rfl rfl dX4_gain_21 ?_
    have e9 : x_gain (N, K, b, z, le, rf, hd, ln, vl) m w = ((N, K, b, z, le, inc rf 0, hd, ln, vl), (-10000002)) := by simp (decide := true) [x_gain, rfS, upS_id, h5]
    have m9 : mOk (N, K, b, z, le, inc rf 0, hd, ln, vl) (6, at1, tk, so, va, lm, ol, ah, lt, lo) := ⟨rfl, hm.2.1, hm.2.2⟩
    exact Go.iret X E dX4_gain_24 ⟨by rw [e9], _, by rw [e9]; exact m9, by rw [e9]⟩ rfl
  · --
    obtain ⟨mk, hmk, rfl⟩ := inb_at (by first | omega | (split <;> omega)) h5
    refine Go.iload_n X 2 dX4_gain_8 rfl ?_
    refine Go.iconst X (nI 1) dX4_gain_9 k_ic_1 ?_
    refine Go.bipush X (nI 40) dX4_gain_10 k_bp_40 ?_
    refine Go.callSi X  (d_within g w (nI 1) (nI 40)) cal_X4_within [] rfl rfl gX4_gain_X4_within rfl rfl rfl dX4_gain_12 ?_
    refine Go.if_neB X 25 dX4_gain_15 (by decide) (fun h15 => ?_) (fun h15 => ?_)
    · --
      obtain ⟨wk, hwk, rfl⟩ := wi_at (by first | omega | (split <;> omega)) (by first | omega | (split <;> omega)) h15
      refine Go.aload_n X 0 dX4_gain_25 rfl ?_
      refine Go.aload_n X 0 dX4_gain_26 rfl ?_
      refine Go.iload_n X 1 dX4_gain_27 rfl ?_
      refine Go.callV0i X (d_still g ad N K b z le rf hd ln vl 6 at1 tk so va lm ol ah lt lo mk (by exact hN) (by first | omega | (split <;> omega))) cal_X4_still gX4_gain_X4_still (ci := 4) (q0 := 0) rfl rfl rfl rfl rfl dX4_gain_28 ?_
      have f28_1 := still_le (sA N) mk
      refine Go.callV0i X (d_weights g ad N K b z le rf hd ln vl 6 at1 tk so va lm ol ah lt lo (still (sA N) mk) (by exact hN) (by first | omega | (split <;> omega))) cal_X4_weights gX4_gain_X4_weights (ci := 4) (q0 := 0) rfl rfl rfl rfl rfl dX4_gain_31 ?_
      have f31_2 := wsum_81 hN (still (sA N) mk)
      refine Go.if_neN X 46 dX4_gain_34 (by decide) (by first | omega | (split <;> omega)) (fun h34 => ?_) (fun h34 => ?_)
      · --
        refine Go.aload_n X 0 dX4_gain_46 rfl ?_
        refine Go.iload_n X 1 dX4_gain_47 rfl ?_
        refine Go.iload_n X 2 dX4_gain_48 rfl ?_
        refine Go.callV0i X (d_gains g ad N K b z le rf hd ln vl at1 tk so va lm ol ah lt lo mk wk (by exact hN) (by first | omega | (split <;> omega)) (by first | omega | (split <;> omega)) (by exact h34)) cal_X4_gains gX4_gain_X4_gains (ci := 4) (q0 := 0) rfl rfl rfl rfl rfl dX4_gain_49 ?_
        have e9 : x_gain (N, K, b, z, le, rf, hd, ln, vl) (nI mk) (nI wk) = ((N, K, b, z, le, rf, hd, ln, vl), (wgr (lotN N mk) wk (wst N mk))) := by simp (decide := true) [x_gain, rfS, upS_id, h5, h15, h34, nI_clamp (show mk < 2 ^ 31 by omega), nI_clamp (show wk < 2 ^ 31 by omega)]
        have m9 : mOk (N, K, b, z, le, rf, hd, ln, vl) (6, at1, tk, so, va, lm, ol, ah, lt, lo) := ⟨rfl, hm.2.1, hm.2.2⟩
        exact Go.iret X E dX4_gain_52 ⟨by rw [e9], _, by rw [e9]; exact m9, by rw [e9]⟩ rfl
      · --
        refine Go.aload_n X 0 dX4_gain_37 rfl ?_
        refine Go.bipush X ((-5 : Int32)) dX4_gain_38 k_bp_m5 ?_
        refine Go.callV0i X (d_noFar_3 g ad N K b z le rf hd ln vl 6 at1 tk so va lm ol ah lt lo) cal_X4_noFar gX4_gain_X4_noFar (ci := 4) (q0 := 0) rfl rfl rfl rfl rfl dX4_gain_40 ?_
        refine Go.goto X 52 dX4_gain_43 (by decide) ?_
        have e9 : x_gain (N, K, b, z, le, rf, hd, ln, vl) (nI mk) (nI wk) = ((N, K, b, z, le, inc rf 3, hd, ln, vl), (-10000005)) := by simp (decide := true) [x_gain, rfS, upS_id, h5, h15, h34, nI_clamp (show mk < 2 ^ 31 by omega), nI_clamp (show wk < 2 ^ 31 by omega)]
        have m9 : mOk (N, K, b, z, le, inc rf 3, hd, ln, vl) (6, at1, tk, so, va, lm, ol, ah, lt, lo) := ⟨rfl, hm.2.1, hm.2.2⟩
        exact Go.iret X E dX4_gain_52 ⟨by rw [e9], _, by rw [e9]; exact m9, by rw [e9]⟩ rfl
    · --
      refine Go.aload_n X 0 dX4_gain_18 rfl ?_
      refine Go.bipush X ((-2 : Int32)) dX4_gain_19 k_bp_m2 ?_
      refine Go.callV0i X (d_noFar_0 g ad N K b z le rf hd ln vl 6 at1 tk so va lm ol ah lt lo) cal_X4_noFar gX4_gain_X4_noFar (ci := 4) (q0 := 0) rfl rfl rfl rfl rfl dX4_gain_21 ?_
      have e9 : x_gain (N, K, b, z, le, rf, hd, ln, vl) (nI mk) w = ((N, K, b, z, le, inc rf 0, hd, ln, vl), (-10000002)) := by simp (decide := true) [x_gain, rfS, upS_id, h5, h15, nI_clamp (show mk < 2 ^ 31 by omega)]
      have m9 : mOk (N, K, b, z, le, inc rf 0, hd, ln, vl) (6, at1, tk, so, va, lm, ol, ah, lt, lo) := ⟨rfl, hm.2.1, hm.2.2⟩
      exact Go.iret X E dX4_gain_24 ⟨by rw [e9], _, by rw [e9]; exact m9, by rw [e9]⟩ rfl
set_option maxHeartbeats 4000000 in
set_option maxRecDepth 100000 in
theorem e_bet (g : gT) (ad : Nat → Nat) (N : Sch) (K : Sch) (b : Bool) (z : Nat) (le : Nat → Nat) (rf : Nat → Int32) (hd : Nat → Int32) (ln : Nat → Nat) (vl : Nat → Nat → Int64) (at1 : Nat) (tk : Nat) (so : Int32) (va : Int32) (lm : Nat → Nat) (ol : Nat → Int32) (ah : Nat → Int32) (lt : Int32) (lo : Nat → Int32) (w : Int32) (hN : sOk N) (hH : hOk (sP N) hd) (hm : mOk (N, K, b, z, le, rf, hd, ln, vl) (6, at1, tk, so, va, lm, ol, ah, lt, lo)) : Ct g yX4_bet wsX4_bet 3 66 [.ref (ad 0), .int w] (mdW g ad (N, K, b, z, le, rf, hd, ln, vl) (6, at1, tk, so, va, lm, ol, ah, lt, lo)) (fun v9 w9 => v9 = (some (.int (x_bet (N, K, b, z, le, rf, hd, ln, vl) w).2)) ∧ ∃ J9, mOk (x_bet (N, K, b, z, le, rf, hd, ln, vl) w).1 J9 ∧ w9 = mdW g ad (x_bet (N, K, b, z, le, rf, hd, ln, vl) w).1 J9) := by
  refine Ct.start (cc := cX4_bet) (nL := 3) (ret := (some .int)) (own := RX4) (by decide) rfl rfl rfl ?_
  intro Γ X E
  show Go Γ g 3 (rmC 3 66) 0 0 (mdW g ad (N, K, b, z, le, rf, hd, ln, vl) (6, at1, tk, so, va, lm, ol, ah, lt, lo)) 0 [(0, .ref (ad 0)), (1, .int w)] []
  obtain ⟨o1, o2, o3, o4, o5, o6, o7, o8⟩ := id hN
  have o9 := p2_9 o2
  have o10 := sA_512 hN
  refine Go.iload_n X 1 dX4_bet_0 rfl ?_
  refine Go.iconst X (nI 1) dX4_bet_1 k_ic_1 ?_
  refine Go.bipush X (nI 40) dX4_bet_2 k_bp_40 ?_
  refine Go.callSi X  (d_within g w (nI 1) (nI 40)) cal_X4_within [] rfl rfl gX4_bet_X4_within rfl rfl rfl dX4_bet_4 ?_
  refine Go.if_neB X 17 dX4_bet_7 (by decide) (fun h7 => ?_) (fun h7 => ?_)
  · --
    obtain ⟨wk, hwk, rfl⟩ := wi_at (by first | omega | (split <;> omega)) (by first | omega | (split <;> omega)) h7
    refine Go.iconst X (nI 0) dX4_bet_17 k_ic_0 ?_
    refine Go.istore_n_new X dX4_bet_18 (by decide) rfl ?_
    have L19 : ∀ (f19 : Nat) (k : Nat) (hk : k ≤ sN N) (hq : ∀ j, j < k → ((sA N).testBit j && noL N j wk) = false) (hf19 : sN N - k < f19), Go Γ g 3 (rmC 3 66) 0 0 (mdW g ad (N, K, b, z, le, rf, hd, ln, vl) (6, at1, tk, so, va, lm, ol, ah, lt, lo)) 19 [(2, .int (nI k)), (0, .ref (ad 0)), (1, .int (nI wk))] [] := by
      intro f19
      induction f19 with
      | zero => intro k hk hq hf19; exact absurd hf19 (Nat.not_lt_zero _)
      | succ f19 ih19 =>
        intro k hk hq hf19
        refine Go.iload_n X 0 dX4_bet_19 rfl ?_
        refine Go.aload_n X 1 dX4_bet_20 rfl ?_
        refine Go.get X f_X4_bet_66 0 (v := .int (nI (sN N))) rfl rfl dX4_bet_21 ?_
        refine Go.icmp_geN X 67 dX4_bet_24 (by decide) (by first | omega | (split <;> omega)) (by first | omega | (split <;> omega)) (fun h24 => ?_) (fun h24 => ?_)
        · --
          refine Go.iconst X ((-1 : Int32)) dX4_bet_67 k_ic_m1 ?_
          have e9 : x_bet (N, K, b, z, le, rf, hd, ln, vl) (nI wk) = ((N, K, b, z, le, rf, hd, ln, vl), (-1)) := by simp only [x_bet, h7, if_true, nI_clamp (show wk < 2 ^ 31 by omega)]; rw [fP_no (fun j hj => hq j (by omega))]
          have m9 : mOk (N, K, b, z, le, rf, hd, ln, vl) (6, at1, tk, so, va, lm, ol, ah, lt, lo) := ⟨rfl, hm.2.1, hm.2.2⟩
          exact Go.iret X E dX4_bet_68 ⟨by rw [e9], _, by rw [e9]; exact m9, by rw [e9]⟩ rfl
        · --
          refine Go.aload_n X 1 dX4_bet_27 rfl ?_
          refine Go.get X f_X4_bet_111 0 (v := .int (nI (sA N))) rfl rfl dX4_bet_28 ?_
          refine Go.iload_n X 0 dX4_bet_31 rfl ?_
          refine Go.callSi X  (d_has g (sA N) k (by first | omega | (split <;> omega)) (by first | omega | (split <;> omega))) cal_X4_has [] rfl rfl gX4_bet_X4_has rfl rfl rfl dX4_bet_32 ?_
          refine Go.if_eqB X 61 dX4_bet_35 (by decide) (fun h35 => ?_) (fun h35 => ?_)
          · --
            refine Go.iinc_0 X (nI (k + 1)) dX4_bet_61 (by decide) rfl (show nI k + Int32.ofInt 1 = nI (k + 1) from nI_add _ 1) ?_
            refine Go.goto X 19 dX4_bet_64 (by decide) ?_
            exact ih19 (k + 1) (by first | omega | (split <;> omega)) (by exact fP_s (P := fun m => (sA N).testBit m && noL N m wk) hq (by simp [h35])) (by first | omega | (split <;> omega))
          · --
            refine Go.aload_n X 1 dX4_bet_38 rfl ?_
            refine Go.aload_n X 1 dX4_bet_39 rfl ?_
            refine Go.iload_n X 0 dX4_bet_40 rfl ?_
            refine Go.callV0i X (d_still g ad N K b z le rf hd ln vl 6 at1 tk so va lm ol ah lt lo k (by exact hN) (by first | omega | (split <;> omega))) cal_X4_still gX4_bet_X4_still (ci := 4) (q0 := 0) rfl rfl rfl rfl rfl dX4_bet_41 ?_
            have f41_1 := still_le (sA N) k
            refine Go.callV0i X (d_weights g ad N K b z le rf hd ln vl 6 at1 tk so va lm ol ah lt lo (still (sA N) k) (by exact hN) (by first | omega | (split <;> omega))) cal_X4_weights gX4_bet_X4_weights (ci := 4) (q0 := 0) rfl rfl rfl rfl rfl dX4_bet_44 ?_
            have f44_2 := wsum_81 hN (still (sA N) k)
            refine Go.if_leN X 61 dX4_bet_47 (by decide) (by first | omega | (split <;> omega)) (fun h47 => ?_) (fun h47 => ?_)
            · --
              refine Go.iinc_0 X (nI (k + 1)) dX4_bet_61 (by decide) rfl (show nI k + Int32.ofInt 1 = nI (k + 1) from nI_add _ 1) ?_
              refine Go.goto X 19 dX4_bet_64 (by decide) ?_
              exact ih19 (k + 1) (by first | omega | (split <;> omega)) (by exact fP_s (P := fun m => (sA N).testBit m && noL N m wk) hq (by simp [noL, h47])) (by first | omega | (split <;> omega))
            · --
              refine Go.aload_n X 1 dX4_bet_50 rfl ?_
              refine Go.iload_n X 0 dX4_bet_51 rfl ?_
              refine Go.iload_n X 2 dX4_bet_52 rfl ?_
              refine Go.callV0i X (d_gains g ad N K b z le rf hd ln vl at1 tk so va lm ol ah lt lo k wk (by exact hN) (by first | omega | (split <;> omega)) (by first | omega | (split <;> omega)) (by exact Nat.ne_of_gt h47)) cal_X4_gains gX4_bet_X4_gains (ci := 4) (q0 := 0) rfl rfl rfl rfl rfl dX4_bet_53 ?_
              refine Go.if_lt X 61 dX4_bet_56 (by decide) (fun h56 => ?_) (fun h56 => ?_)
              · --
                refine Go.iinc_0 X (nI (k + 1)) dX4_bet_61 (by decide) rfl (show nI k + Int32.ofInt 1 = nI (k + 1) from nI_add _ 1) ?_
                refine Go.goto X 19 dX4_bet_64 (by decide) ?_
                exact ih19 (k + 1) (by first | omega | (split <;> omega)) (by exact fP_s (P := fun m => (sA N).testBit m && noL N m wk) hq (by simp [noL, h56])) (by first | omega | (split <;> omega))
              · --
                refine Go.iload_n X 0 dX4_bet_59 rfl ?_
                have e9 : x_bet (N, K, b, z, le, rf, hd, ln, vl) (nI wk) = ((N, K, b, z, le, rf, hd, ln, vl), (nI k)) := by simp only [x_bet, h7, if_true, nI_clamp (show wk < 2 ^ 31 by omega)]; rw [fP_at (by omega) (by simp [noL, h35, Int32.not_lt.mp h56]; omega) hq h24]
                have m9 : mOk (N, K, b, z, le, rf, hd, ln, vl) (6, at1, tk, so, va, lm, ol, ah, lt, lo) := ⟨rfl, hm.2.1, hm.2.2⟩
                exact Go.iret X E dX4_bet_60 ⟨by rw [e9], _, by rw [e9]; exact m9, by rw [e9]⟩ rfl
    exact L19 (sN N - 0 + 1) 0 (by first | omega | (split <;> omega)) (by intro j hj; omega) (Nat.lt_succ_self _)
  · --
    refine Go.aload_n X 0 dX4_bet_10 rfl ?_
    refine Go.bipush X ((-2 : Int32)) dX4_bet_11 k_bp_m2 ?_
    refine Go.callV0i X (d_no_0 g ad N K b z le rf hd ln vl 6 at1 tk so va lm ol ah lt lo) cal_X4_no gX4_bet_X4_no (ci := 4) (q0 := 0) rfl rfl rfl rfl rfl dX4_bet_13 ?_
    have e9 : x_bet (N, K, b, z, le, rf, hd, ln, vl) w = ((N, K, b, z, le, inc rf 0, hd, ln, vl), (-2)) := by simp (decide := true) [x_bet, rfS, upS_id, h7]
    have m9 : mOk (N, K, b, z, le, inc rf 0, hd, ln, vl) (6, at1, tk, so, va, lm, ol, ah, lt, lo) := ⟨rfl, hm.2.1, hm.2.2⟩
    exact Go.iret X E dX4_bet_16 ⟨by rw [e9], _, by rw [e9]; exact m9, by rw [e9]⟩ rfl
set_option maxHeartbeats 4000000 in
set_option maxRecDepth 100000 in
theorem e_fair (g : gT) (ad : Nat → Nat) (N : Sch) (K : Sch) (b : Bool) (z : Nat) (le : Nat → Nat) (rf : Nat → Int32) (hd : Nat → Int32) (ln : Nat → Nat) (vl : Nat → Nat → Int64) (at1 : Nat) (tk : Nat) (so : Int32) (va : Int32) (lm : Nat → Nat) (ol : Nat → Int32) (ah : Nat → Int32) (lt : Int32) (lo : Nat → Int32) (m : Int32) (hN : sOk N) (hH : hOk (sP N) hd) (hm : mOk (N, K, b, z, le, rf, hd, ln, vl) (6, at1, tk, so, va, lm, ol, ah, lt, lo)) : Ct g yX4_fair wsX4_fair 3 66 [.ref (ad 0), .int m] (mdW g ad (N, K, b, z, le, rf, hd, ln, vl) (6, at1, tk, so, va, lm, ol, ah, lt, lo)) (fun v9 w9 => v9 = (some (.int (x_fair (N, K, b, z, le, rf, hd, ln, vl) m).2)) ∧ ∃ J9, mOk (x_fair (N, K, b, z, le, rf, hd, ln, vl) m).1 J9 ∧ w9 = mdW g ad (x_fair (N, K, b, z, le, rf, hd, ln, vl) m).1 J9) := by
  refine Ct.start (cc := cX4_fair) (nL := 3) (ret := (some .int)) (own := RX4) (by decide) rfl rfl rfl ?_
  intro Γ X E
  show Go Γ g 3 (rmC 3 66) 0 0 (mdW g ad (N, K, b, z, le, rf, hd, ln, vl) (6, at1, tk, so, va, lm, ol, ah, lt, lo)) 0 [(0, .ref (ad 0)), (1, .int m)] []
  obtain ⟨o1, o2, o3, o4, o5, o6, o7, o8⟩ := id hN
  have o9 := p2_9 o2
  have o10 := sA_512 hN
  refine Go.aload_n X 0 dX4_fair_0 rfl ?_
  refine Go.iload_n X 1 dX4_fair_1 rfl ?_
  refine Go.callV0i X (d_isMorning g ad N K b z le rf hd ln vl 6 at1 tk so va lm ol ah lt lo m (by exact hN)) cal_X4_isMorning gX4_fair_X4_isMorning (ci := 4) (q0 := 0) rfl rfl rfl rfl rfl dX4_fair_2 ?_
  refine Go.if_neB X 15 dX4_fair_5 (by decide) (fun h5 => ?_) (fun h5 => ?_)
  · --
    obtain ⟨mk, hmk, rfl⟩ := inb_at (by first | omega | (split <;> omega)) h5
    refine Go.iconst X (nI 1) dX4_fair_15 k_ic_1 ?_
    refine Go.istore_n_new X dX4_fair_16 (by decide) rfl ?_
    have L17 : ∀ (f17 : Nat) (k : Nat) (hk : k ≤ 41) (hk1 : 1 ≤ k) (hq : ∀ j, j < k → (decide (1 ≤ j) && noL N mk j) = false) (hf17 : 41 - k < f17), Go Γ g 3 (rmC 3 66) 0 0 (mdW g ad (N, K, b, z, le, rf, hd, ln, vl) (6, at1, tk, so, va, lm, ol, ah, lt, lo)) 17 [(2, .int (nI k)), (0, .ref (ad 0)), (1, .int (nI mk))] [] := by
      intro f17
      induction f17 with
      | zero => intro k hk hk1 hq hf17; exact absurd hf17 (Nat.not_lt_zero _)
      | succ f17 ih17 =>
        intro k hk hk1 hq hf17
        refine Go.iload_n X 0 dX4_fair_17 rfl ?_
        refine Go.bipush X (nI 41) dX4_fair_18 k_bp_41 ?_
        refine Go.icmp_geN X 52 dX4_fair_20 (by decide) (by first | omega | (split <;> omega)) (by decide) (fun h20 => ?_) (fun h20 => ?_)
        · --
          refine Go.iconst X ((-1 : Int32)) dX4_fair_52 k_ic_m1 ?_
          have e9 : x_fair (N, K, b, z, le, rf, hd, ln, vl) (nI mk) = ((N, K, b, z, le, rf, hd, ln, vl), (-1)) := by simp only [x_fair, h5, if_true, nI_clamp (show mk < 2 ^ 31 by omega)]; rw [fP_no (fun j hj => hq j (by omega))]
          have m9 : mOk (N, K, b, z, le, rf, hd, ln, vl) (6, at1, tk, so, va, lm, ol, ah, lt, lo) := ⟨rfl, hm.2.1, hm.2.2⟩
          exact Go.iret X E dX4_fair_53 ⟨by rw [e9], _, by rw [e9]; exact m9, by rw [e9]⟩ rfl
        · --
          refine Go.aload_n X 1 dX4_fair_23 rfl ?_
          refine Go.aload_n X 1 dX4_fair_24 rfl ?_
          refine Go.iload_n X 2 dX4_fair_25 rfl ?_
          refine Go.callV0i X (d_still g ad N K b z le rf hd ln vl 6 at1 tk so va lm ol ah lt lo mk (by exact hN) (by first | omega | (split <;> omega))) cal_X4_still gX4_fair_X4_still (ci := 4) (q0 := 0) rfl rfl rfl rfl rfl dX4_fair_26 ?_
          have f26_1 := still_le (sA N) mk
          refine Go.callV0i X (d_weights g ad N K b z le rf hd ln vl 6 at1 tk so va lm ol ah lt lo (still (sA N) mk) (by exact hN) (by first | omega | (split <;> omega))) cal_X4_weights gX4_fair_X4_weights (ci := 4) (q0 := 0) rfl rfl rfl rfl rfl dX4_fair_29 ?_
          have f29_2 := wsum_81 hN (still (sA N) mk)
          refine Go.if_leN X 52 dX4_fair_32 (by decide) (by first | omega | (split <;> omega)) (fun h32 => ?_) (fun h32 => ?_)
          · --
            refine Go.iconst X ((-1 : Int32)) dX4_fair_52 k_ic_m1 ?_
            have e9 : x_fair (N, K, b, z, le, rf, hd, ln, vl) (nI mk) = ((N, K, b, z, le, rf, hd, ln, vl), (-1)) := by simp only [x_fair, h5, if_true, nI_clamp (show mk < 2 ^ 31 by omega)]; rw [fP_no (fun j hj => by simp [noL, wst, h32])]
            have m9 : mOk (N, K, b, z, le, rf, hd, ln, vl) (6, at1, tk, so, va, lm, ol, ah, lt, lo) := ⟨rfl, hm.2.1, hm.2.2⟩
            exact Go.iret X E dX4_fair_53 ⟨by rw [e9], _, by rw [e9]; exact m9, by rw [e9]⟩ rfl
          · --
            refine Go.aload_n X 1 dX4_fair_35 rfl ?_
            refine Go.iload_n X 2 dX4_fair_36 rfl ?_
            refine Go.iload_n X 0 dX4_fair_37 rfl ?_
            refine Go.callV0i X (d_gains g ad N K b z le rf hd ln vl at1 tk so va lm ol ah lt lo mk k (by exact hN) (by first | omega | (split <;> omega)) (by first | omega | (split <;> omega)) (by exact Nat.ne_of_gt h32)) cal_X4_gains gX4_fair_X4_gains (ci := 4) (q0 := 0) rfl rfl rfl rfl rfl dX4_fair_38 ?_
            refine Go.if_lt X 46 dX4_fair_41 (by decide) (fun h41 => ?_) (fun h41 => ?_)
            · --
              refine Go.iinc_0 X (nI (k + 1)) dX4_fair_46 (by decide) rfl (show nI k + Int32.ofInt 1 = nI (k + 1) from nI_add _ 1) ?_
              refine Go.goto X 17 dX4_fair_49 (by decide) ?_
              exact ih17 (k + 1) (by first | omega | (split <;> omega)) (by first | omega | (split <;> omega)) (by exact fP_s (P := fun w => decide (1 ≤ w) && noL N mk w) hq (by simp [noL, h41])) (by first | omega | (split <;> omega))
            · --
              refine Go.iload_n X 0 dX4_fair_44 rfl ?_
              have e9 : x_fair (N, K, b, z, le, rf, hd, ln, vl) (nI mk) = ((N, K, b, z, le, rf, hd, ln, vl), (nI k)) := by simp only [x_fair, h5, if_true, nI_clamp (show mk < 2 ^ 31 by omega)]; rw [fP_at (by omega) (by simp [noL, Int32.not_lt.mp h41, hk1]; omega) hq (by omega)]
              have m9 : mOk (N, K, b, z, le, rf, hd, ln, vl) (6, at1, tk, so, va, lm, ol, ah, lt, lo) := ⟨rfl, hm.2.1, hm.2.2⟩
              exact Go.iret X E dX4_fair_45 ⟨by rw [e9], _, by rw [e9]; exact m9, by rw [e9]⟩ rfl
    exact L17 (41 - 1 + 1) 1 (by first | omega | (split <;> omega)) (by first | omega | (split <;> omega)) (by intro j hj; rw [decide_eq_false (by omega)]; rfl) (Nat.lt_succ_self _)
  · --
    refine Go.aload_n X 0 dX4_fair_8 rfl ?_
    refine Go.bipush X ((-2 : Int32)) dX4_fair_9 k_bp_m2 ?_
    refine Go.callV0i X (d_no_0 g ad N K b z le rf hd ln vl 6 at1 tk so va lm ol ah lt lo) cal_X4_no gX4_fair_X4_no (ci := 4) (q0 := 0) rfl rfl rfl rfl rfl dX4_fair_11 ?_
    have e9 : x_fair (N, K, b, z, le, rf, hd, ln, vl) m = ((N, K, b, z, le, inc rf 0, hd, ln, vl), (-2)) := by simp (decide := true) [x_fair, rfS, upS_id, h5]
    have m9 : mOk (N, K, b, z, le, inc rf 0, hd, ln, vl) (6, at1, tk, so, va, lm, ol, ah, lt, lo) := ⟨rfl, hm.2.1, hm.2.2⟩
    exact Go.iret X E dX4_fair_14 ⟨by rw [e9], _, by rw [e9]; exact m9, by rw [e9]⟩ rfl
set_option maxHeartbeats 4000000 in
set_option maxRecDepth 100000 in
theorem e_second (g : gT) (ad : Nat → Nat) (N : Sch) (K : Sch) (b : Bool) (z : Nat) (le : Nat → Nat) (rf : Nat → Int32) (hd : Nat → Int32) (ln : Nat → Nat) (vl : Nat → Nat → Int64) (at1 : Nat) (tk : Nat) (so : Int32) (va : Int32) (lm : Nat → Nat) (ol : Nat → Int32) (ah : Nat → Int32) (lt : Int32) (lo : Nat → Int32) (m : Int32) (v : Int32) (hN : sOk N) (hH : hOk (sP N) hd) (hm : mOk (N, K, b, z, le, rf, hd, ln, vl) (6, at1, tk, so, va, lm, ol, ah, lt, lo)) : Ct g yX4_second wsX4_second 2 43 [.ref (ad 0), .int m, .int v] (mdW g ad (N, K, b, z, le, rf, hd, ln, vl) (6, at1, tk, so, va, lm, ol, ah, lt, lo)) (fun v9 w9 => v9 = (some (.int (x_second (N, K, b, z, le, rf, hd, ln, vl) m v).2)) ∧ ∃ J9, mOk (x_second (N, K, b, z, le, rf, hd, ln, vl) m v).1 J9 ∧ w9 = mdW g ad (x_second (N, K, b, z, le, rf, hd, ln, vl) m v).1 J9) := by
  refine Ct.start (cc := cX4_second) (nL := 5) (ret := (some .int)) (own := RX4) (by decide) rfl rfl rfl ?_
  intro Γ X E
  show Go Γ g 5 (rmC 2 43) 0 0 (mdW g ad (N, K, b, z, le, rf, hd, ln, vl) (6, at1, tk, so, va, lm, ol, ah, lt, lo)) 0 [(0, .ref (ad 0)), (1, .int m), (2, .int v)] []
  obtain ⟨o1, o2, o3, o4, o5, o6, o7, o8⟩ := id hN
  have o9 := p2_9 o2
  have o10 := sA_512 hN
  refine Go.aload_n X 0 dX4_second_0 rfl ?_
  refine Go.iload_n X 1 dX4_second_1 rfl ?_
  refine Go.callV0i X (d_isMorning g ad N K b z le rf hd ln vl 6 at1 tk so va lm ol ah lt lo m (by exact hN)) cal_X4_isMorning gX4_second_X4_isMorning (ci := 4) (q0 := 0) rfl rfl rfl rfl rfl dX4_second_2 ?_
  refine Go.if_eqB X 18 dX4_second_5 (by decide) (fun h5 => ?_) (fun h5 => ?_)
  · --
    refine Go.aload_n X 0 dX4_second_18 rfl ?_
    refine Go.bipush X ((-2 : Int32)) dX4_second_19 k_bp_m2 ?_
    refine Go.callV0i X (d_no_0 g ad N K b z le rf hd ln vl 6 at1 tk so va lm ol ah lt lo) cal_X4_no gX4_second_X4_no (ci := 4) (q0 := 0) rfl rfl rfl rfl rfl dX4_second_21 ?_
    have e9 : x_second (N, K, b, z, le, rf, hd, ln, vl) m v = ((N, K, b, z, le, inc rf 0, hd, ln, vl), (-2)) := by simp (decide := true) [x_second, rfS, upS_id, h5]
    have m9 : mOk (N, K, b, z, le, inc rf 0, hd, ln, vl) (6, at1, tk, so, va, lm, ol, ah, lt, lo) := ⟨rfl, hm.2.1, hm.2.2⟩
    exact Go.iret X E dX4_second_24 ⟨by rw [e9], _, by rw [e9]; exact m9, by rw [e9]⟩ rfl
  · --
    obtain ⟨mk, hmk, rfl⟩ := inb_at (by first | omega | (split <;> omega)) h5
    refine Go.iload_n X 2 dX4_second_8 rfl ?_
    refine Go.iconst X (nI 0) dX4_second_9 k_ic_0 ?_
    refine Go.bipush X (nI 8) dX4_second_10 k_bp_8 ?_
    refine Go.callSi X  (d_within_8 g v) cal_X4_within [] rfl rfl gX4_second_X4_within rfl rfl rfl dX4_second_12 ?_
    refine Go.if_neB X 25 dX4_second_15 (by decide) (fun h15 => ?_) (fun h15 => ?_)
    · --
      obtain ⟨vk, hvk, rfl⟩ := inb_at (by first | omega | (split <;> omega)) h15
      refine Go.iconst X (nI 0) dX4_second_25 k_ic_0 ?_
      refine Go.istore_n_new X dX4_second_26 (by decide) rfl ?_
      refine Go.iconst X (nI 0) dX4_second_27 k_ic_0 ?_
      refine Go.istore_new X dX4_second_28 (by decide) rfl ?_
      have L30 : ∀ (f30 : Nat) (k : Nat) (hk : k ≤ sN N) (hf30 : sN N - k < f30), Go Γ g 5 (rmC 2 43) 0 0 (mdW g ad (N, K, b, z, le, rf, hd, ln, vl) (6, at1, tk, so, va, lm, ol, ah, lt, lo)) 30 [(4, .int (nI k)), (3, .int (nI (bts (fun r => (sA N).testBit r && decide (mk < r + vk)) k))), (0, .ref (ad 0)), (1, .int (nI mk)), (2, .int (nI vk))] [] := by
        intro f30
        induction f30 with
        | zero => intro k hk hf30; exact absurd hf30 (Nat.not_lt_zero _)
        | succ f30 ih30 =>
          intro k hk hf30
          refine Go.iload X 0 dX4_second_30 rfl ?_
          refine Go.aload_n X 2 dX4_second_32 rfl ?_
          refine Go.get X f_X4_second_66 0 (v := .int (nI (sN N))) rfl rfl dX4_second_33 ?_
          refine Go.icmp_geN X 72 dX4_second_36 (by decide) (by first | omega | (split <;> omega)) (by first | omega | (split <;> omega)) (fun h36 => ?_) (fun h36 => ?_)
          · --
            refine Go.lv_1 (w := .int (nI (bts (fun r => (sA N).testBit r && decide (mk < r + vk)) (sN N)))) (by rw [show k = sN N by omega]) ?_
            refine Go.iload_n X 1 dX4_second_72 rfl ?_
            have e9 : x_second (N, K, b, z, le, rf, hd, ln, vl) (nI mk) (nI vk) = ((N, K, b, z, le, rf, hd, ln, vl), (nI (bts (fun r => (sA N).testBit r && decide (mk < r + vk)) (sN N)))) := by simp (decide := true) [x_second, rfS, upS_id, h5, h15, h36, Nat.not_lt.mpr h36, nI_clamp (show mk < 2 ^ 31 by omega), nI_clamp (show vk < 2 ^ 31 by omega)]
            have m9 : mOk (N, K, b, z, le, rf, hd, ln, vl) (6, at1, tk, so, va, lm, ol, ah, lt, lo) := ⟨rfl, hm.2.1, hm.2.2⟩
            exact Go.iret X E dX4_second_73 ⟨by rw [e9], _, by rw [e9]; exact m9, by rw [e9]⟩ rfl
          · --
            refine Go.aload_n X 2 dX4_second_39 rfl ?_
            refine Go.get X f_X4_second_111 0 (v := .int (nI (sA N))) rfl rfl dX4_second_40 ?_
            refine Go.iload X 0 dX4_second_43 rfl ?_
            refine Go.callSi X  (d_has g (sA N) k (by first | omega | (split <;> omega)) (by first | omega | (split <;> omega))) cal_X4_has [] rfl rfl gX4_second_X4_has rfl rfl rfl dX4_second_45 ?_
            refine Go.if_eqB X 66 dX4_second_48 (by decide) (fun h48 => ?_) (fun h48 => ?_)
            · --
              refine Go.iinc_0 X (nI (k + 1)) dX4_second_66 (by decide) rfl (show nI k + Int32.ofInt 1 = nI (k + 1) from nI_add _ 1) ?_
              refine Go.goto X 30 dX4_second_69 (by decide) ?_
              refine Go.lv_1 (congrArg (fun z => Value.int (nI z)) (show bts (fun r => (sA N).testBit r && decide (mk < r + vk)) k = bts (fun r => (sA N).testBit r && decide (mk < r + vk)) (k + 1) from by simp [bts, h48])) ?_
              exact ih30 (k + 1) (by first | omega | (split <;> omega)) (by first | omega | (split <;> omega))
            · --
              refine Go.iload X 0 dX4_second_51 rfl ?_
              refine Go.iload_n X 3 dX4_second_53 rfl ?_
              refine Go.iload_n X 4 dX4_second_54 rfl ?_
              refine Go.isub_e X ((nI mk) - (nI vk)) dX4_second_55 rfl ?_
              refine Go.icmp_le X 66 dX4_second_56 (by decide) (fun h56 => ?_) (fun h56 => ?_)
              · --
                refine Go.iinc_0 X (nI (k + 1)) dX4_second_66 (by decide) rfl (show nI k + Int32.ofInt 1 = nI (k + 1) from nI_add _ 1) ?_
                refine Go.goto X 30 dX4_second_69 (by decide) ?_
                refine Go.lv_1 (congrArg (fun z => Value.int (nI z)) (show bts (fun r => (sA N).testBit r && decide (mk < r + vk)) k = bts (fun r => (sA N).testBit r && decide (mk < r + vk)) (k + 1) from by have q := sec_c mk (by omega) vk (by omega) k (by omega); rw [decide_eq_false (Int32.not_lt.mpr h56)] at q; simp [bts, h48, of_decide_eq_false q.symm])) ?_
                exact ih30 (k + 1) (by first | omega | (split <;> omega)) (by first | omega | (split <;> omega))
              · --
                refine Go.iload_n X 1 dX4_second_59 rfl ?_
                refine Go.iconst X (nI 1) dX4_second_60 k_ic_1 ?_
                refine Go.iload X 0 dX4_second_61 rfl ?_
                refine Go.ishl_e X (nI (2 ^ k)) dX4_second_63 (nI_shl1 (by first | omega | (split <;> omega))) ?_
                refine Go.ior_e X (nI ((bts (fun r => (sA N).testBit r && decide (mk < r + vk)) k) ||| (2 ^ k))) dX4_second_64 (nI_or _ _) ?_
                refine Go.istore_n_1 X dX4_second_65 (by decide) rfl ?_
                refine Go.iinc_0 X (nI (k + 1)) dX4_second_66 (by decide) rfl (show nI k + Int32.ofInt 1 = nI (k + 1) from nI_add _ 1) ?_
                refine Go.goto X 30 dX4_second_69 (by decide) ?_
                refine Go.lv_1 (congrArg (fun z => Value.int (nI z)) (show (bts (fun r => (sA N).testBit r && decide (mk < r + vk)) k) ||| (2 ^ k) = bts (fun r => (sA N).testBit r && decide (mk < r + vk)) (k + 1) from by have q := sec_c mk (by omega) vk (by omega) k (by omega); rw [decide_eq_true (Int32.not_le.mp h56)] at q; simp [bts, h48, of_decide_eq_true q.symm])) ?_
                exact ih30 (k + 1) (by first | omega | (split <;> omega)) (by first | omega | (split <;> omega))
      refine Go.lv_1 (congrArg (fun z => Value.int (nI z)) (show 0 = bts (fun r => (sA N).testBit r && decide (mk < r + vk)) 0 from by rfl)) ?_
      exact L30 (sN N - 0 + 1) 0 (by first | omega | (split <;> omega)) (Nat.lt_succ_self _)
    · --
      refine Go.aload_n X 0 dX4_second_18 rfl ?_
      refine Go.bipush X ((-2 : Int32)) dX4_second_19 k_bp_m2 ?_
      refine Go.callV0i X (d_no_0 g ad N K b z le rf hd ln vl 6 at1 tk so va lm ol ah lt lo) cal_X4_no gX4_second_X4_no (ci := 4) (q0 := 0) rfl rfl rfl rfl rfl dX4_second_21 ?_
      have e9 : x_second (N, K, b, z, le, rf, hd, ln, vl) (nI mk) v = ((N, K, b, z, le, inc rf 0, hd, ln, vl), (-2)) := by simp (decide := true) [x_second, rfS, upS_id, h5, h15, nI_clamp (show mk < 2 ^ 31 by omega)]
      have m9 : mOk (N, K, b, z, le, inc rf 0, hd, ln, vl) (6, at1, tk, so, va, lm, ol, ah, lt, lo) := ⟨rfl, hm.2.1, hm.2.2⟩
      exact Go.iret X E dX4_second_24 ⟨by rw [e9], _, by rw [e9]; exact m9, by rw [e9]⟩ rfl
set_option maxHeartbeats 4000000 in
set_option maxRecDepth 100000 in
theorem d_foreseesIt (g : gT) (ad : Nat → Nat) (N : Sch) (K : Sch) (b : Bool) (z : Nat) (le : Nat → Nat) (rf : Nat → Int32) (hd : Nat → Int32) (ln : Nat → Nat) (vl : Nat → Nat → Int64) (at1 : Nat) (tk : Nat) (so : Int32) (va : Int32) (lm : Nat → Nat) (ol : Nat → Int32) (ah : Nat → Int32) (lt : Int32) (lo : Nat → Int32) (i : Nat) (j : Nat) (hN : sOk N) (hi : i < 6) (hj : j < 6) : Cw g yX4_foreseesIt wsX4_foreseesIt 3 69 [.ref (ad 0), .int (nI i), .int (nI j)] (mdW g ad (N, K, b, z, le, rf, hd, ln, vl) (6, at1, tk, so, va, lm, ol, ah, lt, lo)) (some (.int (b2i (decide (i ≠ j) && forS N i j)))) (mdW g ad (N, K, b, z, le, rf, hd, ln, vl) (6, at1, tk, so, va, lm, ol, ah, lt, lo)) := by
  refine Ct.start (cc := cX4_foreseesIt) (nL := 3) (ret := (some .boolean)) (own := RX4) (by decide) rfl rfl rfl ?_
  intro Γ X E
  show Go Γ g 3 (rmC 3 69) 0 0 (mdW g ad (N, K, b, z, le, rf, hd, ln, vl) (6, at1, tk, so, va, lm, ol, ah, lt, lo)) 0 [(0, .ref (ad 0)), (1, .int (nI i)), (2, .int (nI j))] []
  obtain ⟨o1, o2, o3, o4, o5, o6, o7, o8⟩ := id hN
  have o9 := p2_9 o2
  have o10 := sA_512 hN
  refine Go.iload_n X 1 dX4_foreseesIt_0 rfl ?_
  refine Go.iload_n X 2 dX4_foreseesIt_1 rfl ?_
  refine Go.icmp_eqN X 42 dX4_foreseesIt_2 (by decide) (by first | omega | (split <;> omega)) (by first | omega | (split <;> omega)) (fun h2 => ?_) (fun h2 => ?_)
  · --
    refine Go.iconst X (nI 0) dX4_foreseesIt_42 k_ic_0 ?_
    exact Go.nret X E rfl dX4_foreseesIt_43 ⟨rv (b2i_f (by simp [forS, isK_2, h2])), rfl⟩ rfl
  · --
    have o11 := o7 j hj
    refine Go.aload_n X 0 dX4_foreseesIt_5 rfl ?_
    refine Go.get X f_X4_foreseesIt_23 0 (v := .ref (ad 5)) rfl rfl dX4_foreseesIt_6 ?_
    refine Go.iload_n X 2 dX4_foreseesIt_9 rfl ?_
    refine Go.ialdN X 5 (w := sK N) rfl (by first | omega | (split <;> omega)) rfl dX4_foreseesIt_10 ?_
    refine Go.iconst X (nI 2) dX4_foreseesIt_11 k_ic_2 ?_
    refine Go.icmp_eqN X 42 dX4_foreseesIt_12 (by decide) (by first | omega | (split <;> omega)) (by decide) (fun h12 => ?_) (fun h12 => ?_)
    · --
      refine Go.iconst X (nI 0) dX4_foreseesIt_42 k_ic_0 ?_
      exact Go.nret X E rfl dX4_foreseesIt_43 ⟨rv (b2i_f (by simp [forS, isK_2, h2, h12])), rfl⟩ rfl
    · --
      refine Go.aload_n X 0 dX4_foreseesIt_15 rfl ?_
      refine Go.get X f_X4_foreseesIt_23 0 (v := .ref (ad 5)) rfl rfl dX4_foreseesIt_16 ?_
      refine Go.iload_n X 2 dX4_foreseesIt_19 rfl ?_
      refine Go.ialdN X 5 (w := sK N) rfl (by first | omega | (split <;> omega)) rfl dX4_foreseesIt_20 ?_
      refine Go.iconst X (nI 5) dX4_foreseesIt_21 k_ic_5 ?_
      refine Go.icmp_eqN X 42 dX4_foreseesIt_22 (by decide) (by first | omega | (split <;> omega)) (by decide) (fun h22 => ?_) (fun h22 => ?_)
      · --
        refine Go.iconst X (nI 0) dX4_foreseesIt_42 k_ic_0 ?_
        exact Go.nret X E rfl dX4_foreseesIt_43 ⟨rv (b2i_f (by simp [forS, isK_2, h2, h12, h22])), rfl⟩ rfl
      · --
        refine Go.aload_n X 0 dX4_foreseesIt_25 rfl ?_
        refine Go.iload_n X 2 dX4_foreseesIt_26 rfl ?_
        refine Go.callV0i X (d_depth g ad N K b z le rf hd ln vl 6 at1 tk so va lm ol ah lt lo j (by exact hN) (by first | omega | (split <;> omega)) (by first | omega | (split <;> omega))) cal_X4_depth gX4_foreseesIt_X4_depth (ci := 4) (q0 := 0) rfl rfl rfl rfl rfl dX4_foreseesIt_27 ?_
        have f27_1 := dep_le hN 6 j
        refine Go.aload_n X 0 dX4_foreseesIt_30 rfl ?_
        refine Go.iload_n X 1 dX4_foreseesIt_31 rfl ?_
        refine Go.callV0i X (d_depth g ad N K b z le rf hd ln vl 6 at1 tk so va lm ol ah lt lo i (by exact hN) (by first | omega | (split <;> omega)) (by first | omega | (split <;> omega))) cal_X4_depth gX4_foreseesIt_X4_depth (ci := 4) (q0 := 0) rfl rfl rfl rfl rfl dX4_foreseesIt_32 ?_
        have f32_2 := dep_le hN 6 i
        refine Go.icmp_geN X 42 dX4_foreseesIt_35 (by decide) (by first | omega | (split <;> omega)) (by first | omega | (split <;> omega)) (fun h35 => ?_) (fun h35 => ?_)
        · --
          refine Go.iconst X (nI 0) dX4_foreseesIt_42 k_ic_0 ?_
          exact Go.nret X E rfl dX4_foreseesIt_43 ⟨rv (b2i_f (by simp [forS, isK_2, h2, h12, h22, h35, Nat.not_lt.mpr h35])), rfl⟩ rfl
        · --
          refine Go.iconst X (nI 1) dX4_foreseesIt_38 k_ic_1 ?_
          refine Go.goto X 43 dX4_foreseesIt_39 (by decide) ?_
          exact Go.nret X E rfl dX4_foreseesIt_43 ⟨rv (b2i_t (by simp [forS, isK_2, h2, h12, h22, h35])), rfl⟩ rfl
set_option maxHeartbeats 4000000 in
set_option maxRecDepth 100000 in
theorem e_foresees (g : gT) (ad : Nat → Nat) (N : Sch) (K : Sch) (b : Bool) (z : Nat) (le : Nat → Nat) (rf : Nat → Int32) (hd : Nat → Int32) (ln : Nat → Nat) (vl : Nat → Nat → Int64) (at1 : Nat) (tk : Nat) (so : Int32) (va : Int32) (lm : Nat → Nat) (ol : Nat → Int32) (ah : Nat → Int32) (lt : Int32) (lo : Nat → Int32) (i : Int32) (j : Int32) (hN : sOk N) (hH : hOk (sP N) hd) (hm : mOk (N, K, b, z, le, rf, hd, ln, vl) (6, at1, tk, so, va, lm, ol, ah, lt, lo)) : Ct g yX4_foresees wsX4_foresees 4 91 [.ref (ad 0), .int i, .int j] (mdW g ad (N, K, b, z, le, rf, hd, ln, vl) (6, at1, tk, so, va, lm, ol, ah, lt, lo)) (fun v9 w9 => v9 = (some (.int (x_foresees (N, K, b, z, le, rf, hd, ln, vl) i j).2)) ∧ ∃ J9, mOk (x_foresees (N, K, b, z, le, rf, hd, ln, vl) i j).1 J9 ∧ w9 = mdW g ad (x_foresees (N, K, b, z, le, rf, hd, ln, vl) i j).1 J9) := by
  refine Ct.start (cc := cX4_foresees) (nL := 3) (ret := (some .int)) (own := RX4) (by decide) rfl rfl rfl ?_
  intro Γ X E
  show Go Γ g 3 (rmC 4 91) 0 0 (mdW g ad (N, K, b, z, le, rf, hd, ln, vl) (6, at1, tk, so, va, lm, ol, ah, lt, lo)) 0 [(0, .ref (ad 0)), (1, .int i), (2, .int j)] []
  obtain ⟨o1, o2, o3, o4, o5, o6, o7, o8⟩ := id hN
  have o9 := p2_9 o2
  have o10 := sA_512 hN
  refine Go.aload_n X 0 dX4_foresees_0 rfl ?_
  refine Go.iload_n X 1 dX4_foresees_1 rfl ?_
  refine Go.callV0i X (d_isOne g ad N K b z le rf hd ln vl 6 at1 tk so va lm ol ah lt lo i (by exact hN)) cal_X4_isOne gX4_foresees_X4_isOne (ci := 4) (q0 := 0) rfl rfl rfl rfl rfl dX4_foresees_2 ?_
  refine Go.if_eqB X 21 dX4_foresees_5 (by decide) (fun h5 => ?_) (fun h5 => ?_)
  · --
    refine Go.aload_n X 0 dX4_foresees_21 rfl ?_
    refine Go.bipush X ((-2 : Int32)) dX4_foresees_22 k_bp_m2 ?_
    refine Go.callV0i X (d_no_0 g ad N K b z le rf hd ln vl 6 at1 tk so va lm ol ah lt lo) cal_X4_no gX4_foresees_X4_no (ci := 4) (q0 := 0) rfl rfl rfl rfl rfl dX4_foresees_24 ?_
    have e9 : x_foresees (N, K, b, z, le, rf, hd, ln, vl) i j = ((N, K, b, z, le, inc rf 0, hd, ln, vl), (-2)) := by simp (decide := true) [x_foresees, rfS, h5]
    have m9 : mOk (N, K, b, z, le, inc rf 0, hd, ln, vl) (6, at1, tk, so, va, lm, ol, ah, lt, lo) := ⟨rfl, hm.2.1, hm.2.2⟩
    exact Go.iret X E dX4_foresees_27 ⟨by rw [e9], _, by rw [e9]; exact m9, by rw [e9]⟩ rfl
  · --
    obtain ⟨ik, hik, rfl⟩ := inb_at (by first | omega | (split <;> omega)) h5
    refine Go.aload_n X 0 dX4_foresees_8 rfl ?_
    refine Go.iload_n X 2 dX4_foresees_9 rfl ?_
    refine Go.callV0i X (d_isOne g ad N K b z le rf hd ln vl 6 at1 tk so va lm ol ah lt lo j (by exact hN)) cal_X4_isOne gX4_foresees_X4_isOne (ci := 4) (q0 := 0) rfl rfl rfl rfl rfl dX4_foresees_10 ?_
    refine Go.if_eqB X 21 dX4_foresees_13 (by decide) (fun h13 => ?_) (fun h13 => ?_)
    · --
      refine Go.aload_n X 0 dX4_foresees_21 rfl ?_
      refine Go.bipush X ((-2 : Int32)) dX4_foresees_22 k_bp_m2 ?_
      refine Go.callV0i X (d_no_0 g ad N K b z le rf hd ln vl 6 at1 tk so va lm ol ah lt lo) cal_X4_no gX4_foresees_X4_no (ci := 4) (q0 := 0) rfl rfl rfl rfl rfl dX4_foresees_24 ?_
      have e9 : x_foresees (N, K, b, z, le, rf, hd, ln, vl) (nI ik) j = ((N, K, b, z, le, inc rf 0, hd, ln, vl), (-2)) := by simp (decide := true) [x_foresees, rfS, h5, h13, nI_clamp (show ik < 2 ^ 31 by omega)]
      have m9 : mOk (N, K, b, z, le, inc rf 0, hd, ln, vl) (6, at1, tk, so, va, lm, ol, ah, lt, lo) := ⟨rfl, hm.2.1, hm.2.2⟩
      exact Go.iret X E dX4_foresees_27 ⟨by rw [e9], _, by rw [e9]; exact m9, by rw [e9]⟩ rfl
    · --
      obtain ⟨jk, hjk, rfl⟩ := inb_at (by first | omega | (split <;> omega)) h13
      refine Go.iload_n X 1 dX4_foresees_16 rfl ?_
      refine Go.iload_n X 2 dX4_foresees_17 rfl ?_
      refine Go.icmp_neN X 28 dX4_foresees_18 (by decide) (by first | omega | (split <;> omega)) (by first | omega | (split <;> omega)) (fun h18 => ?_) (fun h18 => ?_)
      · --
        refine Go.aload_n X 0 dX4_foresees_28 rfl ?_
        refine Go.iload_n X 1 dX4_foresees_29 rfl ?_
        refine Go.iload_n X 2 dX4_foresees_30 rfl ?_
        refine Go.callV0i X (d_foreseesIt g ad N K b z le rf hd ln vl at1 tk so va lm ol ah lt lo ik jk (by exact hN) (by first | omega | (split <;> omega)) (by first | omega | (split <;> omega))) cal_X4_foreseesIt gX4_foresees_X4_foreseesIt (ci := 4) (q0 := 0) rfl rfl rfl rfl rfl dX4_foresees_31 ?_
        refine Go.if_eqB X 41 dX4_foresees_34 (by decide) (fun h34 => ?_) (fun h34 => ?_)
        · --
          refine Go.iconst X (nI 0) dX4_foresees_41 k_ic_0 ?_
          have e9 : x_foresees (N, K, b, z, le, rf, hd, ln, vl) (nI ik) (nI jk) = ((N, K, b, z, le, rf, hd, ln, vl), (nI 0)) := by simp (decide := true) [x_foresees, rfS, h5, h13, h18, nI_clamp (show ik < 2 ^ 31 by omega), nI_clamp (show jk < 2 ^ 31 by omega)]; simpa [h18] using h34
          have m9 : mOk (N, K, b, z, le, rf, hd, ln, vl) (6, at1, tk, so, va, lm, ol, ah, lt, lo) := ⟨rfl, hm.2.1, hm.2.2⟩
          exact Go.iret X E dX4_foresees_42 ⟨by rw [e9], _, by rw [e9]; exact m9, by rw [e9]⟩ rfl
        · --
          refine Go.iconst X (nI 1) dX4_foresees_37 k_ic_1 ?_
          refine Go.goto X 42 dX4_foresees_38 (by decide) ?_
          have e9 : x_foresees (N, K, b, z, le, rf, hd, ln, vl) (nI ik) (nI jk) = ((N, K, b, z, le, rf, hd, ln, vl), (nI 1)) := by simp (decide := true) [x_foresees, rfS, h5, h13, h18, nI_clamp (show ik < 2 ^ 31 by omega), nI_clamp (show jk < 2 ^ 31 by omega)]; simpa [h18] using h34
          have m9 : mOk (N, K, b, z, le, rf, hd, ln, vl) (6, at1, tk, so, va, lm, ol, ah, lt, lo) := ⟨rfl, hm.2.1, hm.2.2⟩
          exact Go.iret X E dX4_foresees_42 ⟨by rw [e9], _, by rw [e9]; exact m9, by rw [e9]⟩ rfl
      · --
        refine Go.aload_n X 0 dX4_foresees_21 rfl ?_
        refine Go.bipush X ((-2 : Int32)) dX4_foresees_22 k_bp_m2 ?_
        refine Go.callV0i X (d_no_0 g ad N K b z le rf hd ln vl 6 at1 tk so va lm ol ah lt lo) cal_X4_no gX4_foresees_X4_no (ci := 4) (q0 := 0) rfl rfl rfl rfl rfl dX4_foresees_24 ?_
        have e9 : x_foresees (N, K, b, z, le, rf, hd, ln, vl) (nI ik) (nI jk) = ((N, K, b, z, le, inc rf 0, hd, ln, vl), (-2)) := by simp (decide := true) [x_foresees, rfS, h5, h13, h18, nI_clamp (show ik < 2 ^ 31 by omega), nI_clamp (show jk < 2 ^ 31 by omega)]
        have m9 : mOk (N, K, b, z, le, inc rf 0, hd, ln, vl) (6, at1, tk, so, va, lm, ol, ah, lt, lo) := ⟨rfl, hm.2.1, hm.2.2⟩
        exact Go.iret X E dX4_foresees_27 ⟨by rw [e9], _, by rw [e9]; exact m9, by rw [e9]⟩ rfl
set_option maxHeartbeats 4000000 in
set_option maxRecDepth 100000 in
theorem e_foreseen (g : gT) (ad : Nat → Nat) (N : Sch) (K : Sch) (b : Bool) (z : Nat) (le : Nat → Nat) (rf : Nat → Int32) (hd : Nat → Int32) (ln : Nat → Nat) (vl : Nat → Nat → Int64) (at1 : Nat) (tk : Nat) (so : Int32) (va : Int32) (lm : Nat → Nat) (ol : Nat → Int32) (ah : Nat → Int32) (lt : Int32) (lo : Nat → Int32) (i : Int32) (hN : sOk N) (hH : hOk (sP N) hd) (hm : mOk (N, K, b, z, le, rf, hd, ln, vl) (6, at1, tk, so, va, lm, ol, ah, lt, lo)) : Ct g yX4_foreseen wsX4_foreseen 4 91 [.ref (ad 0), .int i] (mdW g ad (N, K, b, z, le, rf, hd, ln, vl) (6, at1, tk, so, va, lm, ol, ah, lt, lo)) (fun v9 w9 => v9 = (some (.int (x_foreseen (N, K, b, z, le, rf, hd, ln, vl) i).2)) ∧ ∃ J9, mOk (x_foreseen (N, K, b, z, le, rf, hd, ln, vl) i).1 J9 ∧ w9 = mdW g ad (x_foreseen (N, K, b, z, le, rf, hd, ln, vl) i).1 J9) := by
  refine Ct.start (cc := cX4_foreseen) (nL := 4) (ret := (some .int)) (own := RX4) (by decide) rfl rfl rfl ?_
  intro Γ X E
  show Go Γ g 4 (rmC 4 91) 0 0 (mdW g ad (N, K, b, z, le, rf, hd, ln, vl) (6, at1, tk, so, va, lm, ol, ah, lt, lo)) 0 [(0, .ref (ad 0)), (1, .int i)] []
  obtain ⟨o1, o2, o3, o4, o5, o6, o7, o8⟩ := id hN
  have o9 := p2_9 o2
  have o10 := sA_512 hN
  refine Go.aload_n X 0 dX4_foreseen_0 rfl ?_
  refine Go.iload_n X 1 dX4_foreseen_1 rfl ?_
  refine Go.callV0i X (d_isOne g ad N K b z le rf hd ln vl 6 at1 tk so va lm ol ah lt lo i (by exact hN)) cal_X4_isOne gX4_foreseen_X4_isOne (ci := 4) (q0 := 0) rfl rfl rfl rfl rfl dX4_foreseen_2 ?_
  refine Go.if_neB X 15 dX4_foreseen_5 (by decide) (fun h5 => ?_) (fun h5 => ?_)
  · --
    obtain ⟨ik, hik, rfl⟩ := inb_at (by first | omega | (split <;> omega)) h5
    refine Go.iconst X (nI 0) dX4_foreseen_15 k_ic_0 ?_
    refine Go.istore_n_new X dX4_foreseen_16 (by decide) rfl ?_
    refine Go.iconst X (nI 0) dX4_foreseen_17 k_ic_0 ?_
    refine Go.istore_n_new X dX4_foreseen_18 (by decide) rfl ?_
    have L19 : ∀ (f19 : Nat) (k : Nat) (hk : k ≤ sP N) (hf19 : sP N - k < f19), Go Γ g 4 (rmC 4 91) 0 0 (mdW g ad (N, K, b, z, le, rf, hd, ln, vl) (6, at1, tk, so, va, lm, ol, ah, lt, lo)) 19 [(3, .int (nI k)), (2, .int (nI (bts (fun j => decide (j ≠ ik) && forS N j ik) k))), (0, .ref (ad 0)), (1, .int (nI ik))] [] := by
      intro f19
      induction f19 with
      | zero => intro k hk hf19; exact absurd hf19 (Nat.not_lt_zero _)
      | succ f19 ih19 =>
        intro k hk hf19
        refine Go.iload_n X 0 dX4_foreseen_19 rfl ?_
        refine Go.aload_n X 2 dX4_foreseen_20 rfl ?_
        refine Go.get X f_X4_foreseen_59 0 (v := .int (nI (sP N))) rfl rfl dX4_foreseen_21 ?_
        refine Go.icmp_geN X 48 dX4_foreseen_24 (by decide) (by first | omega | (split <;> omega)) (by first | omega | (split <;> omega)) (fun h24 => ?_) (fun h24 => ?_)
        · --
          refine Go.lv_1 (w := .int (nI (bts (fun j => decide (j ≠ ik) && forS N j ik) (sP N)))) (by rw [show k = sP N by omega]) ?_
          refine Go.iload_n X 1 dX4_foreseen_48 rfl ?_
          have e9 : x_foreseen (N, K, b, z, le, rf, hd, ln, vl) (nI ik) = ((N, K, b, z, le, rf, hd, ln, vl), (nI (bts (fun j => decide (j ≠ ik) && forS N j ik) (sP N)))) := by simp (decide := true) [x_foreseen, rfS, upS_id, h5, h24, Nat.not_lt.mpr h24, nI_clamp (show ik < 2 ^ 31 by omega)]
          have m9 : mOk (N, K, b, z, le, rf, hd, ln, vl) (6, at1, tk, so, va, lm, ol, ah, lt, lo) := ⟨rfl, hm.2.1, hm.2.2⟩
          exact Go.iret X E dX4_foreseen_49 ⟨by rw [e9], _, by rw [e9]; exact m9, by rw [e9]⟩ rfl
        · --
          refine Go.aload_n X 2 dX4_foreseen_27 rfl ?_
          refine Go.iload_n X 0 dX4_foreseen_28 rfl ?_
          refine Go.iload_n X 3 dX4_foreseen_29 rfl ?_
          refine Go.callV0i X (d_foreseesIt g ad N K b z le rf hd ln vl at1 tk so va lm ol ah lt lo k ik (by exact hN) (by first | omega | (split <;> omega)) (by first | omega | (split <;> omega))) cal_X4_foreseesIt gX4_foreseen_X4_foreseesIt (ci := 4) (q0 := 0) rfl rfl rfl rfl rfl dX4_foreseen_30 ?_
          refine Go.if_eqB X 42 dX4_foreseen_33 (by decide) (fun h33 => ?_) (fun h33 => ?_)
          · --
            refine Go.iinc_0 X (nI (k + 1)) dX4_foreseen_42 (by decide) rfl (show nI k + Int32.ofInt 1 = nI (k + 1) from nI_add _ 1) ?_
            refine Go.goto X 19 dX4_foreseen_45 (by decide) ?_
            refine Go.lv_1 (congrArg (fun z => Value.int (nI z)) (show bts (fun j => decide (j ≠ ik) && forS N j ik) k = bts (fun j => decide (j ≠ ik) && forS N j ik) (k + 1) from by rw [bts, if_neg (by rw [h33]; decide), Nat.or_zero])) ?_
            exact ih19 (k + 1) (by first | omega | (split <;> omega)) (by first | omega | (split <;> omega))
          · --
            refine Go.iload_n X 1 dX4_foreseen_36 rfl ?_
            refine Go.iconst X (nI 1) dX4_foreseen_37 k_ic_1 ?_
            refine Go.iload_n X 0 dX4_foreseen_38 rfl ?_
            refine Go.ishl_e X (nI (2 ^ k)) dX4_foreseen_39 (nI_shl1 (by first | omega | (split <;> omega))) ?_
            refine Go.ior_e X (nI ((bts (fun j => decide (j ≠ ik) && forS N j ik) k) ||| (2 ^ k))) dX4_foreseen_40 (nI_or _ _) ?_
            refine Go.istore_n_1 X dX4_foreseen_41 (by decide) rfl ?_
            refine Go.iinc_0 X (nI (k + 1)) dX4_foreseen_42 (by decide) rfl (show nI k + Int32.ofInt 1 = nI (k + 1) from nI_add _ 1) ?_
            refine Go.goto X 19 dX4_foreseen_45 (by decide) ?_
            refine Go.lv_1 (congrArg (fun z => Value.int (nI z)) (show (bts (fun j => decide (j ≠ ik) && forS N j ik) k) ||| (2 ^ k) = bts (fun j => decide (j ≠ ik) && forS N j ik) (k + 1) from by rw [bts, if_pos h33])) ?_
            exact ih19 (k + 1) (by first | omega | (split <;> omega)) (by first | omega | (split <;> omega))
    refine Go.lv_1 (congrArg (fun z => Value.int (nI z)) (show 0 = bts (fun j => decide (j ≠ ik) && forS N j ik) 0 from by rfl)) ?_
    exact L19 (sP N - 0 + 1) 0 (by first | omega | (split <;> omega)) (Nat.lt_succ_self _)
  · --
    refine Go.aload_n X 0 dX4_foreseen_8 rfl ?_
    refine Go.bipush X ((-2 : Int32)) dX4_foreseen_9 k_bp_m2 ?_
    refine Go.callV0i X (d_no_0 g ad N K b z le rf hd ln vl 6 at1 tk so va lm ol ah lt lo) cal_X4_no gX4_foreseen_X4_no (ci := 4) (q0 := 0) rfl rfl rfl rfl rfl dX4_foreseen_11 ?_
    have e9 : x_foreseen (N, K, b, z, le, rf, hd, ln, vl) i = ((N, K, b, z, le, inc rf 0, hd, ln, vl), (-2)) := by simp (decide := true) [x_foreseen, rfS, upS_id, h5]
    have m9 : mOk (N, K, b, z, le, inc rf 0, hd, ln, vl) (6, at1, tk, so, va, lm, ol, ah, lt, lo) := ⟨rfl, hm.2.1, hm.2.2⟩
    exact Go.iret X E dX4_foreseen_14 ⟨by rw [e9], _, by rw [e9]; exact m9, by rw [e9]⟩ rfl
set_option maxHeartbeats 4000000 in
set_option maxRecDepth 100000 in
theorem e_deepest (g : gT) (ad : Nat → Nat) (N : Sch) (K : Sch) (b : Bool) (z : Nat) (le : Nat → Nat) (rf : Nat → Int32) (hd : Nat → Int32) (ln : Nat → Nat) (vl : Nat → Nat → Int64) (at1 : Nat) (tk : Nat) (so : Int32) (va : Int32) (lm : Nat → Nat) (ol : Nat → Int32) (ah : Nat → Int32) (lt : Int32) (lo : Nat → Int32) (hN : sOk N) (hH : hOk (sP N) hd) (hm : mOk (N, K, b, z, le, rf, hd, ln, vl) (6, at1, tk, so, va, lm, ol, ah, lt, lo)) : Ct g yX4_deepest wsX4_deepest 3 69 [.ref (ad 0)] (mdW g ad (N, K, b, z, le, rf, hd, ln, vl) (6, at1, tk, so, va, lm, ol, ah, lt, lo)) (fun v9 w9 => v9 = (some (.int (x_deepest (N, K, b, z, le, rf, hd, ln, vl)).2)) ∧ ∃ J9, mOk (x_deepest (N, K, b, z, le, rf, hd, ln, vl)).1 J9 ∧ w9 = mdW g ad (x_deepest (N, K, b, z, le, rf, hd, ln, vl)).1 J9) := by
  refine Ct.start (cc := cX4_deepest) (nL := 3) (ret := (some .int)) (own := RX4) (by decide) rfl rfl rfl ?_
  intro Γ X E
  show Go Γ g 3 (rmC 3 69) 0 0 (mdW g ad (N, K, b, z, le, rf, hd, ln, vl) (6, at1, tk, so, va, lm, ol, ah, lt, lo)) 0 [(0, .ref (ad 0))] []
  obtain ⟨o1, o2, o3, o4, o5, o6, o7, o8⟩ := id hN
  have o9 := p2_9 o2
  have o10 := sA_512 hN
  refine Go.aload_n X 0 dX4_deepest_0 rfl ?_
  refine Go.get X f_X4_deepest_59 0 (v := .int (nI (sP N))) rfl rfl dX4_deepest_1 ?_
  refine Go.if_neN X 14 dX4_deepest_4 (by decide) (by first | omega | (split <;> omega)) (fun h4 => ?_) (fun h4 => ?_)
  · --
    refine Go.iconst X (nI 0) dX4_deepest_14 k_ic_0 ?_
    refine Go.istore_n_new X dX4_deepest_15 (by decide) rfl ?_
    refine Go.iconst X (nI 1) dX4_deepest_16 k_ic_1 ?_
    refine Go.istore_n_new X dX4_deepest_17 (by decide) rfl ?_
    have L18 : ∀ (f18 : Nat) (k : Nat) (hk : k ≤ sP N) (hk1 : 1 ≤ k) (hf18 : sP N - k < f18), Go Γ g 3 (rmC 3 69) 0 0 (mdW g ad (N, K, b, z, le, rf, hd, ln, vl) (6, at1, tk, so, va, lm, ol, ah, lt, lo)) 18 [(2, .int (nI k)), (1, .int (nI (dpI N k))), (0, .ref (ad 0))] [] := by
      intro f18
      induction f18 with
      | zero => intro k hk hk1 hf18; exact absurd hf18 (Nat.not_lt_zero _)
      | succ f18 ih18 =>
        intro k hk hk1 hf18
        refine Go.iload_n X 0 dX4_deepest_18 rfl ?_
        refine Go.aload_n X 2 dX4_deepest_19 rfl ?_
        refine Go.get X f_X4_deepest_59 0 (v := .int (nI (sP N))) rfl rfl dX4_deepest_20 ?_
        refine Go.icmp_geN X 47 dX4_deepest_23 (by decide) (by first | omega | (split <;> omega)) (by first | omega | (split <;> omega)) (fun h23 => ?_) (fun h23 => ?_)
        · --
          refine Go.lv_1 (w := .int (nI (dpI N (sP N)))) (by rw [show k = sP N by omega]) ?_
          refine Go.iload_n X 1 dX4_deepest_47 rfl ?_
          have e9 : x_deepest (N, K, b, z, le, rf, hd, ln, vl) = ((N, K, b, z, le, rf, hd, ln, vl), (nI (dpI N (sP N)))) := by simp (decide := true) [x_deepest, rfS, upS_id, h4, h23, Nat.not_lt.mpr h23]
          have m9 : mOk (N, K, b, z, le, rf, hd, ln, vl) (6, at1, tk, so, va, lm, ol, ah, lt, lo) := ⟨rfl, hm.2.1, hm.2.2⟩
          exact Go.iret X E dX4_deepest_48 ⟨by rw [e9], _, by rw [e9]; exact m9, by rw [e9]⟩ rfl
        · --
          have o11 := dpI_lt N (k - 1)
          rw [show k - 1 + 1 = k by omega] at o11
          refine Go.aload_n X 2 dX4_deepest_26 rfl ?_
          refine Go.iload_n X 0 dX4_deepest_27 rfl ?_
          refine Go.callV0i X (d_depth g ad N K b z le rf hd ln vl 6 at1 tk so va lm ol ah lt lo k (by exact hN) (by first | omega | (split <;> omega)) (by first | omega | (split <;> omega))) cal_X4_depth gX4_deepest_X4_depth (ci := 4) (q0 := 0) rfl rfl rfl rfl rfl dX4_deepest_28 ?_
          have f28_1 := dep_le hN 6 k
          refine Go.aload_n X 2 dX4_deepest_31 rfl ?_
          refine Go.iload_n X 1 dX4_deepest_32 rfl ?_
          refine Go.callV0i X (d_depth g ad N K b z le rf hd ln vl 6 at1 tk so va lm ol ah lt lo (dpI N k) (by exact hN) (by first | omega | (split <;> omega)) (by first | omega | (split <;> omega))) cal_X4_depth gX4_deepest_X4_depth (ci := 4) (q0 := 0) rfl rfl rfl rfl rfl dX4_deepest_33 ?_
          have f33_2 := dep_le hN 6 (dpI N k)
          refine Go.icmp_leN X 41 dX4_deepest_36 (by decide) (by first | omega | (split <;> omega)) (by first | omega | (split <;> omega)) (fun h36 => ?_) (fun h36 => ?_)
          · --
            refine Go.iinc_0 X (nI (k + 1)) dX4_deepest_41 (by decide) rfl (show nI k + Int32.ofInt 1 = nI (k + 1) from nI_add _ 1) ?_
            refine Go.goto X 18 dX4_deepest_44 (by decide) ?_
            refine Go.lv_1 (congrArg (fun z => Value.int (nI z)) (show dpI N k = dpI N (k + 1) from by rw [dpI_f (Nat.not_lt.mpr h36)])) ?_
            exact ih18 (k + 1) (by first | omega | (split <;> omega)) (by first | omega | (split <;> omega)) (by first | omega | (split <;> omega))
          · --
            refine Go.iload_n X 0 dX4_deepest_39 rfl ?_
            refine Go.istore_n_1 X dX4_deepest_40 (by decide) rfl ?_
            refine Go.iinc_0 X (nI (k + 1)) dX4_deepest_41 (by decide) rfl (show nI k + Int32.ofInt 1 = nI (k + 1) from nI_add _ 1) ?_
            refine Go.goto X 18 dX4_deepest_44 (by decide) ?_
            refine Go.lv_1 (congrArg (fun z => Value.int (nI z)) (show k = dpI N (k + 1) from by rw [dpI_t h36])) ?_
            exact ih18 (k + 1) (by first | omega | (split <;> omega)) (by first | omega | (split <;> omega)) (by first | omega | (split <;> omega))
    refine Go.lv_1 (congrArg (fun z => Value.int (nI z)) (show 0 = dpI N 1 from by rw [dpI_1])) ?_
    exact L18 (sP N - 1 + 1) 1 (by first | omega | (split <;> omega)) (by first | omega | (split <;> omega)) (Nat.lt_succ_self _)
  · --
    refine Go.aload_n X 0 dX4_deepest_7 rfl ?_
    refine Go.bipush X ((-5 : Int32)) dX4_deepest_8 k_bp_m5 ?_
    refine Go.callV0i X (d_no_3 g ad N K b z le rf hd ln vl 6 at1 tk so va lm ol ah lt lo) cal_X4_no gX4_deepest_X4_no (ci := 4) (q0 := 0) rfl rfl rfl rfl rfl dX4_deepest_10 ?_
    have e9 : x_deepest (N, K, b, z, le, rf, hd, ln, vl) = ((N, K, b, z, le, inc rf 3, hd, ln, vl), (-5)) := by simp (decide := true) [x_deepest, rfS, upS_id, h4]
    have m9 : mOk (N, K, b, z, le, inc rf 3, hd, ln, vl) (6, at1, tk, so, va, lm, ol, ah, lt, lo) := ⟨rfl, hm.2.1, hm.2.2⟩
    exact Go.iret X E dX4_deepest_13 ⟨by rw [e9], _, by rw [e9]; exact m9, by rw [e9]⟩ rfl
set_option maxHeartbeats 4000000 in
set_option maxRecDepth 100000 in
theorem e_asleep (g : gT) (ad : Nat → Nat) (N : Sch) (K : Sch) (b : Bool) (z : Nat) (le : Nat → Nat) (rf : Nat → Int32) (hd : Nat → Int32) (ln : Nat → Nat) (vl : Nat → Nat → Int64) (at1 : Nat) (tk : Nat) (so : Int32) (va : Int32) (lm : Nat → Nat) (ol : Nat → Int32) (ah : Nat → Int32) (lt : Int32) (lo : Nat → Int32) (m : Int32) (hN : sOk N) (hH : hOk (sP N) hd) (hm : mOk (N, K, b, z, le, rf, hd, ln, vl) (6, at1, tk, so, va, lm, ol, ah, lt, lo)) : Ct g yX4_asleep wsX4_asleep 2 43 [.ref (ad 0), .int m] (mdW g ad (N, K, b, z, le, rf, hd, ln, vl) (6, at1, tk, so, va, lm, ol, ah, lt, lo)) (fun v9 w9 => v9 = (some (.int (x_asleep (N, K, b, z, le, rf, hd, ln, vl) m).2)) ∧ ∃ J9, mOk (x_asleep (N, K, b, z, le, rf, hd, ln, vl) m).1 J9 ∧ w9 = mdW g ad (x_asleep (N, K, b, z, le, rf, hd, ln, vl) m).1 J9) := by
  refine Ct.start (cc := cX4_asleep) (nL := 4) (ret := (some .int)) (own := RX4) (by decide) rfl rfl rfl ?_
  intro Γ X E
  show Go Γ g 4 (rmC 2 43) 0 0 (mdW g ad (N, K, b, z, le, rf, hd, ln, vl) (6, at1, tk, so, va, lm, ol, ah, lt, lo)) 0 [(0, .ref (ad 0)), (1, .int m)] []
  obtain ⟨o1, o2, o3, o4, o5, o6, o7, o8⟩ := id hN
  have o9 := p2_9 o2
  have o10 := sA_512 hN
  refine Go.aload_n X 0 dX4_asleep_0 rfl ?_
  refine Go.iload_n X 1 dX4_asleep_1 rfl ?_
  refine Go.callV0i X (d_isMorning g ad N K b z le rf hd ln vl 6 at1 tk so va lm ol ah lt lo m (by exact hN)) cal_X4_isMorning gX4_asleep_X4_isMorning (ci := 4) (q0 := 0) rfl rfl rfl rfl rfl dX4_asleep_2 ?_
  refine Go.if_neB X 15 dX4_asleep_5 (by decide) (fun h5 => ?_) (fun h5 => ?_)
  · --
    obtain ⟨mk, hmk, rfl⟩ := inb_at (by first | omega | (split <;> omega)) h5
    refine Go.iconst X (nI 0) dX4_asleep_15 k_ic_0 ?_
    refine Go.istore_n_new X dX4_asleep_16 (by decide) rfl ?_
    refine Go.iconst X (nI 0) dX4_asleep_17 k_ic_0 ?_
    refine Go.istore_n_new X dX4_asleep_18 (by decide) rfl ?_
    have L19 : ∀ (f19 : Nat) (k : Nat) (hk : k ≤ sP N) (hf19 : sP N - k < f19), Go Γ g 4 (rmC 2 43) 0 0 (mdW g ad (N, K, b, z, le, rf, hd, ln, vl) (6, at1, tk, so, va, lm, ol, ah, lt, lo)) 19 [(3, .int (nI k)), (2, .int (nI (bts (fun i => slp N i mk) k))), (0, .ref (ad 0)), (1, .int (nI mk))] [] := by
      intro f19
      induction f19 with
      | zero => intro k hk hf19; exact absurd hf19 (Nat.not_lt_zero _)
      | succ f19 ih19 =>
        intro k hk hf19
        refine Go.iload_n X 0 dX4_asleep_19 rfl ?_
        refine Go.aload_n X 2 dX4_asleep_20 rfl ?_
        refine Go.get X f_X4_asleep_59 0 (v := .int (nI (sP N))) rfl rfl dX4_asleep_21 ?_
        refine Go.icmp_geN X 48 dX4_asleep_24 (by decide) (by first | omega | (split <;> omega)) (by first | omega | (split <;> omega)) (fun h24 => ?_) (fun h24 => ?_)
        · --
          refine Go.lv_1 (w := .int (nI (bts (fun i => slp N i mk) (sP N)))) (by rw [show k = sP N by omega]) ?_
          refine Go.iload_n X 1 dX4_asleep_48 rfl ?_
          have e9 : x_asleep (N, K, b, z, le, rf, hd, ln, vl) (nI mk) = ((N, K, b, z, le, rf, hd, ln, vl), (nI (bts (fun i => slp N i mk) (sP N)))) := by simp (decide := true) [x_asleep, rfS, upS_id, h5, h24, Nat.not_lt.mpr h24, nI_clamp (show mk < 2 ^ 31 by omega)]
          have m9 : mOk (N, K, b, z, le, rf, hd, ln, vl) (6, at1, tk, so, va, lm, ol, ah, lt, lo) := ⟨rfl, hm.2.1, hm.2.2⟩
          exact Go.iret X E dX4_asleep_49 ⟨by rw [e9], _, by rw [e9]; exact m9, by rw [e9]⟩ rfl
        · --
          refine Go.aload_n X 2 dX4_asleep_27 rfl ?_
          refine Go.iload_n X 0 dX4_asleep_28 rfl ?_
          refine Go.iload_n X 3 dX4_asleep_29 rfl ?_
          refine Go.callV0i X (d_sleeps g ad N K b z le rf hd ln vl 6 at1 tk so va lm ol ah lt lo k mk (by exact hN) (by first | omega | (split <;> omega)) (by first | omega | (split <;> omega))) cal_X4_sleeps gX4_asleep_X4_sleeps (ci := 4) (q0 := 0) rfl rfl rfl rfl rfl dX4_asleep_30 ?_
          refine Go.if_eqB X 42 dX4_asleep_33 (by decide) (fun h33 => ?_) (fun h33 => ?_)
          · --
            refine Go.iinc_0 X (nI (k + 1)) dX4_asleep_42 (by decide) rfl (show nI k + Int32.ofInt 1 = nI (k + 1) from nI_add _ 1) ?_
            refine Go.goto X 19 dX4_asleep_45 (by decide) ?_
            refine Go.lv_1 (congrArg (fun z => Value.int (nI z)) (show bts (fun i => slp N i mk) k = bts (fun i => slp N i mk) (k + 1) from by simp [bts, h33])) ?_
            exact ih19 (k + 1) (by first | omega | (split <;> omega)) (by first | omega | (split <;> omega))
          · --
            refine Go.iload_n X 1 dX4_asleep_36 rfl ?_
            refine Go.iconst X (nI 1) dX4_asleep_37 k_ic_1 ?_
            refine Go.iload_n X 0 dX4_asleep_38 rfl ?_
            refine Go.ishl_e X (nI (2 ^ k)) dX4_asleep_39 (nI_shl1 (by first | omega | (split <;> omega))) ?_
            refine Go.ior_e X (nI ((bts (fun i => slp N i mk) k) ||| (2 ^ k))) dX4_asleep_40 (nI_or _ _) ?_
            refine Go.istore_n_1 X dX4_asleep_41 (by decide) rfl ?_
            refine Go.iinc_0 X (nI (k + 1)) dX4_asleep_42 (by decide) rfl (show nI k + Int32.ofInt 1 = nI (k + 1) from nI_add _ 1) ?_
            refine Go.goto X 19 dX4_asleep_45 (by decide) ?_
            refine Go.lv_1 (congrArg (fun z => Value.int (nI z)) (show (bts (fun i => slp N i mk) k) ||| (2 ^ k) = bts (fun i => slp N i mk) (k + 1) from by simp [bts, h33])) ?_
            exact ih19 (k + 1) (by first | omega | (split <;> omega)) (by first | omega | (split <;> omega))
    refine Go.lv_1 (congrArg (fun z => Value.int (nI z)) (show 0 = bts (fun i => slp N i mk) 0 from by rfl)) ?_
    exact L19 (sP N - 0 + 1) 0 (by first | omega | (split <;> omega)) (Nat.lt_succ_self _)
  · --
    refine Go.aload_n X 0 dX4_asleep_8 rfl ?_
    refine Go.bipush X ((-2 : Int32)) dX4_asleep_9 k_bp_m2 ?_
    refine Go.callV0i X (d_no_0 g ad N K b z le rf hd ln vl 6 at1 tk so va lm ol ah lt lo) cal_X4_no gX4_asleep_X4_no (ci := 4) (q0 := 0) rfl rfl rfl rfl rfl dX4_asleep_11 ?_
    have e9 : x_asleep (N, K, b, z, le, rf, hd, ln, vl) m = ((N, K, b, z, le, inc rf 0, hd, ln, vl), (-2)) := by simp (decide := true) [x_asleep, rfS, upS_id, h5]
    have m9 : mOk (N, K, b, z, le, inc rf 0, hd, ln, vl) (6, at1, tk, so, va, lm, ol, ah, lt, lo) := ⟨rfl, hm.2.1, hm.2.2⟩
    exact Go.iret X E dX4_asleep_14 ⟨by rw [e9], _, by rw [e9]; exact m9, by rw [e9]⟩ rfl
set_option maxHeartbeats 4000000 in
set_option maxRecDepth 100000 in
theorem e_longest (g : gT) (ad : Nat → Nat) (N : Sch) (K : Sch) (b : Bool) (z : Nat) (le : Nat → Nat) (rf : Nat → Int32) (hd : Nat → Int32) (ln : Nat → Nat) (vl : Nat → Nat → Int64) (at1 : Nat) (tk : Nat) (so : Int32) (va : Int32) (lm : Nat → Nat) (ol : Nat → Int32) (ah : Nat → Int32) (lt : Int32) (lo : Nat → Int32) (hN : sOk N) (hH : hOk (sP N) hd) (hm : mOk (N, K, b, z, le, rf, hd, ln, vl) (6, at1, tk, so, va, lm, ol, ah, lt, lo)) : Ct g yX4_longest wsX4_longest 7 161 [.ref (ad 0)] (mdW g ad (N, K, b, z, le, rf, hd, ln, vl) (6, at1, tk, so, va, lm, ol, ah, lt, lo)) (fun v9 w9 => v9 = (some (.int (x_longest (N, K, b, z, le, rf, hd, ln, vl)).2)) ∧ ∃ J9, mOk (x_longest (N, K, b, z, le, rf, hd, ln, vl)).1 J9 ∧ w9 = mdW g ad (x_longest (N, K, b, z, le, rf, hd, ln, vl)).1 J9) := by
  refine Ct.start (cc := cX4_longest) (nL := 3) (ret := (some .int)) (own := RX4) (by decide) rfl rfl rfl ?_
  intro Γ X E
  show Go Γ g 3 (rmC 7 161) 0 0 (mdW g ad (N, K, b, z, le, rf, hd, ln, vl) (6, at1, tk, so, va, lm, ol, ah, lt, lo)) 0 [(0, .ref (ad 0))] []
  obtain ⟨o1, o2, o3, o4, o5, o6, o7, o8⟩ := id hN
  have o9 := p2_9 o2
  have o10 := sA_512 hN
  refine Go.aload_n X 0 dX4_longest_0 rfl ?_
  refine Go.callV0i X (d_bySurprise g ad N K b z le rf hd ln vl 6 at1 tk so va lm ol ah lt lo (by exact hN) (by first | omega | (split <;> omega))) cal_X4_bySurprise gX4_longest_X4_bySurprise (ci := 4) (q0 := 0) rfl rfl rfl rfl rfl dX4_longest_1 ?_
  have f1_1 := sur_512 hN 6
  refine Go.istore_n_new X dX4_longest_4 (by decide) rfl ?_
  refine Go.iconst X (nI 0) dX4_longest_5 k_ic_0 ?_
  refine Go.istore_n_new X dX4_longest_6 (by decide) rfl ?_
  have L7 : ∀ (f7 : Nat) (x : Nat) (c : Nat) (hx : x < 512) (hc : c + lonM x 9 = lonM (sur N 6) 9) (hf7 : x < f7), Go Γ g 3 (rmC 7 161) 0 0 (mdW g ad (N, K, b, z, le, rf, hd, ln, vl) (6, at1, tk, so, va, lm, ol, ah, lt, lo)) 7 [(2, .int (nI c)), (1, .int (nI x)), (0, .ref (ad 0))] [] := by
    intro f7
    induction f7 with
    | zero => intro x c hx hc hf7; exact absurd hf7 (Nat.not_lt_zero _)
    | succ f7 ih7 =>
      intro x c hx hc hf7
      refine Go.iload_n X 1 dX4_longest_7 rfl ?_
      refine Go.if_eqN X 23 dX4_longest_8 (by decide) (by first | omega | (split <;> omega)) (fun h8 => ?_) (fun h8 => ?_)
      · --
        have o13 := lon_9 hN
        refine Go.iload_n X 0 dX4_longest_23 rfl ?_
        have e9 : x_longest (N, K, b, z, le, rf, hd, ln, vl) = ((N, K, b, z, le, rf, hd, ln, vl), (nI c)) := by have q : c = lonM (sur N 6) (sN N) := (by rw [h8, lon_0] at hc; omega); rw [q]; rfl
        have m9 : mOk (N, K, b, z, le, rf, hd, ln, vl) (6, at1, tk, so, va, lm, ol, ah, lt, lo) := ⟨rfl, hm.2.1, hm.2.2⟩
        exact Go.iret X E dX4_longest_24 ⟨by rw [e9], _, by rw [e9]; exact m9, by rw [e9]⟩ rfl
      · --
        have o11 := sh1_lt h8
        have o12 := lonM_le (sur N 6) 9
        refine Go.iload_n X 1 dX4_longest_11 rfl ?_
        refine Go.iload_n X 1 dX4_longest_12 rfl ?_
        refine Go.iconst X (nI 1) dX4_longest_13 k_ic_1 ?_
        refine Go.ishr_e X (nI (x >>> 1)) dX4_longest_14 (nI_shr (by first | omega | (split <;> omega)) (by first | omega | (split <;> omega))) ?_
        refine Go.iand_e X (nI (x &&& (x >>> 1))) dX4_longest_15 (nI_and _ _) ?_
        refine Go.istore_n_1 X dX4_longest_16 (by decide) rfl ?_
        refine Go.iinc_0 X (nI (c + 1)) dX4_longest_17 (by decide) rfl (show nI c + Int32.ofInt 1 = nI (c + 1) from nI_add _ 1) ?_
        refine Go.goto X 7 dX4_longest_20 (by decide) ?_
        exact ih7 (x &&& (x >>> 1)) (c + 1) (by omega) (by have q := (lon_b x hx).resolve_left h8; omega) (by first | omega | (split <;> omega))
  exact L7 ((sur N 6) + 1) (sur N 6) 0 (by omega) (by exact Nat.zero_add _) (Nat.lt_succ_self _)
