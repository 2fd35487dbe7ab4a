/-! 06.m2.model -/
theorem f_X4_canBe_111 : FL wsX4_canBe RX4 111 4 4 := ⟨RX4, TX4, 27, rfl, fun _ h => List.mem_cons_of_mem _ (List.mem_append_right _ h), by decide, List.mem_of_getElem? (i := 1) (by decide +kernel)⟩
theorem cal_J6_highestOneBit_0f7a4 : Cal yJ6_highestOneBit_0f7a4 wsJ6_highestOneBit_0f7a4 cJ6_highestOneBit_0f7a4 1 (some .int) RJ6 1 := ⟨⟨_, rfl⟩, by decide +kernel⟩
theorem f_X4_expectsIt_23 : FL wsX4_expectsIt RX4 23 4 8 := ⟨RX4, TX4, 27, rfl, fun _ h => List.mem_cons_of_mem _ (List.mem_append_right _ h), by decide, List.mem_of_getElem? (i := 1) (by decide +kernel)⟩
theorem f_X4_expectsIt_111 : FL wsX4_expectsIt RX4 111 4 4 := ⟨RX4, TX4, 27, rfl, fun _ h => List.mem_cons_of_mem _ (List.mem_append_right _ h), by decide, List.mem_of_getElem? (i := 2) (by decide +kernel)⟩
theorem cal_X4_canBe : Cal yX4_canBe wsX4_canBe cX4_canBe 5 (some .int) RX4 2 := ⟨⟨_, rfl⟩, by decide +kernel⟩
theorem cal_X4_sleeps : Cal yX4_sleeps wsX4_sleeps cX4_sleeps 3 (some .boolean) RX4 2 := ⟨⟨_, rfl⟩, by decide +kernel⟩
theorem f_X4_expectsIt_20 : FL wsX4_expectsIt RX4 20 4 5 := ⟨RX4, TX4, 27, rfl, fun _ h => List.mem_cons_of_mem _ (List.mem_append_right _ h), by decide, List.mem_of_getElem? (i := 3) (by decide +kernel)⟩
theorem f_X4_expectsIt_26 : FL wsX4_expectsIt RX4 26 4 9 := ⟨RX4, TX4, 27, rfl, fun _ h => List.mem_cons_of_mem _ (List.mem_append_right _ h), by decide, List.mem_of_getElem? (i := 4) (by decide +kernel)⟩
theorem cal_X4_still : Cal yX4_still wsX4_still cX4_still 2 (some .int) RX4 1 := ⟨⟨_, rfl⟩, by decide +kernel⟩
theorem cal_X4_weights : Cal yX4_weights wsX4_weights cX4_weights 4 (some .int) RX4 1 := ⟨⟨_, rfl⟩, by decide +kernel⟩
theorem f_X4_expected_66 : FL wsX4_expected RX4 66 4 3 := ⟨RX4, TX4, 27, rfl, fun _ h => List.mem_cons_of_mem _ (List.mem_append_right _ h), by decide, List.mem_of_getElem? (i := 1) (by decide +kernel)⟩
theorem cal_X4_expectsIt : Cal yX4_expectsIt wsX4_expectsIt cX4_expectsIt 4 (some .boolean) RX4 2 := ⟨⟨_, rfl⟩, by decide +kernel⟩
theorem f_X4_whoExpects_59 : FL wsX4_whoExpects RX4 59 4 7 := ⟨RX4, TX4, 27, rfl, fun _ h => List.mem_cons_of_mem _ (List.mem_append_right _ h), by decide, List.mem_of_getElem? (i := 1) (by decide +kernel)⟩
theorem f_X4_whoExpects_55 : FL wsX4_whoExpects RX4 55 4 14 := ⟨RX4, TX4, 27, rfl, fun _ h => List.mem_cons_of_mem _ (List.mem_append_right _ h), by decide, List.mem_of_getElem? (i := 2) (by decide +kernel)⟩
theorem f_X4_bySurprise_66 : FL wsX4_bySurprise RX4 66 4 3 := ⟨RX4, TX4, 27, rfl, fun _ h => List.mem_cons_of_mem _ (List.mem_append_right _ h), by decide, List.mem_of_getElem? (i := 1) (by decide +kernel)⟩
theorem f_X4_bySurprise_111 : FL wsX4_bySurprise RX4 111 4 4 := ⟨RX4, TX4, 27, rfl, fun _ h => List.mem_cons_of_mem _ (List.mem_append_right _ h), by decide, List.mem_of_getElem? (i := 2) (by decide +kernel)⟩
theorem cal_X4_whoExpects : Cal yX4_whoExpects wsX4_whoExpects cX4_whoExpects 4 (some .int) RX4 1 := ⟨⟨_, rfl⟩, by decide +kernel⟩
set_option maxHeartbeats 4000000 in
set_option maxRecDepth 100000 in
theorem d_canBe (g : gT) (ad : Nat → Nat) (N : Sch) (K : Sch) (b : Bool) (z : Nat) (le : Nat → Nat) (rf : Nat → Int32) (hd : Nat → Int32) (ln : Nat → Nat) (vl : Nat → Nat → Int64) (aw : Nat) (at1 : Nat) (tk : Nat) (so : Int32) (va : Int32) (lm : Nat → Nat) (ol : Nat → Int32) (ah : Nat → Int32) (lt : Int32) (lo : Nat → Int32) (i : Nat) (m : Nat) (hN : sOk N) (hi : i < 6) (hm : m < 9) (ha : aw ≤ 6) : Cw g yX4_canBe wsX4_canBe 3 69 [.ref (ad 0), .int (nI i), .int (nI m)] (mdW g ad (N, K, b, z, le, rf, hd, ln, vl) (aw, at1, tk, so, va, lm, ol, ah, lt, lo)) (some (.int (nI (canB N aw i m)))) (mdW g ad (N, K, b, z, le, rf, hd, ln, vl) (aw, at1, tk, so, va, lm, ol, ah, lt, lo)) := by
  refine Ct.start (cc := cX4_canBe) (nL := 5) (ret := (some .int)) (own := RX4) (by decide) rfl rfl rfl ?_
  intro Γ X E
  show Go Γ g 5 (rmC 3 69) 0 0 (mdW g ad (N, K, b, z, le, rf, hd, ln, vl) (aw, at1, tk, so, va, lm, ol, ah, lt, lo)) 0 [(0, .ref (ad 0)), (1, .int (nI i)), (2, .int (nI m))] []
  obtain ⟨o1, o2, o3, o4, o5, o6, o7, o8⟩ := id hN
  have o9 := p2_9 o2
  have o10 := sA_512 hN
  refine Go.aload_n X 0 dX4_canBe_0 rfl ?_
  refine Go.get X f_X4_canBe_111 0 (v := .int (nI (sA N))) rfl rfl dX4_canBe_1 ?_
  refine Go.istore_n_new X dX4_canBe_4 (by decide) rfl ?_
  refine Go.aload_n X 1 dX4_canBe_5 rfl ?_
  refine Go.iload_n X 2 dX4_canBe_6 rfl ?_
  refine Go.callV0i X (d_depth g ad N K b z le rf hd ln vl aw at1 tk so va lm ol ah lt lo i (by exact hN) (by first | omega | (split <;> omega)) (by first | omega | (split <;> omega))) cal_X4_depth gX4_canBe_X4_depth (ci := 4) (q0 := 0) rfl rfl rfl rfl rfl dX4_canBe_7 ?_
  have f7_1 := dep_le hN aw i
  refine Go.istore_new X dX4_canBe_10 (by decide) rfl ?_
  have L12 : ∀ (f12 : Nat) (c : Nat) (hc : c ≤ dep N aw i) (hf12 : dep N aw i - c < f12), Go Γ g 5 (rmC 3 69) 0 0 (mdW g ad (N, K, b, z, le, rf, hd, ln, vl) (aw, at1, tk, so, va, lm, ol, ah, lt, lo)) 12 [(4, .int (nI (dep N aw i - c))), (3, .int (nI (drp (sA N) c))), (0, .ref (ad 0)), (1, .int (nI i)), (2, .int (nI m))] [] := by
    intro f12
    induction f12 with
    | zero => intro c hc hf12; exact absurd hf12 (Nat.not_lt_zero _)
    | succ f12 ih12 =>
      intro c hc hf12
      refine Go.iload X 0 dX4_canBe_12 rfl ?_
      have o15 := dep_le hN aw i
      have o11 := drp_512 hN c
      have o13 := log2_lt9 o11
      refine Go.if_leN X 36 dX4_canBe_14 (by decide) (by first | omega | (split <;> omega)) (fun h14 => ?_) (fun h14 => ?_)
      · --
        refine Go.lv_1 (w := .int (nI (drp (sA N) (dep N aw i)))) (by rw [show c = dep N aw i by omega]) ?_
        have o14 := drp_512 hN (dep N aw i)
        have o12 : drp (sA N) (dep N aw i) >>> m <<< m ≤ drp (sA N) (dep N aw i) := still_le _ _
        refine Go.iload_n X 1 dX4_canBe_36 rfl ?_
        refine Go.iload_n X 4 dX4_canBe_37 rfl ?_
        refine Go.ishr_e X (nI ((drp (sA N) (dep N aw i)) >>> m)) dX4_canBe_38 (nI_shr (by first | omega | (split <;> omega)) (by first | omega | (split <;> omega))) ?_
        refine Go.iload_n X 4 dX4_canBe_39 rfl ?_
        refine Go.ishl_e X (nI (((drp (sA N) (dep N aw i)) >>> m) <<< m)) dX4_canBe_40 (nI_shl (by first | omega | (split <;> omega)) (by first | omega | (split <;> omega))) ?_
        exact Go.iret X E dX4_canBe_41 ⟨rv (congrArg nI (show ((drp (sA N) (dep N aw i)) >>> m) <<< m = canB N aw i m from by rfl)), rfl⟩ rfl
      · --
        refine Go.iload_n X 1 dX4_canBe_17 rfl ?_
        refine Go.if_eqN X 36 dX4_canBe_18 (by decide) (by first | omega | (split <;> omega)) (fun h18 => ?_) (fun h18 => ?_)
        · --
          refine Go.lv_1 (w := .int (nI (drp (sA N) (dep N aw i)))) (by rw [h18, drp_z h18 hc]) ?_
          have o14 := drp_512 hN (dep N aw i)
          have o12 : drp (sA N) (dep N aw i) >>> m <<< m ≤ drp (sA N) (dep N aw i) := still_le _ _
          refine Go.iload_n X 1 dX4_canBe_36 rfl ?_
          refine Go.iload_n X 4 dX4_canBe_37 rfl ?_
          refine Go.ishr_e X (nI ((drp (sA N) (dep N aw i)) >>> m)) dX4_canBe_38 (nI_shr (by first | omega | (split <;> omega)) (by first | omega | (split <;> omega))) ?_
          refine Go.iload_n X 4 dX4_canBe_39 rfl ?_
          refine Go.ishl_e X (nI (((drp (sA N) (dep N aw i)) >>> m) <<< m)) dX4_canBe_40 (nI_shl (by first | omega | (split <;> omega)) (by first | omega | (split <;> omega))) ?_
          exact Go.iret X E dX4_canBe_41 ⟨rv (congrArg nI (show ((drp (sA N) (dep N aw i)) >>> m) <<< m = canB N aw i m from by rfl)), rfl⟩ rfl
        · --
          refine Go.iload_n X 1 dX4_canBe_21 rfl ?_
          refine Go.iload_n X 1 dX4_canBe_22 rfl ?_
          refine Go.callSi X  (c_hob g (drp (sA N) c) (by first | omega | (split <;> omega)) (by first | omega | (split <;> omega))) cal_J6_highestOneBit_0f7a4 [] rfl rfl gX4_canBe_J6_highestOneBit_0f7a4 rfl rfl rfl dX4_canBe_23 ?_
          have f23_2 := log2_lt9 (show (drp (sA N) c) < 512 by omega)
          refine Go.iconst X ((-1 : Int32)) dX4_canBe_26 k_ic_m1 ?_
          refine Go.ixor_e X (nI (2 ^ (Nat.log2 (drp (sA N) c))) ^^^ (-1)) dX4_canBe_27 rfl ?_
          refine Go.iand_e X (nI (dif (drp (sA N) c) (2 ^ (Nat.log2 (drp (sA N) c))))) dX4_canBe_28 (nI_andnot _ _) ?_
          refine Go.istore_n_1 X dX4_canBe_29 (by decide) rfl ?_
          refine Go.iinc_0 X (nI (dep N aw i - c - 1)) dX4_canBe_30 (by decide) rfl (i_dec (by first | omega | (split <;> omega))) ?_
          refine Go.goto X 12 dX4_canBe_33 (by decide) ?_
          refine Go.lv_0 (congrArg (fun z => Value.int (nI z)) (show dep N aw i - c - 1 = dep N aw i - (c + 1) from by omega)) ?_
          refine Go.lv_1 (congrArg (fun z => Value.int (nI z)) (show dif (drp (sA N) c) (2 ^ (Nat.log2 (drp (sA N) c))) = drp (sA N) (c + 1) from by rw [dif_log (by omega) h18, ← drp_s])) ?_
          exact ih12 (c + 1) (by first | omega | (split <;> omega)) (by first | omega | (split <;> omega))
  refine Go.lv_0 (congrArg (fun z => Value.int (nI z)) (show dep N aw i = dep N aw i - 0 from by omega)) ?_
  refine Go.lv_1 (congrArg (fun z => Value.int (nI z)) (show sA N = drp (sA N) 0 from by rfl)) ?_
  exact L12 (dep N aw i - 0 + 1) 0 (by first | omega | (split <;> omega)) (Nat.lt_succ_self _)
set_option maxHeartbeats 4000000 in
set_option maxRecDepth 100000 in
theorem d_expectsIt (g : gT) (ad : Nat → Nat) (N : Sch) (K : Sch) (b : Bool) (z : Nat) (le : Nat → Nat) (rf : Nat → Int32) (hd : Nat → Int32) (ln : Nat → Nat) (vl : Nat → Nat → Int64) (aw : Nat) (at1 : Nat) (tk : Nat) (so : Int32) (va : Int32) (lm : Nat → Nat) (ol : Nat → Int32) (ah : Nat → Int32) (lt : Int32) (lo : Nat → Int32) (i : Nat) (m : Nat) (hN : sOk N) (hi : i < 6) (hm : m < 9) (ha : aw ≤ 6) : Cw g yX4_expectsIt wsX4_expectsIt 4 93 [.ref (ad 0), .int (nI i), .int (nI m)] (mdW g ad (N, K, b, z, le, rf, hd, ln, vl) (aw, at1, tk, so, va, lm, ol, ah, lt, lo)) (some (.int (b2i (expP N aw i m)))) (mdW g ad (N, K, b, z, le, rf, hd, ln, vl) (aw, at1, tk, so, va, lm, ol, ah, lt, lo)) := by
  refine Ct.start (cc := cX4_expectsIt) (nL := 4) (ret := (some .boolean)) (own := RX4) (by decide) rfl rfl rfl ?_
  intro Γ X E
  show Go Γ g 4 (rmC 4 93) 0 0 (mdW g ad (N, K, b, z, le, rf, hd, ln, vl) (aw, at1, tk, so, va, lm, ol, ah, lt, lo)) 0 [(0, .ref (ad 0)), (1, .int (nI i)), (2, .int (nI m))] []
  obtain ⟨o1, o2, o3, o4, o5, o6, o7, o8⟩ := id hN
  have o9 := p2_9 o2
  have o10 := sA_512 hN
  refine Go.aload_n X 0 dX4_expectsIt_0 rfl ?_
  refine Go.get X f_X4_expectsIt_23 0 (v := .ref (ad 5)) rfl rfl dX4_expectsIt_1 ?_
  refine Go.iload_n X 1 dX4_expectsIt_4 rfl ?_
  refine Go.ialdN X 5 (w := sK N) rfl (by first | omega | (split <;> omega)) rfl dX4_expectsIt_5 ?_
  have o11 := o7 i hi
  have o12 := o8 i hi
  have o13 := o4 m hm
  refine Go.iconst X (nI 2) dX4_expectsIt_6 k_ic_2 ?_
  refine Go.icmp_eqN X 20 dX4_expectsIt_7 (by decide) (by first | omega | (split <;> omega)) (by decide) (fun h7 => ?_) (fun h7 => ?_)
  · --
    refine Go.aload_n X 0 dX4_expectsIt_20 rfl ?_
    refine Go.get X f_X4_expectsIt_111 0 (v := .int (nI (sA N))) rfl rfl dX4_expectsIt_21 ?_
    refine Go.iload_n X 2 dX4_expectsIt_24 rfl ?_
    refine Go.callSi X  (d_has g (sA N) m (by first | omega | (split <;> omega)) (by first | omega | (split <;> omega))) cal_X4_has [] rfl rfl gX4_expectsIt_X4_has rfl rfl rfl dX4_expectsIt_25 ?_
    refine Go.if_eqB X 72 dX4_expectsIt_28 (by decide) (fun h28 => ?_) (fun h28 => ?_)
    · --
      refine Go.iconst X (nI 0) dX4_expectsIt_72 k_ic_0 ?_
      refine Go.istore_n_new X dX4_expectsIt_73 (by decide) rfl ?_
      refine Go.aload_n X 1 dX4_expectsIt_74 rfl ?_
      refine Go.get X f_X4_expectsIt_23 0 (v := .ref (ad 5)) rfl rfl dX4_expectsIt_75 ?_
      refine Go.iload_n X 2 dX4_expectsIt_78 rfl ?_
      refine Go.ialdN X 5 (w := sK N) rfl (by first | omega | (split <;> omega)) rfl dX4_expectsIt_79 ?_
      refine Go.iconst X (nI 2) dX4_expectsIt_80 k_ic_2 ?_
      refine Go.icmp_neN X 86 dX4_expectsIt_81 (by decide) (by first | omega | (split <;> omega)) (by decide) (fun h81 => ?_) (fun h81 => ?_)
      · --
        refine Go.iload_n X 0 dX4_expectsIt_86 rfl ?_
        refine Go.if_ne X 111 dX4_expectsIt_87 (by decide) (fun h => absurd h (by decide)) (fun _ => ?_)
        refine Go.aload_n X 1 dX4_expectsIt_90 rfl ?_
        refine Go.iload_n X 2 dX4_expectsIt_91 rfl ?_
        refine Go.iload_n X 3 dX4_expectsIt_92 rfl ?_
        refine Go.callV0i X (d_canBe g ad N K b z le rf hd ln vl aw at1 tk so va lm ol ah lt lo i m (by exact hN) (by first | omega | (split <;> omega)) (by first | omega | (split <;> omega)) (by first | omega | (split <;> omega))) cal_X4_canBe gX4_expectsIt_X4_canBe (ci := 4) (q0 := 0) rfl rfl rfl rfl rfl dX4_expectsIt_93 ?_
        have f93_1 := can_512 hN aw i m
        refine Go.iconst X (nI 1) dX4_expectsIt_96 k_ic_1 ?_
        refine Go.iload_n X 3 dX4_expectsIt_97 rfl ?_
        have o16 : 2 ^ m < 2 ^ 9 := Nat.pow_lt_pow_right (by decide) hm
        refine Go.ishl_e X (nI (2 ^ m)) dX4_expectsIt_98 (nI_shl1 (by first | omega | (split <;> omega))) ?_
        refine Go.icmp_neN X 115 dX4_expectsIt_99 (by decide) (by first | omega | (split <;> omega)) (by first | omega | (split <;> omega)) (fun h99 => ?_) (fun h99 => ?_)
        · --
          refine Go.iconst X (nI 0) dX4_expectsIt_115 k_ic_0 ?_
          exact Go.nret X E rfl dX4_expectsIt_116 ⟨rv (b2i_f (by simp [expP, betP, h7, h28, h81, h99] <;> omega)), rfl⟩ rfl
        · --
          refine Go.aload_n X 1 dX4_expectsIt_102 rfl ?_
          refine Go.iload_n X 2 dX4_expectsIt_103 rfl ?_
          refine Go.iload_n X 3 dX4_expectsIt_104 rfl ?_
          refine Go.callV0i X (d_sleeps g ad N K b z le rf hd ln vl aw at1 tk so va lm ol ah lt lo i m (by exact hN) (by first | omega | (split <;> omega)) (by first | omega | (split <;> omega))) cal_X4_sleeps gX4_expectsIt_X4_sleeps (ci := 4) (q0 := 0) rfl rfl rfl rfl rfl dX4_expectsIt_105 ?_
          refine Go.if_neB X 115 dX4_expectsIt_108 (by decide) (fun h108 => ?_) (fun h108 => ?_)
          · --
            refine Go.iconst X (nI 0) dX4_expectsIt_115 k_ic_0 ?_
            exact Go.nret X E rfl dX4_expectsIt_116 ⟨rv (b2i_f (by simp [expP, betP, h7, h28, h81, h99, h108] <;> omega)), rfl⟩ rfl
          · --
            refine Go.iconst X (nI 1) dX4_expectsIt_111 k_ic_1 ?_
            refine Go.goto X 116 dX4_expectsIt_112 (by decide) ?_
            exact Go.nret X E rfl dX4_expectsIt_116 ⟨rv (b2i_t (by simp [expP, betP, h7, h28, h81, h99, h108] <;> omega)), rfl⟩ rfl
      · --
        refine Go.iload_n X 0 dX4_expectsIt_84 rfl ?_
        exact Go.nret X E rfl dX4_expectsIt_85 ⟨rv (b2i_f (by simp [expP, betP, h7, h28, h81] <;> omega)), rfl⟩ rfl
    · --
      refine Go.aload_n X 0 dX4_expectsIt_31 rfl ?_
      refine Go.get X f_X4_expectsIt_20 0 (v := .ref (ad 4)) rfl rfl dX4_expectsIt_32 ?_
      refine Go.iload_n X 2 dX4_expectsIt_35 rfl ?_
      refine Go.ialdN X 4 (w := sW N) rfl (by first | omega | (split <;> omega)) rfl dX4_expectsIt_36 ?_
      refine Go.if_leN X 72 dX4_expectsIt_37 (by decide) (by first | omega | (split <;> omega)) (fun h37 => ?_) (fun h37 => ?_)
      · --
        refine Go.iconst X (nI 0) dX4_expectsIt_72 k_ic_0 ?_
        refine Go.istore_n_new X dX4_expectsIt_73 (by decide) rfl ?_
        refine Go.aload_n X 1 dX4_expectsIt_74 rfl ?_
        refine Go.get X f_X4_expectsIt_23 0 (v := .ref (ad 5)) rfl rfl dX4_expectsIt_75 ?_
        refine Go.iload_n X 2 dX4_expectsIt_78 rfl ?_
        refine Go.ialdN X 5 (w := sK N) rfl (by first | omega | (split <;> omega)) rfl dX4_expectsIt_79 ?_
        refine Go.iconst X (nI 2) dX4_expectsIt_80 k_ic_2 ?_
        refine Go.icmp_neN X 86 dX4_expectsIt_81 (by decide) (by first | omega | (split <;> omega)) (by decide) (fun h81 => ?_) (fun h81 => ?_)
        · --
          refine Go.iload_n X 0 dX4_expectsIt_86 rfl ?_
          refine Go.if_ne X 111 dX4_expectsIt_87 (by decide) (fun h => absurd h (by decide)) (fun _ => ?_)
          refine Go.aload_n X 1 dX4_expectsIt_90 rfl ?_
          refine Go.iload_n X 2 dX4_expectsIt_91 rfl ?_
          refine Go.iload_n X 3 dX4_expectsIt_92 rfl ?_
          refine Go.callV0i X (d_canBe g ad N K b z le rf hd ln vl aw at1 tk so va lm ol ah lt lo i m (by exact hN) (by first | omega | (split <;> omega)) (by first | omega | (split <;> omega)) (by first | omega | (split <;> omega))) cal_X4_canBe gX4_expectsIt_X4_canBe (ci := 4) (q0 := 0) rfl rfl rfl rfl rfl dX4_expectsIt_93 ?_
          have f93_2 := can_512 hN aw i m
          refine Go.iconst X (nI 1) dX4_expectsIt_96 k_ic_1 ?_
          refine Go.iload_n X 3 dX4_expectsIt_97 rfl ?_
          have o16 : 2 ^ m < 2 ^ 9 := Nat.pow_lt_pow_right (by decide) hm
          refine Go.ishl_e X (nI (2 ^ m)) dX4_expectsIt_98 (nI_shl1 (by first | omega | (split <;> omega))) ?_
          refine Go.icmp_neN X 115 dX4_expectsIt_99 (by decide) (by first | omega | (split <;> omega)) (by first | omega | (split <;> omega)) (fun h99 => ?_) (fun h99 => ?_)
          · --
            refine Go.iconst X (nI 0) dX4_expectsIt_115 k_ic_0 ?_
            exact Go.nret X E rfl dX4_expectsIt_116 ⟨rv (b2i_f (by simp [expP, betP, h7, h28, h37, h81, h99] <;> omega)), rfl⟩ rfl
          · --
            refine Go.aload_n X 1 dX4_expectsIt_102 rfl ?_
            refine Go.iload_n X 2 dX4_expectsIt_103 rfl ?_
            refine Go.iload_n X 3 dX4_expectsIt_104 rfl ?_
            refine Go.callV0i X (d_sleeps g ad N K b z le rf hd ln vl aw at1 tk so va lm ol ah lt lo i m (by exact hN) (by first | omega | (split <;> omega)) (by first | omega | (split <;> omega))) cal_X4_sleeps gX4_expectsIt_X4_sleeps (ci := 4) (q0 := 0) rfl rfl rfl rfl rfl dX4_expectsIt_105 ?_
            refine Go.if_neB X 115 dX4_expectsIt_108 (by decide) (fun h108 => ?_) (fun h108 => ?_)
            · --
              refine Go.iconst X (nI 0) dX4_expectsIt_115 k_ic_0 ?_
              exact Go.nret X E rfl dX4_expectsIt_116 ⟨rv (b2i_f (by simp [expP, betP, h7, h28, h37, h81, h99, h108] <;> omega)), rfl⟩ rfl
            · --
              refine Go.iconst X (nI 1) dX4_expectsIt_111 k_ic_1 ?_
              refine Go.goto X 116 dX4_expectsIt_112 (by decide) ?_
              exact Go.nret X E rfl dX4_expectsIt_116 ⟨rv (b2i_t (by simp [expP, betP, h7, h28, h37, h81, h99, h108] <;> omega)), rfl⟩ rfl
        · --
          refine Go.iload_n X 0 dX4_expectsIt_84 rfl ?_
          exact Go.nret X E rfl dX4_expectsIt_85 ⟨rv (b2i_f (by simp [expP, betP, h7, h28, h37, h81] <;> omega)), rfl⟩ rfl
      · --
        refine Go.bipush X (nI 10) dX4_expectsIt_40 k_bp_10 ?_
        refine Go.aload_n X 0 dX4_expectsIt_42 rfl ?_
        refine Go.get X f_X4_expectsIt_20 0 (v := .ref (ad 4)) rfl rfl dX4_expectsIt_43 ?_
        refine Go.iload_n X 2 dX4_expectsIt_46 rfl ?_
        refine Go.ialdN X 4 (w := sW N) rfl (by first | omega | (split <;> omega)) rfl dX4_expectsIt_47 ?_
        refine Go.imul_e X (nI (10 * ((sW N) m))) dX4_expectsIt_48 (pk_mul _ _) ?_
        refine Go.aload_n X 0 dX4_expectsIt_49 rfl ?_
        refine Go.get X f_X4_expectsIt_26 0 (v := .ref (ad 6)) rfl rfl dX4_expectsIt_50 ?_
        refine Go.iload_n X 1 dX4_expectsIt_53 rfl ?_
        refine Go.ialdN X 6 (w := sO N) rfl (by first | omega | (split <;> omega)) rfl dX4_expectsIt_54 ?_
        refine Go.aload_n X 0 dX4_expectsIt_55 rfl ?_
        refine Go.aload_n X 0 dX4_expectsIt_56 rfl ?_
        refine Go.iload_n X 2 dX4_expectsIt_57 rfl ?_
        refine Go.callV0i X (d_still g ad N K b z le rf hd ln vl aw at1 tk so va lm ol ah lt lo m (by exact hN) (by first | omega | (split <;> omega))) cal_X4_still gX4_expectsIt_X4_still (ci := 4) (q0 := 0) rfl rfl rfl rfl rfl dX4_expectsIt_58 ?_
        have f58_3 := still_le (sA N) m
        refine Go.callV0i X (d_weights g ad N K b z le rf hd ln vl aw at1 tk so va lm ol ah lt lo (still (sA N) m) (by exact hN) (by first | omega | (split <;> omega))) cal_X4_weights gX4_expectsIt_X4_weights (ci := 4) (q0 := 0) rfl rfl rfl rfl rfl dX4_expectsIt_61 ?_
        have f61_4 := wsum_81 hN (still (sA N) m)
        have o14 := wsum_81 hN (still (sA N) m)
        have o15 : sO N i * wsum (sW N) (still (sA N) m) (sN N) ≤ 9 * 81 := Nat.mul_le_mul o12 o14
        refine Go.imul_e X (nI (((sO N) i) * (wsum (sW N) (still (sA N) m) (sN N)))) dX4_expectsIt_64 (pk_mul _ _) ?_
        refine Go.icmp_ltN X 72 dX4_expectsIt_65 (by decide) (by first | omega | (split <;> omega)) (by first | omega | (split <;> omega)) (fun h65 => ?_) (fun h65 => ?_)
        · --
          refine Go.iconst X (nI 0) dX4_expectsIt_72 k_ic_0 ?_
          refine Go.istore_n_new X dX4_expectsIt_73 (by decide) rfl ?_
          refine Go.aload_n X 1 dX4_expectsIt_74 rfl ?_
          refine Go.get X f_X4_expectsIt_23 0 (v := .ref (ad 5)) rfl rfl dX4_expectsIt_75 ?_
          refine Go.iload_n X 2 dX4_expectsIt_78 rfl ?_
          refine Go.ialdN X 5 (w := sK N) rfl (by first | omega | (split <;> omega)) rfl dX4_expectsIt_79 ?_
          refine Go.iconst X (nI 2) dX4_expectsIt_80 k_ic_2 ?_
          refine Go.icmp_neN X 86 dX4_expectsIt_81 (by decide) (by first | omega | (split <;> omega)) (by decide) (fun h81 => ?_) (fun h81 => ?_)
          · --
            refine Go.iload_n X 0 dX4_expectsIt_86 rfl ?_
            refine Go.if_ne X 111 dX4_expectsIt_87 (by decide) (fun h => absurd h (by decide)) (fun _ => ?_)
            refine Go.aload_n X 1 dX4_expectsIt_90 rfl ?_
            refine Go.iload_n X 2 dX4_expectsIt_91 rfl ?_
            refine Go.iload_n X 3 dX4_expectsIt_92 rfl ?_
            refine Go.callV0i X (d_canBe g ad N K b z le rf hd ln vl aw at1 tk so va lm ol ah lt lo i m (by exact hN) (by first | omega | (split <;> omega)) (by first | omega | (split <;> omega)) (by first | omega | (split <;> omega))) cal_X4_canBe gX4_expectsIt_X4_canBe (ci := 4) (q0 := 0) rfl rfl rfl rfl rfl dX4_expectsIt_93 ?_
            have f93_5 := can_512 hN aw i m
            refine Go.iconst X (nI 1) dX4_expectsIt_96 k_ic_1 ?_
            refine Go.iload_n X 3 dX4_expectsIt_97 rfl ?_
            have o16 : 2 ^ m < 2 ^ 9 := Nat.pow_lt_pow_right (by decide) hm
            refine Go.ishl_e X (nI (2 ^ m)) dX4_expectsIt_98 (nI_shl1 (by first | omega | (split <;> omega))) ?_
            refine Go.icmp_neN X 115 dX4_expectsIt_99 (by decide) (by first | omega | (split <;> omega)) (by first | omega | (split <;> omega)) (fun h99 => ?_) (fun h99 => ?_)
            · --
              refine Go.iconst X (nI 0) dX4_expectsIt_115 k_ic_0 ?_
              exact Go.nret X E rfl dX4_expectsIt_116 ⟨rv (b2i_f (by simp [expP, betP, h7, h28, h37, h65, h81, h99] <;> omega)), rfl⟩ rfl
            · --
              refine Go.aload_n X 1 dX4_expectsIt_102 rfl ?_
              refine Go.iload_n X 2 dX4_expectsIt_103 rfl ?_
              refine Go.iload_n X 3 dX4_expectsIt_104 rfl ?_
              refine Go.callV0i X (d_sleeps g ad N K b z le rf hd ln vl aw at1 tk so va lm ol ah lt lo i m (by exact hN) (by first | omega | (split <;> omega)) (by first | omega | (split <;> omega))) cal_X4_sleeps gX4_expectsIt_X4_sleeps (ci := 4) (q0 := 0) rfl rfl rfl rfl rfl dX4_expectsIt_105 ?_
              refine Go.if_neB X 115 dX4_expectsIt_108 (by decide) (fun h108 => ?_) (fun h108 => ?_)
              · --
                refine Go.iconst X (nI 0) dX4_expectsIt_115 k_ic_0 ?_
                exact Go.nret X E rfl dX4_expectsIt_116 ⟨rv (b2i_f (by simp [expP, betP, h7, h28, h37, h65, h81, h99, h108] <;> omega)), rfl⟩ rfl
              · --
                refine Go.iconst X (nI 1) dX4_expectsIt_111 k_ic_1 ?_
                refine Go.goto X 116 dX4_expectsIt_112 (by decide) ?_
                exact Go.nret X E rfl dX4_expectsIt_116 ⟨rv (b2i_t (by simp [expP, betP, h7, h28, h37, h65, h81, h99, h108] <;> omega)), rfl⟩ rfl
          · --
            refine Go.iload_n X 0 dX4_expectsIt_84 rfl ?_
            exact Go.nret X E rfl dX4_expectsIt_85 ⟨rv (b2i_f (by simp [expP, betP, h7, h28, h37, h65, h81] <;> omega)), rfl⟩ rfl
        · --
          refine Go.iconst X (nI 1) dX4_expectsIt_68 k_ic_1 ?_
          refine Go.goto X 73 dX4_expectsIt_69 (by decide) ?_
          refine Go.istore_n_new X dX4_expectsIt_73 (by decide) rfl ?_
          refine Go.aload_n X 1 dX4_expectsIt_74 rfl ?_
          refine Go.get X f_X4_expectsIt_23 0 (v := .ref (ad 5)) rfl rfl dX4_expectsIt_75 ?_
          refine Go.iload_n X 2 dX4_expectsIt_78 rfl ?_
          refine Go.ialdN X 5 (w := sK N) rfl (by first | omega | (split <;> omega)) rfl dX4_expectsIt_79 ?_
          refine Go.iconst X (nI 2) dX4_expectsIt_80 k_ic_2 ?_
          refine Go.icmp_neN X 86 dX4_expectsIt_81 (by decide) (by first | omega | (split <;> omega)) (by decide) (fun h81 => ?_) (fun h81 => ?_)
          · --
            refine Go.iload_n X 0 dX4_expectsIt_86 rfl ?_
            refine Go.if_ne X 111 dX4_expectsIt_87 (by decide) (fun _ => ?_) (fun h => absurd h (by decide))
            refine Go.iconst X (nI 1) dX4_expectsIt_111 k_ic_1 ?_
            refine Go.goto X 116 dX4_expectsIt_112 (by decide) ?_
            exact Go.nret X E rfl dX4_expectsIt_116 ⟨rv (b2i_t (by simp [expP, betP, h7, h28, h37, h65, h81] <;> omega)), rfl⟩ rfl
          · --
            refine Go.iload_n X 0 dX4_expectsIt_84 rfl ?_
            exact Go.nret X E rfl dX4_expectsIt_85 ⟨rv (b2i_t (by simp [expP, betP, h7, h28, h37, h65, h81] <;> omega)), rfl⟩ rfl
  · --
    refine Go.aload_n X 0 dX4_expectsIt_10 rfl ?_
    refine Go.get X f_X4_expectsIt_23 0 (v := .ref (ad 5)) rfl rfl dX4_expectsIt_11 ?_
    refine Go.iload_n X 1 dX4_expectsIt_14 rfl ?_
    refine Go.ialdN X 5 (w := sK N) rfl (by first | omega | (split <;> omega)) rfl dX4_expectsIt_15 ?_
    refine Go.iconst X (nI 5) dX4_expectsIt_16 k_ic_5 ?_
    refine Go.icmp_neN X 72 dX4_expectsIt_17 (by decide) (by first | omega | (split <;> omega)) (by decide) (fun h17 => ?_) (fun h17 => ?_)
    · --
      refine Go.iconst X (nI 0) dX4_expectsIt_72 k_ic_0 ?_
      refine Go.istore_n_new X dX4_expectsIt_73 (by decide) rfl ?_
      refine Go.aload_n X 1 dX4_expectsIt_74 rfl ?_
      refine Go.get X f_X4_expectsIt_23 0 (v := .ref (ad 5)) rfl rfl dX4_expectsIt_75 ?_
      refine Go.iload_n X 2 dX4_expectsIt_78 rfl ?_
      refine Go.ialdN X 5 (w := sK N) rfl (by first | omega | (split <;> omega)) rfl dX4_expectsIt_79 ?_
      refine Go.iconst X (nI 2) dX4_expectsIt_80 k_ic_2 ?_
      refine Go.icmp_neN X 86 dX4_expectsIt_81 (by decide) (by first | omega | (split <;> omega)) (by decide) (fun h81 => ?_) (fun h81 => ?_)
      · --
        refine Go.iload_n X 0 dX4_expectsIt_86 rfl ?_
        refine Go.if_ne X 111 dX4_expectsIt_87 (by decide) (fun h => absurd h (by decide)) (fun _ => ?_)
        refine Go.aload_n X 1 dX4_expectsIt_90 rfl ?_
        refine Go.iload_n X 2 dX4_expectsIt_91 rfl ?_
        refine Go.iload_n X 3 dX4_expectsIt_92 rfl ?_
        refine Go.callV0i X (d_canBe g ad N K b z le rf hd ln vl aw at1 tk so va lm ol ah lt lo i m (by exact hN) (by first | omega | (split <;> omega)) (by first | omega | (split <;> omega)) (by first | omega | (split <;> omega))) cal_X4_canBe gX4_expectsIt_X4_canBe (ci := 4) (q0 := 0) rfl rfl rfl rfl rfl dX4_expectsIt_93 ?_
        have f93_6 := can_512 hN aw i m
        refine Go.iconst X (nI 1) dX4_expectsIt_96 k_ic_1 ?_
        refine Go.iload_n X 3 dX4_expectsIt_97 rfl ?_
        have o16 : 2 ^ m < 2 ^ 9 := Nat.pow_lt_pow_right (by decide) hm
        refine Go.ishl_e X (nI (2 ^ m)) dX4_expectsIt_98 (nI_shl1 (by first | omega | (split <;> omega))) ?_
        refine Go.icmp_neN X 115 dX4_expectsIt_99 (by decide) (by first | omega | (split <;> omega)) (by first | omega | (split <;> omega)) (fun h99 => ?_) (fun h99 => ?_)
        · --
          refine Go.iconst X (nI 0) dX4_expectsIt_115 k_ic_0 ?_
          exact Go.nret X E rfl dX4_expectsIt_116 ⟨rv (b2i_f (by simp [expP, betP, h7, h17, h81, h99] <;> omega)), rfl⟩ rfl
        · --
          refine Go.aload_n X 1 dX4_expectsIt_102 rfl ?_
          refine Go.iload_n X 2 dX4_expectsIt_103 rfl ?_
          refine Go.iload_n X 3 dX4_expectsIt_104 rfl ?_
          refine Go.callV0i X (d_sleeps g ad N K b z le rf hd ln vl aw at1 tk so va lm ol ah lt lo i m (by exact hN) (by first | omega | (split <;> omega)) (by first | omega | (split <;> omega))) cal_X4_sleeps gX4_expectsIt_X4_sleeps (ci := 4) (q0 := 0) rfl rfl rfl rfl rfl dX4_expectsIt_105 ?_
          refine Go.if_neB X 115 dX4_expectsIt_108 (by decide) (fun h108 => ?_) (fun h108 => ?_)
          · --
            refine Go.iconst X (nI 0) dX4_expectsIt_115 k_ic_0 ?_
            exact Go.nret X E rfl dX4_expectsIt_116 ⟨rv (b2i_f (by simp [expP, betP, h7, h17, h81, h99, h108] <;> omega)), rfl⟩ rfl
          · --
            refine Go.iconst X (nI 1) dX4_expectsIt_111 k_ic_1 ?_
            refine Go.goto X 116 dX4_expectsIt_112 (by decide) ?_
            exact Go.nret X E rfl dX4_expectsIt_116 ⟨rv (b2i_t (by simp [expP, betP, h7, h17, h81, h99, h108] <;> omega)), rfl⟩ rfl
      · --
        refine Go.iload_n X 0 dX4_expectsIt_84 rfl ?_
        exact Go.nret X E rfl dX4_expectsIt_85 ⟨rv (b2i_f (by simp [expP, betP, h7, h17, h81] <;> omega)), rfl⟩ rfl
    · --
      refine Go.aload_n X 0 dX4_expectsIt_20 rfl ?_
      refine Go.get X f_X4_expectsIt_111 0 (v := .int (nI (sA N))) rfl rfl dX4_expectsIt_21 ?_
      refine Go.iload_n X 2 dX4_expectsIt_24 rfl ?_
      refine Go.callSi X  (d_has g (sA N) m (by first | omega | (split <;> omega)) (by first | omega | (split <;> omega))) cal_X4_has [] rfl rfl gX4_expectsIt_X4_has rfl rfl rfl dX4_expectsIt_25 ?_
      refine Go.if_eqB X 72 dX4_expectsIt_28 (by decide) (fun h28 => ?_) (fun h28 => ?_)
      · --
        refine Go.iconst X (nI 0) dX4_expectsIt_72 k_ic_0 ?_
        refine Go.istore_n_new X dX4_expectsIt_73 (by decide) rfl ?_
        refine Go.aload_n X 1 dX4_expectsIt_74 rfl ?_
        refine Go.get X f_X4_expectsIt_23 0 (v := .ref (ad 5)) rfl rfl dX4_expectsIt_75 ?_
        refine Go.iload_n X 2 dX4_expectsIt_78 rfl ?_
        refine Go.ialdN X 5 (w := sK N) rfl (by first | omega | (split <;> omega)) rfl dX4_expectsIt_79 ?_
        refine Go.iconst X (nI 2) dX4_expectsIt_80 k_ic_2 ?_
        refine Go.icmp_neN X 86 dX4_expectsIt_81 (by decide) (by first | omega | (split <;> omega)) (by decide) (fun h81 => ?_) (fun h81 => ?_)
        · --
          refine Go.iload_n X 0 dX4_expectsIt_86 rfl ?_
          refine Go.if_ne X 111 dX4_expectsIt_87 (by decide) (fun h => absurd h (by decide)) (fun _ => ?_)
          refine Go.aload_n X 1 dX4_expectsIt_90 rfl ?_
          refine Go.iload_n X 2 dX4_expectsIt_91 rfl ?_
          refine Go.iload_n X 3 dX4_expectsIt_92 rfl ?_
          refine Go.callV0i X (d_canBe g ad N K b z le rf hd ln vl aw at1 tk so va lm ol ah lt lo i m (by exact hN) (by first | omega | (split <;> omega)) (by first | omega | (split <;> omega)) (by first | omega | (split <;> omega))) cal_X4_canBe gX4_expectsIt_X4_canBe (ci := 4) (q0 := 0) rfl rfl rfl rfl rfl dX4_expectsIt_93 ?_
          have f93_7 := can_512 hN aw i m
          refine Go.iconst X (nI 1) dX4_expectsIt_96 k_ic_1 ?_
          refine Go.iload_n X 3 dX4_expectsIt_97 rfl ?_
          have o16 : 2 ^ m < 2 ^ 9 := Nat.pow_lt_pow_right (by decide) hm
          refine Go.ishl_e X (nI (2 ^ m)) dX4_expectsIt_98 (nI_shl1 (by first | omega | (split <;> omega))) ?_
          refine Go.icmp_neN X 115 dX4_expectsIt_99 (by decide) (by first | omega | (split <;> omega)) (by first | omega | (split <;> omega)) (fun h99 => ?_) (fun h99 => ?_)
          · --
            refine Go.iconst X (nI 0) dX4_expectsIt_115 k_ic_0 ?_
            exact Go.nret X E rfl dX4_expectsIt_116 ⟨rv (b2i_f (by simp [expP, betP, h7, h17, h28, h81, h99] <;> omega)), rfl⟩ rfl
          · --
            refine Go.aload_n X 1 dX4_expectsIt_102 rfl ?_
            refine Go.iload_n X 2 dX4_expectsIt_103 rfl ?_
            refine Go.iload_n X 3 dX4_expectsIt_104 rfl ?_
            refine Go.callV0i X (d_sleeps g ad N K b z le rf hd ln vl aw at1 tk so va lm ol ah lt lo i m (by exact hN) (by first | omega | (split <;> omega)) (by first | omega | (split <;> omega))) cal_X4_sleeps gX4_expectsIt_X4_sleeps (ci := 4) (q0 := 0) rfl rfl rfl rfl rfl dX4_expectsIt_105 ?_
            refine Go.if_neB X 115 dX4_expectsIt_108 (by decide) (fun h108 => ?_) (fun h108 => ?_)
            · --
              refine Go.iconst X (nI 0) dX4_expectsIt_115 k_ic_0 ?_
              exact Go.nret X E rfl dX4_expectsIt_116 ⟨rv (b2i_f (by simp [expP, betP, h7, h17, h28, h81, h99, h108] <;> omega)), rfl⟩ rfl
            · --
              refine Go.iconst X (nI 1) dX4_expectsIt_111 k_ic_1 ?_
              refine Go.goto X 116 dX4_expectsIt_112 (by decide) ?_
              exact Go.nret X E rfl dX4_expectsIt_116 ⟨rv (b2i_t (by simp [expP, betP, h7, h17, h28, h81, h99, h108] <;> omega)), rfl⟩ rfl
        · --
          refine Go.iload_n X 0 dX4_expectsIt_84 rfl ?_
          exact Go.nret X E rfl dX4_expectsIt_85 ⟨rv (b2i_f (by simp [expP, betP, h7, h17, h28, h81] <;> omega)), rfl⟩ rfl
      · --
        refine Go.aload_n X 0 dX4_expectsIt_31 rfl ?_
        refine Go.get X f_X4_expectsIt_20 0 (v := .ref (ad 4)) rfl rfl dX4_expectsIt_32 ?_
        refine Go.iload_n X 2 dX4_expectsIt_35 rfl ?_
        refine Go.ialdN X 4 (w := sW N) rfl (by first | omega | (split <;> omega)) rfl dX4_expectsIt_36 ?_
        refine Go.if_leN X 72 dX4_expectsIt_37 (by decide) (by first | omega | (split <;> omega)) (fun h37 => ?_) (fun h37 => ?_)
        · --
          refine Go.iconst X (nI 0) dX4_expectsIt_72 k_ic_0 ?_
          refine Go.istore_n_new X dX4_expectsIt_73 (by decide) rfl ?_
          refine Go.aload_n X 1 dX4_expectsIt_74 rfl ?_
          refine Go.get X f_X4_expectsIt_23 0 (v := .ref (ad 5)) rfl rfl dX4_expectsIt_75 ?_
          refine Go.iload_n X 2 dX4_expectsIt_78 rfl ?_
          refine Go.ialdN X 5 (w := sK N) rfl (by first | omega | (split <;> omega)) rfl dX4_expectsIt_79 ?_
          refine Go.iconst X (nI 2) dX4_expectsIt_80 k_ic_2 ?_
          refine Go.icmp_neN X 86 dX4_expectsIt_81 (by decide) (by first | omega | (split <;> omega)) (by decide) (fun h81 => ?_) (fun h81 => ?_)
          · --
            refine Go.iload_n X 0 dX4_expectsIt_86 rfl ?_
            refine Go.if_ne X 111 dX4_expectsIt_87 (by decide) (fun h => absurd h (by decide)) (fun _ => ?_)
            refine Go.aload_n X 1 dX4_expectsIt_90 rfl ?_
            refine Go.iload_n X 2 dX4_expectsIt_91 rfl ?_
            refine Go.iload_n X 3 dX4_expectsIt_92 rfl ?_
            refine Go.callV0i X (d_canBe g ad N K b z le rf hd ln vl aw at1 tk so va lm ol ah lt lo i m (by exact hN) (by first | omega | (split <;> omega)) (by first | omega | (split <;> omega)) (by first | omega | (split <;> omega))) cal_X4_canBe gX4_expectsIt_X4_canBe (ci := 4) (q0 := 0) rfl rfl rfl rfl rfl dX4_expectsIt_93 ?_
            have f93_8 := can_512 hN aw i m
            refine Go.iconst X (nI 1) dX4_expectsIt_96 k_ic_1 ?_
            refine Go.iload_n X 3 dX4_expectsIt_97 rfl ?_
            have o16 : 2 ^ m < 2 ^ 9 := Nat.pow_lt_pow_right (by decide) hm
            refine Go.ishl_e X (nI (2 ^ m)) dX4_expectsIt_98 (nI_shl1 (by first | omega | (split <;> omega))) ?_
            refine Go.icmp_neN X 115 dX4_expectsIt_99 (by decide) (by first | omega | (split <;> omega)) (by first | omega | (split <;> omega)) (fun h99 => ?_) (fun h99 => ?_)
            · --
              refine Go.iconst X (nI 0) dX4_expectsIt_115 k_ic_0 ?_
              exact Go.nret X E rfl dX4_expectsIt_116 ⟨rv (b2i_f (by simp [expP, betP, h7, h17, h28, h37, h81, h99] <;> omega)), rfl⟩ rfl
            · --
              refine Go.aload_n X 1 dX4_expectsIt_102 rfl ?_
              refine Go.iload_n X 2 dX4_expectsIt_103 rfl ?_
              refine Go.iload_n X 3 dX4_expectsIt_104 rfl ?_
              refine Go.callV0i X (d_sleeps g ad N K b z le rf hd ln vl aw at1 tk so va lm ol ah lt lo i m (by exact hN) (by first | omega | (split <;> omega)) (by first | omega | (split <;> omega))) cal_X4_sleeps gX4_expectsIt_X4_sleeps (ci := 4) (q0 := 0) rfl rfl rfl rfl rfl dX4_expectsIt_105 ?_
              refine Go.if_neB X 115 dX4_expectsIt_108 (by decide) (fun h108 => ?_) (fun h108 => ?_)
              · --
                refine Go.iconst X (nI 0) dX4_expectsIt_115 k_ic_0 ?_
                exact Go.nret X E rfl dX4_expectsIt_116 ⟨rv (b2i_f (by simp [expP, betP, h7, h17, h28, h37, h81, h99, h108] <;> omega)), rfl⟩ rfl
              · --
                refine Go.iconst X (nI 1) dX4_expectsIt_111 k_ic_1 ?_
                refine Go.goto X 116 dX4_expectsIt_112 (by decide) ?_
                exact Go.nret X E rfl dX4_expectsIt_116 ⟨rv (b2i_t (by simp [expP, betP, h7, h17, h28, h37, h81, h99, h108] <;> omega)), rfl⟩ rfl
          · --
            refine Go.iload_n X 0 dX4_expectsIt_84 rfl ?_
            exact Go.nret X E rfl dX4_expectsIt_85 ⟨rv (b2i_f (by simp [expP, betP, h7, h17, h28, h37, h81] <;> omega)), rfl⟩ rfl
        · --
          refine Go.bipush X (nI 10) dX4_expectsIt_40 k_bp_10 ?_
          refine Go.aload_n X 0 dX4_expectsIt_42 rfl ?_
          refine Go.get X f_X4_expectsIt_20 0 (v := .ref (ad 4)) rfl rfl dX4_expectsIt_43 ?_
          refine Go.iload_n X 2 dX4_expectsIt_46 rfl ?_
          refine Go.ialdN X 4 (w := sW N) rfl (by first | omega | (split <;> omega)) rfl dX4_expectsIt_47 ?_
          refine Go.imul_e X (nI (10 * ((sW N) m))) dX4_expectsIt_48 (pk_mul _ _) ?_
          refine Go.aload_n X 0 dX4_expectsIt_49 rfl ?_
          refine Go.get X f_X4_expectsIt_26 0 (v := .ref (ad 6)) rfl rfl dX4_expectsIt_50 ?_
          refine Go.iload_n X 1 dX4_expectsIt_53 rfl ?_
          refine Go.ialdN X 6 (w := sO N) rfl (by first | omega | (split <;> omega)) rfl dX4_expectsIt_54 ?_
          refine Go.aload_n X 0 dX4_expectsIt_55 rfl ?_
          refine Go.aload_n X 0 dX4_expectsIt_56 rfl ?_
          refine Go.iload_n X 2 dX4_expectsIt_57 rfl ?_
          refine Go.callV0i X (d_still g ad N K b z le rf hd ln vl aw at1 tk so va lm ol ah lt lo m (by exact hN) (by first | omega | (split <;> omega))) cal_X4_still gX4_expectsIt_X4_still (ci := 4) (q0 := 0) rfl rfl rfl rfl rfl dX4_expectsIt_58 ?_
          have f58_9 := still_le (sA N) m
          refine Go.callV0i X (d_weights g ad N K b z le rf hd ln vl aw at1 tk so va lm ol ah lt lo (still (sA N) m) (by exact hN) (by first | omega | (split <;> omega))) cal_X4_weights gX4_expectsIt_X4_weights (ci := 4) (q0 := 0) rfl rfl rfl rfl rfl dX4_expectsIt_61 ?_
          have f61_10 := wsum_81 hN (still (sA N) m)
          have o14 := wsum_81 hN (still (sA N) m)
          have o15 : sO N i * wsum (sW N) (still (sA N) m) (sN N) ≤ 9 * 81 := Nat.mul_le_mul o12 o14
          refine Go.imul_e X (nI (((sO N) i) * (wsum (sW N) (still (sA N) m) (sN N)))) dX4_expectsIt_64 (pk_mul _ _) ?_
          refine Go.icmp_ltN X 72 dX4_expectsIt_65 (by decide) (by first | omega | (split <;> omega)) (by first | omega | (split <;> omega)) (fun h65 => ?_) (fun h65 => ?_)
          · --
            refine Go.iconst X (nI 0) dX4_expectsIt_72 k_ic_0 ?_
            refine Go.istore_n_new X dX4_expectsIt_73 (by decide) rfl ?_
            refine Go.aload_n X 1 dX4_expectsIt_74 rfl ?_
            refine Go.get X f_X4_expectsIt_23 0 (v := .ref (ad 5)) rfl rfl dX4_expectsIt_75 ?_
            refine Go.iload_n X 2 dX4_expectsIt_78 rfl ?_
            refine Go.ialdN X 5 (w := sK N) rfl (by first | omega | (split <;> omega)) rfl dX4_expectsIt_79 ?_
            refine Go.iconst X (nI 2) dX4_expectsIt_80 k_ic_2 ?_
            refine Go.icmp_neN X 86 dX4_expectsIt_81 (by decide) (by first | omega | (split <;> omega)) (by decide) (fun h81 => ?_) (fun h81 => ?_)
            · --
              refine Go.iload_n X 0 dX4_expectsIt_86 rfl ?_
              refine Go.if_ne X 111 dX4_expectsIt_87 (by decide) (fun h => absurd h (by decide)) (fun _ => ?_)
              refine Go.aload_n X 1 dX4_expectsIt_90 rfl ?_
              refine Go.iload_n X 2 dX4_expectsIt_91 rfl ?_
              refine Go.iload_n X 3 dX4_expectsIt_92 rfl ?_
              refine Go.callV0i X (d_canBe g ad N K b z le rf hd ln vl aw at1 tk so va lm ol ah lt lo i m (by exact hN) (by first | omega | (split <;> omega)) (by first | omega | (split <;> omega)) (by first | omega | (split <;> omega))) cal_X4_canBe gX4_expectsIt_X4_canBe (ci := 4) (q0 := 0) rfl rfl rfl rfl rfl dX4_expectsIt_93 ?_
              have f93_11 := can_512 hN aw i m
              refine Go.iconst X (nI 1) dX4_expectsIt_96 k_ic_1 ?_
              refine Go.iload_n X 3 dX4_expectsIt_97 rfl ?_
              have o16 : 2 ^ m < 2 ^ 9 := Nat.pow_lt_pow_right (by decide) hm
              refine Go.ishl_e X (nI (2 ^ m)) dX4_expectsIt_98 (nI_shl1 (by first | omega | (split <;> omega))) ?_
              refine Go.icmp_neN X 115 dX4_expectsIt_99 (by decide) (by first | omega | (split <;> omega)) (by first | omega | (split <;> omega)) (fun h99 => ?_) (fun h99 => ?_)
              · --
                refine Go.iconst X (nI 0) dX4_expectsIt_115 k_ic_0 ?_
                exact Go.nret X E rfl dX4_expectsIt_116 ⟨rv (b2i_f (by simp [expP, betP, h7, h17, h28, h37, h65, h81, h99] <;> omega)), rfl⟩ rfl
              · --
                refine Go.aload_n X 1 dX4_expectsIt_102 rfl ?_
                refine Go.iload_n X 2 dX4_expectsIt_103 rfl ?_
                refine Go.iload_n X 3 dX4_expectsIt_104 rfl ?_
                refine Go.callV0i X (d_sleeps g ad N K b z le rf hd ln vl aw at1 tk so va lm ol ah lt lo i m (by exact hN) (by first | omega | (split <;> omega)) (by first | omega | (split <;> omega))) cal_X4_sleeps gX4_expectsIt_X4_sleeps (ci := 4) (q0 := 0) rfl rfl rfl rfl rfl dX4_expectsIt_105 ?_
                refine Go.if_neB X 115 dX4_expectsIt_108 (by decide) (fun h108 => ?_) (fun h108 => ?_)
                · --
                  refine Go.iconst X (nI 0) dX4_expectsIt_115 k_ic_0 ?_
                  exact Go.nret X E rfl dX4_expectsIt_116 ⟨rv (b2i_f (by simp [expP, betP, h7, h17, h28, h37, h65, h81, h99, h108] <;> omega)), rfl⟩ rfl
                · --
                  refine Go.iconst X (nI 1) dX4_expectsIt_111 k_ic_1 ?_
                  refine Go.goto X 116 dX4_expectsIt_112 (by decide) ?_
                  exact Go.nret X E rfl dX4_expectsIt_116 ⟨rv (b2i_t (by simp [expP, betP, h7, h17, h28, h37, h65, h81, h99, h108] <;> omega)), rfl⟩ rfl
            · --
              refine Go.iload_n X 0 dX4_expectsIt_84 rfl ?_
              exact Go.nret X E rfl dX4_expectsIt_85 ⟨rv (b2i_f (by simp [expP, betP, h7, h17, h28, h37, h65, h81] <;> omega)), rfl⟩ rfl
          · --
            refine Go.iconst X (nI 1) dX4_expectsIt_68 k_ic_1 ?_
            refine Go.goto X 73 dX4_expectsIt_69 (by decide) ?_
            refine Go.istore_n_new X dX4_expectsIt_73 (by decide) rfl ?_
            refine Go.aload_n X 1 dX4_expectsIt_74 rfl ?_
            refine Go.get X f_X4_expectsIt_23 0 (v := .ref (ad 5)) rfl rfl dX4_expectsIt_75 ?_
            refine Go.iload_n X 2 dX4_expectsIt_78 rfl ?_
            refine Go.ialdN X 5 (w := sK N) rfl (by first | omega | (split <;> omega)) rfl dX4_expectsIt_79 ?_
            refine Go.iconst X (nI 2) dX4_expectsIt_80 k_ic_2 ?_
            refine Go.icmp_neN X 86 dX4_expectsIt_81 (by decide) (by first | omega | (split <;> omega)) (by decide) (fun h81 => ?_) (fun h81 => ?_)
            · --
              refine Go.iload_n X 0 dX4_expectsIt_86 rfl ?_
              refine Go.if_ne X 111 dX4_expectsIt_87 (by decide) (fun _ => ?_) (fun h => absurd h (by decide))
              refine Go.iconst X (nI 1) dX4_expectsIt_111 k_ic_1 ?_
              refine Go.goto X 116 dX4_expectsIt_112 (by decide) ?_
              exact Go.nret X E rfl dX4_expectsIt_116 ⟨rv (b2i_t (by simp [expP, betP, h7, h17, h28, h37, h65, h81] <;> omega)), rfl⟩ rfl
            · --
              refine Go.iload_n X 0 dX4_expectsIt_84 rfl ?_
              exact Go.nret X E rfl dX4_expectsIt_85 ⟨rv (b2i_t (by simp [expP, betP, h7, h17, h28, h37, h65, h81] <;> omega)), rfl⟩ rfl
set_option maxHeartbeats 4000000 in
set_option maxRecDepth 100000 in
theorem d_expected (g : gT) (ad : Nat → Nat) (N : Sch) (K : Sch) (b : Bool) (z : Nat) (le : Nat → Nat) (rf : Nat → Int32) (hd : Nat → Int32) (ln : Nat → Nat) (vl : Nat → Nat → Int64) (aw : Nat) (at1 : Nat) (tk : Nat) (so : Int32) (va : Int32) (lm : Nat → Nat) (ol : Nat → Int32) (ah : Nat → Int32) (lt : Int32) (lo : Nat → Int32) (i : Nat) (hN : sOk N) (hi : i < 6) (ha : aw ≤ 6) : Cw g yX4_expected wsX4_expected 5 116 [.ref (ad 0), .int (nI i)] (mdW g ad (N, K, b, z, le, rf, hd, ln, vl) (aw, at1, tk, so, va, lm, ol, ah, lt, lo)) (some (.int (nI (expd N aw i)))) (mdW g ad (N, K, b, z, le, rf, hd, ln, vl) (aw, at1, tk, so, va, lm, ol, ah, lt, lo)) := by
  refine Ct.start (cc := cX4_expected) (nL := 4) (ret := (some .int)) (own := RX4) (by decide) rfl rfl rfl ?_
  intro Γ X E
  show Go Γ g 4 (rmC 5 116) 0 0 (mdW g ad (N, K, b, z, le, rf, hd, ln, vl) (aw, at1, tk, so, va, lm, ol, ah, lt, lo)) 0 [(0, .ref (ad 0)), (1, .int (nI i))] []
  obtain ⟨o1, o2, o3, o4, o5, o6, o7, o8⟩ := id hN
  have o9 := p2_9 o2
  have o10 := sA_512 hN
  refine Go.iconst X (nI 0) dX4_expected_0 k_ic_0 ?_
  refine Go.istore_n_new X dX4_expected_1 (by decide) rfl ?_
  refine Go.iconst X (nI 0) dX4_expected_2 k_ic_0 ?_
  refine Go.istore_n_new X dX4_expected_3 (by decide) rfl ?_
  have L4 : ∀ (f4 : Nat) (k : Nat) (hk : k ≤ sN N) (hf4 : sN N - k < f4), Go Γ g 4 (rmC 5 116) 0 0 (mdW g ad (N, K, b, z, le, rf, hd, ln, vl) (aw, at1, tk, so, va, lm, ol, ah, lt, lo)) 4 [(3, .int (nI k)), (2, .int (nI (bts (expP N aw i) k))), (0, .ref (ad 0)), (1, .int (nI i))] [] := by
    intro f4
    induction f4 with
    | zero => intro k hk hf4; exact absurd hf4 (Nat.not_lt_zero _)
    | succ f4 ih4 =>
      intro k hk hf4
      refine Go.iload_n X 0 dX4_expected_4 rfl ?_
      refine Go.aload_n X 2 dX4_expected_5 rfl ?_
      refine Go.get X f_X4_expected_66 0 (v := .int (nI (sN N))) rfl rfl dX4_expected_6 ?_
      refine Go.icmp_geN X 33 dX4_expected_9 (by decide) (by first | omega | (split <;> omega)) (by first | omega | (split <;> omega)) (fun h9 => ?_) (fun h9 => ?_)
      · --
        refine Go.iload_n X 1 dX4_expected_33 rfl ?_
        exact Go.iret X E dX4_expected_34 ⟨rv (congrArg nI (show bts (expP N aw i) k = expd N aw i from by rw [show k = sN N by omega]; rfl)), rfl⟩ rfl
      · --
        refine Go.aload_n X 2 dX4_expected_12 rfl ?_
        refine Go.iload_n X 3 dX4_expected_13 rfl ?_
        refine Go.iload_n X 0 dX4_expected_14 rfl ?_
        refine Go.callV0i X (d_expectsIt g ad N K b z le rf hd ln vl aw at1 tk so va lm ol ah lt lo i k (by exact hN) (by first | omega | (split <;> omega)) (by first | omega | (split <;> omega)) (by first | omega | (split <;> omega))) cal_X4_expectsIt gX4_expected_X4_expectsIt (ci := 4) (q0 := 0) rfl rfl rfl rfl rfl dX4_expected_15 ?_
        refine Go.if_eqB X 27 dX4_expected_18 (by decide) (fun h18 => ?_) (fun h18 => ?_)
        · --
          refine Go.iinc_0 X (nI (k + 1)) dX4_expected_27 (by decide) rfl (show nI k + Int32.ofInt 1 = nI (k + 1) from nI_add _ 1) ?_
          refine Go.goto X 4 dX4_expected_30 (by decide) ?_
          refine Go.lv_1 (congrArg (fun z => Value.int (nI z)) (show bts (expP N aw i) k = bts (expP N aw i) (k + 1) from by simp [bts, h18])) ?_
          exact ih4 (k + 1) (by first | omega | (split <;> omega)) (by first | omega | (split <;> omega))
        · --
          refine Go.iload_n X 1 dX4_expected_21 rfl ?_
          refine Go.iconst X (nI 1) dX4_expected_22 k_ic_1 ?_
          refine Go.iload_n X 0 dX4_expected_23 rfl ?_
          refine Go.ishl_e X (nI (2 ^ k)) dX4_expected_24 (nI_shl1 (by first | omega | (split <;> omega))) ?_
          refine Go.ior_e X (nI ((bts (expP N aw i) k) ||| (2 ^ k))) dX4_expected_25 (nI_or _ _) ?_
          refine Go.istore_n_1 X dX4_expected_26 (by decide) rfl ?_
          refine Go.iinc_0 X (nI (k + 1)) dX4_expected_27 (by decide) rfl (show nI k + Int32.ofInt 1 = nI (k + 1) from nI_add _ 1) ?_
          refine Go.goto X 4 dX4_expected_30 (by decide) ?_
          refine Go.lv_1 (congrArg (fun z => Value.int (nI z)) (show (bts (expP N aw i) k) ||| (2 ^ k) = bts (expP N aw i) (k + 1) from by simp [bts, h18])) ?_
          exact ih4 (k + 1) (by first | omega | (split <;> omega)) (by first | omega | (split <;> omega))
  refine Go.lv_1 (congrArg (fun z => Value.int (nI z)) (show 0 = bts (expP N aw i) 0 from by rfl)) ?_
  exact L4 (sN N - 0 + 1) 0 (by first | omega | (split <;> omega)) (Nat.lt_succ_self _)
set_option maxHeartbeats 4000000 in
set_option maxRecDepth 100000 in
theorem d_whoExpects (g : gT) (ad : Nat → Nat) (N : Sch) (K : Sch) (b : Bool) (z : Nat) (le : Nat → Nat) (rf : Nat → Int32) (hd : Nat → Int32) (ln : Nat → Nat) (vl : Nat → Nat → Int64) (aw : Nat) (at1 : Nat) (tk : Nat) (so : Int32) (va : Int32) (lm : Nat → Nat) (ol : Nat → Int32) (ah : Nat → Int32) (lt : Int32) (lo : Nat → Int32) (m : Nat) (hN : sOk N) (hm : m < 9) (ha : aw ≤ 6) : Cw g yX4_whoExpects wsX4_whoExpects 5 116 [.ref (ad 0), .int (nI m)] (mdW g ad (N, K, b, z, le, rf, hd, ln, vl) (aw, at1, tk, so, va, lm, ol, ah, lt, lo)) (some (.int (nI (whoE N aw m)))) (mdW g ad (N, K, b, z, le, rf, hd, ln, vl) (aw, at1, tk, so, va, lm, ol, ah, lt, lo)) := by
  refine Ct.start (cc := cX4_whoExpects) (nL := 4) (ret := (some .int)) (own := RX4) (by decide) rfl rfl rfl ?_
  intro Γ X E
  show Go Γ g 4 (rmC 5 116) 0 0 (mdW g ad (N, K, b, z, le, rf, hd, ln, vl) (aw, at1, tk, so, va, lm, ol, ah, lt, lo)) 0 [(0, .ref (ad 0)), (1, .int (nI m))] []
  obtain ⟨o1, o2, o3, o4, o5, o6, o7, o8⟩ := id hN
  have o9 := p2_9 o2
  have o10 := sA_512 hN
  refine Go.iconst X (nI 0) dX4_whoExpects_0 k_ic_0 ?_
  refine Go.istore_n_new X dX4_whoExpects_1 (by decide) rfl ?_
  refine Go.iconst X (nI 0) dX4_whoExpects_2 k_ic_0 ?_
  refine Go.istore_n_new X dX4_whoExpects_3 (by decide) rfl ?_
  have L4 : ∀ (f4 : Nat) (k : Nat) (hk : k ≤ sP N) (hf4 : sP N - k < f4), Go Γ g 4 (rmC 5 116) 0 0 (mdW g ad (N, K, b, z, le, rf, hd, ln, vl) (aw, at1, tk, so, va, lm, ol, ah, lt, lo)) 4 [(3, .int (nI k)), (2, .int (nI (bts (fun i => i != aw && expP N aw i m) k))), (0, .ref (ad 0)), (1, .int (nI m))] [] := by
    intro f4
    induction f4 with
    | zero => intro k hk hf4; exact absurd hf4 (Nat.not_lt_zero _)
    | succ f4 ih4 =>
      intro k hk hf4
      refine Go.iload_n X 0 dX4_whoExpects_4 rfl ?_
      refine Go.aload_n X 2 dX4_whoExpects_5 rfl ?_
      refine Go.get X f_X4_whoExpects_59 0 (v := .int (nI (sP N))) rfl rfl dX4_whoExpects_6 ?_
      refine Go.icmp_geN X 41 dX4_whoExpects_9 (by decide) (by first | omega | (split <;> omega)) (by first | omega | (split <;> omega)) (fun h9 => ?_) (fun h9 => ?_)
      · --
        refine Go.iload_n X 1 dX4_whoExpects_41 rfl ?_
        exact Go.iret X E dX4_whoExpects_42 ⟨rv (congrArg nI (show bts (fun i => i != aw && expP N aw i m) k = whoE N aw m from by rw [show k = sP N by omega]; rfl)), rfl⟩ rfl
      · --
        refine Go.iload_n X 0 dX4_whoExpects_12 rfl ?_
        refine Go.aload_n X 2 dX4_whoExpects_13 rfl ?_
        refine Go.get X f_X4_whoExpects_55 0 (v := .int (awI aw)) rfl rfl dX4_whoExpects_14 ?_
        refine Go.icmp_eq X 35 dX4_whoExpects_17 (by decide) (fun h17 => ?_) (fun h17 => ?_)
        · --
          refine Go.iinc_0 X (nI (k + 1)) dX4_whoExpects_35 (by decide) rfl (show nI k + Int32.ofInt 1 = nI (k + 1) from nI_add _ 1) ?_
          refine Go.goto X 4 dX4_whoExpects_38 (by decide) ?_
          refine Go.lv_1 (congrArg (fun z => Value.int (nI z)) (show bts (fun i => i != aw && expP N aw i m) k = bts (fun i => i != aw && expP N aw i m) (k + 1) from by have q := (aw_eq (show k < 6 by omega) ha).mp h17; simp [bts, q])) ?_
          exact ih4 (k + 1) (by first | omega | (split <;> omega)) (by first | omega | (split <;> omega))
        · --
          refine Go.aload_n X 2 dX4_whoExpects_20 rfl ?_
          refine Go.iload_n X 0 dX4_whoExpects_21 rfl ?_
          refine Go.iload_n X 3 dX4_whoExpects_22 rfl ?_
          refine Go.callV0i X (d_expectsIt g ad N K b z le rf hd ln vl aw at1 tk so va lm ol ah lt lo k m (by exact hN) (by first | omega | (split <;> omega)) (by first | omega | (split <;> omega)) (by first | omega | (split <;> omega))) cal_X4_expectsIt gX4_whoExpects_X4_expectsIt (ci := 4) (q0 := 0) rfl rfl rfl rfl rfl dX4_whoExpects_23 ?_
          refine Go.if_eqB X 35 dX4_whoExpects_26 (by decide) (fun h26 => ?_) (fun h26 => ?_)
          · --
            refine Go.iinc_0 X (nI (k + 1)) dX4_whoExpects_35 (by decide) rfl (show nI k + Int32.ofInt 1 = nI (k + 1) from nI_add _ 1) ?_
            refine Go.goto X 4 dX4_whoExpects_38 (by decide) ?_
            refine Go.lv_1 (congrArg (fun z => Value.int (nI z)) (show bts (fun i => i != aw && expP N aw i m) k = bts (fun i => i != aw && expP N aw i m) (k + 1) from by have q : ¬ k = aw := fun e => h17 ((aw_eq (show k < 6 by omega) ha).mpr e); simp [bts, q, h26])) ?_
            exact ih4 (k + 1) (by first | omega | (split <;> omega)) (by first | omega | (split <;> omega))
          · --
            refine Go.iload_n X 1 dX4_whoExpects_29 rfl ?_
            refine Go.iconst X (nI 1) dX4_whoExpects_30 k_ic_1 ?_
            refine Go.iload_n X 0 dX4_whoExpects_31 rfl ?_
            refine Go.ishl_e X (nI (2 ^ k)) dX4_whoExpects_32 (nI_shl1 (by first | omega | (split <;> omega))) ?_
            refine Go.ior_e X (nI ((bts (fun i => i != aw && expP N aw i m) k) ||| (2 ^ k))) dX4_whoExpects_33 (nI_or _ _) ?_
            refine Go.istore_n_1 X dX4_whoExpects_34 (by decide) rfl ?_
            refine Go.iinc_0 X (nI (k + 1)) dX4_whoExpects_35 (by decide) rfl (show nI k + Int32.ofInt 1 = nI (k + 1) from nI_add _ 1) ?_
            refine Go.goto X 4 dX4_whoExpects_38 (by decide) ?_
            refine Go.lv_1 (congrArg (fun z => Value.int (nI z)) (show (bts (fun i => i != aw && expP N aw i m) k) ||| (2 ^ k) = bts (fun i => i != aw && expP N aw i m) (k + 1) from by have q : ¬ k = aw := fun e => h17 ((aw_eq (show k < 6 by omega) ha).mpr e); simp [bts, q, h26])) ?_
            exact ih4 (k + 1) (by first | omega | (split <;> omega)) (by first | omega | (split <;> omega))
  refine Go.lv_1 (congrArg (fun z => Value.int (nI z)) (show 0 = bts (fun i => i != aw && expP N aw i m) 0 from by rfl)) ?_
  exact L4 (sP N - 0 + 1) 0 (by first | omega | (split <;> omega)) (Nat.lt_succ_self _)
set_option maxHeartbeats 4000000 in
set_option maxRecDepth 100000 in
theorem d_bySurprise (g : gT) (ad : Nat → Nat) (N : Sch) (K : Sch) (b : Bool) (z : Nat) (le : Nat → Nat) (rf : Nat → Int32) (hd : Nat → Int32) (ln : Nat → Nat) (vl : Nat → Nat → Int64) (aw : Nat) (at1 : Nat) (tk : Nat) (so : Int32) (va : Int32) (lm : Nat → Nat) (ol : Nat → Int32) (ah : Nat → Int32) (lt : Int32) (lo : Nat → Int32) (hN : sOk N) (ha : aw ≤ 6) : Cw g yX4_bySurprise wsX4_bySurprise 6 139 [.ref (ad 0)] (mdW g ad (N, K, b, z, le, rf, hd, ln, vl) (aw, at1, tk, so, va, lm, ol, ah, lt, lo)) (some (.int (nI (sur N aw)))) (mdW g ad (N, K, b, z, le, rf, hd, ln, vl) (aw, at1, tk, so, va, lm, ol, ah, lt, lo)) := by
  refine Ct.start (cc := cX4_bySurprise) (nL := 3) (ret := (some .int)) (own := RX4) (by decide) rfl rfl rfl ?_
  intro Γ X E
  show Go Γ g 3 (rmC 6 139) 0 0 (mdW g ad (N, K, b, z, le, rf, hd, ln, vl) (aw, at1, tk, so, va, lm, ol, ah, lt, lo)) 0 [(0, .ref (ad 0))] []
  obtain ⟨o1, o2, o3, o4, o5, o6, o7, o8⟩ := id hN
  have o9 := p2_9 o2
  have o10 := sA_512 hN
  refine Go.iconst X (nI 0) dX4_bySurprise_0 k_ic_0 ?_
  refine Go.istore_n_new X dX4_bySurprise_1 (by decide) rfl ?_
  refine Go.iconst X (nI 0) dX4_bySurprise_2 k_ic_0 ?_
  refine Go.istore_n_new X dX4_bySurprise_3 (by decide) rfl ?_
  have L4 : ∀ (f4 : Nat) (k : Nat) (hk : k ≤ sN N) (hf4 : sN N - k < f4), Go Γ g 3 (rmC 6 139) 0 0 (mdW g ad (N, K, b, z, le, rf, hd, ln, vl) (aw, at1, tk, so, va, lm, ol, ah, lt, lo)) 4 [(2, .int (nI k)), (1, .int (nI (bts (fun m => (sA N).testBit m && whoE N aw m == 0) k))), (0, .ref (ad 0))] [] := by
    intro f4
    induction f4 with
    | zero => intro k hk hf4; exact absurd hf4 (Nat.not_lt_zero _)
    | succ f4 ih4 =>
      intro k hk hf4
      refine Go.iload_n X 0 dX4_bySurprise_4 rfl ?_
      refine Go.aload_n X 2 dX4_bySurprise_5 rfl ?_
      refine Go.get X f_X4_bySurprise_66 0 (v := .int (nI (sN N))) rfl rfl dX4_bySurprise_6 ?_
      refine Go.icmp_geN X 43 dX4_bySurprise_9 (by decide) (by first | omega | (split <;> omega)) (by first | omega | (split <;> omega)) (fun h9 => ?_) (fun h9 => ?_)
      · --
        refine Go.iload_n X 1 dX4_bySurprise_43 rfl ?_
        exact Go.iret X E dX4_bySurprise_44 ⟨rv (congrArg nI (show bts (fun m => (sA N).testBit m && whoE N aw m == 0) k = sur N aw from by rw [show k = sN N by omega]; rfl)), rfl⟩ rfl
      · --
        refine Go.aload_n X 2 dX4_bySurprise_12 rfl ?_
        refine Go.get X f_X4_bySurprise_111 0 (v := .int (nI (sA N))) rfl rfl dX4_bySurprise_13 ?_
        refine Go.iload_n X 0 dX4_bySurprise_16 rfl ?_
        refine Go.callSi X  (d_has g (sA N) k (by first | omega | (split <;> omega)) (by first | omega | (split <;> omega))) cal_X4_has [] rfl rfl gX4_bySurprise_X4_has rfl rfl rfl dX4_bySurprise_17 ?_
        refine Go.if_eqB X 37 dX4_bySurprise_20 (by decide) (fun h20 => ?_) (fun h20 => ?_)
        · --
          refine Go.iinc_0 X (nI (k + 1)) dX4_bySurprise_37 (by decide) rfl (show nI k + Int32.ofInt 1 = nI (k + 1) from nI_add _ 1) ?_
          refine Go.goto X 4 dX4_bySurprise_40 (by decide) ?_
          refine Go.lv_1 (congrArg (fun z => Value.int (nI z)) (show bts (fun m => (sA N).testBit m && whoE N aw m == 0) k = bts (fun m => (sA N).testBit m && whoE N aw m == 0) (k + 1) from by simp [bts, h20])) ?_
          exact ih4 (k + 1) (by first | omega | (split <;> omega)) (by first | omega | (split <;> omega))
        · --
          refine Go.aload_n X 2 dX4_bySurprise_23 rfl ?_
          refine Go.iload_n X 0 dX4_bySurprise_24 rfl ?_
          refine Go.callV0i X (d_whoExpects g ad N K b z le rf hd ln vl aw at1 tk so va lm ol ah lt lo k (by exact hN) (by first | omega | (split <;> omega)) (by first | omega | (split <;> omega))) cal_X4_whoExpects gX4_bySurprise_X4_whoExpects (ci := 4) (q0 := 0) rfl rfl rfl rfl rfl dX4_bySurprise_25 ?_
          have f25_1 := whoE_64 hN aw k
          refine Go.if_neN X 37 dX4_bySurprise_28 (by decide) (by first | omega | (split <;> omega)) (fun h28 => ?_) (fun h28 => ?_)
          · --
            refine Go.iinc_0 X (nI (k + 1)) dX4_bySurprise_37 (by decide) rfl (show nI k + Int32.ofInt 1 = nI (k + 1) from nI_add _ 1) ?_
            refine Go.goto X 4 dX4_bySurprise_40 (by decide) ?_
            refine Go.lv_1 (congrArg (fun z => Value.int (nI z)) (show bts (fun m => (sA N).testBit m && whoE N aw m == 0) k = bts (fun m => (sA N).testBit m && whoE N aw m == 0) (k + 1) from by simp [bts, h20, h28])) ?_
            exact ih4 (k + 1) (by first | omega | (split <;> omega)) (by first | omega | (split <;> omega))
          · --
            refine Go.iload_n X 1 dX4_bySurprise_31 rfl ?_
            refine Go.iconst X (nI 1) dX4_bySurprise_32 k_ic_1 ?_
            refine Go.iload_n X 0 dX4_bySurprise_33 rfl ?_
            refine Go.ishl_e X (nI (2 ^ k)) dX4_bySurprise_34 (nI_shl1 (by first | omega | (split <;> omega))) ?_
            refine Go.ior_e X (nI ((bts (fun m => (sA N).testBit m && whoE N aw m == 0) k) ||| (2 ^ k))) dX4_bySurprise_35 (nI_or _ _) ?_
            refine Go.istore_n_1 X dX4_bySurprise_36 (by decide) rfl ?_
            refine Go.iinc_0 X (nI (k + 1)) dX4_bySurprise_37 (by decide) rfl (show nI k + Int32.ofInt 1 = nI (k + 1) from nI_add _ 1) ?_
            refine Go.goto X 4 dX4_bySurprise_40 (by decide) ?_
            refine Go.lv_1 (congrArg (fun z => Value.int (nI z)) (show (bts (fun m => (sA N).testBit m && whoE N aw m == 0) k) ||| (2 ^ k) = bts (fun m => (sA N).testBit m && whoE N aw m == 0) (k + 1) from by simp [bts, h20, h28])) ?_
            exact ih4 (k + 1) (by first | omega | (split <;> omega)) (by first | omega | (split <;> omega))
  refine Go.lv_1 (congrArg (fun z => Value.int (nI z)) (show 0 = bts (fun m => (sA N).testBit m && whoE N aw m == 0) 0 from by rfl)) ?_
  exact L4 (sN N - 0 + 1) 0 (by first | omega | (split <;> omega)) (Nat.lt_succ_self _)
