/-! 05.n1.tape -/
theorem cal_X2_takeNumber : Cal yX2_takeNumber wsX2_takeNumber cX2_takeNumber 4 (some .int) RX2 2 := ⟨⟨_, rfl⟩, by decide +kernel⟩
theorem f_X2_readNever_76 : FL wsX2_readNever RX2 76 0 0 := ⟨RX0, TX0, 11, rfl, fun _ h => List.mem_cons_of_mem _ (List.mem_append_left _ (List.mem_append_right _ h)), by decide, List.mem_of_getElem? (i := 1) (by decide +kernel)⟩
theorem f_X2_readNever_79 : FL wsX2_readNever RX2 79 0 1 := ⟨RX0, TX0, 11, rfl, fun _ h => List.mem_cons_of_mem _ (List.mem_append_left _ (List.mem_append_right _ h)), by decide, List.mem_of_getElem? (i := 2) (by decide +kernel)⟩
theorem f_X2_readSaid_85 : FL wsX2_readSaid RX2 85 0 3 := ⟨RX0, TX0, 11, rfl, fun _ h => List.mem_cons_of_mem _ (List.mem_append_left _ (List.mem_append_right _ h)), by decide, List.mem_of_getElem? (i := 1) (by decide +kernel)⟩
theorem f_X2_readWeight_76 : FL wsX2_readWeight RX2 76 0 0 := ⟨RX0, TX0, 11, rfl, fun _ h => List.mem_cons_of_mem _ (List.mem_append_left _ (List.mem_append_right _ h)), by decide, List.mem_of_getElem? (i := 1) (by decide +kernel)⟩
theorem f_X2_readWeight_82 : FL wsX2_readWeight RX2 82 0 2 := ⟨RX0, TX0, 11, rfl, fun _ h => List.mem_cons_of_mem _ (List.mem_append_left _ (List.mem_append_right _ h)), by decide, List.mem_of_getElem? (i := 2) (by decide +kernel)⟩
theorem f_X2_readPerson_87 : FL wsX2_readPerson RX2 87 0 4 := ⟨RX0, TX0, 11, rfl, fun _ h => List.mem_cons_of_mem _ (List.mem_append_left _ (List.mem_append_right _ h)), by decide, List.mem_of_getElem? (i := 1) (by decide +kernel)⟩
set_option maxHeartbeats 4000000 in
set_option maxRecDepth 100000 in
theorem c_readTerm (g : gT) (a : Nat) (q : Nat) (z : Nat) (le : Nat → Nat) (ts : Nat) (te : Nat) (tk : Nat) (b : Nat) (rw : Nat) (rk : Nat) (rr : Nat) (S : Sch) (hz : z ≤ 250) (hl : ∀ i, i < 250 → le i < 256) (ht : ts ≤ te) (he : te ≤ z) (hk : tk ≤ 4) (hS : sOk S) : Cw g yX2_readTerm wsX2_readTerm 3 69 [.ref a, .ref b] (tsW g a q z le b rw rk rr (S, ts, te, tk)) (some (.int (b2i (rdT le z S te).1))) (tsW g a q z le b rw rk rr (rdT le z S te).2) := by
  refine Ct.start (cc := cX2_readTerm) (nL := 3) (ret := (some .boolean)) (own := RX2) (by decide) rfl rfl rfl ?_
  intro Γ X E
  show Go Γ g 3 (rmC 3 69) 0 0 (tsW g a q z le b rw rk rr (S, ts, te, tk)) 0 [(0, .ref a), (1, .ref b)] []
  obtain ⟨o1, o2, o3, o4, o5, o6, o7, o8⟩ := id hS
  have o9 := p2_9 o2
  have o10 := sA_512 hS
  refine Go.aload_n X 0 dX2_readTerm_0 rfl ?_
  refine Go.callVvw X (c_step g a q z le ts te tk (by first | omega | (split <;> omega)) (by first | omega | (split <;> omega)) (by first | omega | (split <;> omega))) cal_X2_step [0, 1] rfl rfl gX2_readTerm_X2_step (ci := 2) (q0 := 0) rfl rfl rfl rfl rfl dX2_readTerm_1 (M9 := tsW g a q z le b rw rk rr (S, skp le z te, tkE le z te, tkK le z te)) rfl ?_
  have f1_1 := st_le (le := le) (z := z) (e := te) (by omega)
  have f1_2 := tkK_le le z te
  refine Go.aload_n X 0 dX2_readTerm_4 rfl ?_
  refine Go.iconst X (nI 1) dX2_readTerm_5 k_ic_1 ?_
  refine Go.bipush X (nI 9) dX2_readTerm_6 k_bp_9 ?_
  refine Go.callViw X (c_takeNumber g a q z le (skp le z te) (tkE le z te) (tkK le z te) (nI 1) (nI 9) (by first | omega | (split <;> omega)) (by first | omega | (split <;> omega)) (by first | omega | (split <;> omega)) (by first | omega | (split <;> omega)) (by first | omega | (split <;> omega))) cal_X2_takeNumber [0, 1] rfl rfl gX2_readTerm_X2_takeNumber (ci := 2) (q0 := 0) rfl rfl rfl rfl rfl dX2_readTerm_8 (M9 := tsW g a q z le b rw rk rr (S, (nmS le z ((skp le z te), (tkE le z te), (tkK le z te)) (nI 1) (nI 9)).1, (nmS le z ((skp le z te), (tkE le z te), (tkK le z te)) (nI 1) (nI 9)).2.1, (nmS le z ((skp le z te), (tkE le z te), (tkK le z te)) (nI 1) (nI 9)).2.2)) rfl ?_
  have f8_3 := nmS_le (z := z) le (nI 1) (nI 9) (p := ((skp le z te), (tkE le z te), (tkK le z te))) ⟨show (skp le z te) ≤ (tkE le z te) by omega, show (tkE le z te) ≤ z by omega, show (tkK le z te) ≤ 4 by omega⟩
  refine Go.istore_n_new X dX2_readTerm_11 (by decide) rfl ?_
  refine Go.iload_n X 0 dX2_readTerm_12 rfl ?_
  refine Go.iconst X ((-1 : Int32)) dX2_readTerm_13 k_ic_m1 ?_
  refine Go.icmp_ne X 19 dX2_readTerm_14 (by decide) (fun h14 => ?_) (fun h14 => ?_)
  · --
    obtain ⟨j, hj, ej⟩ := numH_at (a := 1) (b := 9) (by omega) (by omega) h14
    refine Go.lv_0 (w := .int (nI j)) (by rw [ej]) ?_
    refine Go.aload_n X 2 dX2_readTerm_19 rfl ?_
    refine Go.iload_n X 0 dX2_readTerm_20 rfl ?_
    refine Go.callVvw X (c_beginTerm g b rw rk rr S j (by first | omega | (split <;> omega))) cal_X0_beginTerm [2, 3, 4, 5] rfl rfl gX2_readTerm_X0_beginTerm (ci := 0) (q0 := 2) rfl rfl rfl rfl rfl dX2_readTerm_21 (M9 := tsW g a q z le b rw rk rr ((j, 2 ^ j - 1, one9, sD S, sP S, sK S, sO S, sG S, sT S, sF S, sX S), (nmS le z ((skp le z te), (tkE le z te), (tkK le z te)) (nI 1) (nI 9)).1, (nmS le z ((skp le z te), (tkE le z te), (tkK le z te)) (nI 1) (nI 9)).2.1, (nmS le z ((skp le z te), (tkE le z te), (tkK le z te)) (nI 1) (nI 9)).2.2)) rfl ?_
    refine Go.iconst X (nI 1) dX2_readTerm_24 k_ic_1 ?_
    have e9 : rdT le z S te = (true, ((j, 2 ^ j - 1, one9, sD S, sP S, sK S, sO S, sG S, sT S, sF S, sX S), (nmS le z ((skp le z te), (tkE le z te), (tkK le z te)) (nI 1) (nI 9)).1, (nmS le z ((skp le z te), (tkE le z te), (tkK le z te)) (nI 1) (nI 9)).2.1, (nmS le z ((skp le z te), (tkE le z te), (tkK le z te)) (nI 1) (nI 9)).2.2)) := by exact rdT_y ej (by omega)
    exact Go.nret X E rfl dX2_readTerm_25 ⟨by rw [e9]; rfl, by rw [e9]⟩ rfl
  · --
    refine Go.iconst X (nI 0) dX2_readTerm_17 k_ic_0 ?_
    have e9 : rdT le z S te = (false, (S, (nmS le z ((skp le z te), (tkE le z te), (tkK le z te)) (nI 1) (nI 9)).1, (nmS le z ((skp le z te), (tkE le z te), (tkK le z te)) (nI 1) (nI 9)).2.1, (nmS le z ((skp le z te), (tkE le z te), (tkK le z te)) (nI 1) (nI 9)).2.2)) := by exact rdT_n h14
    exact Go.nret X E rfl dX2_readTerm_18 ⟨by rw [e9]; rfl, by rw [e9]⟩ rfl
set_option maxHeartbeats 4000000 in
set_option maxRecDepth 100000 in
theorem c_readNever (g : gT) (a : Nat) (q : Nat) (z : Nat) (le : Nat → Nat) (ts : Nat) (te : Nat) (tk : Nat) (b : Nat) (rw : Nat) (rk : Nat) (rr : Nat) (S : Sch) (hz : z ≤ 250) (hl : ∀ i, i < 250 → le i < 256) (ht : ts ≤ te) (he : te ≤ z) (hk : tk ≤ 4) (hS : sOk S) : Cw g yX2_readNever wsX2_readNever 3 69 [.ref a, .ref b] (tsW g a q z le b rw rk rr (S, ts, te, tk)) (some (.int (b2i (rdN le z S te).1))) (tsW g a q z le b rw rk rr (rdN le z S te).2) := by
  refine Ct.start (cc := cX2_readNever) (nL := 3) (ret := (some .boolean)) (own := RX2) (by decide) rfl rfl rfl ?_
  intro Γ X E
  show Go Γ g 3 (rmC 3 69) 0 0 (tsW g a q z le b rw rk rr (S, ts, te, tk)) 0 [(0, .ref a), (1, .ref b)] []
  obtain ⟨o1, o2, o3, o4, o5, o6, o7, o8⟩ := id hS
  have o9 := p2_9 o2
  have o10 := sA_512 hS
  refine Go.aload_n X 0 dX2_readNever_0 rfl ?_
  refine Go.callVvw X (c_step g a q z le ts te tk (by first | omega | (split <;> omega)) (by first | omega | (split <;> omega)) (by first | omega | (split <;> omega))) cal_X2_step [0, 1] rfl rfl gX2_readNever_X2_step (ci := 2) (q0 := 0) rfl rfl rfl rfl rfl dX2_readNever_1 (M9 := tsW g a q z le b rw rk rr (S, skp le z te, tkE le z te, tkK le z te)) rfl ?_
  have f1_1 := st_le (le := le) (z := z) (e := te) (by omega)
  have f1_2 := tkK_le le z te
  refine Go.aload_n X 0 dX2_readNever_4 rfl ?_
  refine Go.iconst X (nI 0) dX2_readNever_5 k_ic_0 ?_
  refine Go.aload_n X 1 dX2_readNever_6 rfl ?_
  refine Go.get X f_X2_readNever_76 2 (v := .int (nI (sN S))) rfl rfl dX2_readNever_7 ?_
  refine Go.iconst X (nI 1) dX2_readNever_10 k_ic_1 ?_
  refine Go.isub_e X (nI (sN S - 1)) dX2_readNever_11 (pk_sub (by first | omega | (split <;> omega))) ?_
  refine Go.callViw X (c_takeNumber g a q z le (skp le z te) (tkE le z te) (tkK le z te) (nI 0) (nI (sN S - 1)) (by first | omega | (split <;> omega)) (by first | omega | (split <;> omega)) (by first | omega | (split <;> omega)) (by first | omega | (split <;> omega)) (by first | omega | (split <;> omega))) cal_X2_takeNumber [0, 1] rfl rfl gX2_readNever_X2_takeNumber (ci := 2) (q0 := 0) rfl rfl rfl rfl rfl dX2_readNever_12 (M9 := tsW g a q z le b rw rk rr (S, (nmS le z ((skp le z te), (tkE le z te), (tkK le z te)) (nI 0) (nI (sN S - 1))).1, (nmS le z ((skp le z te), (tkE le z te), (tkK le z te)) (nI 0) (nI (sN S - 1))).2.1, (nmS le z ((skp le z te), (tkE le z te), (tkK le z te)) (nI 0) (nI (sN S - 1))).2.2)) rfl ?_
  have f12_3 := nmS_le (z := z) le (nI 0) (nI (sN S - 1)) (p := ((skp le z te), (tkE le z te), (tkK le z te))) ⟨show (skp le z te) ≤ (tkE le z te) by omega, show (tkE le z te) ≤ z by omega, show (tkK le z te) ≤ 4 by omega⟩
  refine Go.istore_n_new X dX2_readNever_15 (by decide) rfl ?_
  refine Go.iload_n X 0 dX2_readNever_16 rfl ?_
  refine Go.iconst X ((-1 : Int32)) dX2_readNever_17 k_ic_m1 ?_
  refine Go.icmp_ne X 23 dX2_readNever_18 (by decide) (fun h18 => ?_) (fun h18 => ?_)
  · --
    obtain ⟨j, hj, ej⟩ := numH_at (a := 0) (b := sN S - 1) (by omega) (by omega) h18
    refine Go.lv_0 (w := .int (nI j)) (by rw [ej]) ?_
    refine Go.aload_n X 2 dX2_readNever_23 rfl ?_
    refine Go.aload_n X 2 dX2_readNever_24 rfl ?_
    refine Go.get X f_X2_readNever_79 2 (v := .int (nI (sA S))) rfl rfl dX2_readNever_25 ?_
    refine Go.iconst X (nI 1) dX2_readNever_28 k_ic_1 ?_
    refine Go.iload_n X 0 dX2_readNever_29 rfl ?_
    refine Go.ishl_e X (nI (2 ^ j)) dX2_readNever_30 (nI_shl1 (by first | omega | (split <;> omega))) ?_
    refine Go.iconst X ((-1 : Int32)) dX2_readNever_31 k_ic_m1 ?_
    refine Go.ixor_e X (nI (2 ^ j) ^^^ (-1)) dX2_readNever_32 rfl ?_
    refine Go.iand_e X (nI (dif (sA S) (2 ^ j))) dX2_readNever_33 (nI_andnot _ _) ?_
    refine Go.putM X f_X2_readNever_79 fp_0_1 2 (tsW g a q z le b rw rk rr ((sN S, dif (sA S) (2 ^ j), sW S, sD S, sP S, sK S, sO S, sG S, sT S, sF S, sX S), (nmS le z ((skp le z te), (tkE le z te), (tkK le z te)) (nI 0) (nI (sN S - 1))).1, (nmS le z ((skp le z te), (tkE le z te), (tkK le z te)) (nI 0) (nI (sN S - 1))).2.1, (nmS le z ((skp le z te), (tkE le z te), (tkK le z te)) (nI 0) (nI (sN S - 1))).2.2)) rfl rfl rfl rfl dX2_readNever_34 rfl ?_
    refine Go.iconst X (nI 1) dX2_readNever_37 k_ic_1 ?_
    have e9 : rdN le z S te = (true, ((sN S, dif (sA S) (2 ^ j), sW S, sD S, sP S, sK S, sO S, sG S, sT S, sF S, sX S), (nmS le z ((skp le z te), (tkE le z te), (tkK le z te)) (nI 0) (nI (sN S - 1))).1, (nmS le z ((skp le z te), (tkE le z te), (tkK le z te)) (nI 0) (nI (sN S - 1))).2.1, (nmS le z ((skp le z te), (tkE le z te), (tkK le z te)) (nI 0) (nI (sN S - 1))).2.2)) := by exact rdN_y ej (by omega)
    exact Go.nret X E rfl dX2_readNever_38 ⟨by rw [e9]; rfl, by rw [e9]⟩ rfl
  · --
    refine Go.iconst X (nI 0) dX2_readNever_21 k_ic_0 ?_
    have e9 : rdN le z S te = (false, (S, (nmS le z ((skp le z te), (tkE le z te), (tkK le z te)) (nI 0) (nI (sN S - 1))).1, (nmS le z ((skp le z te), (tkE le z te), (tkK le z te)) (nI 0) (nI (sN S - 1))).2.1, (nmS le z ((skp le z te), (tkE le z te), (tkK le z te)) (nI 0) (nI (sN S - 1))).2.2)) := by exact rdN_n h18
    exact Go.nret X E rfl dX2_readNever_22 ⟨by rw [e9]; rfl, by rw [e9]⟩ rfl
set_option maxHeartbeats 4000000 in
set_option maxRecDepth 100000 in
theorem c_readSaid (g : gT) (a : Nat) (q : Nat) (z : Nat) (le : Nat → Nat) (ts : Nat) (te : Nat) (tk : Nat) (b : Nat) (rw : Nat) (rk : Nat) (rr : Nat) (S : Sch) (hz : z ≤ 250) (hl : ∀ i, i < 250 → le i < 256) (ht : ts ≤ te) (he : te ≤ z) (hk : tk ≤ 4) (hS : sOk S) : Cw g yX2_readSaid wsX2_readSaid 3 69 [.ref a, .ref b] (tsW g a q z le b rw rk rr (S, ts, te, tk)) (some (.int (b2i (rdS le z S te).1))) (tsW g a q z le b rw rk rr (rdS le z S te).2) := by
  refine Ct.start (cc := cX2_readSaid) (nL := 3) (ret := (some .boolean)) (own := RX2) (by decide) rfl rfl rfl ?_
  intro Γ X E
  show Go Γ g 3 (rmC 3 69) 0 0 (tsW g a q z le b rw rk rr (S, ts, te, tk)) 0 [(0, .ref a), (1, .ref b)] []
  obtain ⟨o1, o2, o3, o4, o5, o6, o7, o8⟩ := id hS
  have o9 := p2_9 o2
  have o10 := sA_512 hS
  refine Go.aload_n X 0 dX2_readSaid_0 rfl ?_
  refine Go.callVvw X (c_step g a q z le ts te tk (by first | omega | (split <;> omega)) (by first | omega | (split <;> omega)) (by first | omega | (split <;> omega))) cal_X2_step [0, 1] rfl rfl gX2_readSaid_X2_step (ci := 2) (q0 := 0) rfl rfl rfl rfl rfl dX2_readSaid_1 (M9 := tsW g a q z le b rw rk rr (S, skp le z te, tkE le z te, tkK le z te)) rfl ?_
  have f1_1 := st_le (le := le) (z := z) (e := te) (by omega)
  have f1_2 := tkK_le le z te
  refine Go.aload_n X 0 dX2_readSaid_4 rfl ?_
  refine Go.iconst X (nI 0) dX2_readSaid_5 k_ic_0 ?_
  refine Go.bipush X (nI 9) dX2_readSaid_6 k_bp_9 ?_
  refine Go.callViw X (c_takeNumber g a q z le (skp le z te) (tkE le z te) (tkK le z te) (nI 0) (nI 9) (by first | omega | (split <;> omega)) (by first | omega | (split <;> omega)) (by first | omega | (split <;> omega)) (by first | omega | (split <;> omega)) (by first | omega | (split <;> omega))) cal_X2_takeNumber [0, 1] rfl rfl gX2_readSaid_X2_takeNumber (ci := 2) (q0 := 0) rfl rfl rfl rfl rfl dX2_readSaid_8 (M9 := tsW g a q z le b rw rk rr (S, (nmS le z ((skp le z te), (tkE le z te), (tkK le z te)) (nI 0) (nI 9)).1, (nmS le z ((skp le z te), (tkE le z te), (tkK le z te)) (nI 0) (nI 9)).2.1, (nmS le z ((skp le z te), (tkE le z te), (tkK le z te)) (nI 0) (nI 9)).2.2)) rfl ?_
  have f8_3 := nmS_le (z := z) le (nI 0) (nI 9) (p := ((skp le z te), (tkE le z te), (tkK le z te))) ⟨show (skp le z te) ≤ (tkE le z te) by omega, show (tkE le z te) ≤ z by omega, show (tkK le z te) ≤ 4 by omega⟩
  refine Go.istore_n_new X dX2_readSaid_11 (by decide) rfl ?_
  refine Go.iload_n X 0 dX2_readSaid_12 rfl ?_
  refine Go.iconst X ((-1 : Int32)) dX2_readSaid_13 k_ic_m1 ?_
  refine Go.icmp_ne X 19 dX2_readSaid_14 (by decide) (fun h14 => ?_) (fun h14 => ?_)
  · --
    obtain ⟨j, hj, ej⟩ := numH_at (a := 0) (b := 9) (by omega) (by omega) h14
    refine Go.lv_0 (w := .int (nI j)) (by rw [ej]) ?_
    refine Go.aload_n X 2 dX2_readSaid_19 rfl ?_
    refine Go.iload_n X 0 dX2_readSaid_20 rfl ?_
    refine Go.putM X f_X2_readSaid_85 fp_0_3 2 (tsW g a q z le b rw rk rr ((sN S, sA S, sW S, j, sP S, sK S, sO S, sG S, sT S, sF S, sX S), (nmS le z ((skp le z te), (tkE le z te), (tkK le z te)) (nI 0) (nI 9)).1, (nmS le z ((skp le z te), (tkE le z te), (tkK le z te)) (nI 0) (nI 9)).2.1, (nmS le z ((skp le z te), (tkE le z te), (tkK le z te)) (nI 0) (nI 9)).2.2)) rfl rfl rfl rfl dX2_readSaid_21 rfl ?_
    refine Go.iconst X (nI 1) dX2_readSaid_24 k_ic_1 ?_
    have e9 : rdS le z S te = (true, ((sN S, sA S, sW S, j, sP S, sK S, sO S, sG S, sT S, sF S, sX S), (nmS le z ((skp le z te), (tkE le z te), (tkK le z te)) (nI 0) (nI 9)).1, (nmS le z ((skp le z te), (tkE le z te), (tkK le z te)) (nI 0) (nI 9)).2.1, (nmS le z ((skp le z te), (tkE le z te), (tkK le z te)) (nI 0) (nI 9)).2.2)) := by exact rdS_y ej (by omega)
    exact Go.nret X E rfl dX2_readSaid_25 ⟨by rw [e9]; rfl, by rw [e9]⟩ rfl
  · --
    refine Go.iconst X (nI 0) dX2_readSaid_17 k_ic_0 ?_
    have e9 : rdS le z S te = (false, (S, (nmS le z ((skp le z te), (tkE le z te), (tkK le z te)) (nI 0) (nI 9)).1, (nmS le z ((skp le z te), (tkE le z te), (tkK le z te)) (nI 0) (nI 9)).2.1, (nmS le z ((skp le z te), (tkE le z te), (tkK le z te)) (nI 0) (nI 9)).2.2)) := by exact rdS_n h14
    exact Go.nret X E rfl dX2_readSaid_18 ⟨by rw [e9]; rfl, by rw [e9]⟩ rfl
set_option maxHeartbeats 4000000 in
set_option maxRecDepth 100000 in
theorem c_readWeight (g : gT) (a : Nat) (q : Nat) (z : Nat) (le : Nat → Nat) (ts : Nat) (te : Nat) (tk : Nat) (b : Nat) (rw : Nat) (rk : Nat) (rr : Nat) (S : Sch) (hz : z ≤ 250) (hl : ∀ i, i < 250 → le i < 256) (ht : ts ≤ te) (he : te ≤ z) (hk : tk ≤ 4) (hS : sOk S) : Cw g yX2_readWeight wsX2_readWeight 3 69 [.ref a, .ref b] (tsW g a q z le b rw rk rr (S, ts, te, tk)) (some (.int (b2i (rdW le z S te).1))) (tsW g a q z le b rw rk rr (rdW le z S te).2) := by
  refine Ct.start (cc := cX2_readWeight) (nL := 4) (ret := (some .boolean)) (own := RX2) (by decide) rfl rfl rfl ?_
  intro Γ X E
  show Go Γ g 4 (rmC 3 69) 0 0 (tsW g a q z le b rw rk rr (S, ts, te, tk)) 0 [(0, .ref a), (1, .ref b)] []
  obtain ⟨o1, o2, o3, o4, o5, o6, o7, o8⟩ := id hS
  have o9 := p2_9 o2
  have o10 := sA_512 hS
  refine Go.aload_n X 0 dX2_readWeight_0 rfl ?_
  refine Go.callVvw X (c_step g a q z le ts te tk (by first | omega | (split <;> omega)) (by first | omega | (split <;> omega)) (by first | omega | (split <;> omega))) cal_X2_step [0, 1] rfl rfl gX2_readWeight_X2_step (ci := 2) (q0 := 0) rfl rfl rfl rfl rfl dX2_readWeight_1 (M9 := tsW g a q z le b rw rk rr (S, skp le z te, tkE le z te, tkK le z te)) rfl ?_
  have f1_1 := st_le (le := le) (z := z) (e := te) (by omega)
  have f1_2 := tkK_le le z te
  refine Go.aload_n X 0 dX2_readWeight_4 rfl ?_
  refine Go.iconst X (nI 0) dX2_readWeight_5 k_ic_0 ?_
  refine Go.aload_n X 1 dX2_readWeight_6 rfl ?_
  refine Go.get X f_X2_readWeight_76 2 (v := .int (nI (sN S))) rfl rfl dX2_readWeight_7 ?_
  refine Go.iconst X (nI 1) dX2_readWeight_10 k_ic_1 ?_
  refine Go.isub_e X (nI (sN S - 1)) dX2_readWeight_11 (pk_sub (by first | omega | (split <;> omega))) ?_
  refine Go.callViw X (c_takeNumber g a q z le (skp le z te) (tkE le z te) (tkK le z te) (nI 0) (nI (sN S - 1)) (by first | omega | (split <;> omega)) (by first | omega | (split <;> omega)) (by first | omega | (split <;> omega)) (by first | omega | (split <;> omega)) (by first | omega | (split <;> omega))) cal_X2_takeNumber [0, 1] rfl rfl gX2_readWeight_X2_takeNumber (ci := 2) (q0 := 0) rfl rfl rfl rfl rfl dX2_readWeight_12 (M9 := tsW g a q z le b rw rk rr (S, (nmS le z ((skp le z te), (tkE le z te), (tkK le z te)) (nI 0) (nI (sN S - 1))).1, (nmS le z ((skp le z te), (tkE le z te), (tkK le z te)) (nI 0) (nI (sN S - 1))).2.1, (nmS le z ((skp le z te), (tkE le z te), (tkK le z te)) (nI 0) (nI (sN S - 1))).2.2)) rfl ?_
  have f12_3 := nmS_le (z := z) le (nI 0) (nI (sN S - 1)) (p := ((skp le z te), (tkE le z te), (tkK le z te))) ⟨show (skp le z te) ≤ (tkE le z te) by omega, show (tkE le z te) ≤ z by omega, show (tkK le z te) ≤ 4 by omega⟩
  refine Go.istore_n_new X dX2_readWeight_15 (by decide) rfl ?_
  refine Go.iload_n X 0 dX2_readWeight_16 rfl ?_
  refine Go.iconst X ((-1 : Int32)) dX2_readWeight_17 k_ic_m1 ?_
  refine Go.icmp_ne X 23 dX2_readWeight_18 (by decide) (fun h18 => ?_) (fun h18 => ?_)
  · --
    obtain ⟨j, hj, ej⟩ := numH_at (a := 0) (b := sN S - 1) (by omega) (by omega) h18
    refine Go.lv_0 (w := .int (nI j)) (by rw [ej]) ?_
    refine Go.aload_n X 1 dX2_readWeight_23 rfl ?_
    refine Go.iconst X (nI 0) dX2_readWeight_24 k_ic_0 ?_
    refine Go.bipush X (nI 9) dX2_readWeight_25 k_bp_9 ?_
    refine Go.callViw X (c_takeNumber g a q z le ((nmS le z ((skp le z te), (tkE le z te), (tkK le z te)) (nI 0) (nI (sN S - 1))).1) ((nmS le z ((skp le z te), (tkE le z te), (tkK le z te)) (nI 0) (nI (sN S - 1))).2.1) ((nmS le z ((skp le z te), (tkE le z te), (tkK le z te)) (nI 0) (nI (sN S - 1))).2.2) (nI 0) (nI 9) (by first | omega | (split <;> omega)) (by first | omega | (split <;> omega)) (by first | omega | (split <;> omega)) (by first | omega | (split <;> omega)) (by first | omega | (split <;> omega))) cal_X2_takeNumber [0, 1] rfl rfl gX2_readWeight_X2_takeNumber (ci := 2) (q0 := 0) rfl rfl rfl rfl rfl dX2_readWeight_27 (M9 := tsW g a q z le b rw rk rr (S, (nmS le z (((nmS le z ((skp le z te), (tkE le z te), (tkK le z te)) (nI 0) (nI (sN S - 1))).1), ((nmS le z ((skp le z te), (tkE le z te), (tkK le z te)) (nI 0) (nI (sN S - 1))).2.1), ((nmS le z ((skp le z te), (tkE le z te), (tkK le z te)) (nI 0) (nI (sN S - 1))).2.2)) (nI 0) (nI 9)).1, (nmS le z (((nmS le z ((skp le z te), (tkE le z te), (tkK le z te)) (nI 0) (nI (sN S - 1))).1), ((nmS le z ((skp le z te), (tkE le z te), (tkK le z te)) (nI 0) (nI (sN S - 1))).2.1), ((nmS le z ((skp le z te), (tkE le z te), (tkK le z te)) (nI 0) (nI (sN S - 1))).2.2)) (nI 0) (nI 9)).2.1, (nmS le z (((nmS le z ((skp le z te), (tkE le z te), (tkK le z te)) (nI 0) (nI (sN S - 1))).1), ((nmS le z ((skp le z te), (tkE le z te), (tkK le z te)) (nI 0) (nI (sN S - 1))).2.1), ((nmS le z ((skp le z te), (tkE le z te), (tkK le z te)) (nI 0) (nI (sN S - 1))).2.2)) (nI 0) (nI 9)).2.2)) rfl ?_
    have f27_4 := nmS_le (z := z) le (nI 0) (nI 9) (p := (((nmS le z ((skp le z te), (tkE le z te), (tkK le z te)) (nI 0) (nI (sN S - 1))).1), ((nmS le z ((skp le z te), (tkE le z te), (tkK le z te)) (nI 0) (nI (sN S - 1))).2.1), ((nmS le z ((skp le z te), (tkE le z te), (tkK le z te)) (nI 0) (nI (sN S - 1))).2.2))) ⟨show ((nmS le z ((skp le z te), (tkE le z te), (tkK le z te)) (nI 0) (nI (sN S - 1))).1) ≤ ((nmS le z ((skp le z te), (tkE le z te), (tkK le z te)) (nI 0) (nI (sN S - 1))).2.1) by omega, show ((nmS le z ((skp le z te), (tkE le z te), (tkK le z te)) (nI 0) (nI (sN S - 1))).2.1) ≤ z by omega, show ((nmS le z ((skp le z te), (tkE le z te), (tkK le z te)) (nI 0) (nI (sN S - 1))).2.2) ≤ 4 by omega⟩
    refine Go.istore_n_new X dX2_readWeight_30 (by decide) rfl ?_
    refine Go.iload_n X 0 dX2_readWeight_31 rfl ?_
    refine Go.iconst X ((-1 : Int32)) dX2_readWeight_32 k_ic_m1 ?_
    refine Go.icmp_ne X 38 dX2_readWeight_33 (by decide) (fun h33 => ?_) (fun h33 => ?_)
    · --
      obtain ⟨i, hi, ei⟩ := numH_at (a := 0) (b := 9) (by omega) (by omega) h33
      refine Go.lv_0 (w := .int (nI i)) (by rw [ei]) ?_
      refine Go.aload_n X 3 dX2_readWeight_38 rfl ?_
      refine Go.get X f_X2_readWeight_82 2 (v := .ref rw) rfl rfl dX2_readWeight_39 ?_
      refine Go.iload_n X 1 dX2_readWeight_42 rfl ?_
      refine Go.iload_n X 0 dX2_readWeight_43 rfl ?_
      refine Go.iastNM X 3 (tsW g a q z le b rw rk rr ((sN S, sA S, updN (sW S) j i, sD S, sP S, sK S, sO S, sG S, sT S, sF S, sX S), (nmS le z (((nmS le z ((skp le z te), (tkE le z te), (tkK le z te)) (nI 0) (nI (sN S - 1))).1), ((nmS le z ((skp le z te), (tkE le z te), (tkK le z te)) (nI 0) (nI (sN S - 1))).2.1), ((nmS le z ((skp le z te), (tkE le z te), (tkK le z te)) (nI 0) (nI (sN S - 1))).2.2)) (nI 0) (nI 9)).1, (nmS le z (((nmS le z ((skp le z te), (tkE le z te), (tkK le z te)) (nI 0) (nI (sN S - 1))).1), ((nmS le z ((skp le z te), (tkE le z te), (tkK le z te)) (nI 0) (nI (sN S - 1))).2.1), ((nmS le z ((skp le z te), (tkE le z te), (tkK le z te)) (nI 0) (nI (sN S - 1))).2.2)) (nI 0) (nI 9)).2.1, (nmS le z (((nmS le z ((skp le z te), (tkE le z te), (tkK le z te)) (nI 0) (nI (sN S - 1))).1), ((nmS le z ((skp le z te), (tkE le z te), (tkK le z te)) (nI 0) (nI (sN S - 1))).2.1), ((nmS le z ((skp le z te), (tkE le z te), (tkK le z te)) (nI 0) (nI (sN S - 1))).2.2)) (nI 0) (nI 9)).2.2)) (w := sW S) rfl (by first | omega | (split <;> omega)) rfl dX2_readWeight_44 rfl ?_
      refine Go.iconst X (nI 1) dX2_readWeight_45 k_ic_1 ?_
      have e9 : rdW le z S te = (true, ((sN S, sA S, updN (sW S) j i, sD S, sP S, sK S, sO S, sG S, sT S, sF S, sX S), (nmS le z (((nmS le z ((skp le z te), (tkE le z te), (tkK le z te)) (nI 0) (nI (sN S - 1))).1), ((nmS le z ((skp le z te), (tkE le z te), (tkK le z te)) (nI 0) (nI (sN S - 1))).2.1), ((nmS le z ((skp le z te), (tkE le z te), (tkK le z te)) (nI 0) (nI (sN S - 1))).2.2)) (nI 0) (nI 9)).1, (nmS le z (((nmS le z ((skp le z te), (tkE le z te), (tkK le z te)) (nI 0) (nI (sN S - 1))).1), ((nmS le z ((skp le z te), (tkE le z te), (tkK le z te)) (nI 0) (nI (sN S - 1))).2.1), ((nmS le z ((skp le z te), (tkE le z te), (tkK le z te)) (nI 0) (nI (sN S - 1))).2.2)) (nI 0) (nI 9)).2.1, (nmS le z (((nmS le z ((skp le z te), (tkE le z te), (tkK le z te)) (nI 0) (nI (sN S - 1))).1), ((nmS le z ((skp le z te), (tkE le z te), (tkK le z te)) (nI 0) (nI (sN S - 1))).2.1), ((nmS le z ((skp le z te), (tkE le z te), (tkK le z te)) (nI 0) (nI (sN S - 1))).2.2)) (nI 0) (nI 9)).2.2)) := by exact rdW_y ej (by omega) ei (by omega)
      exact Go.nret X E rfl dX2_readWeight_46 ⟨by rw [e9]; rfl, by rw [e9]⟩ rfl
    · --
      refine Go.iconst X (nI 0) dX2_readWeight_36 k_ic_0 ?_
      have e9 : rdW le z S te = (false, (S, (nmS le z (((nmS le z ((skp le z te), (tkE le z te), (tkK le z te)) (nI 0) (nI (sN S - 1))).1), ((nmS le z ((skp le z te), (tkE le z te), (tkK le z te)) (nI 0) (nI (sN S - 1))).2.1), ((nmS le z ((skp le z te), (tkE le z te), (tkK le z te)) (nI 0) (nI (sN S - 1))).2.2)) (nI 0) (nI 9)).1, (nmS le z (((nmS le z ((skp le z te), (tkE le z te), (tkK le z te)) (nI 0) (nI (sN S - 1))).1), ((nmS le z ((skp le z te), (tkE le z te), (tkK le z te)) (nI 0) (nI (sN S - 1))).2.1), ((nmS le z ((skp le z te), (tkE le z te), (tkK le z te)) (nI 0) (nI (sN S - 1))).2.2)) (nI 0) (nI 9)).2.1, (nmS le z (((nmS le z ((skp le z te), (tkE le z te), (tkK le z te)) (nI 0) (nI (sN S - 1))).1), ((nmS le z ((skp le z te), (tkE le z te), (tkK le z te)) (nI 0) (nI (sN S - 1))).2.1), ((nmS le z ((skp le z te), (tkE le z te), (tkK le z te)) (nI 0) (nI (sN S - 1))).2.2)) (nI 0) (nI 9)).2.2)) := by exact rdW_m ej (by omega) h33
      exact Go.nret X E rfl dX2_readWeight_37 ⟨by rw [e9]; rfl, by rw [e9]⟩ rfl
  · --
    refine Go.iconst X (nI 0) dX2_readWeight_21 k_ic_0 ?_
    have e9 : rdW le z S te = (false, (S, (nmS le z ((skp le z te), (tkE le z te), (tkK le z te)) (nI 0) (nI (sN S - 1))).1, (nmS le z ((skp le z te), (tkE le z te), (tkK le z te)) (nI 0) (nI (sN S - 1))).2.1, (nmS le z ((skp le z te), (tkE le z te), (tkK le z te)) (nI 0) (nI (sN S - 1))).2.2)) := by exact rdW_n h18
    exact Go.nret X E rfl dX2_readWeight_22 ⟨by rw [e9]; rfl, by rw [e9]⟩ rfl
set_option maxHeartbeats 4000000 in
set_option maxRecDepth 100000 in
theorem c_readPerson (g : gT) (a : Nat) (q : Nat) (z : Nat) (le : Nat → Nat) (ts : Nat) (te : Nat) (tk : Nat) (b : Nat) (rw : Nat) (rk : Nat) (rr : Nat) (S : Sch) (hz : z ≤ 250) (hl : ∀ i, i < 250 → le i < 256) (ht : ts ≤ te) (he : te ≤ z) (hk : tk ≤ 4) (hS : sOk S) : Cw g yX2_readPerson wsX2_readPerson 3 69 [.ref a, .ref b] (tsW g a q z le b rw rk rr (S, ts, te, tk)) (some (.int (b2i (rdP le z S (ts, te, tk)).1))) (tsW g a q z le b rw rk rr (rdP le z S (ts, te, tk)).2) := by
  refine Ct.start (cc := cX2_readPerson) (nL := 4) (ret := (some .boolean)) (own := RX2) (by decide) rfl rfl rfl ?_
  intro Γ X E
  show Go Γ g 4 (rmC 3 69) 0 0 (tsW g a q z le b rw rk rr (S, ts, te, tk)) 0 [(0, .ref a), (1, .ref b)] []
  obtain ⟨o1, o2, o3, o4, o5, o6, o7, o8⟩ := id hS
  have o9 := p2_9 o2
  have o10 := sA_512 hS
  refine Go.aload_n X 1 dX2_readPerson_0 rfl ?_
  refine Go.get X f_X2_readPerson_87 2 (v := .int (nI (sP S))) rfl rfl dX2_readPerson_1 ?_
  refine Go.bipush X (nI 6) dX2_readPerson_4 k_bp_6 ?_
  refine Go.icmp_ltN X 11 dX2_readPerson_6 (by decide) (by first | omega | (split <;> omega)) (by decide) (fun h6 => ?_) (fun h6 => ?_)
  · --
    refine Go.aload_n X 0 dX2_readPerson_11 rfl ?_
    refine Go.callVvw X (c_step g a q z le ts te tk (by first | omega | (split <;> omega)) (by first | omega | (split <;> omega)) (by first | omega | (split <;> omega))) cal_X2_step [0, 1] rfl rfl gX2_readPerson_X2_step (ci := 2) (q0 := 0) rfl rfl rfl rfl rfl dX2_readPerson_12 (M9 := tsW g a q z le b rw rk rr (S, skp le z te, tkE le z te, tkK le z te)) rfl ?_
    have f12_1 := st_le (le := le) (z := z) (e := te) (by omega)
    have f12_2 := tkK_le le z te
    refine Go.aload_n X 0 dX2_readPerson_15 rfl ?_
    refine Go.iconst X (nI 0) dX2_readPerson_16 k_ic_0 ?_
    refine Go.iconst X (nI 5) dX2_readPerson_17 k_ic_5 ?_
    refine Go.callViw X (c_takeNumber g a q z le (skp le z te) (tkE le z te) (tkK le z te) (nI 0) (nI 5) (by first | omega | (split <;> omega)) (by first | omega | (split <;> omega)) (by first | omega | (split <;> omega)) (by first | omega | (split <;> omega)) (by first | omega | (split <;> omega))) cal_X2_takeNumber [0, 1] rfl rfl gX2_readPerson_X2_takeNumber (ci := 2) (q0 := 0) rfl rfl rfl rfl rfl dX2_readPerson_18 (M9 := tsW g a q z le b rw rk rr (S, (nmS le z ((skp le z te), (tkE le z te), (tkK le z te)) (nI 0) (nI 5)).1, (nmS le z ((skp le z te), (tkE le z te), (tkK le z te)) (nI 0) (nI 5)).2.1, (nmS le z ((skp le z te), (tkE le z te), (tkK le z te)) (nI 0) (nI 5)).2.2)) rfl ?_
    have f18_3 := nmS_le (z := z) le (nI 0) (nI 5) (p := ((skp le z te), (tkE le z te), (tkK le z te))) ⟨show (skp le z te) ≤ (tkE le z te) by omega, show (tkE le z te) ≤ z by omega, show (tkK le z te) ≤ 4 by omega⟩
    refine Go.istore_n_new X dX2_readPerson_21 (by decide) rfl ?_
    refine Go.iload_n X 0 dX2_readPerson_22 rfl ?_
    refine Go.iconst X ((-1 : Int32)) dX2_readPerson_23 k_ic_m1 ?_
    refine Go.icmp_ne X 29 dX2_readPerson_24 (by decide) (fun h24 => ?_) (fun h24 => ?_)
    · --
      obtain ⟨j, hj, ej⟩ := numH_at (a := 0) (b := 5) (by omega) (by omega) h24
      refine Go.lv_0 (w := .int (nI j)) (by rw [ej]) ?_
      refine Go.aload_n X 1 dX2_readPerson_29 rfl ?_
      refine Go.iconst X (nI 0) dX2_readPerson_30 k_ic_0 ?_
      refine Go.bipush X (nI 9) dX2_readPerson_31 k_bp_9 ?_
      refine Go.callViw X (c_takeNumber g a q z le ((nmS le z ((skp le z te), (tkE le z te), (tkK le z te)) (nI 0) (nI 5)).1) ((nmS le z ((skp le z te), (tkE le z te), (tkK le z te)) (nI 0) (nI 5)).2.1) ((nmS le z ((skp le z te), (tkE le z te), (tkK le z te)) (nI 0) (nI 5)).2.2) (nI 0) (nI 9) (by first | omega | (split <;> omega)) (by first | omega | (split <;> omega)) (by first | omega | (split <;> omega)) (by first | omega | (split <;> omega)) (by first | omega | (split <;> omega))) cal_X2_takeNumber [0, 1] rfl rfl gX2_readPerson_X2_takeNumber (ci := 2) (q0 := 0) rfl rfl rfl rfl rfl dX2_readPerson_33 (M9 := tsW g a q z le b rw rk rr (S, (nmS le z (((nmS le z ((skp le z te), (tkE le z te), (tkK le z te)) (nI 0) (nI 5)).1), ((nmS le z ((skp le z te), (tkE le z te), (tkK le z te)) (nI 0) (nI 5)).2.1), ((nmS le z ((skp le z te), (tkE le z te), (tkK le z te)) (nI 0) (nI 5)).2.2)) (nI 0) (nI 9)).1, (nmS le z (((nmS le z ((skp le z te), (tkE le z te), (tkK le z te)) (nI 0) (nI 5)).1), ((nmS le z ((skp le z te), (tkE le z te), (tkK le z te)) (nI 0) (nI 5)).2.1), ((nmS le z ((skp le z te), (tkE le z te), (tkK le z te)) (nI 0) (nI 5)).2.2)) (nI 0) (nI 9)).2.1, (nmS le z (((nmS le z ((skp le z te), (tkE le z te), (tkK le z te)) (nI 0) (nI 5)).1), ((nmS le z ((skp le z te), (tkE le z te), (tkK le z te)) (nI 0) (nI 5)).2.1), ((nmS le z ((skp le z te), (tkE le z te), (tkK le z te)) (nI 0) (nI 5)).2.2)) (nI 0) (nI 9)).2.2)) rfl ?_
      have f33_4 := nmS_le (z := z) le (nI 0) (nI 9) (p := (((nmS le z ((skp le z te), (tkE le z te), (tkK le z te)) (nI 0) (nI 5)).1), ((nmS le z ((skp le z te), (tkE le z te), (tkK le z te)) (nI 0) (nI 5)).2.1), ((nmS le z ((skp le z te), (tkE le z te), (tkK le z te)) (nI 0) (nI 5)).2.2))) ⟨show ((nmS le z ((skp le z te), (tkE le z te), (tkK le z te)) (nI 0) (nI 5)).1) ≤ ((nmS le z ((skp le z te), (tkE le z te), (tkK le z te)) (nI 0) (nI 5)).2.1) by omega, show ((nmS le z ((skp le z te), (tkE le z te), (tkK le z te)) (nI 0) (nI 5)).2.1) ≤ z by omega, show ((nmS le z ((skp le z te), (tkE le z te), (tkK le z te)) (nI 0) (nI 5)).2.2) ≤ 4 by omega⟩
      refine Go.istore_n_new X dX2_readPerson_36 (by decide) rfl ?_
      refine Go.iload_n X 0 dX2_readPerson_37 rfl ?_
      refine Go.iconst X ((-1 : Int32)) dX2_readPerson_38 k_ic_m1 ?_
      refine Go.icmp_ne X 44 dX2_readPerson_39 (by decide) (fun h39 => ?_) (fun h39 => ?_)
      · --
        obtain ⟨i, hi, ei⟩ := numH_at (a := 0) (b := 9) (by omega) (by omega) h39
        refine Go.lv_0 (w := .int (nI i)) (by rw [ei]) ?_
        refine Go.aload_n X 3 dX2_readPerson_44 rfl ?_
        refine Go.iload_n X 1 dX2_readPerson_45 rfl ?_
        refine Go.iload_n X 0 dX2_readPerson_46 rfl ?_
        refine Go.callVvw X (c_addSomebody g b rw rk rr S j i (by exact hS) (by first | omega | (split <;> omega))) cal_X0_addSomebody [2, 3, 4, 5] rfl rfl gX2_readPerson_X0_addSomebody (ci := 0) (q0 := 2) rfl rfl rfl rfl rfl dX2_readPerson_47 (M9 := tsW g a q z le b rw rk rr ((sN S, sA S, sW S, sD S, sP S + 1, updN (sK S) (sP S) j, updN (sO S) (sP S) i, sG S, sT S, sF S, sX S), (nmS le z (((nmS le z ((skp le z te), (tkE le z te), (tkK le z te)) (nI 0) (nI 5)).1), ((nmS le z ((skp le z te), (tkE le z te), (tkK le z te)) (nI 0) (nI 5)).2.1), ((nmS le z ((skp le z te), (tkE le z te), (tkK le z te)) (nI 0) (nI 5)).2.2)) (nI 0) (nI 9)).1, (nmS le z (((nmS le z ((skp le z te), (tkE le z te), (tkK le z te)) (nI 0) (nI 5)).1), ((nmS le z ((skp le z te), (tkE le z te), (tkK le z te)) (nI 0) (nI 5)).2.1), ((nmS le z ((skp le z te), (tkE le z te), (tkK le z te)) (nI 0) (nI 5)).2.2)) (nI 0) (nI 9)).2.1, (nmS le z (((nmS le z ((skp le z te), (tkE le z te), (tkK le z te)) (nI 0) (nI 5)).1), ((nmS le z ((skp le z te), (tkE le z te), (tkK le z te)) (nI 0) (nI 5)).2.1), ((nmS le z ((skp le z te), (tkE le z te), (tkK le z te)) (nI 0) (nI 5)).2.2)) (nI 0) (nI 9)).2.2)) rfl ?_
        refine Go.iconst X (nI 1) dX2_readPerson_50 k_ic_1 ?_
        have e9 : rdP le z S (ts, te, tk) = (true, ((sN S, sA S, sW S, sD S, sP S + 1, updN (sK S) (sP S) j, updN (sO S) (sP S) i, sG S, sT S, sF S, sX S), (nmS le z (((nmS le z ((skp le z te), (tkE le z te), (tkK le z te)) (nI 0) (nI 5)).1), ((nmS le z ((skp le z te), (tkE le z te), (tkK le z te)) (nI 0) (nI 5)).2.1), ((nmS le z ((skp le z te), (tkE le z te), (tkK le z te)) (nI 0) (nI 5)).2.2)) (nI 0) (nI 9)).1, (nmS le z (((nmS le z ((skp le z te), (tkE le z te), (tkK le z te)) (nI 0) (nI 5)).1), ((nmS le z ((skp le z te), (tkE le z te), (tkK le z te)) (nI 0) (nI 5)).2.1), ((nmS le z ((skp le z te), (tkE le z te), (tkK le z te)) (nI 0) (nI 5)).2.2)) (nI 0) (nI 9)).2.1, (nmS le z (((nmS le z ((skp le z te), (tkE le z te), (tkK le z te)) (nI 0) (nI 5)).1), ((nmS le z ((skp le z te), (tkE le z te), (tkK le z te)) (nI 0) (nI 5)).2.1), ((nmS le z ((skp le z te), (tkE le z te), (tkK le z te)) (nI 0) (nI 5)).2.2)) (nI 0) (nI 9)).2.2)) := by exact rdP_y h6 ej (by omega) ei (by omega)
        exact Go.nret X E rfl dX2_readPerson_51 ⟨by rw [e9]; rfl, by rw [e9]⟩ rfl
      · --
        refine Go.iconst X (nI 0) dX2_readPerson_42 k_ic_0 ?_
        have e9 : rdP le z S (ts, te, tk) = (false, (S, (nmS le z (((nmS le z ((skp le z te), (tkE le z te), (tkK le z te)) (nI 0) (nI 5)).1), ((nmS le z ((skp le z te), (tkE le z te), (tkK le z te)) (nI 0) (nI 5)).2.1), ((nmS le z ((skp le z te), (tkE le z te), (tkK le z te)) (nI 0) (nI 5)).2.2)) (nI 0) (nI 9)).1, (nmS le z (((nmS le z ((skp le z te), (tkE le z te), (tkK le z te)) (nI 0) (nI 5)).1), ((nmS le z ((skp le z te), (tkE le z te), (tkK le z te)) (nI 0) (nI 5)).2.1), ((nmS le z ((skp le z te), (tkE le z te), (tkK le z te)) (nI 0) (nI 5)).2.2)) (nI 0) (nI 9)).2.1, (nmS le z (((nmS le z ((skp le z te), (tkE le z te), (tkK le z te)) (nI 0) (nI 5)).1), ((nmS le z ((skp le z te), (tkE le z te), (tkK le z te)) (nI 0) (nI 5)).2.1), ((nmS le z ((skp le z te), (tkE le z te), (tkK le z te)) (nI 0) (nI 5)).2.2)) (nI 0) (nI 9)).2.2)) := by exact rdP_m h6 ej (by omega) h39
        exact Go.nret X E rfl dX2_readPerson_43 ⟨by rw [e9]; rfl, by rw [e9]⟩ rfl
    · --
      refine Go.iconst X (nI 0) dX2_readPerson_27 k_ic_0 ?_
      have e9 : rdP le z S (ts, te, tk) = (false, (S, (nmS le z ((skp le z te), (tkE le z te), (tkK le z te)) (nI 0) (nI 5)).1, (nmS le z ((skp le z te), (tkE le z te), (tkK le z te)) (nI 0) (nI 5)).2.1, (nmS le z ((skp le z te), (tkE le z te), (tkK le z te)) (nI 0) (nI 5)).2.2)) := by exact rdP_n h6 h24
      exact Go.nret X E rfl dX2_readPerson_28 ⟨by rw [e9]; rfl, by rw [e9]⟩ rfl
  · --
    refine Go.iconst X (nI 0) dX2_readPerson_9 k_ic_0 ?_
    have e9 : rdP le z S (ts, te, tk) = (false, (S, ts, te, tk)) := by exact rdP_0 h6
    exact Go.nret X E rfl dX2_readPerson_10 ⟨by rw [e9]; rfl, by rw [e9]⟩ rfl
