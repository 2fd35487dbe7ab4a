/-! 05.m3.shelf -/
theorem f_X1_holdNothing_9 : FL wsX1_holdNothing RX1 9 1 0 := ⟨RX1, TX1, 3, rfl, fun _ h => List.mem_cons_of_mem _ (List.mem_append_right _ h), by decide, List.mem_of_getElem? (i := 1) (by decide +kernel)⟩
theorem fp_1_0 : FP 1 0 .int := ⟨RX1, TX1, 3, tyX1, rfl, tyX1_ok, nmX1, rfl, by decide +kernel⟩
theorem f_X1_holdNothing_19 : FL wsX1_holdNothing RX1 19 1 1 := ⟨RX1, TX1, 3, rfl, fun _ h => List.mem_cons_of_mem _ (List.mem_append_right _ h), by decide, List.mem_of_getElem? (i := 2) (by decide +kernel)⟩
theorem fp_1_1 : FP 1 1 .int := ⟨RX1, TX1, 3, tyX1, rfl, tyX1_ok, nmX1, rfl, by decide +kernel⟩
theorem f_X1_holdSomebody_9 : FL wsX1_holdSomebody RX1 9 1 0 := ⟨RX1, TX1, 3, rfl, fun _ h => List.mem_cons_of_mem _ (List.mem_append_right _ h), by decide, List.mem_of_getElem? (i := 1) (by decide +kernel)⟩
theorem f_X1_holdSomebody_19 : FL wsX1_holdSomebody RX1 19 1 1 := ⟨RX1, TX1, 3, rfl, fun _ h => List.mem_cons_of_mem _ (List.mem_append_right _ h), by decide, List.mem_of_getElem? (i := 2) (by decide +kernel)⟩
theorem f_X1_holdRow_9 : FL wsX1_holdRow RX1 9 1 0 := ⟨RX1, TX1, 3, rfl, fun _ h => List.mem_cons_of_mem _ (List.mem_append_right _ h), by decide, List.mem_of_getElem? (i := 1) (by decide +kernel)⟩
theorem f_X1_holdRow_19 : FL wsX1_holdRow RX1 19 1 1 := ⟨RX1, TX1, 3, rfl, fun _ h => List.mem_cons_of_mem _ (List.mem_append_right _ h), by decide, List.mem_of_getElem? (i := 2) (by decide +kernel)⟩
theorem f_X1_holdRow_15 : FL wsX1_holdRow RX1 15 1 2 := ⟨RX1, TX1, 3, rfl, fun _ h => List.mem_cons_of_mem _ (List.mem_append_right _ h), by decide, List.mem_of_getElem? (i := 3) (by decide +kernel)⟩
theorem f_X1_holdsSomebody_9 : FL wsX1_holdsSomebody RX1 9 1 0 := ⟨RX1, TX1, 3, rfl, fun _ h => List.mem_cons_of_mem _ (List.mem_append_right _ h), by decide, List.mem_of_getElem? (i := 1) (by decide +kernel)⟩
theorem f_X1_holdsRow_9 : FL wsX1_holdsRow RX1 9 1 0 := ⟨RX1, TX1, 3, rfl, fun _ h => List.mem_cons_of_mem _ (List.mem_append_right _ h), by decide, List.mem_of_getElem? (i := 1) (by decide +kernel)⟩
theorem f_X1_hasElement_19 : FL wsX1_hasElement RX1 19 1 1 := ⟨RX1, TX1, 3, rfl, fun _ h => List.mem_cons_of_mem _ (List.mem_append_right _ h), by decide, List.mem_of_getElem? (i := 1) (by decide +kernel)⟩
theorem f_X1_hasElements_19 : FL wsX1_hasElements RX1 19 1 1 := ⟨RX1, TX1, 3, rfl, fun _ h => List.mem_cons_of_mem _ (List.mem_append_right _ h), by decide, List.mem_of_getElem? (i := 1) (by decide +kernel)⟩
theorem f_X1_cutToSort_9 : FL wsX1_cutToSort RX1 9 1 0 := ⟨RX1, TX1, 3, rfl, fun _ h => List.mem_cons_of_mem _ (List.mem_append_right _ h), by decide, List.mem_of_getElem? (i := 1) (by decide +kernel)⟩
theorem cal_X1_hasElement : Cal yX1_hasElement wsX1_hasElement cX1_hasElement 2 (some .boolean) RX1 1 := ⟨⟨_, rfl⟩, by decide +kernel⟩
theorem f_X1_put_15 : FL wsX1_put RX1 15 1 2 := ⟨RX1, TX1, 3, rfl, fun _ h => List.mem_cons_of_mem _ (List.mem_append_right _ h), by decide, List.mem_of_getElem? (i := 1) (by decide +kernel)⟩
theorem cal_X1_cutToSort : Cal yX1_cutToSort wsX1_cutToSort cX1_cutToSort 3 (some .long) RX1 1 := ⟨⟨_, rfl⟩, by decide +kernel⟩
set_option maxHeartbeats 4000000 in
set_option maxRecDepth 100000 in
theorem c_holdNothing (g : gT) (a : Nat) (qv : Nat) (c : Int32) (l : Nat) (vl : Nat → Int64)  : Cw g yX1_holdNothing wsX1_holdNothing 0 0 [.ref a] (slfW g a qv c l vl) none (slfW g a qv (-1) 0 vl) := by
  refine Ct.start (cc := cX1_holdNothing) (nL := 1) (ret := none) (own := RX1) (by decide) rfl rfl rfl ?_
  intro Γ X E
  show Go Γ g 1 (rmC 0 0) 0 0 (slfW g a qv c l vl) 0 [(0, .ref a)] []
  refine Go.aload_n X 0 dX1_holdNothing_0 rfl ?_
  refine Go.iconst X ((-1 : Int32)) dX1_holdNothing_1 k_ic_m1 ?_
  refine Go.putM X f_X1_holdNothing_9 fp_1_0 0 (slfW g a qv (-1) l vl) rfl rfl rfl rfl dX1_holdNothing_2 rfl ?_
  refine Go.aload_n X 0 dX1_holdNothing_5 rfl ?_
  refine Go.iconst X (nI 0) dX1_holdNothing_6 k_ic_0 ?_
  refine Go.putM X f_X1_holdNothing_19 fp_1_1 0 (slfW g a qv (-1) 0 vl) rfl rfl rfl rfl dX1_holdNothing_7 rfl ?_
  exact Go.vret X E dX1_holdNothing_10 ⟨rfl, rfl⟩ rfl
set_option maxHeartbeats 4000000 in
set_option maxRecDepth 100000 in
theorem c_holdSomebody (g : gT) (a : Nat) (qv : Nat) (c : Int32) (l : Nat) (vl : Nat → Int64) (i : Nat)  : Cw g yX1_holdSomebody wsX1_holdSomebody 0 0 [.ref a, .int (nI i)] (slfW g a qv c l vl) none (slfW g a qv (nI (10 + i)) 0 vl) := by
  refine Ct.start (cc := cX1_holdSomebody) (nL := 2) (ret := none) (own := RX1) (by decide) rfl rfl rfl ?_
  intro Γ X E
  show Go Γ g 2 (rmC 0 0) 0 0 (slfW g a qv c l vl) 0 [(0, .ref a), (1, .int (nI i))] []
  refine Go.aload_n X 0 dX1_holdSomebody_0 rfl ?_
  refine Go.bipush X (nI 10) dX1_holdSomebody_1 k_bp_10 ?_
  refine Go.iload_n X 1 dX1_holdSomebody_3 rfl ?_
  refine Go.iadd_e X (nI (10 + i)) dX1_holdSomebody_4 (nI_add _ _) ?_
  refine Go.putM X f_X1_holdSomebody_9 fp_1_0 0 (slfW g a qv (nI (10 + i)) l vl) rfl rfl rfl rfl dX1_holdSomebody_5 rfl ?_
  refine Go.aload_n X 0 dX1_holdSomebody_8 rfl ?_
  refine Go.iconst X (nI 0) dX1_holdSomebody_9 k_ic_0 ?_
  refine Go.putM X f_X1_holdSomebody_19 fp_1_1 0 (slfW g a qv (nI (10 + i)) 0 vl) rfl rfl rfl rfl dX1_holdSomebody_10 rfl ?_
  exact Go.vret X E dX1_holdSomebody_13 ⟨rfl, rfl⟩ rfl
set_option maxHeartbeats 4000000 in
set_option maxRecDepth 100000 in
theorem c_holdRow (g : gT) (a : Nat) (qv : Nat) (c : Int32) (l : Nat) (vl : Nat → Int64) (d : Int32) (n : Nat)  : Cw g yX1_holdRow wsX1_holdRow 0 0 [.ref a, .int d, .int (nI n)] (slfW g a qv c l vl) none (slfW g a qv d n zeroJ) := by
  refine Ct.start (cc := cX1_holdRow) (nL := 4) (ret := none) (own := RX1) (by decide) rfl rfl rfl ?_
  intro Γ X E
  show Go Γ g 4 (rmC 0 0) 0 0 (slfW g a qv c l vl) 0 [(0, .ref a), (1, .int d), (2, .int (nI n))] []
  refine Go.aload_n X 0 dX1_holdRow_0 rfl ?_
  refine Go.iload_n X 1 dX1_holdRow_1 rfl ?_
  refine Go.putM X f_X1_holdRow_9 fp_1_0 0 (slfW g a qv d l vl) rfl rfl rfl rfl dX1_holdRow_2 rfl ?_
  refine Go.aload_n X 0 dX1_holdRow_5 rfl ?_
  refine Go.iload_n X 2 dX1_holdRow_6 rfl ?_
  refine Go.putM X f_X1_holdRow_19 fp_1_1 0 (slfW g a qv d n vl) rfl rfl rfl rfl dX1_holdRow_7 rfl ?_
  refine Go.iconst X (nI 0) dX1_holdRow_10 k_ic_0 ?_
  refine Go.istore_n_new X dX1_holdRow_11 (by decide) rfl ?_
  have L12 : ∀ (f12 : Nat) (k : Nat) (hk : k ≤ 40) (hf12 : 40 - k < f12), Go Γ g 4 (rmC 0 0) 0 0 (slfW g a qv d n (fillJ vl k)) 12 [(3, .int (nI k)), (0, .ref a), (1, .int d), (2, .int (nI n))] [] := by
    intro f12
    induction f12 with
    | zero => intro k hk hf12; exact absurd hf12 (Nat.not_lt_zero _)
    | succ f12 ih12 =>
      intro k hk hf12
      refine Go.iload_n X 0 dX1_holdRow_12 rfl ?_
      refine Go.bipush X (nI 40) dX1_holdRow_13 k_bp_40 ?_
      refine Go.icmp_geN X 31 dX1_holdRow_15 (by decide) (by first | omega | (split <;> omega)) (by decide) (fun h15 => ?_) (fun h15 => ?_)
      · --
        refine Go.extJ (q := 1) (f := fillJ vl k) (f1 := zeroJ) (M1 := slfW g a qv d n zeroJ) rfl (fun i hi => by simp [zeroJ, fillJ, show i < k by omega]) rfl ?_
        exact Go.vret X E dX1_holdRow_31 ⟨rfl, rfl⟩ rfl
      · --
        refine Go.aload_n X 1 dX1_holdRow_18 rfl ?_
        refine Go.get X f_X1_holdRow_15 0 (v := .ref qv) rfl rfl dX1_holdRow_19 ?_
        refine Go.iload_n X 0 dX1_holdRow_22 rfl ?_
        refine Go.lconst X (0) dX1_holdRow_23 rfl ?_
        refine Go.lastFM X 1 (slfW g a qv d n (vp_updL (fillJ vl k) k 0)) (f := fillJ vl k) rfl (by first | omega | (split <;> omega)) rfl dX1_holdRow_24 rfl ?_
        refine Go.iinc_0 X (nI (k + 1)) dX1_holdRow_25 (by decide) rfl (show nI k + Int32.ofInt 1 = nI (k + 1) from nI_add _ 1) ?_
        refine Go.goto X 12 dX1_holdRow_28 (by decide) ?_
        refine Go.conv (M1 := slfW g a qv d n (fillJ vl (k + 1))) ?_ (by rw [fillJ_s]) rfl rfl
        exact ih12 (k + 1) (by first | omega | (split <;> omega)) (by first | omega | (split <;> omega))
  refine Go.conv (M1 := slfW g a qv d n (fillJ vl 0)) ?_ (by rw [fillJ_0]) rfl rfl
  exact L12 (40 - 0 + 1) 0 (by first | omega | (split <;> omega)) (Nat.lt_succ_self _)
set_option maxHeartbeats 4000000 in
set_option maxRecDepth 100000 in
theorem c_holdsSomebody (g : gT) (a : Nat) (qv : Nat) (c : Int32) (l : Nat) (vl : Nat → Int64)  : Cw g yX1_holdsSomebody wsX1_holdsSomebody 0 0 [.ref a] (slfW g a qv c l vl) (some (.int (b2i (decide (nI 10 ≤ c))))) (slfW g a qv c l vl) := by
  refine Ct.start (cc := cX1_holdsSomebody) (nL := 1) (ret := (some .boolean)) (own := RX1) (by decide) rfl rfl rfl ?_
  intro Γ X E
  show Go Γ g 1 (rmC 0 0) 0 0 (slfW g a qv c l vl) 0 [(0, .ref a)] []
  refine Go.aload_n X 0 dX1_holdsSomebody_0 rfl ?_
  refine Go.get X f_X1_holdsSomebody_9 0 (v := .int c) rfl rfl dX1_holdsSomebody_1 ?_
  refine Go.bipush X (nI 10) dX1_holdsSomebody_4 k_bp_10 ?_
  refine Go.icmp_lt X 13 dX1_holdsSomebody_6 (by decide) (fun h6 => ?_) (fun h6 => ?_)
  · --
    refine Go.iconst X (nI 0) dX1_holdsSomebody_13 k_ic_0 ?_
    exact Go.nret X E rfl dX1_holdsSomebody_14 ⟨rv (b2i_f (by simp [Int32.not_le.mpr h6])), rfl⟩ rfl
  · --
    refine Go.iconst X (nI 1) dX1_holdsSomebody_9 k_ic_1 ?_
    refine Go.goto X 14 dX1_holdsSomebody_10 (by decide) ?_
    exact Go.nret X E rfl dX1_holdsSomebody_14 ⟨rv (b2i_t (by simp [Int32.not_lt.mp h6])), rfl⟩ rfl
set_option maxHeartbeats 4000000 in
set_option maxRecDepth 100000 in
theorem c_holdsRow (g : gT) (a : Nat) (qv : Nat) (c : Int32) (l : Nat) (vl : Nat → Int64)  : Cw g yX1_holdsRow wsX1_holdsRow 1 22 [.ref a] (slfW g a qv c l vl) (some (.int (b2i (inb c 5)))) (slfW g a qv c l vl) := by
  refine Ct.start (cc := cX1_holdsRow) (nL := 1) (ret := (some .boolean)) (own := RX1) (by decide) rfl rfl rfl ?_
  intro Γ X E
  show Go Γ g 1 (rmC 1 22) 0 0 (slfW g a qv c l vl) 0 [(0, .ref a)] []
  refine Go.aload_n X 0 dX1_holdsRow_0 rfl ?_
  refine Go.get X f_X1_holdsRow_9 0 (v := .int c) rfl rfl dX1_holdsRow_1 ?_
  refine Go.iconst X (nI 0) dX1_holdsRow_4 k_ic_0 ?_
  refine Go.iconst X (nI 4) dX1_holdsRow_5 k_ic_4 ?_
  refine Go.callSNi X  (c_isWithin g c (nI 0) (nI 4)) cal_X3_isWithin [] rfl rfl gX1_holdsRow_X3_isWithin_n22 (by decide) (List.mem_of_getElem? (i := 3) (by decide +kernel)) (List.mem_of_getElem? (i := 2) (by decide +kernel)) rfl rfl rfl dX1_holdsRow_6 ?_
  exact Go.nret X E (b2i_nar _) dX1_holdsRow_9 ⟨rv (congrArg b2i (show (wi c (nI 0) (nI 4)) = (inb c 5) from by exact wi_inb (n := 5) (by decide) (by decide))), rfl⟩ rfl
set_option maxHeartbeats 4000000 in
set_option maxRecDepth 100000 in
theorem c_hasElement (g : gT) (a : Nat) (qv : Nat) (c : Int32) (l : Nat) (vl : Nat → Int64) (i : Int32) (hl : l ≤ 40) : Cw g yX1_hasElement wsX1_hasElement 1 22 [.ref a, .int i] (slfW g a qv c l vl) (some (.int (b2i (inb i l)))) (slfW g a qv c l vl) := by
  refine Ct.start (cc := cX1_hasElement) (nL := 2) (ret := (some .boolean)) (own := RX1) (by decide) rfl rfl rfl ?_
  intro Γ X E
  show Go Γ g 2 (rmC 1 22) 0 0 (slfW g a qv c l vl) 0 [(0, .ref a), (1, .int i)] []
  refine Go.iload_n X 1 dX1_hasElement_0 rfl ?_
  refine Go.iconst X (nI 0) dX1_hasElement_1 k_ic_0 ?_
  refine Go.aload_n X 0 dX1_hasElement_2 rfl ?_
  refine Go.get X f_X1_hasElement_19 0 (v := .int (nI l)) rfl rfl dX1_hasElement_3 ?_
  refine Go.iconst X (nI 1) dX1_hasElement_6 k_ic_1 ?_
  refine Go.isub_e X ((nI l) - (nI 1)) dX1_hasElement_7 rfl ?_
  refine Go.callSNi X  (c_isWithin g i (nI 0) ((nI l) - (nI 1))) cal_X3_isWithin [] rfl rfl gX1_hasElement_X3_isWithin_n22 (by decide) (List.mem_of_getElem? (i := 3) (by decide +kernel)) (List.mem_of_getElem? (i := 2) (by decide +kernel)) rfl rfl rfl dX1_hasElement_8 ?_
  exact Go.nret X E (b2i_nar _) dX1_hasElement_11 ⟨rv (congrArg b2i (show (wi i (nI 0) ((nI l) - (nI 1))) = (inb i l) from by first | exact wi_inb0 (by omega) | exact (wi_inb0 (by omega)))), rfl⟩ rfl
set_option maxHeartbeats 4000000 in
set_option maxRecDepth 100000 in
theorem c_hasElements (g : gT) (a : Nat) (qv : Nat) (c : Int32) (l : Nat) (vl : Nat → Int64) (i : Int32) (n : Int32) (hl : l ≤ 40) : Cw g yX1_hasElements wsX1_hasElements 0 0 [.ref a, .int i, .int n] (slfW g a qv c l vl) (some (.int (b2i (hasR i n l)))) (slfW g a qv c l vl) := by
  refine Ct.start (cc := cX1_hasElements) (nL := 3) (ret := (some .boolean)) (own := RX1) (by decide) rfl rfl rfl ?_
  intro Γ X E
  show Go Γ g 3 (rmC 0 0) 0 0 (slfW g a qv c l vl) 0 [(0, .ref a), (1, .int i), (2, .int n)] []
  refine Go.iload_n X 1 dX1_hasElements_0 rfl ?_
  refine Go.if_lt X 22 dX1_hasElements_1 (by decide) (fun h1 => ?_) (fun h1 => ?_)
  · --
    refine Go.iconst X (nI 0) dX1_hasElements_22 k_ic_0 ?_
    exact Go.nret X E rfl dX1_hasElements_23 ⟨rv (b2i_f (by exact (hasR_1 h1).symm)), rfl⟩ rfl
  · --
    refine Go.iload_n X 2 dX1_hasElements_4 rfl ?_
    refine Go.if_lt X 22 dX1_hasElements_5 (by decide) (fun h5 => ?_) (fun h5 => ?_)
    · --
      refine Go.iconst X (nI 0) dX1_hasElements_22 k_ic_0 ?_
      exact Go.nret X E rfl dX1_hasElements_23 ⟨rv (b2i_f (by exact (hasR_2 h5).symm)), rfl⟩ rfl
    · --
      refine Go.iload_n X 2 dX1_hasElements_8 rfl ?_
      refine Go.aload_n X 0 dX1_hasElements_9 rfl ?_
      refine Go.get X f_X1_hasElements_19 0 (v := .int (nI l)) rfl rfl dX1_hasElements_10 ?_
      refine Go.iload_n X 1 dX1_hasElements_13 rfl ?_
      refine Go.isub_e X ((nI l) - i) dX1_hasElements_14 rfl ?_
      refine Go.icmp_gt X 22 dX1_hasElements_15 (by decide) (fun h15 => ?_) (fun h15 => ?_)
      · --
        refine Go.iconst X (nI 0) dX1_hasElements_22 k_ic_0 ?_
        exact Go.nret X E rfl dX1_hasElements_23 ⟨rv (b2i_f (by exact (hasR_3 h15).symm)), rfl⟩ rfl
      · --
        refine Go.iconst X (nI 1) dX1_hasElements_18 k_ic_1 ?_
        refine Go.goto X 23 dX1_hasElements_19 (by decide) ?_
        exact Go.nret X E rfl dX1_hasElements_23 ⟨rv (b2i_t (by exact (hasR_4 h1 h5 h15).symm)), rfl⟩ rfl
set_option maxHeartbeats 4000000 in
set_option maxRecDepth 100000 in
theorem c_cutToSort (g : gT) (a : Nat) (qv : Nat) (c : Int32) (l : Nat) (vl : Nat → Int64) (v : Int64)  : Cw g yX1_cutToSort wsX1_cutToSort 0 0 [.ref a, .long v] (slfW g a qv c l vl) (some (.long (cutS c v))) (slfW g a qv c l vl) := by
  refine Ct.start (cc := cX1_cutToSort) (nL := 3) (ret := (some .long)) (own := RX1) (by decide) rfl rfl rfl ?_
  intro Γ X E
  show Go Γ g 3 (rmC 0 0) 0 0 (slfW g a qv c l vl) 0 [(0, .ref a), (1, .long v)] []
  refine Go.aload_n X 0 dX1_cutToSort_0 rfl ?_
  refine Go.get X f_X1_cutToSort_9 0 (v := .int c) rfl rfl dX1_cutToSort_1 ?_
  by_cases s4_0 : c = nI 0
  · --
    refine Go.top (congrArg Value.int s4_0) ?_
    refine Go.tableIn X 40 dX1_cutToSort_4 (by decide) (by decide) rfl (by decide) ?_
    refine Go.lload_n X 1 dX1_cutToSort_40 rfl ?_
    refine Go.l2i X ((v).toInt32) dX1_cutToSort_41 rfl ?_
    refine Go.i2b X ((((v).toInt32) : Int32).toInt8.toInt32) dX1_cutToSort_42 rfl ?_
    refine Go.i2l X ((((((v).toInt32) : Int32).toInt8.toInt32) : Int32).toInt64) dX1_cutToSort_43 rfl ?_
    exact Go.lret X E dX1_cutToSort_44 ⟨rvl (by rw [cutS, if_pos s4_0]), rfl⟩ rfl
  by_cases s4_1 : c = nI 1
  · --
    refine Go.top (congrArg Value.int s4_1) ?_
    refine Go.tableIn X 45 dX1_cutToSort_4 (by decide) (by decide) rfl (by decide) ?_
    refine Go.lload_n X 1 dX1_cutToSort_45 rfl ?_
    refine Go.l2i X ((v).toInt32) dX1_cutToSort_46 rfl ?_
    refine Go.i2s X ((((v).toInt32) : Int32).toInt16.toInt32) dX1_cutToSort_47 rfl ?_
    refine Go.i2l X ((((((v).toInt32) : Int32).toInt16.toInt32) : Int32).toInt64) dX1_cutToSort_48 rfl ?_
    exact Go.lret X E dX1_cutToSort_49 ⟨rvl (by rw [cutS, if_neg s4_0, if_pos s4_1]), rfl⟩ rfl
  by_cases s4_2 : c = nI 2
  · --
    refine Go.top (congrArg Value.int s4_2) ?_
    refine Go.tableIn X 50 dX1_cutToSort_4 (by decide) (by decide) rfl (by decide) ?_
    refine Go.lload_n X 1 dX1_cutToSort_50 rfl ?_
    refine Go.l2i X ((v).toInt32) dX1_cutToSort_51 rfl ?_
    refine Go.i2l X ((((v).toInt32) : Int32).toInt64) dX1_cutToSort_52 rfl ?_
    exact Go.lret X E dX1_cutToSort_53 ⟨rvl (by rw [cutS, if_neg s4_0, if_neg s4_1, if_pos s4_2]), rfl⟩ rfl
  by_cases s4_3 : c = nI 3
  · --
    refine Go.top (congrArg Value.int s4_3) ?_
    refine Go.tableIn X 66 dX1_cutToSort_4 (by decide) (by decide) rfl (by decide) ?_
    refine Go.lload_n X 1 dX1_cutToSort_66 rfl ?_
    exact Go.lret X E dX1_cutToSort_67 ⟨rvl (by rw [cutS, if_neg s4_0, if_neg s4_1, if_neg s4_2, if_neg (by rw [s4_3]; decide)]), rfl⟩ rfl
  by_cases s4_4 : c = nI 4
  · --
    refine Go.top (congrArg Value.int s4_4) ?_
    refine Go.tableIn X 54 dX1_cutToSort_4 (by decide) (by decide) rfl (by decide) ?_
    refine Go.lload_n X 1 dX1_cutToSort_54 rfl ?_
    refine Go.lconst X (0) dX1_cutToSort_55 rfl ?_
    refine Go.lcmp X dX1_cutToSort_56 ?_
    refine Go.if_eq X 64 dX1_cutToSort_57 (by decide) (fun h57 => ?_) (fun h57 => ?_)
    · --
      refine Go.lconst X (0) dX1_cutToSort_64 rfl ?_
      exact Go.lret X E dX1_cutToSort_65 ⟨rvl (by rw [cutS, if_neg s4_0, if_neg s4_1, if_neg s4_2, if_pos s4_4, if_pos (lc0 h57)]), rfl⟩ rfl
    · --
      refine Go.lconst X (1) dX1_cutToSort_60 rfl ?_
      refine Go.goto X 65 dX1_cutToSort_61 (by decide) ?_
      exact Go.lret X E dX1_cutToSort_65 ⟨rvl (by rw [cutS, if_neg s4_0, if_neg s4_1, if_neg s4_2, if_pos s4_4, if_neg (lc1 h57)]), rfl⟩ rfl
  have t4_0 := ne_toInt (k := 0) s4_0 (by decide); have t4_1 := ne_toInt (k := 1) s4_1 (by decide); have t4_2 := ne_toInt (k := 2) s4_2 (by decide); have t4_3 := ne_toInt (k := 3) s4_3 (by decide); have t4_4 := ne_toInt (k := 4) s4_4 (by decide)
  refine Go.tableOut X 66 dX1_cutToSort_4 (by omega) (by decide) ?_
  refine Go.lload_n X 1 dX1_cutToSort_66 rfl ?_
  exact Go.lret X E dX1_cutToSort_67 ⟨rvl (by rw [cutS, if_neg s4_0, if_neg s4_1, if_neg s4_2, if_neg s4_4]), rfl⟩ rfl
set_option maxHeartbeats 4000000 in
set_option maxRecDepth 100000 in
theorem c_put (g : gT) (a : Nat) (qv : Nat) (c : Int32) (l : Nat) (vl : Nat → Int64) (i : Nat) (v : Int64) (hi : i < l) (hl : l ≤ 40) : Cw g yX1_put wsX1_put 2 43 [.ref a, .int (nI i), .long v] (slfW g a qv c l vl) none (slfW g a qv c l (vp_updL vl i (cutS c v))) := by
  refine Ct.start (cc := cX1_put) (nL := 4) (ret := none) (own := RX1) (by decide) rfl rfl rfl ?_
  intro Γ X E
  show Go Γ g 4 (rmC 2 43) 0 0 (slfW g a qv c l vl) 0 [(0, .ref a), (1, .int (nI i)), (2, .long v)] []
  refine Go.aload_n X 0 dX1_put_0 rfl ?_
  refine Go.iload_n X 1 dX1_put_1 rfl ?_
  refine Go.callVi X  (c_hasElement g a qv c l vl (nI i) (by first | omega | (split <;> omega))) cal_X1_hasElement [0, 1] rfl rfl gX1_put_X1_hasElement (ci := 1) (q0 := 0) rfl rfl rfl rfl rfl dX1_put_2 ?_
  refine Go.if_eqB X 19 dX1_put_5 (by decide) (fun h5 => ?_) (fun h5 => ?_)
  · --
    rw [inb_nI (by omega) (by omega)] at h5; exact absurd (decide_eq_false_iff_not.mp h5) (by omega)
  · --
    refine Go.aload_n X 0 dX1_put_8 rfl ?_
    refine Go.get X f_X1_put_15 0 (v := .ref qv) rfl rfl dX1_put_9 ?_
    refine Go.iload_n X 1 dX1_put_12 rfl ?_
    refine Go.aload_n X 0 dX1_put_13 rfl ?_
    refine Go.lload_n X 2 dX1_put_14 rfl ?_
    refine Go.callVl X  (c_cutToSort g a qv c l vl v) cal_X1_cutToSort [0, 1] rfl rfl gX1_put_X1_cutToSort (ci := 1) (q0 := 0) rfl rfl rfl rfl rfl dX1_put_15 ?_
    refine Go.lastFM X 1 (slfW g a qv c l (vp_updL vl i (cutS c v))) (f := vl) rfl (by first | omega | (split <;> omega)) rfl dX1_put_18 rfl ?_
    exact Go.vret X E dX1_put_19 ⟨rfl, rfl⟩ rfl
