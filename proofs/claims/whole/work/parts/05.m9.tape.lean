/-! 05.m9.tape -/
theorem f_X2_step_19 : FL wsX2_step RX2 19 2 3 := ⟨RX2, TX2, 5, rfl, fun _ h => List.mem_cons_of_mem _ (List.mem_append_right _ h), by decide, List.mem_of_getElem? (i := 1) (by decide +kernel)⟩
theorem f_X2_step_15 : FL wsX2_step RX2 15 2 1 := ⟨RX2, TX2, 5, rfl, fun _ h => List.mem_cons_of_mem _ (List.mem_append_right _ h), by decide, List.mem_of_getElem? (i := 2) (by decide +kernel)⟩
theorem f_X2_step_101 : FL wsX2_step RX2 101 2 2 := ⟨RX2, TX2, 5, rfl, fun _ h => List.mem_cons_of_mem _ (List.mem_append_right _ h), by decide, List.mem_of_getElem? (i := 4) (by decide +kernel)⟩
theorem fp_2_2 : FP 2 2 .int := ⟨RX2, TX2, 5, tyX2, rfl, tyX2_ok, nmX2, rfl, by decide +kernel⟩
theorem f_X2_step_9 : FL wsX2_step RX2 9 2 0 := ⟨RX2, TX2, 5, rfl, fun _ h => List.mem_cons_of_mem _ (List.mem_append_right _ h), by decide, List.mem_of_getElem? (i := 3) (by decide +kernel)⟩
theorem cal_X2_tokenOf : Cal yX2_tokenOf wsX2_tokenOf cX2_tokenOf 1 (some .int) RX2 1 := ⟨⟨_, rfl⟩, by decide +kernel⟩
theorem f_X2_step_29 : FL wsX2_step RX2 29 2 4 := ⟨RX2, TX2, 5, rfl, fun _ h => List.mem_cons_of_mem _ (List.mem_append_right _ h), by decide, List.mem_of_getElem? (i := 5) (by decide +kernel)⟩
theorem fp_2_4 : FP 2 4 .int := ⟨RX2, TX2, 5, tyX2, rfl, tyX2_ok, nmX2, rfl, by decide +kernel⟩
theorem fp_2_3 : FP 2 3 .int := ⟨RX2, TX2, 5, tyX2, rfl, tyX2_ok, nmX2, rfl, by decide +kernel⟩
theorem cal_X2_isLong : Cal yX2_isLong wsX2_isLong cX2_isLong 1 (some .boolean) RX2 1 := ⟨⟨_, rfl⟩, by decide +kernel⟩
theorem f_X2_numberAtHand_29 : FL wsX2_numberAtHand RX2 29 2 4 := ⟨RX2, TX2, 5, rfl, fun _ h => List.mem_cons_of_mem _ (List.mem_append_right _ h), by decide, List.mem_of_getElem? (i := 1) (by decide +kernel)⟩
theorem f_X2_numberAtHand_19 : FL wsX2_numberAtHand RX2 19 2 3 := ⟨RX2, TX2, 5, rfl, fun _ h => List.mem_cons_of_mem _ (List.mem_append_right _ h), by decide, List.mem_of_getElem? (i := 2) (by decide +kernel)⟩
theorem f_X2_numberAtHand_101 : FL wsX2_numberAtHand RX2 101 2 2 := ⟨RX2, TX2, 5, rfl, fun _ h => List.mem_cons_of_mem _ (List.mem_append_right _ h), by decide, List.mem_of_getElem? (i := 3) (by decide +kernel)⟩
theorem f_X2_numberAtHand_9 : FL wsX2_numberAtHand RX2 9 2 0 := ⟨RX2, TX2, 5, rfl, fun _ h => List.mem_cons_of_mem _ (List.mem_append_right _ h), by decide, List.mem_of_getElem? (i := 4) (by decide +kernel)⟩
theorem cal_X2_numberAtHand : Cal yX2_numberAtHand wsX2_numberAtHand cX2_numberAtHand 5 (some .int) RX2 2 := ⟨⟨_, rfl⟩, by decide +kernel⟩
theorem cal_X2_step : Cal yX2_step wsX2_step cX2_step 1 none RX2 0 := ⟨⟨_, rfl⟩, by decide +kernel⟩
theorem f_X2_isWord_29 : FL wsX2_isWord RX2 29 2 4 := ⟨RX2, TX2, 5, rfl, fun _ h => List.mem_cons_of_mem _ (List.mem_append_right _ h), by decide, List.mem_of_getElem? (i := 1) (by decide +kernel)⟩
theorem f_X2_isWord_19 : FL wsX2_isWord RX2 19 2 3 := ⟨RX2, TX2, 5, rfl, fun _ h => List.mem_cons_of_mem _ (List.mem_append_right _ h), by decide, List.mem_of_getElem? (i := 2) (by decide +kernel)⟩
theorem f_X2_isWord_101 : FL wsX2_isWord RX2 101 2 2 := ⟨RX2, TX2, 5, rfl, fun _ h => List.mem_cons_of_mem _ (List.mem_append_right _ h), by decide, List.mem_of_getElem? (i := 3) (by decide +kernel)⟩
theorem cal_J0_length_8abf5 : Cal yJ0_length_8abf5 wsJ0_length_8abf5 cJ0_length_8abf5 1 (some .int) RJ0 0 := ⟨⟨_, rfl⟩, by decide +kernel⟩
theorem f_X2_isWord_9 : FL wsX2_isWord RX2 9 2 0 := ⟨RX2, TX2, 5, rfl, fun _ h => List.mem_cons_of_mem _ (List.mem_append_right _ h), by decide, List.mem_of_getElem? (i := 4) (by decide +kernel)⟩
theorem cal_J0_charAt_5068e : Cal yJ0_charAt_5068e wsJ0_charAt_5068e cJ0_charAt_5068e 2 (some .char) RJ0 1 := ⟨⟨_, rfl⟩, by decide +kernel⟩
theorem k_bp_97 : (Int8.ofInt (97)).toInt32 = nI 97 := by decide
theorem k_bp_48 : (Int8.ofInt (48)).toInt32 = nI 48 := by decide
theorem k_bp_59 : (Int8.ofInt (59)).toInt32 = nI 59 := by decide
theorem k_bp_57 : (Int8.ofInt (57)).toInt32 = nI 57 := by decide
theorem k_bp_122 : (Int8.ofInt (122)).toInt32 = nI 122 := by decide
set_option maxHeartbeats 4000000 in
set_option maxRecDepth 100000 in
theorem c_tokenOf (g : gT) (c : Nat) (hc : c < 256) : Cw g yX2_tokenOf wsX2_tokenOf 0 0 [.int (nI c)] ([]) (some (.int (nI (tokK c)))) ([]) := by
  refine Ct.start (cc := cX2_tokenOf) (nL := 1) (ret := (some .int)) (own := RX2) (by decide) rfl rfl rfl ?_
  intro Γ X E
  show Go Γ g 1 (rmC 0 0) 0 0 ([]) 0 [(0, .int (nI c))] []
  refine Go.iload_n X 0 dX2_tokenOf_0 rfl ?_
  refine Go.bipush X (nI 97) dX2_tokenOf_1 k_bp_97 ?_
  refine Go.icmp_ltN X 14 dX2_tokenOf_3 (by decide) (by first | omega | (split <;> omega)) (by decide) (fun h3 => ?_) (fun h3 => ?_)
  · --
    refine Go.iload_n X 0 dX2_tokenOf_14 rfl ?_
    refine Go.bipush X (nI 48) dX2_tokenOf_15 k_bp_48 ?_
    refine Go.icmp_ltN X 28 dX2_tokenOf_17 (by decide) (by first | omega | (split <;> omega)) (by decide) (fun h17 => ?_) (fun h17 => ?_)
    · --
      refine Go.iload_n X 0 dX2_tokenOf_28 rfl ?_
      refine Go.bipush X (nI 59) dX2_tokenOf_29 k_bp_59 ?_
      refine Go.icmp_neN X 38 dX2_tokenOf_31 (by decide) (by first | omega | (split <;> omega)) (by decide) (fun h31 => ?_) (fun h31 => ?_)
      · --
        refine Go.iconst X (nI 4) dX2_tokenOf_38 k_ic_4 ?_
        exact Go.iret X E dX2_tokenOf_39 ⟨rv (congrArg nI (show 4 = tokK c from by unfold tokK; (repeat' split) <;> omega)), rfl⟩ rfl
      · --
        refine Go.iconst X (nI 3) dX2_tokenOf_34 k_ic_3 ?_
        refine Go.goto X 39 dX2_tokenOf_35 (by decide) ?_
        exact Go.iret X E dX2_tokenOf_39 ⟨rv (congrArg nI (show 3 = tokK c from by unfold tokK; (repeat' split) <;> omega)), rfl⟩ rfl
    · --
      refine Go.iload_n X 0 dX2_tokenOf_20 rfl ?_
      refine Go.bipush X (nI 57) dX2_tokenOf_21 k_bp_57 ?_
      refine Go.icmp_gtN X 28 dX2_tokenOf_23 (by decide) (by first | omega | (split <;> omega)) (by decide) (fun h23 => ?_) (fun h23 => ?_)
      · --
        refine Go.iload_n X 0 dX2_tokenOf_28 rfl ?_
        refine Go.bipush X (nI 59) dX2_tokenOf_29 k_bp_59 ?_
        refine Go.icmp_neN X 38 dX2_tokenOf_31 (by decide) (by first | omega | (split <;> omega)) (by decide) (fun h31 => ?_) (fun h31 => ?_)
        · --
          refine Go.iconst X (nI 4) dX2_tokenOf_38 k_ic_4 ?_
          exact Go.iret X E dX2_tokenOf_39 ⟨rv (congrArg nI (show 4 = tokK c from by unfold tokK; (repeat' split) <;> omega)), rfl⟩ rfl
        · --
          refine Go.iconst X (nI 3) dX2_tokenOf_34 k_ic_3 ?_
          refine Go.goto X 39 dX2_tokenOf_35 (by decide) ?_
          exact Go.iret X E dX2_tokenOf_39 ⟨rv (congrArg nI (show 3 = tokK c from by unfold tokK; (repeat' split) <;> omega)), rfl⟩ rfl
      · --
        refine Go.iconst X (nI 2) dX2_tokenOf_26 k_ic_2 ?_
        exact Go.iret X E dX2_tokenOf_27 ⟨rv (congrArg nI (show 2 = tokK c from by unfold tokK; (repeat' split) <;> omega)), rfl⟩ rfl
  · --
    refine Go.iload_n X 0 dX2_tokenOf_6 rfl ?_
    refine Go.bipush X (nI 122) dX2_tokenOf_7 k_bp_122 ?_
    refine Go.icmp_gtN X 14 dX2_tokenOf_9 (by decide) (by first | omega | (split <;> omega)) (by decide) (fun h9 => ?_) (fun h9 => ?_)
    · --
      refine Go.iload_n X 0 dX2_tokenOf_14 rfl ?_
      refine Go.bipush X (nI 48) dX2_tokenOf_15 k_bp_48 ?_
      refine Go.icmp_ltN X 28 dX2_tokenOf_17 (by decide) (by first | omega | (split <;> omega)) (by decide) (fun h17 => ?_) (fun h17 => ?_)
      · --
        refine Go.iload_n X 0 dX2_tokenOf_28 rfl ?_
        refine Go.bipush X (nI 59) dX2_tokenOf_29 k_bp_59 ?_
        refine Go.icmp_neN X 38 dX2_tokenOf_31 (by decide) (by first | omega | (split <;> omega)) (by decide) (fun h31 => ?_) (fun h31 => ?_)
        · --
          refine Go.iconst X (nI 4) dX2_tokenOf_38 k_ic_4 ?_
          exact Go.iret X E dX2_tokenOf_39 ⟨rv (congrArg nI (show 4 = tokK c from by unfold tokK; (repeat' split) <;> omega)), rfl⟩ rfl
        · --
          refine Go.iconst X (nI 3) dX2_tokenOf_34 k_ic_3 ?_
          refine Go.goto X 39 dX2_tokenOf_35 (by decide) ?_
          exact Go.iret X E dX2_tokenOf_39 ⟨rv (congrArg nI (show 3 = tokK c from by unfold tokK; (repeat' split) <;> omega)), rfl⟩ rfl
      · --
        refine Go.iload_n X 0 dX2_tokenOf_20 rfl ?_
        refine Go.bipush X (nI 57) dX2_tokenOf_21 k_bp_57 ?_
        refine Go.icmp_gtN X 28 dX2_tokenOf_23 (by decide) (by first | omega | (split <;> omega)) (by decide) (fun h23 => ?_) (fun h23 => ?_)
        · --
          refine Go.iload_n X 0 dX2_tokenOf_28 rfl ?_
          refine Go.bipush X (nI 59) dX2_tokenOf_29 k_bp_59 ?_
          refine Go.icmp_neN X 38 dX2_tokenOf_31 (by decide) (by first | omega | (split <;> omega)) (by decide) (fun h31 => ?_) (fun h31 => ?_)
          · --
            refine Go.iconst X (nI 4) dX2_tokenOf_38 k_ic_4 ?_
            exact Go.iret X E dX2_tokenOf_39 ⟨rv (congrArg nI (show 4 = tokK c from by unfold tokK; (repeat' split) <;> omega)), rfl⟩ rfl
          · --
            refine Go.iconst X (nI 3) dX2_tokenOf_34 k_ic_3 ?_
            refine Go.goto X 39 dX2_tokenOf_35 (by decide) ?_
            exact Go.iret X E dX2_tokenOf_39 ⟨rv (congrArg nI (show 3 = tokK c from by unfold tokK; (repeat' split) <;> omega)), rfl⟩ rfl
        · --
          refine Go.iconst X (nI 2) dX2_tokenOf_26 k_ic_2 ?_
          exact Go.iret X E dX2_tokenOf_27 ⟨rv (congrArg nI (show 2 = tokK c from by unfold tokK; (repeat' split) <;> omega)), rfl⟩ rfl
    · --
      refine Go.iconst X (nI 1) dX2_tokenOf_12 k_ic_1 ?_
      exact Go.iret X E dX2_tokenOf_13 ⟨rv (congrArg nI (show 1 = tokK c from by unfold tokK; (repeat' split) <;> omega)), rfl⟩ rfl
set_option maxHeartbeats 4000000 in
set_option maxRecDepth 100000 in
theorem c_isLong (g : gT) (t : Nat) (ht : t < 9) : Cw g yX2_isLong wsX2_isLong 0 0 [.int (nI t)] ([]) (some (.int (b2i (decide (t = 1 ∨ t = 2))))) ([]) := by
  refine Ct.start (cc := cX2_isLong) (nL := 1) (ret := (some .boolean)) (own := RX2) (by decide) rfl rfl rfl ?_
  intro Γ X E
  show Go Γ g 1 (rmC 0 0) 0 0 ([]) 0 [(0, .int (nI t))] []
  refine Go.iload_n X 0 dX2_isLong_0 rfl ?_
  refine Go.iconst X (nI 1) dX2_isLong_1 k_ic_1 ?_
  refine Go.icmp_eqN X 10 dX2_isLong_2 (by decide) (by first | omega | (split <;> omega)) (by decide) (fun h2 => ?_) (fun h2 => ?_)
  · --
    refine Go.iconst X (nI 1) dX2_isLong_10 k_ic_1 ?_
    refine Go.goto X 15 dX2_isLong_11 (by decide) ?_
    exact Go.nret X E rfl dX2_isLong_15 ⟨rv (b2i_t (by simp <;> omega)), rfl⟩ rfl
  · --
    refine Go.iload_n X 0 dX2_isLong_5 rfl ?_
    refine Go.iconst X (nI 2) dX2_isLong_6 k_ic_2 ?_
    refine Go.icmp_neN X 14 dX2_isLong_7 (by decide) (by first | omega | (split <;> omega)) (by decide) (fun h7 => ?_) (fun h7 => ?_)
    · --
      refine Go.iconst X (nI 0) dX2_isLong_14 k_ic_0 ?_
      exact Go.nret X E rfl dX2_isLong_15 ⟨rv (b2i_f (by simp <;> omega)), rfl⟩ rfl
    · --
      refine Go.iconst X (nI 1) dX2_isLong_10 k_ic_1 ?_
      refine Go.goto X 15 dX2_isLong_11 (by decide) ?_
      exact Go.nret X E rfl dX2_isLong_15 ⟨rv (b2i_t (by simp <;> omega)), rfl⟩ rfl
set_option maxHeartbeats 4000000 in
set_option maxRecDepth 100000 in
theorem c_step (g : gT) (a : Nat) (q : Nat) (z : Nat) (le : Nat → Nat) (ts : Nat) (te : Nat) (tk : Nat) (hz : z ≤ 250) (hl : ∀ i, i < 250 → le i < 256) (he : te ≤ z) : Cw g yX2_step wsX2_step 1 20 [.ref a] (tpW g a q z le ts te tk) none (tpW g a q z le (skp le z te) (tkE le z te) (tkK le z te)) := by
  refine Ct.start (cc := cX2_step) (nL := 1) (ret := none) (own := RX2) (by decide) rfl rfl rfl ?_
  intro Γ X E
  show Go Γ g 1 (rmC 1 20) 0 0 (tpW g a q z le ts te tk) 0 [(0, .ref a)] []
  have L0 : ∀ (f0 : Nat) (e : Nat) (h1 : e ≤ z) (h2 : skp le z te = skp le z e) (hf0 : z - e < f0), Go Γ g 1 (rmC 1 20) 0 0 (tpW g a q z le ts e tk) 0 [(0, .ref a)] [] := by
    intro f0
    induction f0 with
    | zero => intro e h1 h2 hf0; exact absurd hf0 (Nat.not_lt_zero _)
    | succ f0 ih0 =>
      intro e h1 h2 hf0
      refine Go.aload_n X 0 dX2_step_0 rfl ?_
      refine Go.get X f_X2_step_19 0 (v := .int (nI e)) rfl rfl dX2_step_1 ?_
      refine Go.aload_n X 0 dX2_step_4 rfl ?_
      refine Go.get X f_X2_step_15 0 (v := .int (nI z)) rfl rfl dX2_step_5 ?_
      refine Go.icmp_geN X 38 dX2_step_8 (by decide) (by first | omega | (split <;> omega)) (by first | omega | (split <;> omega)) (fun h8 => ?_) (fun h8 => ?_)
      · --
        have q2 : skp le z te = e := h2.trans (scn_z h8)
        refine Go.conv (M1 := tpW g a q z le ts (skp le z te) tk) ?_ (by rw [q2]) rfl rfl
        refine Go.aload_n X 0 dX2_step_38 rfl ?_
        refine Go.aload_n X 0 dX2_step_39 rfl ?_
        refine Go.get X f_X2_step_19 0 (v := .int (nI (skp le z te))) rfl rfl dX2_step_40 ?_
        refine Go.putM X f_X2_step_101 fp_2_2 0 (tpW g a q z le (skp le z te) (skp le z te) tk) rfl rfl rfl rfl dX2_step_43 rfl ?_
        refine Go.aload_n X 0 dX2_step_46 rfl ?_
        refine Go.get X f_X2_step_19 0 (v := .int (nI (skp le z te))) rfl rfl dX2_step_47 ?_
        refine Go.aload_n X 0 dX2_step_50 rfl ?_
        refine Go.get X f_X2_step_15 0 (v := .int (nI z)) rfl rfl dX2_step_51 ?_
        refine Go.icmp_ltN X 63 dX2_step_54 (by decide) (by first | omega | (split <;> omega)) (by first | omega | (split <;> omega)) (fun h54 => ?_) (fun h54 => ?_)
        · --
          refine Go.aload_n X 0 dX2_step_63 rfl ?_
          refine Go.aload_n X 0 dX2_step_64 rfl ?_
          refine Go.get X f_X2_step_9 0 (v := .ref q) rfl rfl dX2_step_65 ?_
          refine Go.aload_n X 0 dX2_step_68 rfl ?_
          refine Go.get X f_X2_step_19 0 (v := .int (nI (skp le z te))) rfl rfl dX2_step_69 ?_
          refine Go.ialdN X 1 (w := le) rfl (by first | omega | (split <;> omega)) rfl dX2_step_72 ?_
          have q3 := hl (skp le z te) (by omega)
          refine Go.callSi X  (c_tokenOf g (le (skp le z te)) (by first | omega | (split <;> omega))) cal_X2_tokenOf [] rfl rfl gX2_step_X2_tokenOf rfl rfl rfl dX2_step_73 ?_
          have f73_1 := tokK_le (le (skp le z te))
          refine Go.putM X f_X2_step_29 fp_2_4 0 (tpW g a q z le (skp le z te) (skp le z te) (tokK (le (skp le z te)))) rfl rfl rfl rfl dX2_step_76 rfl ?_
          refine Go.aload_n X 0 dX2_step_79 rfl ?_
          refine Go.dup X dX2_step_80 rfl ?_
          refine Go.get X f_X2_step_19 0 (v := .int (nI (skp le z te))) rfl rfl dX2_step_81 ?_
          refine Go.iconst X (nI 1) dX2_step_84 k_ic_1 ?_
          refine Go.iadd_e X (nI (skp le z te + 1)) dX2_step_85 (nI_add _ _) ?_
          refine Go.putM X f_X2_step_19 fp_2_3 0 (tpW g a q z le (skp le z te) (skp le z te + 1) (tokK (le (skp le z te)))) rfl rfl rfl rfl dX2_step_86 rfl ?_
          have L89 : ∀ (f89 : Nat) (e : Nat) (h3 : e ≤ z) (h4 : tokK (le (skp le z te)) = 1 ∨ tokK (le (skp le z te)) = 2 → run le z (tokK (le (skp le z te))) ((skp le z te) + 1) = run le z (tokK (le (skp le z te))) e) (h5 : ¬ (tokK (le (skp le z te)) = 1 ∨ tokK (le (skp le z te)) = 2) → e = (skp le z te) + 1) (hf89 : z - e < f89), Go Γ g 1 (rmC 1 20) 0 0 (tpW g a q z le (skp le z te) e (tokK (le (skp le z te)))) 89 [(0, .ref a)] [] := by
            intro f89
            induction f89 with
            | zero => intro e h3 h4 h5 hf89; exact absurd hf89 (Nat.not_lt_zero _)
            | succ f89 ih89 =>
              intro e h3 h4 h5 hf89
              refine Go.aload_n X 0 dX2_step_89 rfl ?_
              refine Go.get X f_X2_step_19 0 (v := .int (nI e)) rfl rfl dX2_step_90 ?_
              refine Go.aload_n X 0 dX2_step_93 rfl ?_
              refine Go.get X f_X2_step_15 0 (v := .int (nI z)) rfl rfl dX2_step_94 ?_
              refine Go.icmp_geN X 142 dX2_step_97 (by decide) (by first | omega | (split <;> omega)) (by first | omega | (split <;> omega)) (fun h97 => ?_) (fun h97 => ?_)
              · --
                exact Go.vret X E dX2_step_142 ⟨rfl, (by rw [tkK_1 h54, tkE_1 h54 (fun q => (h4 q).trans (scn_z h97)) h5])⟩ rfl
              · --
                refine Go.aload_n X 0 dX2_step_100 rfl ?_
                refine Go.get X f_X2_step_29 0 (v := .int (nI (tokK (le (skp le z te))))) rfl rfl dX2_step_101 ?_
                refine Go.callSi X  (c_isLong g (tokK (le (skp le z te))) (by first | omega | (split <;> omega))) cal_X2_isLong [] rfl rfl gX2_step_X2_isLong rfl rfl rfl dX2_step_104 ?_
                refine Go.if_eqB X 142 dX2_step_107 (by decide) (fun h107 => ?_) (fun h107 => ?_)
                · --
                  exact Go.vret X E dX2_step_142 ⟨rfl, (by rw [tkK_1 h54, tkE_1 h54 (fun q => absurd (decide_eq_true q) (by rw [h107]; decide)) h5])⟩ rfl
                · --
                  refine Go.aload_n X 0 dX2_step_110 rfl ?_
                  refine Go.get X f_X2_step_9 0 (v := .ref q) rfl rfl dX2_step_111 ?_
                  refine Go.aload_n X 0 dX2_step_114 rfl ?_
                  refine Go.get X f_X2_step_19 0 (v := .int (nI e)) rfl rfl dX2_step_115 ?_
                  refine Go.ialdN X 1 (w := le) rfl (by first | omega | (split <;> omega)) rfl dX2_step_118 ?_
                  have q4 := hl e (by omega)
                  refine Go.callSi X  (c_tokenOf g (le e) (by first | omega | (split <;> omega))) cal_X2_tokenOf [] rfl rfl gX2_step_X2_tokenOf rfl rfl rfl dX2_step_119 ?_
                  have f119_2 := tokK_le (le e)
                  refine Go.aload_n X 0 dX2_step_122 rfl ?_
                  refine Go.get X f_X2_step_29 0 (v := .int (nI (tokK (le (skp le z te))))) rfl rfl dX2_step_123 ?_
                  refine Go.icmp_neN X 142 dX2_step_126 (by decide) (by first | omega | (split <;> omega)) (by first | omega | (split <;> omega)) (fun h126 => ?_) (fun h126 => ?_)
                  · --
                    exact Go.vret X E dX2_step_142 ⟨rfl, (by rw [tkK_1 h54, tkE_1 h54 (fun q => (h4 q).trans (scn_p (decide_eq_false h126))) h5])⟩ rfl
                  · --
                    refine Go.aload_n X 0 dX2_step_129 rfl ?_
                    refine Go.dup X dX2_step_130 rfl ?_
                    refine Go.get X f_X2_step_19 0 (v := .int (nI e)) rfl rfl dX2_step_131 ?_
                    refine Go.iconst X (nI 1) dX2_step_134 k_ic_1 ?_
                    refine Go.iadd_e X (nI (e + 1)) dX2_step_135 (nI_add _ _) ?_
                    refine Go.putM X f_X2_step_19 fp_2_3 0 (tpW g a q z le (skp le z te) (e + 1) (tokK (le (skp le z te)))) rfl rfl rfl rfl dX2_step_136 rfl ?_
                    refine Go.goto X 89 dX2_step_139 (by decide) ?_
                    refine Go.conv (M1 := tpW g a q z le (skp le z te) (e + 1) (tokK (le (skp le z te)))) ?_ (by rfl) rfl rfl
                    exact ih89 (e + 1) (by first | omega | (split <;> omega)) (by intro q; rw [h4 q]; exact scn_s h97 (decide_eq_true h126)) (by intro q; simp only [decide_eq_true_eq] at h107; exact absurd h107 q) (by first | omega | (split <;> omega))
          refine Go.conv (M1 := tpW g a q z le (skp le z te) ((skp le z te) + 1) (tokK (le (skp le z te)))) ?_ (by rfl) rfl rfl
          exact L89 (z - ((skp le z te) + 1) + 1) ((skp le z te) + 1) (by first | omega | (split <;> omega)) (by intro _; rfl) (by intro _; rfl) (Nat.lt_succ_self _)
        · --
          refine Go.aload_n X 0 dX2_step_57 rfl ?_
          refine Go.iconst X (nI 0) dX2_step_58 k_ic_0 ?_
          refine Go.putM X f_X2_step_29 fp_2_4 0 (tpW g a q z le (skp le z te) (skp le z te) 0) rfl rfl rfl rfl dX2_step_59 rfl ?_
          exact Go.vret X E dX2_step_62 ⟨rfl, (by rw [(st_0 h54).1, (st_0 h54).2])⟩ rfl
      · --
        refine Go.aload_n X 0 dX2_step_11 rfl ?_
        refine Go.get X f_X2_step_9 0 (v := .ref q) rfl rfl dX2_step_12 ?_
        refine Go.aload_n X 0 dX2_step_15 rfl ?_
        refine Go.get X f_X2_step_19 0 (v := .int (nI e)) rfl rfl dX2_step_16 ?_
        refine Go.ialdN X 1 (w := le) rfl (by first | omega | (split <;> omega)) rfl dX2_step_19 ?_
        have q1 := hl e (by omega)
        refine Go.bipush X (nI 32) dX2_step_20 k_bp_32 ?_
        refine Go.icmp_neN X 38 dX2_step_22 (by decide) (by first | omega | (split <;> omega)) (by decide) (fun h22 => ?_) (fun h22 => ?_)
        · --
          have q2 : skp le z te = e := h2.trans (scn_p (decide_eq_false h22))
          refine Go.conv (M1 := tpW g a q z le ts (skp le z te) tk) ?_ (by rw [q2]) rfl rfl
          refine Go.aload_n X 0 dX2_step_38 rfl ?_
          refine Go.aload_n X 0 dX2_step_39 rfl ?_
          refine Go.get X f_X2_step_19 0 (v := .int (nI (skp le z te))) rfl rfl dX2_step_40 ?_
          refine Go.putM X f_X2_step_101 fp_2_2 0 (tpW g a q z le (skp le z te) (skp le z te) tk) rfl rfl rfl rfl dX2_step_43 rfl ?_
          refine Go.aload_n X 0 dX2_step_46 rfl ?_
          refine Go.get X f_X2_step_19 0 (v := .int (nI (skp le z te))) rfl rfl dX2_step_47 ?_
          refine Go.aload_n X 0 dX2_step_50 rfl ?_
          refine Go.get X f_X2_step_15 0 (v := .int (nI z)) rfl rfl dX2_step_51 ?_
          refine Go.icmp_ltN X 63 dX2_step_54 (by decide) (by first | omega | (split <;> omega)) (by first | omega | (split <;> omega)) (fun h54 => ?_) (fun h54 => ?_)
          · --
            refine Go.aload_n X 0 dX2_step_63 rfl ?_
            refine Go.aload_n X 0 dX2_step_64 rfl ?_
            refine Go.get X f_X2_step_9 0 (v := .ref q) rfl rfl dX2_step_65 ?_
            refine Go.aload_n X 0 dX2_step_68 rfl ?_
            refine Go.get X f_X2_step_19 0 (v := .int (nI (skp le z te))) rfl rfl dX2_step_69 ?_
            refine Go.ialdN X 1 (w := le) rfl (by first | omega | (split <;> omega)) rfl dX2_step_72 ?_
            have q3 := hl (skp le z te) (by omega)
            refine Go.callSi X  (c_tokenOf g (le (skp le z te)) (by first | omega | (split <;> omega))) cal_X2_tokenOf [] rfl rfl gX2_step_X2_tokenOf rfl rfl rfl dX2_step_73 ?_
            have f73_3 := tokK_le (le (skp le z te))
            refine Go.putM X f_X2_step_29 fp_2_4 0 (tpW g a q z le (skp le z te) (skp le z te) (tokK (le (skp le z te)))) rfl rfl rfl rfl dX2_step_76 rfl ?_
            refine Go.aload_n X 0 dX2_step_79 rfl ?_
            refine Go.dup X dX2_step_80 rfl ?_
            refine Go.get X f_X2_step_19 0 (v := .int (nI (skp le z te))) rfl rfl dX2_step_81 ?_
            refine Go.iconst X (nI 1) dX2_step_84 k_ic_1 ?_
            refine Go.iadd_e X (nI (skp le z te + 1)) dX2_step_85 (nI_add _ _) ?_
            refine Go.putM X f_X2_step_19 fp_2_3 0 (tpW g a q z le (skp le z te) (skp le z te + 1) (tokK (le (skp le z te)))) rfl rfl rfl rfl dX2_step_86 rfl ?_
            have L89 : ∀ (f89 : Nat) (e : Nat) (h3 : e ≤ z) (h4 : tokK (le (skp le z te)) = 1 ∨ tokK (le (skp le z te)) = 2 → run le z (tokK (le (skp le z te))) ((skp le z te) + 1) = run le z (tokK (le (skp le z te))) e) (h5 : ¬ (tokK (le (skp le z te)) = 1 ∨ tokK (le (skp le z te)) = 2) → e = (skp le z te) + 1) (hf89 : z - e < f89), Go Γ g 1 (rmC 1 20) 0 0 (tpW g a q z le (skp le z te) e (tokK (le (skp le z te)))) 89 [(0, .ref a)] [] := by
              intro f89
              induction f89 with
              | zero => intro e h3 h4 h5 hf89; exact absurd hf89 (Nat.not_lt_zero _)
              | succ f89 ih89 =>
                intro e h3 h4 h5 hf89
                refine Go.aload_n X 0 dX2_step_89 rfl ?_
                refine Go.get X f_X2_step_19 0 (v := .int (nI e)) rfl rfl dX2_step_90 ?_
                refine Go.aload_n X 0 dX2_step_93 rfl ?_
                refine Go.get X f_X2_step_15 0 (v := .int (nI z)) rfl rfl dX2_step_94 ?_
                refine Go.icmp_geN X 142 dX2_step_97 (by decide) (by first | omega | (split <;> omega)) (by first | omega | (split <;> omega)) (fun h97 => ?_) (fun h97 => ?_)
                · --
                  exact Go.vret X E dX2_step_142 ⟨rfl, (by rw [tkK_1 h54, tkE_1 h54 (fun q => (h4 q).trans (scn_z h97)) h5])⟩ rfl
                · --
                  refine Go.aload_n X 0 dX2_step_100 rfl ?_
                  refine Go.get X f_X2_step_29 0 (v := .int (nI (tokK (le (skp le z te))))) rfl rfl dX2_step_101 ?_
                  refine Go.callSi X  (c_isLong g (tokK (le (skp le z te))) (by first | omega | (split <;> omega))) cal_X2_isLong [] rfl rfl gX2_step_X2_isLong rfl rfl rfl dX2_step_104 ?_
                  refine Go.if_eqB X 142 dX2_step_107 (by decide) (fun h107 => ?_) (fun h107 => ?_)
                  · --
                    exact Go.vret X E dX2_step_142 ⟨rfl, (by rw [tkK_1 h54, tkE_1 h54 (fun q => absurd (decide_eq_true q) (by rw [h107]; decide)) h5])⟩ rfl
                  · --
                    refine Go.aload_n X 0 dX2_step_110 rfl ?_
                    refine Go.get X f_X2_step_9 0 (v := .ref q) rfl rfl dX2_step_111 ?_
                    refine Go.aload_n X 0 dX2_step_114 rfl ?_
                    refine Go.get X f_X2_step_19 0 (v := .int (nI e)) rfl rfl dX2_step_115 ?_
                    refine Go.ialdN X 1 (w := le) rfl (by first | omega | (split <;> omega)) rfl dX2_step_118 ?_
                    have q4 := hl e (by omega)
                    refine Go.callSi X  (c_tokenOf g (le e) (by first | omega | (split <;> omega))) cal_X2_tokenOf [] rfl rfl gX2_step_X2_tokenOf rfl rfl rfl dX2_step_119 ?_
                    have f119_4 := tokK_le (le e)
                    refine Go.aload_n X 0 dX2_step_122 rfl ?_
                    refine Go.get X f_X2_step_29 0 (v := .int (nI (tokK (le (skp le z te))))) rfl rfl dX2_step_123 ?_
                    refine Go.icmp_neN X 142 dX2_step_126 (by decide) (by first | omega | (split <;> omega)) (by first | omega | (split <;> omega)) (fun h126 => ?_) (fun h126 => ?_)
                    · --
                      exact Go.vret X E dX2_step_142 ⟨rfl, (by rw [tkK_1 h54, tkE_1 h54 (fun q => (h4 q).trans (scn_p (decide_eq_false h126))) h5])⟩ rfl
                    · --
                      refine Go.aload_n X 0 dX2_step_129 rfl ?_
                      refine Go.dup X dX2_step_130 rfl ?_
                      refine Go.get X f_X2_step_19 0 (v := .int (nI e)) rfl rfl dX2_step_131 ?_
                      refine Go.iconst X (nI 1) dX2_step_134 k_ic_1 ?_
                      refine Go.iadd_e X (nI (e + 1)) dX2_step_135 (nI_add _ _) ?_
                      refine Go.putM X f_X2_step_19 fp_2_3 0 (tpW g a q z le (skp le z te) (e + 1) (tokK (le (skp le z te)))) rfl rfl rfl rfl dX2_step_136 rfl ?_
                      refine Go.goto X 89 dX2_step_139 (by decide) ?_
                      refine Go.conv (M1 := tpW g a q z le (skp le z te) (e + 1) (tokK (le (skp le z te)))) ?_ (by rfl) rfl rfl
                      exact ih89 (e + 1) (by first | omega | (split <;> omega)) (by intro q; rw [h4 q]; exact scn_s h97 (decide_eq_true h126)) (by intro q; simp only [decide_eq_true_eq] at h107; exact absurd h107 q) (by first | omega | (split <;> omega))
            refine Go.conv (M1 := tpW g a q z le (skp le z te) ((skp le z te) + 1) (tokK (le (skp le z te)))) ?_ (by rfl) rfl rfl
            exact L89 (z - ((skp le z te) + 1) + 1) ((skp le z te) + 1) (by first | omega | (split <;> omega)) (by intro _; rfl) (by intro _; rfl) (Nat.lt_succ_self _)
          · --
            refine Go.aload_n X 0 dX2_step_57 rfl ?_
            refine Go.iconst X (nI 0) dX2_step_58 k_ic_0 ?_
            refine Go.putM X f_X2_step_29 fp_2_4 0 (tpW g a q z le (skp le z te) (skp le z te) 0) rfl rfl rfl rfl dX2_step_59 rfl ?_
            exact Go.vret X E dX2_step_62 ⟨rfl, (by rw [(st_0 h54).1, (st_0 h54).2])⟩ rfl
        · --
          refine Go.aload_n X 0 dX2_step_25 rfl ?_
          refine Go.dup X dX2_step_26 rfl ?_
          refine Go.get X f_X2_step_19 0 (v := .int (nI e)) rfl rfl dX2_step_27 ?_
          refine Go.iconst X (nI 1) dX2_step_30 k_ic_1 ?_
          refine Go.iadd_e X (nI (e + 1)) dX2_step_31 (nI_add _ _) ?_
          refine Go.putM X f_X2_step_19 fp_2_3 0 (tpW g a q z le ts (e + 1) tk) rfl rfl rfl rfl dX2_step_32 rfl ?_
          refine Go.goto X 0 dX2_step_35 (by decide) ?_
          refine Go.conv (M1 := tpW g a q z le ts (e + 1) tk) ?_ (by rfl) rfl rfl
          exact ih0 (e + 1) (by first | omega | (split <;> omega)) (by rw [h2]; exact scn_s h8 (decide_eq_true h22)) (by first | omega | (split <;> omega))
  refine Go.conv (M1 := tpW g a q z le ts te tk) ?_ (by rfl) rfl rfl
  exact L0 (z - te + 1) te (by first | omega | (split <;> omega)) (by rfl) (Nat.lt_succ_self _)
set_option maxHeartbeats 4000000 in
set_option maxRecDepth 100000 in
theorem c_numberAtHand (g : gT) (a : Nat) (q : Nat) (z : Nat) (le : Nat → Nat) (ts : Nat) (te : Nat) (tk : Nat) (lo : Int32) (hi : Int32) (hz : z ≤ 250) (hl : ∀ i, i < 250 → le i < 256) (ht : ts ≤ te) (he : te ≤ z) (hk : tk ≤ 4) : Cw g yX2_numberAtHand wsX2_numberAtHand 1 22 [.ref a, .int lo, .int hi] (tpW g a q z le ts te tk) (some (.int (numH le ts te tk lo hi))) (tpW g a q z le ts te tk) := by
  refine Ct.start (cc := cX2_numberAtHand) (nL := 5) (ret := (some .int)) (own := RX2) (by decide) rfl rfl rfl ?_
  intro Γ X E
  show Go Γ g 5 (rmC 1 22) 0 0 (tpW g a q z le ts te tk) 0 [(0, .ref a), (1, .int lo), (2, .int hi)] []
  refine Go.aload_n X 0 dX2_numberAtHand_0 rfl ?_
  refine Go.get X f_X2_numberAtHand_29 0 (v := .int (nI tk)) rfl rfl dX2_numberAtHand_1 ?_
  refine Go.iconst X (nI 2) dX2_numberAtHand_4 k_ic_2 ?_
  refine Go.icmp_neN X 21 dX2_numberAtHand_5 (by decide) (by first | omega | (split <;> omega)) (by decide) (fun h5 => ?_) (fun h5 => ?_)
  · --
    refine Go.iconst X ((-1 : Int32)) dX2_numberAtHand_21 k_ic_m1 ?_
    exact Go.iret X E dX2_numberAtHand_22 ⟨rv (show (-1) = numH le ts te tk lo hi from by rw [numH, if_neg h5]), rfl⟩ rfl
  · --
    refine Go.aload_n X 0 dX2_numberAtHand_8 rfl ?_
    refine Go.get X f_X2_numberAtHand_19 0 (v := .int (nI te)) rfl rfl dX2_numberAtHand_9 ?_
    refine Go.aload_n X 0 dX2_numberAtHand_12 rfl ?_
    refine Go.get X f_X2_numberAtHand_101 0 (v := .int (nI ts)) rfl rfl dX2_numberAtHand_13 ?_
    refine Go.isub_e X (nI (te - ts)) dX2_numberAtHand_16 (pk_sub (by first | omega | (split <;> omega))) ?_
    refine Go.iconst X (nI 2) dX2_numberAtHand_17 k_ic_2 ?_
    refine Go.icmp_leN X 23 dX2_numberAtHand_18 (by decide) (by first | omega | (split <;> omega)) (by decide) (fun h18 => ?_) (fun h18 => ?_)
    · --
      refine Go.iconst X (nI 0) dX2_numberAtHand_23 k_ic_0 ?_
      refine Go.istore_n_new X dX2_numberAtHand_24 (by decide) rfl ?_
      refine Go.aload_n X 1 dX2_numberAtHand_25 rfl ?_
      refine Go.get X f_X2_numberAtHand_101 0 (v := .int (nI ts)) rfl rfl dX2_numberAtHand_26 ?_
      refine Go.istore_new X dX2_numberAtHand_29 (by decide) rfl ?_
      have L31 : ∀ (f31 : Nat) (k : Nat) (hj : ts + k ≤ te) (hf31 : te - (ts + k) < f31), Go Γ g 5 (rmC 1 22) 0 0 (tpW g a q z le ts te tk) 31 [(4, .int (nI (ts + k))), (3, .int (numF le ts k)), (0, .ref a), (1, .int lo), (2, .int hi)] [] := by
        intro f31
        induction f31 with
        | zero => intro k hj hf31; exact absurd hf31 (Nat.not_lt_zero _)
        | succ f31 ih31 =>
          intro k hj hf31
          refine Go.iload X 0 dX2_numberAtHand_31 rfl ?_
          refine Go.aload_n X 2 dX2_numberAtHand_33 rfl ?_
          refine Go.get X f_X2_numberAtHand_19 0 (v := .int (nI te)) rfl rfl dX2_numberAtHand_34 ?_
          refine Go.icmp_geN X 62 dX2_numberAtHand_37 (by decide) (by first | omega | (split <;> omega)) (by first | omega | (split <;> omega)) (fun h37 => ?_) (fun h37 => ?_)
          · --
            refine Go.lv_1 (w := .int (numF le ts (te - ts))) (by rw [show te - ts = k by omega]) ?_
            refine Go.iload_n X 1 dX2_numberAtHand_62 rfl ?_
            refine Go.iload_n X 3 dX2_numberAtHand_63 rfl ?_
            refine Go.iload_n X 4 dX2_numberAtHand_64 rfl ?_
            refine Go.callSNi X  (c_isWithin g (numF le ts (te - ts)) lo hi) cal_X3_isWithin [] rfl rfl gX2_numberAtHand_X3_isWithin_n104 (by decide) (List.mem_of_getElem? (i := 6) (by decide +kernel)) (List.mem_of_getElem? (i := 5) (by decide +kernel)) rfl rfl rfl dX2_numberAtHand_65 ?_
            refine Go.if_eqB X 75 dX2_numberAtHand_68 (by decide) (fun h68 => ?_) (fun h68 => ?_)
            · --
              refine Go.iconst X ((-1 : Int32)) dX2_numberAtHand_75 k_ic_m1 ?_
              exact Go.iret X E dX2_numberAtHand_76 ⟨rv (show (-1) = numH le ts te tk lo hi from by rw [numH, if_pos h5, if_neg (by omega), if_neg (by rw [h68]; decide)]), rfl⟩ rfl
            · --
              refine Go.iload_n X 1 dX2_numberAtHand_71 rfl ?_
              refine Go.goto X 76 dX2_numberAtHand_72 (by decide) ?_
              exact Go.iret X E dX2_numberAtHand_76 ⟨rv (show (numF le ts (te - ts)) = numH le ts te tk lo hi from by rw [numH, if_pos h5, if_neg (by omega), if_pos h68]), rfl⟩ rfl
          · --
            refine Go.bipush X (nI 10) dX2_numberAtHand_40 k_bp_10 ?_
            refine Go.iload_n X 1 dX2_numberAtHand_42 rfl ?_
            refine Go.imul_e X ((nI 10) * (numF le ts k)) dX2_numberAtHand_43 rfl ?_
            refine Go.aload_n X 2 dX2_numberAtHand_44 rfl ?_
            refine Go.get X f_X2_numberAtHand_9 0 (v := .ref q) rfl rfl dX2_numberAtHand_45 ?_
            refine Go.iload X 0 dX2_numberAtHand_48 rfl ?_
            have q1 := hl (ts + k) (by omega)
            refine Go.ialdN X 1 (w := le) rfl (by first | omega | (split <;> omega)) rfl dX2_numberAtHand_50 ?_
            refine Go.iadd_e X (((nI 10) * (numF le ts k)) + (nI (le (ts + k)))) dX2_numberAtHand_51 rfl ?_
            refine Go.bipush X (nI 48) dX2_numberAtHand_52 k_bp_48 ?_
            refine Go.isub_e X ((((nI 10) * (numF le ts k)) + (nI (le (ts + k)))) - (nI 48)) dX2_numberAtHand_54 rfl ?_
            refine Go.istore_n_1 X dX2_numberAtHand_55 (by decide) rfl ?_
            refine Go.iinc_0 X (nI (ts + k + 1)) dX2_numberAtHand_56 (by decide) rfl (show nI (ts + k) + Int32.ofInt 1 = nI (ts + k + 1) from nI_add _ 1) ?_
            refine Go.goto X 31 dX2_numberAtHand_59 (by decide) ?_
            refine Go.lv_0 (congrArg (fun z => Value.int (nI z)) (show ts + k + 1 = ts + (k + 1) from by omega)) ?_
            refine Go.lv_1 (congrArg Value.int (show (((nI 10) * (numF le ts k)) + (nI (le (ts + k)))) - (nI 48) = numF le ts (k + 1) from by rfl)) ?_
            exact ih31 (k + 1) (by first | omega | (split <;> omega)) (by first | omega | (split <;> omega))
      refine Go.lv_0 (congrArg (fun z => Value.int (nI z)) (show ts = ts + 0 from by omega)) ?_
      refine Go.lv_1 (show (.int (nI 0) : Value) = .int (numF le ts 0) from by rfl) ?_
      exact L31 (te - (ts + 0) + 1) 0 (by first | omega | (split <;> omega)) (Nat.lt_succ_self _)
    · --
      refine Go.iconst X ((-1 : Int32)) dX2_numberAtHand_21 k_ic_m1 ?_
      exact Go.iret X E dX2_numberAtHand_22 ⟨rv (show (-1) = numH le ts te tk lo hi from by rw [numH, if_pos h5, if_pos (by omega)]), rfl⟩ rfl
set_option maxHeartbeats 4000000 in
set_option maxRecDepth 100000 in
theorem c_takeNumber (g : gT) (a : Nat) (q : Nat) (z : Nat) (le : Nat → Nat) (ts : Nat) (te : Nat) (tk : Nat) (lo : Int32) (hi : Int32) (hz : z ≤ 250) (hl : ∀ i, i < 250 → le i < 256) (ht : ts ≤ te) (he : te ≤ z) (hk : tk ≤ 4) : Cw g yX2_takeNumber wsX2_takeNumber 2 46 [.ref a, .int lo, .int hi] (tpW g a q z le ts te tk) (some (.int (numH le ts te tk lo hi))) (tpW g a q z le ((nmS le z (ts, te, tk) lo hi).1) ((nmS le z (ts, te, tk) lo hi).2.1) ((nmS le z (ts, te, tk) lo hi).2.2)) := by
  refine Ct.start (cc := cX2_takeNumber) (nL := 4) (ret := (some .int)) (own := RX2) (by decide) rfl rfl rfl ?_
  intro Γ X E
  show Go Γ g 4 (rmC 2 46) 0 0 (tpW g a q z le ts te tk) 0 [(0, .ref a), (1, .int lo), (2, .int hi)] []
  refine Go.aload_n X 0 dX2_takeNumber_0 rfl ?_
  refine Go.iload_n X 1 dX2_takeNumber_1 rfl ?_
  refine Go.iload_n X 2 dX2_takeNumber_2 rfl ?_
  refine Go.callVi X  (c_numberAtHand g a q z le ts te tk lo hi (by first | omega | (split <;> omega)) (by first | omega | (split <;> omega)) (by first | omega | (split <;> omega)) (by first | omega | (split <;> omega)) (by first | omega | (split <;> omega))) cal_X2_numberAtHand [0, 1] rfl rfl gX2_takeNumber_X2_numberAtHand (ci := 2) (q0 := 0) rfl rfl rfl rfl rfl dX2_takeNumber_3 ?_
  refine Go.istore_n_new X dX2_takeNumber_6 (by decide) rfl ?_
  refine Go.iload_n X 0 dX2_takeNumber_7 rfl ?_
  refine Go.iconst X ((-1 : Int32)) dX2_takeNumber_8 k_ic_m1 ?_
  refine Go.icmp_eq X 16 dX2_takeNumber_9 (by decide) (fun h9 => ?_) (fun h9 => ?_)
  · --
    refine Go.iload_n X 0 dX2_takeNumber_16 rfl ?_
    exact Go.iret X E dX2_takeNumber_17 ⟨rfl, (by rw [nmS, if_pos h9])⟩ rfl
  · --
    refine Go.aload_n X 1 dX2_takeNumber_12 rfl ?_
    refine Go.callVvw X (c_step g a q z le ts te tk (by first | omega | (split <;> omega)) (by first | omega | (split <;> omega)) (by first | omega | (split <;> omega))) cal_X2_step [0, 1] rfl rfl gX2_takeNumber_X2_step (ci := 2) (q0 := 0) rfl rfl rfl rfl rfl dX2_takeNumber_13 (M9 := tpW g a q z le (skp le z te) (tkE le z te) (tkK le z te)) rfl ?_
    have f13_1 := st_le (le := le) (z := z) (e := te) (by omega)
    have f13_2 := tkK_le le z te
    refine Go.iload_n X 0 dX2_takeNumber_16 rfl ?_
    exact Go.iret X E dX2_takeNumber_17 ⟨rfl, (by rw [nmS, if_neg h9]; rfl)⟩ rfl
set_option maxHeartbeats 4000000 in
set_option maxRecDepth 100000 in
theorem c_isWord (g : gT) (a : Nat) (q : Nat) (z : Nat) (le : Nat → Nat) (ts : Nat) (te : Nat) (tk : Nat) (i : Nat) (hz : z ≤ 250) (hl : ∀ i, i < 250 → le i < 256) (ht : ts ≤ te) (he : te ≤ z) (hk : tk ≤ 4) (hi : i < 6) : Cw g yX2_isWord wsX2_isWord 4 85 [.ref a, .ref (g.2.2.2.1 i)] (tpW g a q z le ts te tk) (some (.int (b2i (wrd le ts te tk i)))) (tpW g a q z le ts te tk) := by
  refine Ct.start (cc := cX2_isWord) (nL := 3) (ret := (some .boolean)) (own := RX2) (by decide) rfl rfl rfl ?_
  intro Γ X E
  show Go Γ g 3 (rmC 4 85) 0 0 (tpW g a q z le ts te tk) 0 [(0, .ref a), (1, .ref (g.2.2.2.1 i))] []
  refine Go.aload_n X 0 dX2_isWord_0 rfl ?_
  refine Go.get X f_X2_isWord_29 0 (v := .int (nI tk)) rfl rfl dX2_isWord_1 ?_
  refine Go.iconst X (nI 1) dX2_isWord_4 k_ic_1 ?_
  refine Go.icmp_neN X 24 dX2_isWord_5 (by decide) (by first | omega | (split <;> omega)) (by decide) (fun h5 => ?_) (fun h5 => ?_)
  · --
    refine Go.iconst X (nI 0) dX2_isWord_24 k_ic_0 ?_
    exact Go.nret X E rfl dX2_isWord_25 ⟨rv (b2i_f (by rw [wrd, decide_eq_false h5]; rfl)), rfl⟩ rfl
  · --
    refine Go.aload_n X 0 dX2_isWord_8 rfl ?_
    refine Go.get X f_X2_isWord_19 0 (v := .int (nI te)) rfl rfl dX2_isWord_9 ?_
    refine Go.aload_n X 0 dX2_isWord_12 rfl ?_
    refine Go.get X f_X2_isWord_101 0 (v := .int (nI ts)) rfl rfl dX2_isWord_13 ?_
    refine Go.isub_e X (nI (te - ts)) dX2_isWord_16 (pk_sub (by first | omega | (split <;> omega))) ?_
    refine Go.aload_n X 1 dX2_isWord_17 rfl ?_
    have q0 := sl_lt i hi
    refine Go.callVsi X (by first | omega | (split <;> omega)) (c_strlen g i (by first | omega | (split <;> omega))) cal_J0_length_8abf5 [] rfl rfl gX2_isWord_J0_length_8abf5 rfl rfl rfl dX2_isWord_18 ?_
    have f18_1 := strLen_100 (show i < 6 by omega)
    refine Go.icmp_eqN X 26 dX2_isWord_21 (by decide) (by first | omega | (split <;> omega)) (by first | omega | (split <;> omega)) (fun h21 => ?_) (fun h21 => ?_)
    · --
      refine Go.iconst X (nI 0) dX2_isWord_26 k_ic_0 ?_
      refine Go.istore_n_new X dX2_isWord_27 (by decide) rfl ?_
      have L28 : ∀ (f28 : Nat) (k : Nat) (hj : k ≤ strLen.getD i 0) (hq : ∀ j, j < k → decide (le (ts + j) = wb i j) = true) (hf28 : strLen.getD i 0 - k < f28), Go Γ g 3 (rmC 4 85) 0 0 (tpW g a q z le ts te tk) 28 [(2, .int (nI k)), (0, .ref a), (1, .ref (g.2.2.2.1 i))] [] := by
        intro f28
        induction f28 with
        | zero => intro k hj hq hf28; exact absurd hf28 (Nat.not_lt_zero _)
        | succ f28 ih28 =>
          intro k hj hq hf28
          refine Go.iload_n X 0 dX2_isWord_28 rfl ?_
          refine Go.aload_n X 2 dX2_isWord_29 rfl ?_
          refine Go.callVsi X (by first | omega | (split <;> omega)) (c_strlen g i (by first | omega | (split <;> omega))) cal_J0_length_8abf5 [] rfl rfl gX2_isWord_J0_length_8abf5 rfl rfl rfl dX2_isWord_30 ?_
          have f30_2 := strLen_100 (show i < 6 by omega)
          refine Go.icmp_geN X 63 dX2_isWord_33 (by decide) (by first | omega | (split <;> omega)) (by first | omega | (split <;> omega)) (fun h33 => ?_) (fun h33 => ?_)
          · --
            refine Go.iconst X (nI 1) dX2_isWord_63 k_ic_1 ?_
            exact Go.nret X E rfl dX2_isWord_64 ⟨rv (b2i_t (by rw [wrd, decide_eq_true h5, decide_eq_true h21, allB_t (fun j hj2 => hq j (by omega))]; rfl)), rfl⟩ rfl
          · --
            refine Go.aload_n X 1 dX2_isWord_36 rfl ?_
            refine Go.get X f_X2_isWord_9 0 (v := .ref q) rfl rfl dX2_isWord_37 ?_
            refine Go.aload_n X 1 dX2_isWord_40 rfl ?_
            refine Go.get X f_X2_isWord_101 0 (v := .int (nI ts)) rfl rfl dX2_isWord_41 ?_
            refine Go.iload_n X 0 dX2_isWord_44 rfl ?_
            refine Go.iadd_e X (nI (ts + k)) dX2_isWord_45 (nI_add _ _) ?_
            have q1 := hl (ts + k) (by omega)
            refine Go.ialdN X 1 (w := le) rfl (by first | omega | (split <;> omega)) rfl dX2_isWord_46 ?_
            refine Go.aload_n X 2 dX2_isWord_47 rfl ?_
            refine Go.iload_n X 0 dX2_isWord_48 rfl ?_
            refine Go.callVsi X (by first | omega | (split <;> omega)) (c_charAt g i k (by first | omega | (split <;> omega)) (by first | omega | (split <;> omega))) cal_J0_charAt_5068e [] rfl rfl gX2_isWord_J0_charAt_5068e rfl rfl rfl dX2_isWord_49 ?_
            have f49_3 := wb_lt i (by omega) k (by omega)
            refine Go.icmp_eqN X 57 dX2_isWord_52 (by decide) (by first | omega | (split <;> omega)) (by first | omega | (split <;> omega)) (fun h52 => ?_) (fun h52 => ?_)
            · --
              refine Go.iinc_0 X (nI (k + 1)) dX2_isWord_57 (by decide) rfl (show nI k + Int32.ofInt 1 = nI (k + 1) from nI_add _ 1) ?_
              refine Go.goto X 28 dX2_isWord_60 (by decide) ?_
              exact ih28 (k + 1) (by first | omega | (split <;> omega)) (by exact all_s (P := fun j => decide (le (ts + j) = wb i j)) hq (decide_eq_true h52)) (by first | omega | (split <;> omega))
            · --
              refine Go.iconst X (nI 0) dX2_isWord_55 k_ic_0 ?_
              exact Go.nret X E rfl dX2_isWord_56 ⟨rv (b2i_f (by rw [wrd, allB_f (P := fun j => decide (le (ts + j) = wb i j)) h33 (decide_eq_false h52), Bool.and_false])), rfl⟩ rfl
      exact L28 (strLen.getD i 0 - 0 + 1) 0 (by first | omega | (split <;> omega)) (by intro j hj2; omega) (Nat.lt_succ_self _)
    · --
      refine Go.iconst X (nI 0) dX2_isWord_24 k_ic_0 ?_
      exact Go.nret X E rfl dX2_isWord_25 ⟨rv (b2i_f (by rw [wrd, decide_eq_false h21, Bool.and_false]; rfl)), rfl⟩ rfl
