/-! 06.m0.model -/
theorem f_X4_no_32 : FL wsX4_no RX4 32 4 21 := ⟨RX4, TX4, 27, rfl, fun _ h => List.mem_cons_of_mem _ (List.mem_append_right _ h), by decide, List.mem_of_getElem? (i := 1) (by decide +kernel)⟩
theorem f_X4_noFar_32 : FL wsX4_noFar RX4 32 4 21 := ⟨RX4, TX4, 27, rfl, fun _ h => List.mem_cons_of_mem _ (List.mem_append_right _ h), by decide, List.mem_of_getElem? (i := 1) (by decide +kernel)⟩
theorem f_X4_isOne_59 : FL wsX4_isOne RX4 59 4 7 := ⟨RX4, TX4, 27, rfl, fun _ h => List.mem_cons_of_mem _ (List.mem_append_right _ h), by decide, List.mem_of_getElem? (i := 1) (by decide +kernel)⟩
theorem cal_X4_within : Cal yX4_within wsX4_within cX4_within 3 (some .boolean) RX4 3 := ⟨⟨_, rfl⟩, by decide +kernel⟩
theorem f_X4_isMorning_66 : FL wsX4_isMorning RX4 66 4 3 := ⟨RX4, TX4, 27, rfl, fun _ h => List.mem_cons_of_mem _ (List.mem_append_right _ h), by decide, List.mem_of_getElem? (i := 1) (by decide +kernel)⟩
theorem f_X4_isRow_7 : FL wsX4_isRow RX4 7 4 0 := ⟨RX4, TX4, 27, rfl, fun _ h => List.mem_cons_of_mem _ (List.mem_append_right _ h), by decide, List.mem_of_getElem? (i := 1) (by decide +kernel)⟩
set_option maxHeartbeats 4000000 in
set_option maxRecDepth 100000 in
theorem d_within (g : gT) (v : Int32) (lo : Int32) (hi : Int32)  : Cw g yX4_within wsX4_within 0 0 [.int v, .int lo, .int hi] ([]) (some (.int (b2i (wi v lo hi)))) ([]) := by
  refine Ct.start (cc := cX4_within) (nL := 3) (ret := (some .boolean)) (own := RX4) (by decide) rfl rfl rfl ?_
  intro Γ X E
  show Go Γ g 3 (rmC 0 0) 0 0 ([]) 0 [(0, .int v), (1, .int lo), (2, .int hi)] []
  refine Go.iload_n X 0 dX4_within_0 rfl ?_
  refine Go.iload_n X 1 dX4_within_1 rfl ?_
  refine Go.icmp_lt X 14 dX4_within_2 (by decide) (fun h2 => ?_) (fun h2 => ?_)
  · --
    refine Go.iconst X (nI 0) dX4_within_14 k_ic_0 ?_
    exact Go.nret X E rfl dX4_within_15 ⟨rv (b2i_f (by simp [wi, Int32.not_le.mpr h2])), rfl⟩ rfl
  · --
    refine Go.iload_n X 0 dX4_within_5 rfl ?_
    refine Go.iload_n X 2 dX4_within_6 rfl ?_
    refine Go.icmp_gt X 14 dX4_within_7 (by decide) (fun h7 => ?_) (fun h7 => ?_)
    · --
      refine Go.iconst X (nI 0) dX4_within_14 k_ic_0 ?_
      exact Go.nret X E rfl dX4_within_15 ⟨rv (b2i_f (by simp [wi, Int32.not_le.mpr h7])), rfl⟩ rfl
    · --
      refine Go.iconst X (nI 1) dX4_within_10 k_ic_1 ?_
      refine Go.goto X 15 dX4_within_11 (by decide) ?_
      exact Go.nret X E rfl dX4_within_15 ⟨rv (b2i_t (by simp [wi, Int32.not_lt.mp h2, Int32.not_lt.mp h7])), rfl⟩ rfl
set_option maxHeartbeats 4000000 in
set_option maxRecDepth 100000 in
theorem d_has (g : gT) (s : Nat) (m : Nat) (hs : s < 2 ^ 31) (hm : m < 31) : Cw g yX4_has wsX4_has 0 0 [.int (nI s), .int (nI m)] ([]) (some (.int (b2i (Nat.testBit s m)))) ([]) := by
  refine Ct.start (cc := cX4_has) (nL := 2) (ret := (some .boolean)) (own := RX4) (by decide) rfl rfl rfl ?_
  intro Γ X E
  show Go Γ g 2 (rmC 0 0) 0 0 ([]) 0 [(0, .int (nI s)), (1, .int (nI m))] []
  refine Go.iload_n X 0 dX4_has_0 rfl ?_
  refine Go.iload_n X 1 dX4_has_1 rfl ?_
  refine Go.ishr_e X (nI (s >>> m)) dX4_has_2 (nI_shr (by first | omega | (split <;> omega)) (by first | omega | (split <;> omega))) ?_
  refine Go.iconst X (nI 1) dX4_has_3 k_ic_1 ?_
  refine Go.iand_e X (nI ((s >>> m) &&& 1)) dX4_has_4 (nI_and _ _) ?_
  refine Go.iconst X (nI 1) dX4_has_5 k_ic_1 ?_
  refine Go.top2 (w := .int (nI (if Nat.testBit s m then 1 else 0))) (by rw [shr_tb]) ?_
  refine Go.icmp_neN X 13 dX4_has_6 (by decide) (by first | omega | (split <;> omega)) (by decide) (fun h6 => ?_) (fun h6 => ?_)
  · --
    refine Go.iconst X (nI 0) dX4_has_13 k_ic_0 ?_
    exact Go.nret X E rfl dX4_has_14 ⟨rv (b2i_f (by revert h6; cases Nat.testBit s m <;> simp)), rfl⟩ rfl
  · --
    refine Go.iconst X (nI 1) dX4_has_9 k_ic_1 ?_
    refine Go.goto X 14 dX4_has_10 (by decide) ?_
    exact Go.nret X E rfl dX4_has_14 ⟨rv (b2i_t (by revert h6; cases Nat.testBit s m <;> simp)), rfl⟩ rfl
set_option maxHeartbeats 4000000 in
set_option maxRecDepth 100000 in
theorem d_isUnder (g : gT) (k : Nat) (u : Nat) (hk : k < 6) (hu : u < 6) : Cw g yX4_isUnder wsX4_isUnder 0 0 [.int (nI k), .int (nI u)] ([]) (some (.int (b2i (isK k u)))) ([]) := by
  refine Ct.start (cc := cX4_isUnder) (nL := 2) (ret := (some .boolean)) (own := RX4) (by decide) rfl rfl rfl ?_
  intro Γ X E
  show Go Γ g 2 (rmC 0 0) 0 0 ([]) 0 [(0, .int (nI k)), (1, .int (nI u))] []
  refine Go.iload_n X 1 dX4_isUnder_0 rfl ?_
  refine Go.if_eqN X 29 dX4_isUnder_1 (by decide) (by first | omega | (split <;> omega)) (fun h1 => ?_) (fun h1 => ?_)
  · --
    refine Go.iconst X (nI 1) dX4_isUnder_29 k_ic_1 ?_
    refine Go.goto X 34 dX4_isUnder_30 (by decide) ?_
    exact Go.nret X E rfl dX4_isUnder_34 ⟨rv (b2i_t (by simp [isK] <;> omega)), rfl⟩ rfl
  · --
    refine Go.iload_n X 0 dX4_isUnder_4 rfl ?_
    refine Go.iload_n X 1 dX4_isUnder_5 rfl ?_
    refine Go.icmp_eqN X 29 dX4_isUnder_6 (by decide) (by first | omega | (split <;> omega)) (by first | omega | (split <;> omega)) (fun h6 => ?_) (fun h6 => ?_)
    · --
      refine Go.iconst X (nI 1) dX4_isUnder_29 k_ic_1 ?_
      refine Go.goto X 34 dX4_isUnder_30 (by decide) ?_
      exact Go.nret X E rfl dX4_isUnder_34 ⟨rv (b2i_t (by simp [isK] <;> omega)), rfl⟩ rfl
    · --
      refine Go.iload_n X 0 dX4_isUnder_9 rfl ?_
      refine Go.iconst X (nI 3) dX4_isUnder_10 k_ic_3 ?_
      refine Go.icmp_neN X 19 dX4_isUnder_11 (by decide) (by first | omega | (split <;> omega)) (by decide) (fun h11 => ?_) (fun h11 => ?_)
      · --
        refine Go.iload_n X 0 dX4_isUnder_19 rfl ?_
        refine Go.iconst X (nI 5) dX4_isUnder_20 k_ic_5 ?_
        refine Go.icmp_neN X 33 dX4_isUnder_21 (by decide) (by first | omega | (split <;> omega)) (by decide) (fun h21 => ?_) (fun h21 => ?_)
        · --
          refine Go.iconst X (nI 0) dX4_isUnder_33 k_ic_0 ?_
          exact Go.nret X E rfl dX4_isUnder_34 ⟨rv (b2i_f (by simp [isK] <;> omega)), rfl⟩ rfl
        · --
          refine Go.iload_n X 1 dX4_isUnder_24 rfl ?_
          refine Go.iconst X (nI 2) dX4_isUnder_25 k_ic_2 ?_
          refine Go.icmp_neN X 33 dX4_isUnder_26 (by decide) (by first | omega | (split <;> omega)) (by decide) (fun h26 => ?_) (fun h26 => ?_)
          · --
            refine Go.iconst X (nI 0) dX4_isUnder_33 k_ic_0 ?_
            exact Go.nret X E rfl dX4_isUnder_34 ⟨rv (b2i_f (by simp [isK] <;> omega)), rfl⟩ rfl
          · --
            refine Go.iconst X (nI 1) dX4_isUnder_29 k_ic_1 ?_
            refine Go.goto X 34 dX4_isUnder_30 (by decide) ?_
            exact Go.nret X E rfl dX4_isUnder_34 ⟨rv (b2i_t (by simp [isK] <;> omega)), rfl⟩ rfl
      · --
        refine Go.iload_n X 1 dX4_isUnder_14 rfl ?_
        refine Go.iconst X (nI 1) dX4_isUnder_15 k_ic_1 ?_
        refine Go.icmp_eqN X 29 dX4_isUnder_16 (by decide) (by first | omega | (split <;> omega)) (by decide) (fun h16 => ?_) (fun h16 => ?_)
        · --
          refine Go.iconst X (nI 1) dX4_isUnder_29 k_ic_1 ?_
          refine Go.goto X 34 dX4_isUnder_30 (by decide) ?_
          exact Go.nret X E rfl dX4_isUnder_34 ⟨rv (b2i_t (by simp [isK] <;> omega)), rfl⟩ rfl
        · --
          refine Go.iload_n X 0 dX4_isUnder_19 rfl ?_
          refine Go.iconst X (nI 5) dX4_isUnder_20 k_ic_5 ?_
          refine Go.icmp_neN X 33 dX4_isUnder_21 (by decide) (by first | omega | (split <;> omega)) (by decide) (fun h21 => ?_) (fun h21 => ?_)
          · --
            refine Go.iconst X (nI 0) dX4_isUnder_33 k_ic_0 ?_
            exact Go.nret X E rfl dX4_isUnder_34 ⟨rv (b2i_f (by simp [isK] <;> omega)), rfl⟩ rfl
          · --
            refine Go.iload_n X 1 dX4_isUnder_24 rfl ?_
            refine Go.iconst X (nI 2) dX4_isUnder_25 k_ic_2 ?_
            refine Go.icmp_neN X 33 dX4_isUnder_26 (by decide) (by first | omega | (split <;> omega)) (by decide) (fun h26 => ?_) (fun h26 => ?_)
            · --
              refine Go.iconst X (nI 0) dX4_isUnder_33 k_ic_0 ?_
              exact Go.nret X E rfl dX4_isUnder_34 ⟨rv (b2i_f (by simp [isK] <;> omega)), rfl⟩ rfl
            · --
              refine Go.iconst X (nI 1) dX4_isUnder_29 k_ic_1 ?_
              refine Go.goto X 34 dX4_isUnder_30 (by decide) ?_
              exact Go.nret X E rfl dX4_isUnder_34 ⟨rv (b2i_t (by simp [isK] <;> omega)), rfl⟩ rfl
set_option maxHeartbeats 4000000 in
set_option maxRecDepth 100000 in
theorem d_isLetter (g : gT) (c : Nat) (hc : c < 256) : Cw g yX4_isLetter wsX4_isLetter 0 0 [.int (nI c)] ([]) (some (.int (b2i (decide (tokK c = 1))))) ([]) := by
  refine Ct.start (cc := cX4_isLetter) (nL := 1) (ret := (some .boolean)) (own := RX4) (by decide) rfl rfl rfl ?_
  intro Γ X E
  show Go Γ g 1 (rmC 0 0) 0 0 ([]) 0 [(0, .int (nI c))] []
  refine Go.iload_n X 0 dX4_isLetter_0 rfl ?_
  refine Go.bipush X (nI 97) dX4_isLetter_1 k_bp_97 ?_
  refine Go.icmp_ltN X 16 dX4_isLetter_3 (by decide) (by first | omega | (split <;> omega)) (by decide) (fun h3 => ?_) (fun h3 => ?_)
  · --
    refine Go.iconst X (nI 0) dX4_isLetter_16 k_ic_0 ?_
    exact Go.nret X E rfl dX4_isLetter_17 ⟨rv (b2i_f (by simp only [decide_eq_true_eq, decide_eq_false_iff_not]; unfold tokK; (repeat' split) <;> omega)), rfl⟩ rfl
  · --
    refine Go.iload_n X 0 dX4_isLetter_6 rfl ?_
    refine Go.bipush X (nI 122) dX4_isLetter_7 k_bp_122 ?_
    refine Go.icmp_gtN X 16 dX4_isLetter_9 (by decide) (by first | omega | (split <;> omega)) (by decide) (fun h9 => ?_) (fun h9 => ?_)
    · --
      refine Go.iconst X (nI 0) dX4_isLetter_16 k_ic_0 ?_
      exact Go.nret X E rfl dX4_isLetter_17 ⟨rv (b2i_f (by simp only [decide_eq_true_eq, decide_eq_false_iff_not]; unfold tokK; (repeat' split) <;> omega)), rfl⟩ rfl
    · --
      refine Go.iconst X (nI 1) dX4_isLetter_12 k_ic_1 ?_
      refine Go.goto X 17 dX4_isLetter_13 (by decide) ?_
      exact Go.nret X E rfl dX4_isLetter_17 ⟨rv (b2i_t (by simp only [decide_eq_true_eq, decide_eq_false_iff_not]; unfold tokK; (repeat' split) <;> omega)), rfl⟩ rfl
set_option maxHeartbeats 4000000 in
set_option maxRecDepth 100000 in
theorem d_isDigit (g : gT) (c : Nat) (hc : c < 256) : Cw g yX4_isDigit wsX4_isDigit 0 0 [.int (nI c)] ([]) (some (.int (b2i (decide (tokK c = 2))))) ([]) := by
  refine Ct.start (cc := cX4_isDigit) (nL := 1) (ret := (some .boolean)) (own := RX4) (by decide) rfl rfl rfl ?_
  intro Γ X E
  show Go Γ g 1 (rmC 0 0) 0 0 ([]) 0 [(0, .int (nI c))] []
  refine Go.iload_n X 0 dX4_isDigit_0 rfl ?_
  refine Go.bipush X (nI 48) dX4_isDigit_1 k_bp_48 ?_
  refine Go.icmp_ltN X 16 dX4_isDigit_3 (by decide) (by first | omega | (split <;> omega)) (by decide) (fun h3 => ?_) (fun h3 => ?_)
  · --
    refine Go.iconst X (nI 0) dX4_isDigit_16 k_ic_0 ?_
    exact Go.nret X E rfl dX4_isDigit_17 ⟨rv (b2i_f (by simp only [decide_eq_true_eq, decide_eq_false_iff_not]; unfold tokK; (repeat' split) <;> omega)), rfl⟩ rfl
  · --
    refine Go.iload_n X 0 dX4_isDigit_6 rfl ?_
    refine Go.bipush X (nI 57) dX4_isDigit_7 k_bp_57 ?_
    refine Go.icmp_gtN X 16 dX4_isDigit_9 (by decide) (by first | omega | (split <;> omega)) (by decide) (fun h9 => ?_) (fun h9 => ?_)
    · --
      refine Go.iconst X (nI 0) dX4_isDigit_16 k_ic_0 ?_
      exact Go.nret X E rfl dX4_isDigit_17 ⟨rv (b2i_f (by simp only [decide_eq_true_eq, decide_eq_false_iff_not]; unfold tokK; (repeat' split) <;> omega)), rfl⟩ rfl
    · --
      refine Go.iconst X (nI 1) dX4_isDigit_12 k_ic_1 ?_
      refine Go.goto X 17 dX4_isDigit_13 (by decide) ?_
      exact Go.nret X E rfl dX4_isDigit_17 ⟨rv (b2i_t (by simp only [decide_eq_true_eq, decide_eq_false_iff_not]; unfold tokK; (repeat' split) <;> omega)), rfl⟩ rfl
set_option maxHeartbeats 4000000 in
set_option maxRecDepth 100000 in
theorem d_no_0 (g : gT) (ad : Nat → Nat) (N : Sch) (K : Sch) (b : Bool) (z : Nat) (le : Nat → Nat) (rf : Nat → Int32) (hd : Nat → Int32) (ln : Nat → Nat) (vl : Nat → Nat → Int64) (aw : Nat) (at1 : Nat) (tk : Nat) (so : Int32) (va : Int32) (lm : Nat → Nat) (ol : Nat → Int32) (ah : Nat → Int32) (lt : Int32) (lo : Nat → Int32)  : Cw g yX4_no wsX4_no 0 0 [.ref (ad 0), .int (-2)] (mdW g ad (N, K, b, z, le, rf, hd, ln, vl) (aw, at1, tk, so, va, lm, ol, ah, lt, lo)) (some (.int (-2))) (mdW g ad (N, K, b, z, le, inc rf 0, hd, ln, vl) (aw, at1, tk, so, va, lm, ol, ah, lt, lo)) := by
  refine Ct.start (cc := cX4_no) (nL := 2) (ret := (some .int)) (own := RX4) (by decide) rfl rfl rfl ?_
  intro Γ X E
  show Go Γ g 2 (rmC 0 0) 0 0 (mdW g ad (N, K, b, z, le, rf, hd, ln, vl) (aw, at1, tk, so, va, lm, ol, ah, lt, lo)) 0 [(0, .ref (ad 0)), (1, .int (-2))] []
  refine Go.aload_n X 0 dX4_no_0 rfl ?_
  refine Go.get X f_X4_no_32 0 (v := .ref (ad 8)) rfl rfl dX4_no_1 ?_
  refine Go.iload_n X 1 dX4_no_4 rfl ?_
  refine Go.ineg X dX4_no_5 ?_
  refine Go.top (w := .int (nI 2)) (by decide) ?_
  refine Go.dup2 X dX4_no_6 rfl rfl ?_
  refine Go.ialdF X 8 (f := rf7 rf) rfl (by first | omega | (split <;> omega)) rfl dX4_no_7 ?_
  refine Go.iconst X (nI 1) dX4_no_8 k_ic_1 ?_
  refine Go.iadd_e X (((rf7 rf) 2) + (nI 1)) dX4_no_9 rfl ?_
  refine Go.iastFM X 8 (mdW g ad (N, K, b, z, le, inc rf 0, hd, ln, vl) (aw, at1, tk, so, va, lm, ol, ah, lt, lo)) (f := rf7 rf) rfl (by first | omega | (split <;> omega)) rfl dX4_no_10 (mdW_rf g ad _ _ _ _ _ _ _ _ _ _ 0) ?_
  refine Go.iload_n X 1 dX4_no_11 rfl ?_
  exact Go.iret X E dX4_no_12 ⟨rfl, rfl⟩ rfl
set_option maxHeartbeats 4000000 in
set_option maxRecDepth 100000 in
theorem d_noFar_0 (g : gT) (ad : Nat → Nat) (N : Sch) (K : Sch) (b : Bool) (z : Nat) (le : Nat → Nat) (rf : Nat → Int32) (hd : Nat → Int32) (ln : Nat → Nat) (vl : Nat → Nat → Int64) (aw : Nat) (at1 : Nat) (tk : Nat) (so : Int32) (va : Int32) (lm : Nat → Nat) (ol : Nat → Int32) (ah : Nat → Int32) (lt : Int32) (lo : Nat → Int32)  : Cw g yX4_noFar wsX4_noFar 0 0 [.ref (ad 0), .int (-2)] (mdW g ad (N, K, b, z, le, rf, hd, ln, vl) (aw, at1, tk, so, va, lm, ol, ah, lt, lo)) (some (.int (-10000002))) (mdW g ad (N, K, b, z, le, inc rf 0, hd, ln, vl) (aw, at1, tk, so, va, lm, ol, ah, lt, lo)) := by
  refine Ct.start (cc := cX4_noFar) (nL := 2) (ret := (some .int)) (own := RX4) (by decide) rfl rfl rfl ?_
  intro Γ X E
  show Go Γ g 2 (rmC 0 0) 0 0 (mdW g ad (N, K, b, z, le, rf, hd, ln, vl) (aw, at1, tk, so, va, lm, ol, ah, lt, lo)) 0 [(0, .ref (ad 0)), (1, .int (-2))] []
  refine Go.aload_n X 0 dX4_noFar_0 rfl ?_
  refine Go.get X f_X4_noFar_32 0 (v := .ref (ad 8)) rfl rfl dX4_noFar_1 ?_
  refine Go.iload_n X 1 dX4_noFar_4 rfl ?_
  refine Go.ineg X dX4_noFar_5 ?_
  refine Go.top (w := .int (nI 2)) (by decide) ?_
  refine Go.dup2 X dX4_noFar_6 rfl rfl ?_
  refine Go.ialdF X 8 (f := rf7 rf) rfl (by first | omega | (split <;> omega)) rfl dX4_noFar_7 ?_
  refine Go.iconst X (nI 1) dX4_noFar_8 k_ic_1 ?_
  refine Go.iadd_e X (((rf7 rf) 2) + (nI 1)) dX4_noFar_9 rfl ?_
  refine Go.iastFM X 8 (mdW g ad (N, K, b, z, le, inc rf 0, hd, ln, vl) (aw, at1, tk, so, va, lm, ol, ah, lt, lo)) (f := rf7 rf) rfl (by first | omega | (split <;> omega)) rfl dX4_noFar_10 (mdW_rf g ad _ _ _ _ _ _ _ _ _ _ 0) ?_
  refine Go.ldc X (-10000000) dX4_noFar_11 (List.mem_of_getElem? (i := 2) (by decide +kernel)) ?_
  refine Go.iload_n X 1 dX4_noFar_13 rfl ?_
  refine Go.iadd_e X (-10000002) dX4_noFar_14 (by decide) ?_
  exact Go.iret X E dX4_noFar_15 ⟨rfl, rfl⟩ rfl
set_option maxHeartbeats 4000000 in
set_option maxRecDepth 100000 in
theorem d_no_1 (g : gT) (ad : Nat → Nat) (N : Sch) (K : Sch) (b : Bool) (z : Nat) (le : Nat → Nat) (rf : Nat → Int32) (hd : Nat → Int32) (ln : Nat → Nat) (vl : Nat → Nat → Int64) (aw : Nat) (at1 : Nat) (tk : Nat) (so : Int32) (va : Int32) (lm : Nat → Nat) (ol : Nat → Int32) (ah : Nat → Int32) (lt : Int32) (lo : Nat → Int32)  : Cw g yX4_no wsX4_no 0 0 [.ref (ad 0), .int (-3)] (mdW g ad (N, K, b, z, le, rf, hd, ln, vl) (aw, at1, tk, so, va, lm, ol, ah, lt, lo)) (some (.int (-3))) (mdW g ad (N, K, b, z, le, inc rf 1, hd, ln, vl) (aw, at1, tk, so, va, lm, ol, ah, lt, lo)) := by
  refine Ct.start (cc := cX4_no) (nL := 2) (ret := (some .int)) (own := RX4) (by decide) rfl rfl rfl ?_
  intro Γ X E
  show Go Γ g 2 (rmC 0 0) 0 0 (mdW g ad (N, K, b, z, le, rf, hd, ln, vl) (aw, at1, tk, so, va, lm, ol, ah, lt, lo)) 0 [(0, .ref (ad 0)), (1, .int (-3))] []
  refine Go.aload_n X 0 dX4_no_0 rfl ?_
  refine Go.get X f_X4_no_32 0 (v := .ref (ad 8)) rfl rfl dX4_no_1 ?_
  refine Go.iload_n X 1 dX4_no_4 rfl ?_
  refine Go.ineg X dX4_no_5 ?_
  refine Go.top (w := .int (nI 3)) (by decide) ?_
  refine Go.dup2 X dX4_no_6 rfl rfl ?_
  refine Go.ialdF X 8 (f := rf7 rf) rfl (by first | omega | (split <;> omega)) rfl dX4_no_7 ?_
  refine Go.iconst X (nI 1) dX4_no_8 k_ic_1 ?_
  refine Go.iadd_e X (((rf7 rf) 3) + (nI 1)) dX4_no_9 rfl ?_
  refine Go.iastFM X 8 (mdW g ad (N, K, b, z, le, inc rf 1, hd, ln, vl) (aw, at1, tk, so, va, lm, ol, ah, lt, lo)) (f := rf7 rf) rfl (by first | omega | (split <;> omega)) rfl dX4_no_10 (mdW_rf g ad _ _ _ _ _ _ _ _ _ _ 1) ?_
  refine Go.iload_n X 1 dX4_no_11 rfl ?_
  exact Go.iret X E dX4_no_12 ⟨rfl, rfl⟩ rfl
set_option maxHeartbeats 4000000 in
set_option maxRecDepth 100000 in
theorem d_noFar_1 (g : gT) (ad : Nat → Nat) (N : Sch) (K : Sch) (b : Bool) (z : Nat) (le : Nat → Nat) (rf : Nat → Int32) (hd : Nat → Int32) (ln : Nat → Nat) (vl : Nat → Nat → Int64) (aw : Nat) (at1 : Nat) (tk : Nat) (so : Int32) (va : Int32) (lm : Nat → Nat) (ol : Nat → Int32) (ah : Nat → Int32) (lt : Int32) (lo : Nat → Int32)  : Cw g yX4_noFar wsX4_noFar 0 0 [.ref (ad 0), .int (-3)] (mdW g ad (N, K, b, z, le, rf, hd, ln, vl) (aw, at1, tk, so, va, lm, ol, ah, lt, lo)) (some (.int (-10000003))) (mdW g ad (N, K, b, z, le, inc rf 1, hd, ln, vl) (aw, at1, tk, so, va, lm, ol, ah, lt, lo)) := by
  refine Ct.start (cc := cX4_noFar) (nL := 2) (ret := (some .int)) (own := RX4) (by decide) rfl rfl rfl ?_
  intro Γ X E
  show Go Γ g 2 (rmC 0 0) 0 0 (mdW g ad (N, K, b, z, le, rf, hd, ln, vl) (aw, at1, tk, so, va, lm, ol, ah, lt, lo)) 0 [(0, .ref (ad 0)), (1, .int (-3))] []
  refine Go.aload_n X 0 dX4_noFar_0 rfl ?_
  refine Go.get X f_X4_noFar_32 0 (v := .ref (ad 8)) rfl rfl dX4_noFar_1 ?_
  refine Go.iload_n X 1 dX4_noFar_4 rfl ?_
  refine Go.ineg X dX4_noFar_5 ?_
  refine Go.top (w := .int (nI 3)) (by decide) ?_
  refine Go.dup2 X dX4_noFar_6 rfl rfl ?_
  refine Go.ialdF X 8 (f := rf7 rf) rfl (by first | omega | (split <;> omega)) rfl dX4_noFar_7 ?_
  refine Go.iconst X (nI 1) dX4_noFar_8 k_ic_1 ?_
  refine Go.iadd_e X (((rf7 rf) 3) + (nI 1)) dX4_noFar_9 rfl ?_
  refine Go.iastFM X 8 (mdW g ad (N, K, b, z, le, inc rf 1, hd, ln, vl) (aw, at1, tk, so, va, lm, ol, ah, lt, lo)) (f := rf7 rf) rfl (by first | omega | (split <;> omega)) rfl dX4_noFar_10 (mdW_rf g ad _ _ _ _ _ _ _ _ _ _ 1) ?_
  refine Go.ldc X (-10000000) dX4_noFar_11 (List.mem_of_getElem? (i := 2) (by decide +kernel)) ?_
  refine Go.iload_n X 1 dX4_noFar_13 rfl ?_
  refine Go.iadd_e X (-10000003) dX4_noFar_14 (by decide) ?_
  exact Go.iret X E dX4_noFar_15 ⟨rfl, rfl⟩ rfl
set_option maxHeartbeats 4000000 in
set_option maxRecDepth 100000 in
theorem d_no_2 (g : gT) (ad : Nat → Nat) (N : Sch) (K : Sch) (b : Bool) (z : Nat) (le : Nat → Nat) (rf : Nat → Int32) (hd : Nat → Int32) (ln : Nat → Nat) (vl : Nat → Nat → Int64) (aw : Nat) (at1 : Nat) (tk : Nat) (so : Int32) (va : Int32) (lm : Nat → Nat) (ol : Nat → Int32) (ah : Nat → Int32) (lt : Int32) (lo : Nat → Int32)  : Cw g yX4_no wsX4_no 0 0 [.ref (ad 0), .int (-4)] (mdW g ad (N, K, b, z, le, rf, hd, ln, vl) (aw, at1, tk, so, va, lm, ol, ah, lt, lo)) (some (.int (-4))) (mdW g ad (N, K, b, z, le, inc rf 2, hd, ln, vl) (aw, at1, tk, so, va, lm, ol, ah, lt, lo)) := by
  refine Ct.start (cc := cX4_no) (nL := 2) (ret := (some .int)) (own := RX4) (by decide) rfl rfl rfl ?_
  intro Γ X E
  show Go Γ g 2 (rmC 0 0) 0 0 (mdW g ad (N, K, b, z, le, rf, hd, ln, vl) (aw, at1, tk, so, va, lm, ol, ah, lt, lo)) 0 [(0, .ref (ad 0)), (1, .int (-4))] []
  refine Go.aload_n X 0 dX4_no_0 rfl ?_
  refine Go.get X f_X4_no_32 0 (v := .ref (ad 8)) rfl rfl dX4_no_1 ?_
  refine Go.iload_n X 1 dX4_no_4 rfl ?_
  refine Go.ineg X dX4_no_5 ?_
  refine Go.top (w := .int (nI 4)) (by decide) ?_
  refine Go.dup2 X dX4_no_6 rfl rfl ?_
  refine Go.ialdF X 8 (f := rf7 rf) rfl (by first | omega | (split <;> omega)) rfl dX4_no_7 ?_
  refine Go.iconst X (nI 1) dX4_no_8 k_ic_1 ?_
  refine Go.iadd_e X (((rf7 rf) 4) + (nI 1)) dX4_no_9 rfl ?_
  refine Go.iastFM X 8 (mdW g ad (N, K, b, z, le, inc rf 2, hd, ln, vl) (aw, at1, tk, so, va, lm, ol, ah, lt, lo)) (f := rf7 rf) rfl (by first | omega | (split <;> omega)) rfl dX4_no_10 (mdW_rf g ad _ _ _ _ _ _ _ _ _ _ 2) ?_
  refine Go.iload_n X 1 dX4_no_11 rfl ?_
  exact Go.iret X E dX4_no_12 ⟨rfl, rfl⟩ rfl
set_option maxHeartbeats 4000000 in
set_option maxRecDepth 100000 in
theorem d_noFar_2 (g : gT) (ad : Nat → Nat) (N : Sch) (K : Sch) (b : Bool) (z : Nat) (le : Nat → Nat) (rf : Nat → Int32) (hd : Nat → Int32) (ln : Nat → Nat) (vl : Nat → Nat → Int64) (aw : Nat) (at1 : Nat) (tk : Nat) (so : Int32) (va : Int32) (lm : Nat → Nat) (ol : Nat → Int32) (ah : Nat → Int32) (lt : Int32) (lo : Nat → Int32)  : Cw g yX4_noFar wsX4_noFar 0 0 [.ref (ad 0), .int (-4)] (mdW g ad (N, K, b, z, le, rf, hd, ln, vl) (aw, at1, tk, so, va, lm, ol, ah, lt, lo)) (some (.int (-10000004))) (mdW g ad (N, K, b, z, le, inc rf 2, hd, ln, vl) (aw, at1, tk, so, va, lm, ol, ah, lt, lo)) := by
  refine Ct.start (cc := cX4_noFar) (nL := 2) (ret := (some .int)) (own := RX4) (by decide) rfl rfl rfl ?_
  intro Γ X E
  show Go Γ g 2 (rmC 0 0) 0 0 (mdW g ad (N, K, b, z, le, rf, hd, ln, vl) (aw, at1, tk, so, va, lm, ol, ah, lt, lo)) 0 [(0, .ref (ad 0)), (1, .int (-4))] []
  refine Go.aload_n X 0 dX4_noFar_0 rfl ?_
  refine Go.get X f_X4_noFar_32 0 (v := .ref (ad 8)) rfl rfl dX4_noFar_1 ?_
  refine Go.iload_n X 1 dX4_noFar_4 rfl ?_
  refine Go.ineg X dX4_noFar_5 ?_
  refine Go.top (w := .int (nI 4)) (by decide) ?_
  refine Go.dup2 X dX4_noFar_6 rfl rfl ?_
  refine Go.ialdF X 8 (f := rf7 rf) rfl (by first | omega | (split <;> omega)) rfl dX4_noFar_7 ?_
  refine Go.iconst X (nI 1) dX4_noFar_8 k_ic_1 ?_
  refine Go.iadd_e X (((rf7 rf) 4) + (nI 1)) dX4_noFar_9 rfl ?_
  refine Go.iastFM X 8 (mdW g ad (N, K, b, z, le, inc rf 2, hd, ln, vl) (aw, at1, tk, so, va, lm, ol, ah, lt, lo)) (f := rf7 rf) rfl (by first | omega | (split <;> omega)) rfl dX4_noFar_10 (mdW_rf g ad _ _ _ _ _ _ _ _ _ _ 2) ?_
  refine Go.ldc X (-10000000) dX4_noFar_11 (List.mem_of_getElem? (i := 2) (by decide +kernel)) ?_
  refine Go.iload_n X 1 dX4_noFar_13 rfl ?_
  refine Go.iadd_e X (-10000004) dX4_noFar_14 (by decide) ?_
  exact Go.iret X E dX4_noFar_15 ⟨rfl, rfl⟩ rfl
set_option maxHeartbeats 4000000 in
set_option maxRecDepth 100000 in
theorem d_no_3 (g : gT) (ad : Nat → Nat) (N : Sch) (K : Sch) (b : Bool) (z : Nat) (le : Nat → Nat) (rf : Nat → Int32) (hd : Nat → Int32) (ln : Nat → Nat) (vl : Nat → Nat → Int64) (aw : Nat) (at1 : Nat) (tk : Nat) (so : Int32) (va : Int32) (lm : Nat → Nat) (ol : Nat → Int32) (ah : Nat → Int32) (lt : Int32) (lo : Nat → Int32)  : Cw g yX4_no wsX4_no 0 0 [.ref (ad 0), .int (-5)] (mdW g ad (N, K, b, z, le, rf, hd, ln, vl) (aw, at1, tk, so, va, lm, ol, ah, lt, lo)) (some (.int (-5))) (mdW g ad (N, K, b, z, le, inc rf 3, hd, ln, vl) (aw, at1, tk, so, va, lm, ol, ah, lt, lo)) := by
  refine Ct.start (cc := cX4_no) (nL := 2) (ret := (some .int)) (own := RX4) (by decide) rfl rfl rfl ?_
  intro Γ X E
  show Go Γ g 2 (rmC 0 0) 0 0 (mdW g ad (N, K, b, z, le, rf, hd, ln, vl) (aw, at1, tk, so, va, lm, ol, ah, lt, lo)) 0 [(0, .ref (ad 0)), (1, .int (-5))] []
  refine Go.aload_n X 0 dX4_no_0 rfl ?_
  refine Go.get X f_X4_no_32 0 (v := .ref (ad 8)) rfl rfl dX4_no_1 ?_
  refine Go.iload_n X 1 dX4_no_4 rfl ?_
  refine Go.ineg X dX4_no_5 ?_
  refine Go.top (w := .int (nI 5)) (by decide) ?_
  refine Go.dup2 X dX4_no_6 rfl rfl ?_
  refine Go.ialdF X 8 (f := rf7 rf) rfl (by first | omega | (split <;> omega)) rfl dX4_no_7 ?_
  refine Go.iconst X (nI 1) dX4_no_8 k_ic_1 ?_
  refine Go.iadd_e X (((rf7 rf) 5) + (nI 1)) dX4_no_9 rfl ?_
  refine Go.iastFM X 8 (mdW g ad (N, K, b, z, le, inc rf 3, hd, ln, vl) (aw, at1, tk, so, va, lm, ol, ah, lt, lo)) (f := rf7 rf) rfl (by first | omega | (split <;> omega)) rfl dX4_no_10 (mdW_rf g ad _ _ _ _ _ _ _ _ _ _ 3) ?_
  refine Go.iload_n X 1 dX4_no_11 rfl ?_
  exact Go.iret X E dX4_no_12 ⟨rfl, rfl⟩ rfl
set_option maxHeartbeats 4000000 in
set_option maxRecDepth 100000 in
theorem d_noFar_3 (g : gT) (ad : Nat → Nat) (N : Sch) (K : Sch) (b : Bool) (z : Nat) (le : Nat → Nat) (rf : Nat → Int32) (hd : Nat → Int32) (ln : Nat → Nat) (vl : Nat → Nat → Int64) (aw : Nat) (at1 : Nat) (tk : Nat) (so : Int32) (va : Int32) (lm : Nat → Nat) (ol : Nat → Int32) (ah : Nat → Int32) (lt : Int32) (lo : Nat → Int32)  : Cw g yX4_noFar wsX4_noFar 0 0 [.ref (ad 0), .int (-5)] (mdW g ad (N, K, b, z, le, rf, hd, ln, vl) (aw, at1, tk, so, va, lm, ol, ah, lt, lo)) (some (.int (-10000005))) (mdW g ad (N, K, b, z, le, inc rf 3, hd, ln, vl) (aw, at1, tk, so, va, lm, ol, ah, lt, lo)) := by
  refine Ct.start (cc := cX4_noFar) (nL := 2) (ret := (some .int)) (own := RX4) (by decide) rfl rfl rfl ?_
  intro Γ X E
  show Go Γ g 2 (rmC 0 0) 0 0 (mdW g ad (N, K, b, z, le, rf, hd, ln, vl) (aw, at1, tk, so, va, lm, ol, ah, lt, lo)) 0 [(0, .ref (ad 0)), (1, .int (-5))] []
  refine Go.aload_n X 0 dX4_noFar_0 rfl ?_
  refine Go.get X f_X4_noFar_32 0 (v := .ref (ad 8)) rfl rfl dX4_noFar_1 ?_
  refine Go.iload_n X 1 dX4_noFar_4 rfl ?_
  refine Go.ineg X dX4_noFar_5 ?_
  refine Go.top (w := .int (nI 5)) (by decide) ?_
  refine Go.dup2 X dX4_noFar_6 rfl rfl ?_
  refine Go.ialdF X 8 (f := rf7 rf) rfl (by first | omega | (split <;> omega)) rfl dX4_noFar_7 ?_
  refine Go.iconst X (nI 1) dX4_noFar_8 k_ic_1 ?_
  refine Go.iadd_e X (((rf7 rf) 5) + (nI 1)) dX4_noFar_9 rfl ?_
  refine Go.iastFM X 8 (mdW g ad (N, K, b, z, le, inc rf 3, hd, ln, vl) (aw, at1, tk, so, va, lm, ol, ah, lt, lo)) (f := rf7 rf) rfl (by first | omega | (split <;> omega)) rfl dX4_noFar_10 (mdW_rf g ad _ _ _ _ _ _ _ _ _ _ 3) ?_
  refine Go.ldc X (-10000000) dX4_noFar_11 (List.mem_of_getElem? (i := 2) (by decide +kernel)) ?_
  refine Go.iload_n X 1 dX4_noFar_13 rfl ?_
  refine Go.iadd_e X (-10000005) dX4_noFar_14 (by decide) ?_
  exact Go.iret X E dX4_noFar_15 ⟨rfl, rfl⟩ rfl
set_option maxHeartbeats 4000000 in
set_option maxRecDepth 100000 in
theorem d_no_4 (g : gT) (ad : Nat → Nat) (N : Sch) (K : Sch) (b : Bool) (z : Nat) (le : Nat → Nat) (rf : Nat → Int32) (hd : Nat → Int32) (ln : Nat → Nat) (vl : Nat → Nat → Int64) (aw : Nat) (at1 : Nat) (tk : Nat) (so : Int32) (va : Int32) (lm : Nat → Nat) (ol : Nat → Int32) (ah : Nat → Int32) (lt : Int32) (lo : Nat → Int32)  : Cw g yX4_no wsX4_no 0 0 [.ref (ad 0), .int (-6)] (mdW g ad (N, K, b, z, le, rf, hd, ln, vl) (aw, at1, tk, so, va, lm, ol, ah, lt, lo)) (some (.int (-6))) (mdW g ad (N, K, b, z, le, inc rf 4, hd, ln, vl) (aw, at1, tk, so, va, lm, ol, ah, lt, lo)) := by
  refine Ct.start (cc := cX4_no) (nL := 2) (ret := (some .int)) (own := RX4) (by decide) rfl rfl rfl ?_
  intro Γ X E
  show Go Γ g 2 (rmC 0 0) 0 0 (mdW g ad (N, K, b, z, le, rf, hd, ln, vl) (aw, at1, tk, so, va, lm, ol, ah, lt, lo)) 0 [(0, .ref (ad 0)), (1, .int (-6))] []
  refine Go.aload_n X 0 dX4_no_0 rfl ?_
  refine Go.get X f_X4_no_32 0 (v := .ref (ad 8)) rfl rfl dX4_no_1 ?_
  refine Go.iload_n X 1 dX4_no_4 rfl ?_
  refine Go.ineg X dX4_no_5 ?_
  refine Go.top (w := .int (nI 6)) (by decide) ?_
  refine Go.dup2 X dX4_no_6 rfl rfl ?_
  refine Go.ialdF X 8 (f := rf7 rf) rfl (by first | omega | (split <;> omega)) rfl dX4_no_7 ?_
  refine Go.iconst X (nI 1) dX4_no_8 k_ic_1 ?_
  refine Go.iadd_e X (((rf7 rf) 6) + (nI 1)) dX4_no_9 rfl ?_
  refine Go.iastFM X 8 (mdW g ad (N, K, b, z, le, inc rf 4, hd, ln, vl) (aw, at1, tk, so, va, lm, ol, ah, lt, lo)) (f := rf7 rf) rfl (by first | omega | (split <;> omega)) rfl dX4_no_10 (mdW_rf g ad _ _ _ _ _ _ _ _ _ _ 4) ?_
  refine Go.iload_n X 1 dX4_no_11 rfl ?_
  exact Go.iret X E dX4_no_12 ⟨rfl, rfl⟩ rfl
set_option maxHeartbeats 4000000 in
set_option maxRecDepth 100000 in
theorem d_noFar_4 (g : gT) (ad : Nat → Nat) (N : Sch) (K : Sch) (b : Bool) (z : Nat) (le : Nat → Nat) (rf : Nat → Int32) (hd : Nat → Int32) (ln : Nat → Nat) (vl : Nat → Nat → Int64) (aw : Nat) (at1 : Nat) (tk : Nat) (so : Int32) (va : Int32) (lm : Nat → Nat) (ol : Nat → Int32) (ah : Nat → Int32) (lt : Int32) (lo : Nat → Int32)  : Cw g yX4_noFar wsX4_noFar 0 0 [.ref (ad 0), .int (-6)] (mdW g ad (N, K, b, z, le, rf, hd, ln, vl) (aw, at1, tk, so, va, lm, ol, ah, lt, lo)) (some (.int (-10000006))) (mdW g ad (N, K, b, z, le, inc rf 4, hd, ln, vl) (aw, at1, tk, so, va, lm, ol, ah, lt, lo)) := by
  refine Ct.start (cc := cX4_noFar) (nL := 2) (ret := (some .int)) (own := RX4) (by decide) rfl rfl rfl ?_
  intro Γ X E
  show Go Γ g 2 (rmC 0 0) 0 0 (mdW g ad (N, K, b, z, le, rf, hd, ln, vl) (aw, at1, tk, so, va, lm, ol, ah, lt, lo)) 0 [(0, .ref (ad 0)), (1, .int (-6))] []
  refine Go.aload_n X 0 dX4_noFar_0 rfl ?_
  refine Go.get X f_X4_noFar_32 0 (v := .ref (ad 8)) rfl rfl dX4_noFar_1 ?_
  refine Go.iload_n X 1 dX4_noFar_4 rfl ?_
  refine Go.ineg X dX4_noFar_5 ?_
  refine Go.top (w := .int (nI 6)) (by decide) ?_
  refine Go.dup2 X dX4_noFar_6 rfl rfl ?_
  refine Go.ialdF X 8 (f := rf7 rf) rfl (by first | omega | (split <;> omega)) rfl dX4_noFar_7 ?_
  refine Go.iconst X (nI 1) dX4_noFar_8 k_ic_1 ?_
  refine Go.iadd_e X (((rf7 rf) 6) + (nI 1)) dX4_noFar_9 rfl ?_
  refine Go.iastFM X 8 (mdW g ad (N, K, b, z, le, inc rf 4, hd, ln, vl) (aw, at1, tk, so, va, lm, ol, ah, lt, lo)) (f := rf7 rf) rfl (by first | omega | (split <;> omega)) rfl dX4_noFar_10 (mdW_rf g ad _ _ _ _ _ _ _ _ _ _ 4) ?_
  refine Go.ldc X (-10000000) dX4_noFar_11 (List.mem_of_getElem? (i := 2) (by decide +kernel)) ?_
  refine Go.iload_n X 1 dX4_noFar_13 rfl ?_
  refine Go.iadd_e X (-10000006) dX4_noFar_14 (by decide) ?_
  exact Go.iret X E dX4_noFar_15 ⟨rfl, rfl⟩ rfl
set_option maxHeartbeats 4000000 in
set_option maxRecDepth 100000 in
theorem d_isOne (g : gT) (ad : Nat → Nat) (N : Sch) (K : Sch) (b : Bool) (z : Nat) (le : Nat → Nat) (rf : Nat → Int32) (hd : Nat → Int32) (ln : Nat → Nat) (vl : Nat → Nat → Int64) (aw : Nat) (at1 : Nat) (tk : Nat) (so : Int32) (va : Int32) (lm : Nat → Nat) (ol : Nat → Int32) (ah : Nat → Int32) (lt : Int32) (lo : Nat → Int32) (x : Int32) (hN : sOk N) : Cw g yX4_isOne wsX4_isOne 1 22 [.ref (ad 0), .int x] (mdW g ad (N, K, b, z, le, rf, hd, ln, vl) (aw, at1, tk, so, va, lm, ol, ah, lt, lo)) (some (.int (b2i (inb x (sP N))))) (mdW g ad (N, K, b, z, le, rf, hd, ln, vl) (aw, at1, tk, so, va, lm, ol, ah, lt, lo)) := by
  refine Ct.start (cc := cX4_isOne) (nL := 2) (ret := (some .boolean)) (own := RX4) (by decide) rfl rfl rfl ?_
  intro Γ X E
  show Go Γ g 2 (rmC 1 22) 0 0 (mdW g ad (N, K, b, z, le, rf, hd, ln, vl) (aw, at1, tk, so, va, lm, ol, ah, lt, lo)) 0 [(0, .ref (ad 0)), (1, .int x)] []
  obtain ⟨o1, o2, o3, o4, o5, o6, o7, o8⟩ := id hN
  have o9 := p2_9 o2
  have o10 := sA_512 hN
  refine Go.iload_n X 1 dX4_isOne_0 rfl ?_
  refine Go.iconst X (nI 0) dX4_isOne_1 k_ic_0 ?_
  refine Go.aload_n X 0 dX4_isOne_2 rfl ?_
  refine Go.get X f_X4_isOne_59 0 (v := .int (nI (sP N))) rfl rfl dX4_isOne_3 ?_
  refine Go.iconst X (nI 1) dX4_isOne_6 k_ic_1 ?_
  refine Go.isub_e X ((nI (sP N)) - (nI 1)) dX4_isOne_7 rfl ?_
  refine Go.callSi X  (d_within g x (nI 0) ((nI (sP N)) - (nI 1))) cal_X4_within [] rfl rfl gX4_isOne_X4_within rfl rfl rfl dX4_isOne_8 ?_
  exact Go.nret X E (b2i_nar _) dX4_isOne_11 ⟨rv (congrArg b2i (show (wi x (nI 0) ((nI (sP N)) - (nI 1))) = (inb x (sP N)) from by exact wi_inb0 (by omega))), rfl⟩ rfl
set_option maxHeartbeats 4000000 in
set_option maxRecDepth 100000 in
theorem d_isMorning (g : gT) (ad : Nat → Nat) (N : Sch) (K : Sch) (b : Bool) (z : Nat) (le : Nat → Nat) (rf : Nat → Int32) (hd : Nat → Int32) (ln : Nat → Nat) (vl : Nat → Nat → Int64) (aw : Nat) (at1 : Nat) (tk : Nat) (so : Int32) (va : Int32) (lm : Nat → Nat) (ol : Nat → Int32) (ah : Nat → Int32) (lt : Int32) (lo : Nat → Int32) (x : Int32) (hN : sOk N) : Cw g yX4_isMorning wsX4_isMorning 1 22 [.ref (ad 0), .int x] (mdW g ad (N, K, b, z, le, rf, hd, ln, vl) (aw, at1, tk, so, va, lm, ol, ah, lt, lo)) (some (.int (b2i (inb x (sN N))))) (mdW g ad (N, K, b, z, le, rf, hd, ln, vl) (aw, at1, tk, so, va, lm, ol, ah, lt, lo)) := by
  refine Ct.start (cc := cX4_isMorning) (nL := 2) (ret := (some .boolean)) (own := RX4) (by decide) rfl rfl rfl ?_
  intro Γ X E
  show Go Γ g 2 (rmC 1 22) 0 0 (mdW g ad (N, K, b, z, le, rf, hd, ln, vl) (aw, at1, tk, so, va, lm, ol, ah, lt, lo)) 0 [(0, .ref (ad 0)), (1, .int x)] []
  obtain ⟨o1, o2, o3, o4, o5, o6, o7, o8⟩ := id hN
  have o9 := p2_9 o2
  have o10 := sA_512 hN
  refine Go.iload_n X 1 dX4_isMorning_0 rfl ?_
  refine Go.iconst X (nI 0) dX4_isMorning_1 k_ic_0 ?_
  refine Go.aload_n X 0 dX4_isMorning_2 rfl ?_
  refine Go.get X f_X4_isMorning_66 0 (v := .int (nI (sN N))) rfl rfl dX4_isMorning_3 ?_
  refine Go.iconst X (nI 1) dX4_isMorning_6 k_ic_1 ?_
  refine Go.isub_e X ((nI (sN N)) - (nI 1)) dX4_isMorning_7 rfl ?_
  refine Go.callSi X  (d_within g x (nI 0) ((nI (sN N)) - (nI 1))) cal_X4_within [] rfl rfl gX4_isMorning_X4_within rfl rfl rfl dX4_isMorning_8 ?_
  exact Go.nret X E (b2i_nar _) dX4_isMorning_11 ⟨rv (congrArg b2i (show (wi x (nI 0) ((nI (sN N)) - (nI 1))) = (inb x (sN N)) from by exact wi_inb0 (by omega))), rfl⟩ rfl
set_option maxHeartbeats 4000000 in
set_option maxRecDepth 100000 in
theorem d_isRow (g : gT) (ad : Nat → Nat) (N : Sch) (K : Sch) (b : Bool) (z : Nat) (le : Nat → Nat) (rf : Nat → Int32) (hd : Nat → Int32) (ln : Nat → Nat) (vl : Nat → Nat → Int64) (aw : Nat) (at1 : Nat) (tk : Nat) (so : Int32) (va : Int32) (lm : Nat → Nat) (ol : Nat → Int32) (ah : Nat → Int32) (lt : Int32) (lo : Nat → Int32) (s : Nat) (hs : s < 8) : Cw g yX4_isRow wsX4_isRow 1 22 [.ref (ad 0), .int (nI s)] (mdW g ad (N, K, b, z, le, rf, hd, ln, vl) (aw, at1, tk, so, va, lm, ol, ah, lt, lo)) (some (.int (b2i (inb (hd s) 5)))) (mdW g ad (N, K, b, z, le, rf, hd, ln, vl) (aw, at1, tk, so, va, lm, ol, ah, lt, lo)) := by
  refine Ct.start (cc := cX4_isRow) (nL := 2) (ret := (some .boolean)) (own := RX4) (by decide) rfl rfl rfl ?_
  intro Γ X E
  show Go Γ g 2 (rmC 1 22) 0 0 (mdW g ad (N, K, b, z, le, rf, hd, ln, vl) (aw, at1, tk, so, va, lm, ol, ah, lt, lo)) 0 [(0, .ref (ad 0)), (1, .int (nI s))] []
  refine Go.aload_n X 0 dX4_isRow_0 rfl ?_
  refine Go.get X f_X4_isRow_7 0 (v := .ref (ad 1)) rfl rfl dX4_isRow_1 ?_
  refine Go.iload_n X 1 dX4_isRow_4 rfl ?_
  refine Go.ialdF X 1 (f := hd) rfl (by first | omega | (split <;> omega)) rfl dX4_isRow_5 ?_
  refine Go.iconst X (nI 0) dX4_isRow_6 k_ic_0 ?_
  refine Go.iconst X (nI 4) dX4_isRow_7 k_ic_4 ?_
  refine Go.callSi X  (d_within g (hd s) (nI 0) (nI 4)) cal_X4_within [] rfl rfl gX4_isRow_X4_within rfl rfl rfl dX4_isRow_8 ?_
  exact Go.nret X E (b2i_nar _) dX4_isRow_11 ⟨rv (congrArg b2i (show (wi (hd s) (nI 0) (nI 4)) = (inb (hd s) 5) from by exact wi_inb (n := 5) (by decide) (by decide))), rfl⟩ rfl
