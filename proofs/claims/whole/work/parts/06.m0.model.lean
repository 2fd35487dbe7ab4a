/-! 06.m0.model -/
set_option maxHeartbeats 4000000 in
set_option maxRecDepth 100000 in
theorem d_within (g : gT) (v : Int32) (lo : Int32) (hi : Int32)  : Cw g yX4_within wsX4_within 0 0 [.int v, .int lo, .int hi] ([]) (some (.int (b2i (wi v lo hi)))) ([]) := by
  refine Ct.start (cc := cX4_within) (nL := 3) (ret := (some .boolean)) (own := RX4) (by decide) rfl rfl rfl ?_
  intro Γ X E
  show Go Γ g 3 (rmC 0 0) 0 0 ([]) 0 [(0, .int v), (1, .int lo), (2, .int hi)] []
  refine Go.iload_n X 0 dX4_within_0 rfl ?_
  refine Go.iload_n X 1 dX4_within_1 rfl ?_
  refine Go.icmp_lt X 14 dX4_within_2 (by decide) (fun h2 => ?_) (fun h2 => ?_)
  · --
    refine Go.iconst X (nI 0) dX4_within_14 k_ic_0 ?_
    exact Go.nret X E rfl dX4_within_15 ⟨rv (b2i_f (by simp [wi, Int32.not_le.mpr h2])), rfl⟩ rfl
  · --
    refine Go.iload_n X 0 dX4_within_5 rfl ?_
    refine Go.iload_n X 2 dX4_within_6 rfl ?_
    refine Go.icmp_gt X 14 dX4_within_7 (by decide) (fun h7 => ?_) (fun h7 => ?_)
    · --
      refine Go.iconst X (nI 0) dX4_within_14 k_ic_0 ?_
      exact Go.nret X E rfl dX4_within_15 ⟨rv (b2i_f (by simp [wi, Int32.not_le.mpr h7])), rfl⟩ rfl
    · --
      refine Go.iconst X (nI 1) dX4_within_10 k_ic_1 ?_
      refine Go.goto X 15 dX4_within_11 (by decide) ?_
      exact Go.nret X E rfl dX4_within_15 ⟨rv (b2i_t (by simp [wi, Int32.not_lt.mp h2, Int32.not_lt.mp h7])), rfl⟩ rfl
set_option maxHeartbeats 4000000 in
set_option maxRecDepth 100000 in
theorem d_has (g : gT) (s : Nat) (m : Nat) (hs : s < 2 ^ 31) (hm : m < 31) : Cw g yX4_has wsX4_has 0 0 [.int (nI s), .int (nI m)] ([]) (some (.int (b2i (Nat.testBit s m)))) ([]) := by
  refine Ct.start (cc := cX4_has) (nL := 2) (ret := (some .boolean)) (own := RX4) (by decide) rfl rfl rfl ?_
  intro Γ X E
  show Go Γ g 2 (rmC 0 0) 0 0 ([]) 0 [(0, .int (nI s)), (1, .int (nI m))] []
  refine Go.iload_n X 0 dX4_has_0 rfl ?_
  refine Go.iload_n X 1 dX4_has_1 rfl ?_
  refine Go.ishr_e X (nI (s >>> m)) dX4_has_2 (nI_shr (by first | omega | (split <;> omega)) (by first | omega | (split <;> omega))) ?_
  refine Go.iconst X (nI 1) dX4_has_3 k_ic_1 ?_
  refine Go.iand_e X (nI ((s >>> m) &&& 1)) dX4_has_4 (nI_and _ _) ?_
  refine Go.iconst X (nI 1) dX4_has_5 k_ic_1 ?_
  refine Go.top2 (w := .int (nI (if Nat.testBit s m then 1 else 0))) (by rw [shr_tb]) ?_
  refine Go.icmp_neN X 13 dX4_has_6 (by decide) (by first | omega | (split <;> omega)) (by decide) (fun h6 => ?_) (fun h6 => ?_)
  · --
    refine Go.iconst X (nI 0) dX4_has_13 k_ic_0 ?_
    exact Go.nret X E rfl dX4_has_14 ⟨rv (b2i_f (by revert h6; cases Nat.testBit s m <;> simp)), rfl⟩ rfl
  · --
    refine Go.iconst X (nI 1) dX4_has_9 k_ic_1 ?_
    refine Go.goto X 14 dX4_has_10 (by decide) ?_
    exact Go.nret X E rfl dX4_has_14 ⟨rv (b2i_t (by revert h6; cases Nat.testBit s m <;> simp)), rfl⟩ rfl
set_option maxHeartbeats 4000000 in
set_option maxRecDepth 100000 in
theorem d_isUnder (g : gT) (k : Nat) (u : Nat) (hk : k < 6) (hu : u < 6) : Cw g yX4_isUnder wsX4_isUnder 0 0 [.int (nI k), .int (nI u)] ([]) (some (.int (b2i (isK k u)))) ([]) := by
  refine Ct.start (cc := cX4_isUnder) (nL := 2) (ret := (some .boolean)) (own := RX4) (by decide) rfl rfl rfl ?_
  intro Γ X E
  show Go Γ g 2 (rmC 0 0) 0 0 ([]) 0 [(0, .int (nI k)), (1, .int (nI u))] []
  refine Go.iload_n X 1 dX4_isUnder_0 rfl ?_
  refine Go.if_eqN X 29 dX4_isUnder_1 (by decide) (by first | omega | (split <;> omega)) (fun h1 => ?_) (fun h1 => ?_)
  · --
    refine Go.iconst X (nI 1) dX4_isUnder_29 k_ic_1 ?_
    refine Go.goto X 34 dX4_isUnder_30 (by decide) ?_
    exact Go.nret X E rfl dX4_isUnder_34 ⟨rv (b2i_t (by simp [isK] <;> omega)), rfl⟩ rfl
  · --
    refine Go.iload_n X 0 dX4_isUnder_4 rfl ?_
    refine Go.iload_n X 1 dX4_isUnder_5 rfl ?_
    refine Go.icmp_eqN X 29 dX4_isUnder_6 (by decide) (by first | omega | (split <;> omega)) (by first | omega | (split <;> omega)) (fun h6 => ?_) (fun h6 => ?_)
    · --
      refine Go.iconst X (nI 1) dX4_isUnder_29 k_ic_1 ?_
      refine Go.goto X 34 dX4_isUnder_30 (by decide) ?_
      exact Go.nret X E rfl dX4_isUnder_34 ⟨rv (b2i_t (by simp [isK] <;> omega)), rfl⟩ rfl
    · --
      refine Go.iload_n X 0 dX4_isUnder_9 rfl ?_
      refine Go.iconst X (nI 3) dX4_isUnder_10 k_ic_3 ?_
      refine Go.icmp_neN X 19 dX4_isUnder_11 (by decide) (by first | omega | (split <;> omega)) (by decide) (fun h11 => ?_) (fun h11 => ?_)
      · --
        refine Go.iload_n X 0 dX4_isUnder_19 rfl ?_
        refine Go.iconst X (nI 5) dX4_isUnder_20 k_ic_5 ?_
        refine Go.icmp_neN X 33 dX4_isUnder_21 (by decide) (by first | omega | (split <;> omega)) (by decide) (fun h21 => ?_) (fun h21 => ?_)
        · --
          refine Go.iconst X (nI 0) dX4_isUnder_33 k_ic_0 ?_
          exact Go.nret X E rfl dX4_isUnder_34 ⟨rv (b2i_f (by simp [isK] <;> omega)), rfl⟩ rfl
        · --
          refine Go.iload_n X 1 dX4_isUnder_24 rfl ?_
          refine Go.iconst X (nI 2) dX4_isUnder_25 k_ic_2 ?_
          refine Go.icmp_neN X 33 dX4_isUnder_26 (by decide) (by first | omega | (split <;> omega)) (by decide) (fun h26 => ?_) (fun h26 => ?_)
          · --
            refine Go.iconst X (nI 0) dX4_isUnder_33 k_ic_0 ?_
            exact Go.nret X E rfl dX4_isUnder_34 ⟨rv (b2i_f (by simp [isK] <;> omega)), rfl⟩ rfl
          · --
            refine Go.iconst X (nI 1) dX4_isUnder_29 k_ic_1 ?_
            refine Go.goto X 34 dX4_isUnder_30 (by decide) ?_
            exact Go.nret X E rfl dX4_isUnder_34 ⟨rv (b2i_t (by simp [isK] <;> omega)), rfl⟩ rfl
      · --
        refine Go.iload_n X 1 dX4_isUnder_14 rfl ?_
        refine Go.iconst X (nI 1) dX4_isUnder_15 k_ic_1 ?_
        refine Go.icmp_eqN X 29 dX4_isUnder_16 (by decide) (by first | omega | (split <;> omega)) (by decide) (fun h16 => ?_) (fun h16 => ?_)
        · --
          refine Go.iconst X (nI 1) dX4_isUnder_29 k_ic_1 ?_
          refine Go.goto X 34 dX4_isUnder_30 (by decide) ?_
          exact Go.nret X E rfl dX4_isUnder_34 ⟨rv (b2i_t (by simp [isK] <;> omega)), rfl⟩ rfl
        · --
          refine Go.iload_n X 0 dX4_isUnder_19 rfl ?_
          refine Go.iconst X (nI 5) dX4_isUnder_20 k_ic_5 ?_
          refine Go.icmp_neN X 33 dX4_isUnder_21 (by decide) (by first | omega | (split <;> omega)) (by decide) (fun h21 => ?_) (fun h21 => ?_)
          · --
            refine Go.iconst X (nI 0) dX4_isUnder_33 k_ic_0 ?_
            exact Go.nret X E rfl dX4_isUnder_34 ⟨rv (b2i_f (by simp [isK] <;> omega)), rfl⟩ rfl
          · --
            refine Go.iload_n X 1 dX4_isUnder_24 rfl ?_
            refine Go.iconst X (nI 2) dX4_isUnder_25 k_ic_2 ?_
            refine Go.icmp_neN X 33 dX4_isUnder_26 (by decide) (by first | omega | (split <;> omega)) (by decide) (fun h26 => ?_) (fun h26 => ?_)
            · --
              refine Go.iconst X (nI 0) dX4_isUnder_33 k_ic_0 ?_
              exact Go.nret X E rfl dX4_isUnder_34 ⟨rv (b2i_f (by simp [isK] <;> omega)), rfl⟩ rfl
            · --
              refine Go.iconst X (nI 1) dX4_isUnder_29 k_ic_1 ?_
              refine Go.goto X 34 dX4_isUnder_30 (by decide) ?_
              exact Go.nret X E rfl dX4_isUnder_34 ⟨rv (b2i_t (by simp [isK] <;> omega)), rfl⟩ rfl
set_option maxHeartbeats 4000000 in
set_option maxRecDepth 100000 in
theorem d_isLetter (g : gT) (c : Nat) (hc : c < 256) : Cw g yX4_isLetter wsX4_isLetter 0 0 [.int (nI c)] ([]) (some (.int (b2i (decide (tokK c = 1))))) ([]) := by
  refine Ct.start (cc := cX4_isLetter) (nL := 1) (ret := (some .boolean)) (own := RX4) (by decide) rfl rfl rfl ?_
  intro Γ X E
  show Go Γ g 1 (rmC 0 0) 0 0 ([]) 0 [(0, .int (nI c))] []
  refine Go.iload_n X 0 dX4_isLetter_0 rfl ?_
  refine Go.bipush X (nI 97) dX4_isLetter_1 k_bp_97 ?_
  refine Go.icmp_ltN X 16 dX4_isLetter_3 (by decide) (by first | omega | (split <;> omega)) (by decide) (fun h3 => ?_) (fun h3 => ?_)
  · --
    refine Go.iconst X (nI 0) dX4_isLetter_16 k_ic_0 ?_
    exact Go.nret X E rfl dX4_isLetter_17 ⟨rv (b2i_f (by simp only [decide_eq_true_eq, decide_eq_false_iff_not]; unfold tokK; (repeat' split) <;> omega)), rfl⟩ rfl
  · --
    refine Go.iload_n X 0 dX4_isLetter_6 rfl ?_
    refine Go.bipush X (nI 122) dX4_isLetter_7 k_bp_122 ?_
    refine Go.icmp_gtN X 16 dX4_isLetter_9 (by decide) (by first | omega | (split <;> omega)) (by decide) (fun h9 => ?_) (fun h9 => ?_)
    · --
      refine Go.iconst X (nI 0) dX4_isLetter_16 k_ic_0 ?_
      exact Go.nret X E rfl dX4_isLetter_17 ⟨rv (b2i_f (by simp only [decide_eq_true_eq, decide_eq_false_iff_not]; unfold tokK; (repeat' split) <;> omega)), rfl⟩ rfl
    · --
      refine Go.iconst X (nI 1) dX4_isLetter_12 k_ic_1 ?_
      refine Go.goto X 17 dX4_isLetter_13 (by decide) ?_
      exact Go.nret X E rfl dX4_isLetter_17 ⟨rv (b2i_t (by simp only [decide_eq_true_eq, decide_eq_false_iff_not]; unfold tokK; (repeat' split) <;> omega)), rfl⟩ rfl
set_option maxHeartbeats 4000000 in
set_option maxRecDepth 100000 in
theorem d_isDigit (g : gT) (c : Nat) (hc : c < 256) : Cw g yX4_isDigit wsX4_isDigit 0 0 [.int (nI c)] ([]) (some (.int (b2i (decide (tokK c = 2))))) ([]) := by
  refine Ct.start (cc := cX4_isDigit) (nL := 1) (ret := (some .boolean)) (own := RX4) (by decide) rfl rfl rfl ?_
  intro Γ X E
  show Go Γ g 1 (rmC 0 0) 0 0 ([]) 0 [(0, .int (nI c))] []
  refine Go.iload_n X 0 dX4_isDigit_0 rfl ?_
  refine Go.bipush X (nI 48) dX4_isDigit_1 k_bp_48 ?_
  refine Go.icmp_ltN X 16 dX4_isDigit_3 (by decide) (by first | omega | (split <;> omega)) (by decide) (fun h3 => ?_) (fun h3 => ?_)
  · --
    refine Go.iconst X (nI 0) dX4_isDigit_16 k_ic_0 ?_
    exact Go.nret X E rfl dX4_isDigit_17 ⟨rv (b2i_f (by simp only [decide_eq_true_eq, decide_eq_false_iff_not]; unfold tokK; (repeat' split) <;> omega)), rfl⟩ rfl
  · --
    refine Go.iload_n X 0 dX4_isDigit_6 rfl ?_
    refine Go.bipush X (nI 57) dX4_isDigit_7 k_bp_57 ?_
    refine Go.icmp_gtN X 16 dX4_isDigit_9 (by decide) (by first | omega | (split <;> omega)) (by decide) (fun h9 => ?_) (fun h9 => ?_)
    · --
      refine Go.iconst X (nI 0) dX4_isDigit_16 k_ic_0 ?_
      exact Go.nret X E rfl dX4_isDigit_17 ⟨rv (b2i_f (by simp only [decide_eq_true_eq, decide_eq_false_iff_not]; unfold tokK; (repeat' split) <;> omega)), rfl⟩ rfl
    · --
      refine Go.iconst X (nI 1) dX4_isDigit_12 k_ic_1 ?_
      refine Go.goto X 17 dX4_isDigit_13 (by decide) ?_
      exact Go.nret X E rfl dX4_isDigit_17 ⟨rv (b2i_t (by simp only [decide_eq_true_eq, decide_eq_false_iff_not]; unfold tokK; (repeat' split) <;> omega)), rfl⟩ rfl
