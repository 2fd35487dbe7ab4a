/-! 05.n4.best -/
theorem f_X0_putAllOnLast_35 : FL wsX0_putAllOnLast RX0 35 0 1 := ⟨RX0, TX0, 11, rfl, fun _ h => List.mem_cons_of_mem _ (List.mem_append_right _ h), by decide, List.mem_of_getElem? (i := 2) (by decide +kernel)⟩
theorem f_X0_putAllOnLast_9 : FL wsX0_putAllOnLast RX0 9 0 2 := ⟨RX0, TX0, 11, rfl, fun _ h => List.mem_cons_of_mem _ (List.mem_append_right _ h), by decide, List.mem_of_getElem? (i := 1) (by decide +kernel)⟩
theorem f_X0_lastWeighed_32 : FL wsX0_lastWeighed RX0 32 0 0 := ⟨RX0, TX0, 11, rfl, fun _ h => List.mem_cons_of_mem _ (List.mem_append_right _ h), by decide, List.mem_of_getElem? (i := 1) (by decide +kernel)⟩
theorem f_X0_lastWeighed_9 : FL wsX0_lastWeighed RX0 9 0 2 := ⟨RX0, TX0, 11, rfl, fun _ h => List.mem_cons_of_mem _ (List.mem_append_right _ h), by decide, List.mem_of_getElem? (i := 2) (by decide +kernel)⟩
theorem cal_X0_lastWeighed : Cal yX0_lastWeighed wsX0_lastWeighed cX0_lastWeighed 2 (some .int) RX0 0 := ⟨⟨_, rfl⟩, by decide +kernel⟩
theorem f_X0_moveToNextRow_35 : FL wsX0_moveToNextRow RX0 35 0 1 := ⟨RX0, TX0, 11, rfl, fun _ h => List.mem_cons_of_mem _ (List.mem_append_right _ h), by decide, List.mem_of_getElem? (i := 1) (by decide +kernel)⟩
theorem f_X0_moveToNextRow_9 : FL wsX0_moveToNextRow RX0 9 0 2 := ⟨RX0, TX0, 11, rfl, fun _ h => List.mem_cons_of_mem _ (List.mem_append_right _ h), by decide, List.mem_of_getElem? (i := 2) (by decide +kernel)⟩
set_option maxHeartbeats 4000000 in
set_option maxRecDepth 100000 in
theorem c_putAll (g : gT) (a : Nat) (qw : Nat) (qk : Nat) (qr : Nat) (S : Sch) (t : Nat) (hS : sOk S) (hA : ¬ sA S = 0) : Cw g yX0_putAllOnLast wsX0_putAllOnLast 2 42 [.ref a, .int (nI t)] (schW g a qw qk qr S) none (schW g a qw qk qr (sN S, sA S, updN zer9 (sA S).log2 t, sD S, sP S, sK S, sO S, sG S, sT S, sF S, sX S)) := by
  refine Ct.start (cc := cX0_putAllOnLast) (nL := 3) (ret := none) (own := RX0) (by decide) rfl rfl rfl ?_
  intro Γ X E
  show Go Γ g 3 (rmC 2 42) 0 0 (schW g a qw qk qr S) 0 [(0, .ref a), (1, .int (nI t))] []
  obtain ⟨o1, o2, o3, o4, o5, o6, o7, o8⟩ := id hS
  have o9 := p2_9 o2
  have o10 := sA_512 hS
  refine Go.iconst X (nI 0) dX0_putAllOnLast_0 k_ic_0 ?_
  refine Go.istore_n_new X dX0_putAllOnLast_1 (by decide) rfl ?_
  have L2 : ∀ (f2 : Nat) (k : Nat) (hk : k ≤ 9) (hf2 : 9 - k < f2), Go Γ g 3 (rmC 2 42) 0 0 (schW g a qw qk qr (sN S, sA S, fillN (sW S) 0 k, sD S, sP S, sK S, sO S, sG S, sT S, sF S, sX S)) 2 [(2, .int (nI k)), (0, .ref a), (1, .int (nI t))] [] := by
    intro f2
    induction f2 with
    | zero => intro k hk hf2; exact absurd hf2 (Nat.not_lt_zero _)
    | succ f2 ih2 =>
      intro k hk hf2
      refine Go.iload_n X 0 dX0_putAllOnLast_2 rfl ?_
      refine Go.bipush X (nI 9) dX0_putAllOnLast_3 k_bp_9 ?_
      refine Go.icmp_geN X 21 dX0_putAllOnLast_5 (by decide) (by first | omega | (split <;> omega)) (by decide) (fun h5 => ?_) (fun h5 => ?_)
      · --
        refine Go.ext (q := 1) (f := aN (fillN (sW S) 0 k)) (f1 := aN zer9) (M1 := schW g a qw qk qr (sN S, sA S, zer9, sD S, sP S, sK S, sO S, sG S, sT S, sF S, sX S)) rfl (fun i hi => by simp [aN, fillN, zer9, show i < k by omega]) rfl ?_
        refine Go.aload_n X 1 dX0_putAllOnLast_21 rfl ?_
        refine Go.get X f_X0_putAllOnLast_35 0 (v := .int (nI (sA S))) rfl rfl dX0_putAllOnLast_22 ?_
        refine Go.callSNi X  (c_lastOf g (sA S) (by first | omega | (split <;> omega))) cal_X3_lastOf [] rfl rfl gX0_putAllOnLast_X3_lastOf_n106 (by decide) (List.mem_of_getElem? (i := 4) (by decide +kernel)) (List.mem_of_getElem? (i := 3) (by decide +kernel)) rfl rfl rfl dX0_putAllOnLast_25 ?_
        have o11 := log2_lt9 o10
        refine Go.top (w := .int (nI ((sA S).log2))) (by rw [lstI, if_neg hA]) ?_
        refine Go.istore_n_0 X dX0_putAllOnLast_28 (by decide) rfl ?_
        refine Go.iload_n X 0 dX0_putAllOnLast_29 rfl ?_
        refine Go.iconst X ((-1 : Int32)) dX0_putAllOnLast_30 k_ic_m1 ?_
        refine Go.icmp_eq X 41 dX0_putAllOnLast_31 (by decide) (fun h31 => ?_) (fun h31 => ?_)
        · --
          exact absurd h31.symm (m1_ne (by omega))
        · --
          refine Go.aload_n X 1 dX0_putAllOnLast_34 rfl ?_
          refine Go.get X f_X0_putAllOnLast_9 0 (v := .ref qw) rfl rfl dX0_putAllOnLast_35 ?_
          refine Go.iload_n X 0 dX0_putAllOnLast_38 rfl ?_
          refine Go.iload_n X 2 dX0_putAllOnLast_39 rfl ?_
          refine Go.iastNM X 1 (schW g a qw qk qr (sN S, sA S, updN zer9 ((sA S).log2) t, sD S, sP S, sK S, sO S, sG S, sT S, sF S, sX S)) (w := zer9) rfl (by first | omega | (split <;> omega)) rfl dX0_putAllOnLast_40 rfl ?_
          exact Go.vret X E dX0_putAllOnLast_41 ⟨rfl, (by rfl)⟩ rfl
      · --
        refine Go.aload_n X 1 dX0_putAllOnLast_8 rfl ?_
        refine Go.get X f_X0_putAllOnLast_9 0 (v := .ref qw) rfl rfl dX0_putAllOnLast_9 ?_
        refine Go.iload_n X 0 dX0_putAllOnLast_12 rfl ?_
        refine Go.iconst X (nI 0) dX0_putAllOnLast_13 k_ic_0 ?_
        refine Go.iastNM X 1 (schW g a qw qk qr (sN S, sA S, updN (fillN (sW S) 0 k) k 0, sD S, sP S, sK S, sO S, sG S, sT S, sF S, sX S)) (w := fillN (sW S) 0 k) rfl (by first | omega | (split <;> omega)) rfl dX0_putAllOnLast_14 rfl ?_
        refine Go.iinc_0 X (nI (k + 1)) dX0_putAllOnLast_15 (by decide) rfl (show nI k + Int32.ofInt 1 = nI (k + 1) from nI_add _ 1) ?_
        refine Go.goto X 2 dX0_putAllOnLast_18 (by decide) ?_
        refine Go.conv (M1 := schW g a qw qk qr (sN S, sA S, fillN (sW S) 0 (k + 1), sD S, sP S, sK S, sO S, sG S, sT S, sF S, sX S)) ?_ (by rw [fill_s]) rfl rfl
        exact ih2 (k + 1) (by first | omega | (split <;> omega)) (by first | omega | (split <;> omega))
  refine Go.conv (M1 := schW g a qw qk qr (sN S, sA S, fillN (sW S) 0 0, sD S, sP S, sK S, sO S, sG S, sT S, sF S, sX S)) ?_ (by rw [fill_0]) rfl rfl
  exact L2 (9 - 0 + 1) 0 (by first | omega | (split <;> omega)) (Nat.lt_succ_self _)
set_option maxHeartbeats 4000000 in
set_option maxRecDepth 100000 in
theorem c_lastWeighed (g : gT) (a : Nat) (qw : Nat) (qk : Nat) (qr : Nat) (S : Sch) (hS : sOk S) : Cw g yX0_lastWeighed wsX0_lastWeighed 0 0 [.ref a] (schW g a qw qk qr S) (some (.int (lwF (sW S) (sN S)))) (schW g a qw qk qr S) := by
  refine Ct.start (cc := cX0_lastWeighed) (nL := 2) (ret := (some .int)) (own := RX0) (by decide) rfl rfl rfl ?_
  intro Γ X E
  show Go Γ g 2 (rmC 0 0) 0 0 (schW g a qw qk qr S) 0 [(0, .ref a)] []
  obtain ⟨o1, o2, o3, o4, o5, o6, o7, o8⟩ := id hS
  have o9 := p2_9 o2
  have o10 := sA_512 hS
  refine Go.aload_n X 0 dX0_lastWeighed_0 rfl ?_
  refine Go.get X f_X0_lastWeighed_32 0 (v := .int (nI (sN S))) rfl rfl dX0_lastWeighed_1 ?_
  refine Go.iconst X (nI 1) dX0_lastWeighed_4 k_ic_1 ?_
  refine Go.isub_e X (nI (sN S - 1)) dX0_lastWeighed_5 (pk_sub (by first | omega | (split <;> omega))) ?_
  refine Go.istore_n_new X dX0_lastWeighed_6 (by decide) rfl ?_
  have L7 : ∀ (f7 : Nat) (k : Nat) (hk : k ≤ sN S) (hz : lwF (sW S) k = lwF (sW S) (sN S)) (hf7 : k < f7), Go Γ g 2 (rmC 0 0) 0 0 (schW g a qw qk qr S) 7 [(1, .int (pI k)), (0, .ref a)] [] := by
    intro f7
    induction f7 with
    | zero => intro k hk hz hf7; exact absurd hf7 (Nat.not_lt_zero _)
    | succ f7 ih7 =>
      intro k hk hz hf7
      by_cases hk0 : k = 0
      · --
        refine Go.lv_0 (w := .int (-1)) (by rw [hk0]; exact congrArg Value.int (by decide)) ?_
        refine Go.iload_n X 0 dX0_lastWeighed_7 rfl ?_
        refine Go.if_lt X 28 dX0_lastWeighed_8 (by decide) (fun _ => ?_) (fun h => absurd (by decide) h)
        refine Go.iconst X ((-1 : Int32)) dX0_lastWeighed_28 k_ic_m1 ?_
        exact Go.iret X E dX0_lastWeighed_29 ⟨rv (show (-1) = lwF (sW S) (sN S) from by rw [← hz, hk0]; rfl), rfl⟩ rfl
      · --
        refine Go.lv_0 (w := .int (nI (k - 1))) (by rw [pI_at hk0]) ?_
        refine Go.iload_n X 0 dX0_lastWeighed_7 rfl ?_
        refine Go.if_ltN X 28 dX0_lastWeighed_8 (by decide) (by first | omega | (split <;> omega)) ?_
        refine Go.aload_n X 1 dX0_lastWeighed_11 rfl ?_
        refine Go.get X f_X0_lastWeighed_9 0 (v := .ref qw) rfl rfl dX0_lastWeighed_12 ?_
        refine Go.iload_n X 0 dX0_lastWeighed_15 rfl ?_
        refine Go.ialdN X 1 (w := sW S) rfl (by first | omega | (split <;> omega)) rfl dX0_lastWeighed_16 ?_
        have o11 := o4 (k - 1) (by omega)
        refine Go.if_eqN X 22 dX0_lastWeighed_17 (by decide) (by first | omega | (split <;> omega)) (fun h17 => ?_) (fun h17 => ?_)
        · --
          refine Go.iinc_0 X (pI (k - 1)) dX0_lastWeighed_22 (by decide) rfl rfl ?_
          refine Go.goto X 7 dX0_lastWeighed_25 (by decide) ?_
          exact ih7 (k - 1) (by first | omega | (split <;> omega)) (by rw [← hz, show k = k - 1 + 1 by omega, lwF, if_pos h17]; rfl) (by first | omega | (split <;> omega))
        · --
          refine Go.iload_n X 0 dX0_lastWeighed_20 rfl ?_
          exact Go.iret X E dX0_lastWeighed_21 ⟨rv (show (nI (k - 1)) = lwF (sW S) (sN S) from by rw [← hz, show k = k - 1 + 1 by omega, lwF, if_neg h17]; rfl), rfl⟩ rfl
  refine Go.lv_0 (show (.int (nI (sN S - 1)) : Value) = .int (pI (sN S)) from by exact congrArg Value.int (pI_at (by omega)).symm) ?_
  exact L7 ((sN S) + 1) (sN S) (by first | omega | (split <;> omega)) (by rfl) (Nat.lt_succ_self _)
set_option maxHeartbeats 4000000 in
set_option maxRecDepth 100000 in
theorem c_moveRow (g : gT) (a : Nat) (qw : Nat) (qk : Nat) (qr : Nat) (S : Sch) (hS : sOk S) (hA : ¬ sA S = 0) : Cw g yX0_moveToNextRow wsX0_moveToNextRow 2 42 [.ref a] (schW g a qw qk qr S) (some (.int (b2i (mvB S)))) (schW g a qw qk qr (sN S, sA S, mvT S, sD S, sP S, sK S, sO S, sG S, sT S, sF S, sX S)) := by
  refine Ct.start (cc := cX0_moveToNextRow) (nL := 4) (ret := (some .boolean)) (own := RX0) (by decide) rfl rfl rfl ?_
  intro Γ X E
  show Go Γ g 4 (rmC 2 42) 0 0 (schW g a qw qk qr S) 0 [(0, .ref a)] []
  obtain ⟨o1, o2, o3, o4, o5, o6, o7, o8⟩ := id hS
  have o9 := p2_9 o2
  have o10 := sA_512 hS
  refine Go.aload_n X 0 dX0_moveToNextRow_0 rfl ?_
  refine Go.callVi X  (c_lastWeighed g a qw qk qr S (by exact hS)) cal_X0_lastWeighed [0, 1, 2, 3] rfl rfl gX0_moveToNextRow_X0_lastWeighed (ci := 0) (q0 := 0) rfl rfl rfl rfl rfl dX0_moveToNextRow_1 ?_
  refine Go.istore_n_new X dX0_moveToNextRow_4 (by decide) rfl ?_
  refine Go.iload_n X 0 dX0_moveToNextRow_5 rfl ?_
  refine Go.iconst X ((-1 : Int32)) dX0_moveToNextRow_6 k_ic_m1 ?_
  refine Go.icmp_ne X 12 dX0_moveToNextRow_7 (by decide) (fun h7 => ?_) (fun h7 => ?_)
  · --
    obtain ⟨i, hi, ei, wi0⟩ := lwF_at h7
    refine Go.lv_0 (w := .int (nI i)) (by rw [ei]) ?_
    have em : mvI S = i := by rw [mvI, ei, nI_clamp (by omega)]
    have o11 := log2_lt9 o10
    have o12 : sA S &&& (2 ^ i - 1) ≤ sA S := Nat.and_le_left
    have o15 := Nat.one_le_two_pow (n := i)
    refine Go.aload_n X 1 dX0_moveToNextRow_12 rfl ?_
    refine Go.get X f_X0_moveToNextRow_35 0 (v := .int (nI (sA S))) rfl rfl dX0_moveToNextRow_13 ?_
    refine Go.iconst X (nI 1) dX0_moveToNextRow_16 k_ic_1 ?_
    refine Go.iload_n X 0 dX0_moveToNextRow_17 rfl ?_
    refine Go.ishl_e X (nI (2 ^ i)) dX0_moveToNextRow_18 (nI_shl1 (by first | omega | (split <;> omega))) ?_
    refine Go.iconst X (nI 1) dX0_moveToNextRow_19 k_ic_1 ?_
    refine Go.isub_e X (nI (2 ^ i - 1)) dX0_moveToNextRow_20 (pk_sub (by first | omega | (split <;> omega))) ?_
    refine Go.iand_e X (nI ((sA S) &&& (2 ^ i - 1))) dX0_moveToNextRow_21 (nI_and _ _) ?_
    refine Go.callSNi X  (c_lastOf g ((sA S) &&& (2 ^ i - 1)) (by first | omega | (split <;> omega))) cal_X3_lastOf [] rfl rfl gX0_moveToNextRow_X3_lastOf_n106 (by decide) (List.mem_of_getElem? (i := 10) (by decide +kernel)) (List.mem_of_getElem? (i := 9) (by decide +kernel)) rfl rfl rfl dX0_moveToNextRow_22 ?_
    by_cases hz : sA S &&& (2 ^ i - 1) = 0
    · --
      refine Go.top (w := .int (-1)) (by rw [lstI, if_pos hz]) ?_
      refine Go.istore_n_new X dX0_moveToNextRow_25 (by decide) rfl ?_
      refine Go.iload_n X 0 dX0_moveToNextRow_26 rfl ?_
      refine Go.iconst X ((-1 : Int32)) dX0_moveToNextRow_27 k_ic_m1 ?_
      refine Go.icmp_ne X 33 dX0_moveToNextRow_28 (by decide) (fun h => absurd h (by decide)) (fun _ => ?_)
      refine Go.iconst X (nI 0) dX0_moveToNextRow_31 k_ic_0 ?_
      exact Go.nret X E rfl dX0_moveToNextRow_32 ⟨rv (b2i_f (by rw [mvB, em, decide_eq_false (p := ¬ sA S &&& (2 ^ i - 1) = 0) (fun q => q hz), Bool.and_false])), (by rw [mvT, if_neg (by rw [mvB, em, decide_eq_false (p := ¬ sA S &&& (2 ^ i - 1) = 0) (fun q => q hz), Bool.and_false]; simp)])⟩ rfl
    · --
      have o13 := log2_lt9 (show sA S &&& (2 ^ i - 1) < 512 by omega)
      refine Go.top (w := .int (nI ((sA S &&& (2 ^ i - 1)).log2))) (by rw [lstI, if_neg hz]) ?_
      refine Go.istore_n_new X dX0_moveToNextRow_25 (by decide) rfl ?_
      refine Go.iload_n X 0 dX0_moveToNextRow_26 rfl ?_
      refine Go.iconst X ((-1 : Int32)) dX0_moveToNextRow_27 k_ic_m1 ?_
      refine Go.icmp_ne X 33 dX0_moveToNextRow_28 (by decide) (fun h28 => ?_) (fun h28 => ?_)
      · --
        refine Go.aload_n X 2 dX0_moveToNextRow_33 rfl ?_
        refine Go.get X f_X0_moveToNextRow_9 0 (v := .ref qw) rfl rfl dX0_moveToNextRow_34 ?_
        refine Go.iload_n X 1 dX0_moveToNextRow_37 rfl ?_
        refine Go.ialdN X 1 (w := sW S) rfl (by first | omega | (split <;> omega)) rfl dX0_moveToNextRow_38 ?_
        refine Go.iconst X (nI 1) dX0_moveToNextRow_39 k_ic_1 ?_
        refine Go.isub_e X (nI ((sW S) i - 1)) dX0_moveToNextRow_40 (pk_sub (by first | omega | (split <;> omega))) ?_
        refine Go.istore_n_new X dX0_moveToNextRow_41 (by decide) rfl ?_
        refine Go.aload_n X 3 dX0_moveToNextRow_42 rfl ?_
        refine Go.get X f_X0_moveToNextRow_9 0 (v := .ref qw) rfl rfl dX0_moveToNextRow_43 ?_
        refine Go.iload_n X 2 dX0_moveToNextRow_46 rfl ?_
        refine Go.iconst X (nI 0) dX0_moveToNextRow_47 k_ic_0 ?_
        refine Go.iastNM X 1 (schW g a qw qk qr (sN S, sA S, updN (sW S) i 0, sD S, sP S, sK S, sO S, sG S, sT S, sF S, sX S)) (w := sW S) rfl (by first | omega | (split <;> omega)) rfl dX0_moveToNextRow_48 rfl ?_
        refine Go.aload_n X 3 dX0_moveToNextRow_49 rfl ?_
        refine Go.get X f_X0_moveToNextRow_9 0 (v := .ref qw) rfl rfl dX0_moveToNextRow_50 ?_
        refine Go.iload_n X 1 dX0_moveToNextRow_53 rfl ?_
        refine Go.dup2 X dX0_moveToNextRow_54 rfl rfl ?_
        refine Go.ialdN X 1 (w := updN (sW S) i 0) rfl (by first | omega | (split <;> omega)) rfl dX0_moveToNextRow_55 ?_
        refine Go.iconst X (nI 1) dX0_moveToNextRow_56 k_ic_1 ?_
        refine Go.iadd_e X (nI ((updN (sW S) i 0) ((sA S &&& (2 ^ i - 1)).log2) + 1)) dX0_moveToNextRow_57 (nI_add _ _) ?_
        refine Go.iastNM X 1 (schW g a qw qk qr (sN S, sA S, updN (updN (sW S) i 0) ((sA S &&& (2 ^ i - 1)).log2) ((updN (sW S) i 0) ((sA S &&& (2 ^ i - 1)).log2) + 1), sD S, sP S, sK S, sO S, sG S, sT S, sF S, sX S)) (w := updN (sW S) i 0) rfl (by first | omega | (split <;> omega)) rfl dX0_moveToNextRow_58 rfl ?_
        refine Go.aload_n X 3 dX0_moveToNextRow_59 rfl ?_
        refine Go.get X f_X0_moveToNextRow_9 0 (v := .ref qw) rfl rfl dX0_moveToNextRow_60 ?_
        refine Go.aload_n X 3 dX0_moveToNextRow_63 rfl ?_
        refine Go.get X f_X0_moveToNextRow_35 0 (v := .int (nI (sA S))) rfl rfl dX0_moveToNextRow_64 ?_
        refine Go.callSNi X  (c_lastOf g (sA S) (by first | omega | (split <;> omega))) cal_X3_lastOf [] rfl rfl gX0_moveToNextRow_X3_lastOf_n106 (by decide) (List.mem_of_getElem? (i := 10) (by decide +kernel)) (List.mem_of_getElem? (i := 9) (by decide +kernel)) rfl rfl rfl dX0_moveToNextRow_67 ?_
        refine Go.top (w := .int (nI ((sA S).log2))) (by rw [lstI, if_neg hA]) ?_
        refine Go.iload_n X 0 dX0_moveToNextRow_70 rfl ?_
        refine Go.iastNM X 1 (schW g a qw qk qr (sN S, sA S, updN (updN (updN (sW S) i 0) ((sA S &&& (2 ^ i - 1)).log2) ((updN (sW S) i 0) ((sA S &&& (2 ^ i - 1)).log2) + 1)) ((sA S).log2) ((sW S) i - 1), sD S, sP S, sK S, sO S, sG S, sT S, sF S, sX S)) (w := updN (updN (sW S) i 0) ((sA S &&& (2 ^ i - 1)).log2) ((updN (sW S) i 0) ((sA S &&& (2 ^ i - 1)).log2) + 1)) rfl (by first | omega | (split <;> omega)) rfl dX0_moveToNextRow_71 rfl ?_
        refine Go.iconst X (nI 1) dX0_moveToNextRow_72 k_ic_1 ?_
        exact Go.nret X E rfl dX0_moveToNextRow_73 ⟨rv (b2i_t (by rw [mvB, em, decide_eq_true h7, decide_eq_true hz]; rfl)), (by rw [mvT, if_pos (by rw [mvB, em, decide_eq_true h7, decide_eq_true hz]; rfl), em]; rfl)⟩ rfl
      · --
        exact absurd h28.symm (m1_ne (by omega))
  · --
    refine Go.iconst X (nI 0) dX0_moveToNextRow_10 k_ic_0 ?_
    exact Go.nret X E rfl dX0_moveToNextRow_11 ⟨rv (b2i_f (by rw [mvB, decide_eq_false (fun q => q h7)]; rfl)), (by rw [mvT, if_neg (by rw [mvB, decide_eq_false (fun q => q h7)]; simp)])⟩ rfl
