/-! 05.m2b.school -/
theorem f_X0_drawBelow_25 : FL wsX0_drawBelow RX0 25 0 7 := ⟨RX0, TX0, 11, rfl, fun _ h => List.mem_cons_of_mem _ (List.mem_append_right _ h), by decide, List.mem_of_getElem? (i := 1) (by decide +kernel)⟩
theorem f_X0_drawMorning_35 : FL wsX0_drawMorning RX0 35 0 1 := ⟨RX0, TX0, 11, rfl, fun _ h => List.mem_cons_of_mem _ (List.mem_append_right _ h), by decide, List.mem_of_getElem? (i := 1) (by decide +kernel)⟩
theorem cal_X0_drawBelow : Cal yX0_drawBelow wsX0_drawBelow cX0_drawBelow 2 (some .int) RX0 1 := ⟨⟨_, rfl⟩, by decide +kernel⟩
theorem f_X0_drawMorning_32 : FL wsX0_drawMorning RX0 32 0 0 := ⟨RX0, TX0, 11, rfl, fun _ h => List.mem_cons_of_mem _ (List.mem_append_right _ h), by decide, List.mem_of_getElem? (i := 2) (by decide +kernel)⟩
theorem cal_X0_drawMorning : Cal yX0_drawMorning wsX0_drawMorning cX0_drawMorning 4 (some .int) RX0 0 := ⟨⟨_, rfl⟩, by decide +kernel⟩
theorem cal_X0_expectingOn : Cal yX0_expectingOn wsX0_expectingOn cX0_expectingOn 4 (some .int) RX0 1 := ⟨⟨_, rfl⟩, by decide +kernel⟩
theorem cal_J6_bitCount_0f7a4 : Cal yJ6_bitCount_0f7a4 wsJ6_bitCount_0f7a4 cJ6_bitCount_0f7a4 1 (some .int) RJ6 1 := ⟨⟨_, rfl⟩, by decide +kernel⟩
theorem f_X0_goThroughTerm_50 : FL wsX0_goThroughTerm RX0 50 0 9 := ⟨RX0, TX0, 11, rfl, fun _ h => List.mem_cons_of_mem _ (List.mem_append_right _ h), by decide, List.mem_of_getElem? (i := 1) (by decide +kernel)⟩
theorem f_X0_goThroughTerm_44 : FL wsX0_goThroughTerm RX0 44 0 4 := ⟨RX0, TX0, 11, rfl, fun _ h => List.mem_cons_of_mem _ (List.mem_append_right _ h), by decide, List.mem_of_getElem? (i := 2) (by decide +kernel)⟩
theorem f_X0_goThroughTerm_47 : FL wsX0_goThroughTerm RX0 47 0 8 := ⟨RX0, TX0, 11, rfl, fun _ h => List.mem_cons_of_mem _ (List.mem_append_right _ h), by decide, List.mem_of_getElem? (i := 4) (by decide +kernel)⟩
theorem f_X0_goThroughTerm_53 : FL wsX0_goThroughTerm RX0 53 0 10 := ⟨RX0, TX0, 11, rfl, fun _ h => List.mem_cons_of_mem _ (List.mem_append_right _ h), by decide, List.mem_of_getElem? (i := 3) (by decide +kernel)⟩
theorem k_sp_12345 : (Int16.ofInt (12345)).toInt32 = nI 12345 := by decide
set_option maxHeartbeats 4000000 in
set_option maxRecDepth 100000 in
theorem c_drawBelow (g : gT) (a : Nat) (qw : Nat) (qk : Nat) (qr : Nat) (S : Sch) (n : Nat) (h0 : 0 < n) (hn : n < 2 ^ 31) : Cw g yX0_drawBelow wsX0_drawBelow 0 0 [.ref a, .int (nI n)] (schW g a qw qk qr S) (some (.int (nI ((ush (nxt (sG S))) % n)))) (schW g a qw qk qr (sN S, sA S, sW S, sD S, sP S, sK S, sO S, nxt (sG S), sT S, sF S, sX S)) := by
  refine Ct.start (cc := cX0_drawBelow) (nL := 2) (ret := (some .int)) (own := RX0) (by decide) rfl rfl rfl ?_
  intro Γ X E
  show Go Γ g 2 (rmC 0 0) 0 0 (schW g a qw qk qr S) 0 [(0, .ref a), (1, .int (nI n))] []
  refine Go.aload_n X 0 dX0_drawBelow_0 rfl ?_
  refine Go.aload_n X 0 dX0_drawBelow_1 rfl ?_
  refine Go.get X f_X0_drawBelow_25 0 (v := .int (sG S)) rfl rfl dX0_drawBelow_2 ?_
  refine Go.ldc X (nI 1103515245) dX0_drawBelow_5 (List.mem_of_getElem? (i := 2) (by decide +kernel)) ?_
  refine Go.imul_e X ((sG S) * (nI 1103515245)) dX0_drawBelow_7 rfl ?_
  refine Go.sipush X (nI 12345) dX0_drawBelow_8 k_sp_12345 ?_
  refine Go.iadd_e X (((sG S) * (nI 1103515245)) + (nI 12345)) dX0_drawBelow_11 rfl ?_
  refine Go.top (w := .int (nxt (sG S))) (by exact congrArg Value.int (nxt_eq _).symm) ?_
  refine Go.putM X f_X0_drawBelow_25 fp_0_7 0 (schW g a qw qk qr (sN S, sA S, sW S, sD S, sP S, sK S, sO S, nxt (sG S), sT S, sF S, sX S)) rfl rfl rfl rfl dX0_drawBelow_12 rfl ?_
  refine Go.iload_n X 1 dX0_drawBelow_15 rfl ?_
  refine Go.if_neN X 23 dX0_drawBelow_16 (by decide) (by first | omega | (split <;> omega)) (fun h16 => ?_) (fun h16 => ?_)
  · --
    refine Go.aload_n X 0 dX0_drawBelow_23 rfl ?_
    refine Go.get X f_X0_drawBelow_25 0 (v := .int (nxt (sG S))) rfl rfl dX0_drawBelow_24 ?_
    refine Go.bipush X (nI 16) dX0_drawBelow_27 k_bp_16 ?_
    refine Go.iushr X (nI (ush (nxt (sG S)))) dX0_drawBelow_29 (by exact ush_at _) ?_
    have o1 := ush_lt (nxt (sG S))
    refine Go.iload_n X 1 dX0_drawBelow_30 rfl ?_
    refine Go.irem_e X (nI ((ush (nxt (sG S))) % n)) dX0_drawBelow_31 (nI_ne0 (by first | omega | (split <;> omega)) (by first | omega | (split <;> omega))) (pk_rem (by first | omega | (split <;> omega)) (by first | omega | (split <;> omega)) (by first | omega | (split <;> omega))) ?_
    exact Go.iret X E dX0_drawBelow_32 ⟨rfl, rfl⟩ rfl
  · --
    exact absurd h16 (by omega)
set_option maxHeartbeats 4000000 in
set_option maxRecDepth 100000 in
theorem c_drawMorning (g : gT) (a : Nat) (qw : Nat) (qk : Nat) (qr : Nat) (S : Sch) (hS : sOk S) (h0 : 0 < wsum (sW S) (sA S) (sN S)) : Cw g yX0_drawMorning wsX0_drawMorning 3 63 [.ref a] (schW g a qw qk qr S) (some (.int (nI (pkS S)))) (schW g a qw qk qr (sN S, sA S, sW S, sD S, sP S, sK S, sO S, nxt (sG S), sT S, sF S, sX S)) := by
  refine Ct.start (cc := cX0_drawMorning) (nL := 4) (ret := (some .int)) (own := RX0) (by decide) rfl rfl rfl ?_
  intro Γ X E
  show Go Γ g 4 (rmC 3 63) 0 0 (schW g a qw qk qr S) 0 [(0, .ref a)] []
  obtain ⟨o1, o2, o3, o4, o5, o6, o7, o8⟩ := id hS
  have o9 := p2_9 o2
  have o10 := sA_512 hS
  refine Go.aload_n X 0 dX0_drawMorning_0 rfl ?_
  refine Go.aload_n X 0 dX0_drawMorning_1 rfl ?_
  refine Go.get X f_X0_drawMorning_35 0 (v := .int (nI (sA S))) rfl rfl dX0_drawMorning_2 ?_
  refine Go.callVi X  (c_weightsOf g a qw qk qr S (sA S) (by exact hS) (by first | omega | (split <;> omega))) cal_X0_weightsOf [0, 1, 2, 3] rfl rfl gX0_drawMorning_X0_weightsOf (ci := 0) (q0 := 0) rfl rfl rfl rfl rfl dX0_drawMorning_5 ?_
  have f5_1 := wsum_81 hS (sA S)
  refine Go.istore_n_new X dX0_drawMorning_8 (by decide) rfl ?_
  refine Go.iload_n X 0 dX0_drawMorning_9 rfl ?_
  refine Go.if_neN X 15 dX0_drawMorning_10 (by decide) (by first | omega | (split <;> omega)) (fun h10 => ?_) (fun h10 => ?_)
  · --
    refine Go.aload_n X 1 dX0_drawMorning_15 rfl ?_
    refine Go.iload_n X 0 dX0_drawMorning_16 rfl ?_
    refine Go.callViw X (c_drawBelow g a qw qk qr S (wsum (sW S) (sA S) (sN S)) (by first | omega | (split <;> omega)) (by first | omega | (split <;> omega))) cal_X0_drawBelow [0, 1, 2, 3] rfl rfl gX0_drawMorning_X0_drawBelow (ci := 0) (q0 := 0) rfl rfl rfl rfl rfl dX0_drawMorning_17 (M9 := schW g a qw qk qr (sN S, sA S, sW S, sD S, sP S, sK S, sO S, nxt (sG S), sT S, sF S, sX S)) rfl ?_
    obtain ⟨r, hr⟩ : ∃ r, r = drawR S := ⟨_, rfl⟩
    have hrl : r < wsum (sW S) (sA S) (sN S) := by rw [hr]; exact Nat.mod_lt _ h0
    refine Go.top (w := .int (nI r)) (by rw [hr]; rfl) ?_
    refine Go.istore_n_new X dX0_drawMorning_20 (by decide) rfl ?_
    refine Go.iconst X (nI 0) dX0_drawMorning_21 k_ic_0 ?_
    refine Go.istore_n_new X dX0_drawMorning_22 (by decide) rfl ?_
    have L23 : ∀ (f23 : Nat) (k : Nat) (hk : k ≤ sN S) (hq : wsum (sW S) (sA S) k ≤ r) (hf23 : sN S - k < f23), Go Γ g 4 (rmC 3 63) 0 0 (schW g a qw qk qr (sN S, sA S, sW S, sD S, sP S, sK S, sO S, nxt (sG S), sT S, sF S, sX S)) 23 [(3, .int (nI k)), (2, .int (nI (r - wsum (sW S) (sA S) k))), (1, .int (nI (wsum (sW S) (sA S) (sN S)))), (0, .ref a)] [] := by
      intro f23
      induction f23 with
      | zero => intro k hk hq hf23; exact absurd hf23 (Nat.not_lt_zero _)
      | succ f23 ih23 =>
        intro k hk hq hf23
        refine Go.iload_n X 0 dX0_drawMorning_23 rfl ?_
        refine Go.aload_n X 3 dX0_drawMorning_24 rfl ?_
        refine Go.get X f_X0_drawMorning_32 0 (v := .int (nI (sN S))) rfl rfl dX0_drawMorning_25 ?_
        refine Go.icmp_geN X 51 dX0_drawMorning_28 (by decide) (by first | omega | (split <;> omega)) (by first | omega | (split <;> omega)) (fun h28 => ?_) (fun h28 => ?_)
        · --
          exact absurd hrl (Nat.not_lt.mpr ((show k = sN S by omega) ▸ hq))
        · --
          refine Go.iload_n X 1 dX0_drawMorning_31 rfl ?_
          refine Go.aload_n X 3 dX0_drawMorning_32 rfl ?_
          refine Go.iload_n X 0 dX0_drawMorning_33 rfl ?_
          refine Go.callVi X  (c_lotsOf g a qw qk qr (sN S, sA S, sW S, sD S, sP S, sK S, sO S, nxt (sG S), sT S, sF S, sX S) k (by exact hS) (by first | omega | (split <;> omega))) cal_X0_lotsOf [0, 1, 2, 3] rfl rfl gX0_drawMorning_X0_lotsOf (ci := 0) (q0 := 0) rfl rfl rfl rfl rfl dX0_drawMorning_34 ?_
          have f34_2 := lotN_le hS (show k < 9 by omega)
          refine Go.top (w := .int (nI (lotN S k))) (by rfl) ?_
          have o12 := wsum_81 hS (sA S)
          refine Go.isub_e X ((nI (r - wsum (sW S) (sA S) k)) - (nI (lotN S k))) dX0_drawMorning_37 rfl ?_
          by_cases hb : r < wsum (sW S) (sA S) (k + 1)
          · --
            refine Go.istore_n_1 X dX0_drawMorning_38 (by decide) rfl ?_
            refine Go.iload_n X 1 dX0_drawMorning_39 rfl ?_
            refine Go.if_ge X 45 dX0_drawMorning_40 (by decide) (fun h40 => ?_) (fun h40 => ?_)
            · --
              exact absurd (pk_sneg (a := r - wsum (sW S) (sA S) k) (b := lotN S k) (by omega) (by have q9 : wsum (sW S) (sA S) (k + 1) = wsum (sW S) (sA S) k + lotN S k := rfl; omega)) (Int32.not_lt.mpr h40)
            · --
              refine Go.iload_n X 0 dX0_drawMorning_43 rfl ?_
              exact Go.iret X E dX0_drawMorning_44 ⟨rv (congrArg nI (show k = pkS S from by rw [pkS, ← hr]; exact pick_at (by omega) hq hb)), rfl⟩ rfl
          · --
            refine Go.top (w := .int (nI (r - wsum (sW S) (sA S) (k + 1)))) (by exact congrArg Value.int (left_s (Nat.not_lt.mp hb))) ?_
            refine Go.istore_n_1 X dX0_drawMorning_38 (by decide) rfl ?_
            refine Go.iload_n X 1 dX0_drawMorning_39 rfl ?_
            refine Go.if_geN X 45 dX0_drawMorning_40 (by decide) (by first | omega | (split <;> omega)) ?_
            refine Go.iinc_0 X (nI (k + 1)) dX0_drawMorning_45 (by decide) rfl (show nI k + Int32.ofInt 1 = nI (k + 1) from nI_add _ 1) ?_
            refine Go.goto X 23 dX0_drawMorning_48 (by decide) ?_
            exact ih23 (k + 1) (by first | omega | (split <;> omega)) (by exact Nat.not_lt.mp hb) (by first | omega | (split <;> omega))
    refine Go.lv_1 (congrArg (fun z => Value.int (nI z)) (show r = r - wsum (sW S) (sA S) 0 from by rfl)) ?_
    exact L23 (sN S - 0 + 1) 0 (by first | omega | (split <;> omega)) (by exact Nat.zero_le _) (Nat.lt_succ_self _)
  · --
    exact absurd h10 (by omega)
set_option maxHeartbeats 4000000 in
set_option maxRecDepth 100000 in
theorem c_goThroughTerm (g : gT) (a : Nat) (qw : Nat) (qk : Nat) (qr : Nat) (S : Sch) (hS : sOk S) (h0 : 0 < wsum (sW S) (sA S) (sN S)) : Cw g yX0_goThroughTerm wsX0_goThroughTerm 6 132 [.ref a] (schW g a qw qk qr S) (some (.int (nI (pkS S)))) (schW g a qw qk qr (trmS S)) := by
  refine Ct.start (cc := cX0_goThroughTerm) (nL := 3) (ret := (some .int)) (own := RX0) (by decide) rfl rfl rfl ?_
  intro Γ X E
  show Go Γ g 3 (rmC 6 132) 0 0 (schW g a qw qk qr S) 0 [(0, .ref a)] []
  obtain ⟨o1, o2, o3, o4, o5, o6, o7, o8⟩ := id hS
  have o9 := p2_9 o2
  have o10 := sA_512 hS
  refine Go.aload_n X 0 dX0_goThroughTerm_0 rfl ?_
  refine Go.callViw X (c_drawMorning g a qw qk qr S (by exact hS) (by first | omega | (split <;> omega))) cal_X0_drawMorning [0, 1, 2, 3] rfl rfl gX0_goThroughTerm_X0_drawMorning (ci := 0) (q0 := 0) rfl rfl rfl rfl rfl dX0_goThroughTerm_1 (M9 := schW g a qw qk qr (sN S, sA S, sW S, sD S, sP S, sK S, sO S, nxt (sG S), sT S, sF S, sX S)) rfl ?_
  have f1_1 := pkS_lt (S := S) (by omega)
  refine Go.istore_n_new X dX0_goThroughTerm_4 (by decide) rfl ?_
  refine Go.iload_n X 0 dX0_goThroughTerm_5 rfl ?_
  refine Go.iconst X ((-1 : Int32)) dX0_goThroughTerm_6 k_ic_m1 ?_
  refine Go.icmp_ne X 12 dX0_goThroughTerm_7 (by decide) (fun h7 => ?_) (fun h7 => ?_)
  · --
    refine Go.aload_n X 1 dX0_goThroughTerm_12 rfl ?_
    refine Go.iload_n X 0 dX0_goThroughTerm_13 rfl ?_
    refine Go.callVi X  (c_expectingOn g a qw qk qr (sN S, sA S, sW S, sD S, sP S, sK S, sO S, nxt (sG S), sT S, sF S, sX S) (pkS S) (by exact hS) (by first | omega | (split <;> omega))) cal_X0_expectingOn [0, 1, 2, 3] rfl rfl gX0_goThroughTerm_X0_expectingOn (ci := 0) (q0 := 0) rfl rfl rfl rfl rfl dX0_goThroughTerm_14 ?_
    have f14_2 := whoE_64 hS 6 (pkS S)
    refine Go.top (w := .int (nI (whoE S 6 (pkS S)))) (by exact congrArg (fun z => Value.int (nI z)) (whoE_sg S _ _ _ _ 6 _)) ?_
    refine Go.callSi X  (c_bitCount g (whoE S 6 (pkS S)) (by have := whoE_64 hS 6 (pkS S); omega)) cal_J6_bitCount_0f7a4 [] rfl rfl gX0_goThroughTerm_J6_bitCount_0f7a4 rfl rfl rfl dX0_goThroughTerm_17 ?_
    have f17_3 := bcn_9 (whoE S 6 (pkS S))
    have o11 := whoE_64 hS 6 (pkS S)
    refine Go.istore_n_new X dX0_goThroughTerm_20 (by decide) rfl ?_
    refine Go.aload_n X 2 dX0_goThroughTerm_21 rfl ?_
    refine Go.dup X dX0_goThroughTerm_22 rfl ?_
    refine Go.get X f_X0_goThroughTerm_50 0 (v := .int (sF S)) rfl rfl dX0_goThroughTerm_23 ?_
    refine Go.aload_n X 2 dX0_goThroughTerm_26 rfl ?_
    refine Go.get X f_X0_goThroughTerm_44 0 (v := .int (nI (sP S))) rfl rfl dX0_goThroughTerm_27 ?_
    refine Go.iload_n X 0 dX0_goThroughTerm_30 rfl ?_
    refine Go.isub_e X ((nI (sP S)) - (nI (bcn (whoE S 6 (pkS S))))) dX0_goThroughTerm_31 rfl ?_
    refine Go.iadd_e X ((sF S) + ((nI (sP S)) - (nI (bcn (whoE S 6 (pkS S)))))) dX0_goThroughTerm_32 rfl ?_
    refine Go.putM X f_X0_goThroughTerm_50 fp_0_9 0 (schW g a qw qk qr (sN S, sA S, sW S, sD S, sP S, sK S, sO S, nxt (sG S), sT S, (sF S) + ((nI (sP S)) - (nI (bcn (whoE S 6 (pkS S))))), sX S)) rfl rfl rfl rfl dX0_goThroughTerm_33 rfl ?_
    refine Go.iload_n X 0 dX0_goThroughTerm_36 rfl ?_
    refine Go.if_leN X 50 dX0_goThroughTerm_37 (by decide) (by first | omega | (split <;> omega)) (fun h37 => ?_) (fun h37 => ?_)
    · --
      refine Go.aload_n X 2 dX0_goThroughTerm_50 rfl ?_
      refine Go.dup X dX0_goThroughTerm_51 rfl ?_
      refine Go.get X f_X0_goThroughTerm_47 0 (v := .int (sT S)) rfl rfl dX0_goThroughTerm_52 ?_
      refine Go.iconst X (nI 1) dX0_goThroughTerm_55 k_ic_1 ?_
      refine Go.iadd_e X ((sT S) + (nI 1)) dX0_goThroughTerm_56 rfl ?_
      refine Go.putM X f_X0_goThroughTerm_47 fp_0_8 0 (schW g a qw qk qr (sN S, sA S, sW S, sD S, sP S, sK S, sO S, nxt (sG S), (sT S) + (nI 1), (sF S) + ((nI (sP S)) - (nI (bcn (whoE S 6 (pkS S))))), sX S)) rfl rfl rfl rfl dX0_goThroughTerm_57 rfl ?_
      refine Go.iload_n X 1 dX0_goThroughTerm_60 rfl ?_
      exact Go.iret X E dX0_goThroughTerm_61 ⟨rfl, (by unfold trmS; rw [if_pos h37])⟩ rfl
    · --
      refine Go.aload_n X 2 dX0_goThroughTerm_40 rfl ?_
      refine Go.dup X dX0_goThroughTerm_41 rfl ?_
      refine Go.get X f_X0_goThroughTerm_53 0 (v := .int (sX S)) rfl rfl dX0_goThroughTerm_42 ?_
      refine Go.iconst X (nI 1) dX0_goThroughTerm_45 k_ic_1 ?_
      refine Go.iadd_e X ((sX S) + (nI 1)) dX0_goThroughTerm_46 rfl ?_
      refine Go.putM X f_X0_goThroughTerm_53 fp_0_10 0 (schW g a qw qk qr (sN S, sA S, sW S, sD S, sP S, sK S, sO S, nxt (sG S), sT S, (sF S) + ((nI (sP S)) - (nI (bcn (whoE S 6 (pkS S))))), (sX S) + (nI 1))) rfl rfl rfl rfl dX0_goThroughTerm_47 rfl ?_
      refine Go.aload_n X 2 dX0_goThroughTerm_50 rfl ?_
      refine Go.dup X dX0_goThroughTerm_51 rfl ?_
      refine Go.get X f_X0_goThroughTerm_47 0 (v := .int (sT S)) rfl rfl dX0_goThroughTerm_52 ?_
      refine Go.iconst X (nI 1) dX0_goThroughTerm_55 k_ic_1 ?_
      refine Go.iadd_e X ((sT S) + (nI 1)) dX0_goThroughTerm_56 rfl ?_
      refine Go.putM X f_X0_goThroughTerm_47 fp_0_8 0 (schW g a qw qk qr (sN S, sA S, sW S, sD S, sP S, sK S, sO S, nxt (sG S), (sT S) + (nI 1), (sF S) + ((nI (sP S)) - (nI (bcn (whoE S 6 (pkS S))))), (sX S) + (nI 1))) rfl rfl rfl rfl dX0_goThroughTerm_57 rfl ?_
      refine Go.iload_n X 1 dX0_goThroughTerm_60 rfl ?_
      exact Go.iret X E dX0_goThroughTerm_61 ⟨rfl, (by unfold trmS; rw [if_neg (by omega)])⟩ rfl
  · --
    exact absurd h7.symm (m1_ne (by omega))
