/-! 05.m2.school -/
theorem f_X0_become_32 : FL wsX0_become RX0 32 0 0 := ⟨RX0, TX0, 11, rfl, fun _ h => List.mem_cons_of_mem _ (List.mem_append_right _ h), by decide, List.mem_of_getElem? (i := 1) (by decide +kernel)⟩
theorem fp_0_0 : FP 0 0 .int := ⟨RX0, TX0, 11, tyX0, rfl, tyX0_ok, nmX0, rfl, by decide +kernel⟩
theorem f_X0_become_35 : FL wsX0_become RX0 35 0 1 := ⟨RX0, TX0, 11, rfl, fun _ h => List.mem_cons_of_mem _ (List.mem_append_right _ h), by decide, List.mem_of_getElem? (i := 2) (by decide +kernel)⟩
theorem fp_0_1 : FP 0 1 .int := ⟨RX0, TX0, 11, tyX0, rfl, tyX0_ok, nmX0, rfl, by decide +kernel⟩
theorem f_X0_become_9 : FL wsX0_become RX0 9 0 2 := ⟨RX0, TX0, 11, rfl, fun _ h => List.mem_cons_of_mem _ (List.mem_append_right _ h), by decide, List.mem_of_getElem? (i := 3) (by decide +kernel)⟩
theorem f_X0_become_15 : FL wsX0_become RX0 15 0 3 := ⟨RX0, TX0, 11, rfl, fun _ h => List.mem_cons_of_mem _ (List.mem_append_right _ h), by decide, List.mem_of_getElem? (i := 8) (by decide +kernel)⟩
theorem fp_0_3 : FP 0 3 .int := ⟨RX0, TX0, 11, tyX0, rfl, tyX0_ok, nmX0, rfl, by decide +kernel⟩
theorem f_X0_become_44 : FL wsX0_become RX0 44 0 4 := ⟨RX0, TX0, 11, rfl, fun _ h => List.mem_cons_of_mem _ (List.mem_append_right _ h), by decide, List.mem_of_getElem? (i := 9) (by decide +kernel)⟩
theorem fp_0_4 : FP 0 4 .int := ⟨RX0, TX0, 11, tyX0, rfl, tyX0_ok, nmX0, rfl, by decide +kernel⟩
theorem f_X0_become_19 : FL wsX0_become RX0 19 0 5 := ⟨RX0, TX0, 11, rfl, fun _ h => List.mem_cons_of_mem _ (List.mem_append_right _ h), by decide, List.mem_of_getElem? (i := 10) (by decide +kernel)⟩
theorem f_X0_become_22 : FL wsX0_become RX0 22 0 6 := ⟨RX0, TX0, 11, rfl, fun _ h => List.mem_cons_of_mem _ (List.mem_append_right _ h), by decide, List.mem_of_getElem? (i := 11) (by decide +kernel)⟩
theorem f_X0_become_25 : FL wsX0_become RX0 25 0 7 := ⟨RX0, TX0, 11, rfl, fun _ h => List.mem_cons_of_mem _ (List.mem_append_right _ h), by decide, List.mem_of_getElem? (i := 12) (by decide +kernel)⟩
theorem fp_0_7 : FP 0 7 .int := ⟨RX0, TX0, 11, tyX0, rfl, tyX0_ok, nmX0, rfl, by decide +kernel⟩
theorem f_X0_become_47 : FL wsX0_become RX0 47 0 8 := ⟨RX0, TX0, 11, rfl, fun _ h => List.mem_cons_of_mem _ (List.mem_append_right _ h), by decide, List.mem_of_getElem? (i := 13) (by decide +kernel)⟩
theorem fp_0_8 : FP 0 8 .int := ⟨RX0, TX0, 11, tyX0, rfl, tyX0_ok, nmX0, rfl, by decide +kernel⟩
theorem f_X0_become_50 : FL wsX0_become RX0 50 0 9 := ⟨RX0, TX0, 11, rfl, fun _ h => List.mem_cons_of_mem _ (List.mem_append_right _ h), by decide, List.mem_of_getElem? (i := 14) (by decide +kernel)⟩
theorem fp_0_9 : FP 0 9 .int := ⟨RX0, TX0, 11, tyX0, rfl, tyX0_ok, nmX0, rfl, by decide +kernel⟩
theorem f_X0_become_53 : FL wsX0_become RX0 53 0 10 := ⟨RX0, TX0, 11, rfl, fun _ h => List.mem_cons_of_mem _ (List.mem_append_right _ h), by decide, List.mem_of_getElem? (i := 15) (by decide +kernel)⟩
theorem fp_0_10 : FP 0 10 .int := ⟨RX0, TX0, 11, tyX0, rfl, tyX0_ok, nmX0, rfl, by decide +kernel⟩
theorem f_X0_beginTerm_32 : FL wsX0_beginTerm RX0 32 0 0 := ⟨RX0, TX0, 11, rfl, fun _ h => List.mem_cons_of_mem _ (List.mem_append_right _ h), by decide, List.mem_of_getElem? (i := 1) (by decide +kernel)⟩
theorem cal_X0_allMornings : Cal yX0_allMornings wsX0_allMornings cX0_allMornings 1 (some .int) RX0 0 := ⟨⟨_, rfl⟩, by decide +kernel⟩
theorem f_X0_beginTerm_35 : FL wsX0_beginTerm RX0 35 0 1 := ⟨RX0, TX0, 11, rfl, fun _ h => List.mem_cons_of_mem _ (List.mem_append_right _ h), by decide, List.mem_of_getElem? (i := 2) (by decide +kernel)⟩
theorem f_X0_beginTerm_9 : FL wsX0_beginTerm RX0 9 0 2 := ⟨RX0, TX0, 11, rfl, fun _ h => List.mem_cons_of_mem _ (List.mem_append_right _ h), by decide, List.mem_of_getElem? (i := 3) (by decide +kernel)⟩
theorem f_X0_addSomebody_44 : FL wsX0_addSomebody RX0 44 0 4 := ⟨RX0, TX0, 11, rfl, fun _ h => List.mem_cons_of_mem _ (List.mem_append_right _ h), by decide, List.mem_of_getElem? (i := 1) (by decide +kernel)⟩
theorem f_X0_addSomebody_19 : FL wsX0_addSomebody RX0 19 0 5 := ⟨RX0, TX0, 11, rfl, fun _ h => List.mem_cons_of_mem _ (List.mem_append_right _ h), by decide, List.mem_of_getElem? (i := 2) (by decide +kernel)⟩
theorem f_X0_addSomebody_22 : FL wsX0_addSomebody RX0 22 0 6 := ⟨RX0, TX0, 11, rfl, fun _ h => List.mem_cons_of_mem _ (List.mem_append_right _ h), by decide, List.mem_of_getElem? (i := 3) (by decide +kernel)⟩
theorem cal_X0_isSomebody : Cal yX0_isSomebody wsX0_isSomebody cX0_isSomebody 2 (some .boolean) RX0 1 := ⟨⟨_, rfl⟩, by decide +kernel⟩
theorem f_X0_removeSomebody_44 : FL wsX0_removeSomebody RX0 44 0 4 := ⟨RX0, TX0, 11, rfl, fun _ h => List.mem_cons_of_mem _ (List.mem_append_right _ h), by decide, List.mem_of_getElem? (i := 1) (by decide +kernel)⟩
theorem f_X0_removeSomebody_19 : FL wsX0_removeSomebody RX0 19 0 5 := ⟨RX0, TX0, 11, rfl, fun _ h => List.mem_cons_of_mem _ (List.mem_append_right _ h), by decide, List.mem_of_getElem? (i := 2) (by decide +kernel)⟩
theorem f_X0_removeSomebody_22 : FL wsX0_removeSomebody RX0 22 0 6 := ⟨RX0, TX0, 11, rfl, fun _ h => List.mem_cons_of_mem _ (List.mem_append_right _ h), by decide, List.mem_of_getElem? (i := 3) (by decide +kernel)⟩
theorem k_bp_6 : (Int8.ofInt (6)).toInt32 = nI 6 := by decide
set_option maxHeartbeats 4000000 in
set_option maxRecDepth 100000 in
theorem c_become (g : gT) (a : Nat) (qw : Nat) (qk : Nat) (qr : Nat) (S : Sch) (b : Nat) (rw : Nat) (rk : Nat) (rr : Nat) (T : Sch)  : Cw g yX0_become wsX0_become 1 60 [.ref a, .ref b] (schW g a qw qk qr S ++ schW g b rw rk rr T) none (schW g a qw qk qr T ++ schW g b rw rk rr T) := by
  refine Ct.start (cc := cX0_become) (nL := 2) (ret := none) (own := RX0) (by decide) rfl rfl rfl ?_
  intro Γ X E
  show Go Γ g 2 (rmC 1 60) 0 0 (schW g a qw qk qr S ++ schW g b rw rk rr T) 0 [(0, .ref a), (1, .ref b)] []
  refine Go.aload_n X 0 dX0_become_0 rfl ?_
  refine Go.aload_n X 1 dX0_become_1 rfl ?_
  refine Go.get X f_X0_become_32 4 (v := .int (nI (sN T))) rfl rfl dX0_become_2 ?_
  refine Go.putM X f_X0_become_32 fp_0_0 0 (schW g a qw qk qr (sN T, sA S, sW S, sD S, sP S, sK S, sO S, sG S, sT S, sF S, sX S) ++ schW g b rw rk rr T) rfl rfl rfl rfl dX0_become_5 rfl ?_
  refine Go.aload_n X 0 dX0_become_8 rfl ?_
  refine Go.aload_n X 1 dX0_become_9 rfl ?_
  refine Go.get X f_X0_become_35 4 (v := .int (nI (sA T))) rfl rfl dX0_become_10 ?_
  refine Go.putM X f_X0_become_35 fp_0_1 0 (schW g a qw qk qr (sN T, sA T, sW S, sD S, sP S, sK S, sO S, sG S, sT S, sF S, sX S) ++ schW g b rw rk rr T) rfl rfl rfl rfl dX0_become_13 rfl ?_
  refine Go.aload_n X 1 dX0_become_16 rfl ?_
  refine Go.get X f_X0_become_9 4 (v := .ref rw) rfl rfl dX0_become_17 ?_
  refine Go.iconst X (nI 0) dX0_become_20 k_ic_0 ?_
  refine Go.aload_n X 0 dX0_become_21 rfl ?_
  refine Go.get X f_X0_become_9 0 (v := .ref qw) rfl rfl dX0_become_22 ?_
  refine Go.iconst X (nI 0) dX0_become_25 k_ic_0 ?_
  refine Go.bipush X (nI 9) dX0_become_26 k_bp_9 ?_
  refine Go.copyN X 5 1 (schW g a qw qk qr (sN T, sA T, sW T, sD S, sP S, sK S, sO S, sG S, sT S, sF S, sX S) ++ schW g b rw rk rr T) (w := sW T) (List.mem_of_getElem? (i := 4) (by decide +kernel)) (List.mem_of_getElem? (i := 5) (by decide +kernel)) (List.mem_of_getElem? (i := 6) (by decide +kernel)) (List.mem_of_getElem? (i := 7) (by decide +kernel)) rfl rfl rfl (by decide) dX0_become_28 rfl ?_
  refine Go.aload_n X 0 dX0_become_31 rfl ?_
  refine Go.aload_n X 1 dX0_become_32 rfl ?_
  refine Go.get X f_X0_become_15 4 (v := .int (nI (sD T))) rfl rfl dX0_become_33 ?_
  refine Go.putM X f_X0_become_15 fp_0_3 0 (schW g a qw qk qr (sN T, sA T, sW T, sD T, sP S, sK S, sO S, sG S, sT S, sF S, sX S) ++ schW g b rw rk rr T) rfl rfl rfl rfl dX0_become_36 rfl ?_
  refine Go.aload_n X 0 dX0_become_39 rfl ?_
  refine Go.aload_n X 1 dX0_become_40 rfl ?_
  refine Go.get X f_X0_become_44 4 (v := .int (nI (sP T))) rfl rfl dX0_become_41 ?_
  refine Go.putM X f_X0_become_44 fp_0_4 0 (schW g a qw qk qr (sN T, sA T, sW T, sD T, sP T, sK S, sO S, sG S, sT S, sF S, sX S) ++ schW g b rw rk rr T) rfl rfl rfl rfl dX0_become_44 rfl ?_
  refine Go.aload_n X 1 dX0_become_47 rfl ?_
  refine Go.get X f_X0_become_19 4 (v := .ref rk) rfl rfl dX0_become_48 ?_
  refine Go.iconst X (nI 0) dX0_become_51 k_ic_0 ?_
  refine Go.aload_n X 0 dX0_become_52 rfl ?_
  refine Go.get X f_X0_become_19 0 (v := .ref qk) rfl rfl dX0_become_53 ?_
  refine Go.iconst X (nI 0) dX0_become_56 k_ic_0 ?_
  refine Go.bipush X (nI 6) dX0_become_57 k_bp_6 ?_
  refine Go.copyN X 6 2 (schW g a qw qk qr (sN T, sA T, sW T, sD T, sP T, sK T, sO S, sG S, sT S, sF S, sX S) ++ schW g b rw rk rr T) (w := sK T) (List.mem_of_getElem? (i := 4) (by decide +kernel)) (List.mem_of_getElem? (i := 5) (by decide +kernel)) (List.mem_of_getElem? (i := 6) (by decide +kernel)) (List.mem_of_getElem? (i := 7) (by decide +kernel)) rfl rfl rfl (by decide) dX0_become_59 rfl ?_
  refine Go.aload_n X 1 dX0_become_62 rfl ?_
  refine Go.get X f_X0_become_22 4 (v := .ref rr) rfl rfl dX0_become_63 ?_
  refine Go.iconst X (nI 0) dX0_become_66 k_ic_0 ?_
  refine Go.aload_n X 0 dX0_become_67 rfl ?_
  refine Go.get X f_X0_become_22 0 (v := .ref qr) rfl rfl dX0_become_68 ?_
  refine Go.iconst X (nI 0) dX0_become_71 k_ic_0 ?_
  refine Go.bipush X (nI 6) dX0_become_72 k_bp_6 ?_
  refine Go.copyN X 7 3 (schW g a qw qk qr (sN T, sA T, sW T, sD T, sP T, sK T, sO T, sG S, sT S, sF S, sX S) ++ schW g b rw rk rr T) (w := sO T) (List.mem_of_getElem? (i := 4) (by decide +kernel)) (List.mem_of_getElem? (i := 5) (by decide +kernel)) (List.mem_of_getElem? (i := 6) (by decide +kernel)) (List.mem_of_getElem? (i := 7) (by decide +kernel)) rfl rfl rfl (by decide) dX0_become_74 rfl ?_
  refine Go.aload_n X 0 dX0_become_77 rfl ?_
  refine Go.aload_n X 1 dX0_become_78 rfl ?_
  refine Go.get X f_X0_become_25 4 (v := .int (sG T)) rfl rfl dX0_become_79 ?_
  refine Go.putM X f_X0_become_25 fp_0_7 0 (schW g a qw qk qr (sN T, sA T, sW T, sD T, sP T, sK T, sO T, sG T, sT S, sF S, sX S) ++ schW g b rw rk rr T) rfl rfl rfl rfl dX0_become_82 rfl ?_
  refine Go.aload_n X 0 dX0_become_85 rfl ?_
  refine Go.aload_n X 1 dX0_become_86 rfl ?_
  refine Go.get X f_X0_become_47 4 (v := .int (sT T)) rfl rfl dX0_become_87 ?_
  refine Go.putM X f_X0_become_47 fp_0_8 0 (schW g a qw qk qr (sN T, sA T, sW T, sD T, sP T, sK T, sO T, sG T, sT T, sF S, sX S) ++ schW g b rw rk rr T) rfl rfl rfl rfl dX0_become_90 rfl ?_
  refine Go.aload_n X 0 dX0_become_93 rfl ?_
  refine Go.aload_n X 1 dX0_become_94 rfl ?_
  refine Go.get X f_X0_become_50 4 (v := .int (sF T)) rfl rfl dX0_become_95 ?_
  refine Go.putM X f_X0_become_50 fp_0_9 0 (schW g a qw qk qr (sN T, sA T, sW T, sD T, sP T, sK T, sO T, sG T, sT T, sF T, sX S) ++ schW g b rw rk rr T) rfl rfl rfl rfl dX0_become_98 rfl ?_
  refine Go.aload_n X 0 dX0_become_101 rfl ?_
  refine Go.aload_n X 1 dX0_become_102 rfl ?_
  refine Go.get X f_X0_become_53 4 (v := .int (sX T)) rfl rfl dX0_become_103 ?_
  refine Go.putM X f_X0_become_53 fp_0_10 0 (schW g a qw qk qr (sN T, sA T, sW T, sD T, sP T, sK T, sO T, sG T, sT T, sF T, sX T) ++ schW g b rw rk rr T) rfl rfl rfl rfl dX0_become_106 rfl ?_
  exact Go.vret X E dX0_become_109 ⟨rfl, (by rfl)⟩ rfl
set_option maxHeartbeats 4000000 in
set_option maxRecDepth 100000 in
theorem c_beginTerm (g : gT) (a : Nat) (qw : Nat) (qk : Nat) (qr : Nat) (S : Sch) (n : Nat) (hn : n ≤ 9) : Cw g yX0_beginTerm wsX0_beginTerm 1 20 [.ref a, .int (nI n)] (schW g a qw qk qr S) none (schW g a qw qk qr (n, 2 ^ n - 1, one9, sD S, sP S, sK S, sO S, sG S, sT S, sF S, sX S)) := by
  refine Ct.start (cc := cX0_beginTerm) (nL := 3) (ret := none) (own := RX0) (by decide) rfl rfl rfl ?_
  intro Γ X E
  show Go Γ g 3 (rmC 1 20) 0 0 (schW g a qw qk qr S) 0 [(0, .ref a), (1, .int (nI n))] []
  refine Go.aload_n X 0 dX0_beginTerm_0 rfl ?_
  refine Go.iload_n X 1 dX0_beginTerm_1 rfl ?_
  refine Go.putM X f_X0_beginTerm_32 fp_0_0 0 (schW g a qw qk qr (n, sA S, sW S, sD S, sP S, sK S, sO S, sG S, sT S, sF S, sX S)) rfl rfl rfl rfl dX0_beginTerm_2 rfl ?_
  refine Go.aload_n X 0 dX0_beginTerm_5 rfl ?_
  refine Go.aload_n X 0 dX0_beginTerm_6 rfl ?_
  refine Go.callVi X  (c_allMornings g a qw qk qr (n, sA S, sW S, sD S, sP S, sK S, sO S, sG S, sT S, sF S, sX S) (by first | omega | (split <;> omega))) cal_X0_allMornings [0, 1, 2, 3] rfl rfl gX0_beginTerm_X0_allMornings (ci := 0) (q0 := 0) rfl rfl rfl rfl rfl dX0_beginTerm_7 ?_
  refine Go.putM X f_X0_beginTerm_35 fp_0_1 0 (schW g a qw qk qr (n, 2 ^ (sN (n, sA S, sW S, sD S, sP S, sK S, sO S, sG S, sT S, sF S, sX S)) - 1, sW S, sD S, sP S, sK S, sO S, sG S, sT S, sF S, sX S)) rfl rfl rfl rfl dX0_beginTerm_10 rfl ?_
  refine Go.iconst X (nI 0) dX0_beginTerm_13 k_ic_0 ?_
  refine Go.istore_n_new X dX0_beginTerm_14 (by decide) rfl ?_
  have L15 : ∀ (f15 : Nat) (k : Nat) (hk : k ≤ 9) (hf15 : 9 - k < f15), Go Γ g 3 (rmC 1 20) 0 0 (schW g a qw qk qr (n, 2 ^ n - 1, fillN (sW S) 1 k, sD S, sP S, sK S, sO S, sG S, sT S, sF S, sX S)) 15 [(2, .int (nI k)), (0, .ref a), (1, .int (nI n))] [] := by
    intro f15
    induction f15 with
    | zero => intro k hk hf15; exact absurd hf15 (Nat.not_lt_zero _)
    | succ f15 ih15 =>
      intro k hk hf15
      refine Go.iload_n X 0 dX0_beginTerm_15 rfl ?_
      refine Go.bipush X (nI 9) dX0_beginTerm_16 k_bp_9 ?_
      refine Go.icmp_geN X 34 dX0_beginTerm_18 (by decide) (by first | omega | (split <;> omega)) (by decide) (fun h18 => ?_) (fun h18 => ?_)
      · --
        refine Go.ext (q := 1) (f := aN (fillN (sW S) 1 k)) (f1 := aN one9) (M1 := schW g a qw qk qr (n, 2 ^ n - 1, one9, sD S, sP S, sK S, sO S, sG S, sT S, sF S, sX S)) rfl (fun i hi => by simp [aN, fillN, one9, show i < k by omega]) rfl ?_
        exact Go.vret X E dX0_beginTerm_34 ⟨rfl, rfl⟩ rfl
      · --
        refine Go.aload_n X 1 dX0_beginTerm_21 rfl ?_
        refine Go.get X f_X0_beginTerm_9 0 (v := .ref qw) rfl rfl dX0_beginTerm_22 ?_
        refine Go.iload_n X 0 dX0_beginTerm_25 rfl ?_
        refine Go.iconst X (nI 1) dX0_beginTerm_26 k_ic_1 ?_
        refine Go.iastNM X 1 (schW g a qw qk qr (n, 2 ^ n - 1, updN (fillN (sW S) 1 k) k 1, sD S, sP S, sK S, sO S, sG S, sT S, sF S, sX S)) (w := fillN (sW S) 1 k) rfl (by first | omega | (split <;> omega)) rfl dX0_beginTerm_27 rfl ?_
        refine Go.iinc_0 X (nI (k + 1)) dX0_beginTerm_28 (by decide) rfl (show nI k + Int32.ofInt 1 = nI (k + 1) from nI_add _ 1) ?_
        refine Go.goto X 15 dX0_beginTerm_31 (by decide) ?_
        refine Go.conv (M1 := schW g a qw qk qr (n, 2 ^ n - 1, fillN (sW S) 1 (k + 1), sD S, sP S, sK S, sO S, sG S, sT S, sF S, sX S)) ?_ (by rw [fill_s]) rfl rfl
        exact ih15 (k + 1) (by first | omega | (split <;> omega)) (by first | omega | (split <;> omega))
  refine Go.conv (M1 := schW g a qw qk qr (n, 2 ^ n - 1, fillN (sW S) 1 0, sD S, sP S, sK S, sO S, sG S, sT S, sF S, sX S)) ?_ (by rw [fill_0]) rfl rfl
  exact L15 (9 - 0 + 1) 0 (by first | omega | (split <;> omega)) (Nat.lt_succ_self _)
set_option maxHeartbeats 4000000 in
set_option maxRecDepth 100000 in
theorem c_addSomebody (g : gT) (a : Nat) (qw : Nat) (qk : Nat) (qr : Nat) (S : Sch) (k : Nat) (u : Nat) (hS : sOk S) (hp : sP S < 6) : Cw g yX0_addSomebody wsX0_addSomebody 0 0 [.ref a, .int (nI k), .int (nI u)] (schW g a qw qk qr S) none (schW g a qw qk qr (sN S, sA S, sW S, sD S, sP S + 1, updN (sK S) (sP S) k, updN (sO S) (sP S) u, sG S, sT S, sF S, sX S)) := by
  refine Ct.start (cc := cX0_addSomebody) (nL := 3) (ret := none) (own := RX0) (by decide) rfl rfl rfl ?_
  intro Γ X E
  show Go Γ g 3 (rmC 0 0) 0 0 (schW g a qw qk qr S) 0 [(0, .ref a), (1, .int (nI k)), (2, .int (nI u))] []
  obtain ⟨o1, o2, o3, o4, o5, o6, o7, o8⟩ := id hS
  have o9 := p2_9 o2
  have o10 := sA_512 hS
  refine Go.aload_n X 0 dX0_addSomebody_0 rfl ?_
  refine Go.get X f_X0_addSomebody_44 0 (v := .int (nI (sP S))) rfl rfl dX0_addSomebody_1 ?_
  refine Go.bipush X (nI 6) dX0_addSomebody_4 k_bp_6 ?_
  refine Go.icmp_geN X 39 dX0_addSomebody_6 (by decide) (by first | omega | (split <;> omega)) (by decide) (fun h6 => ?_) (fun h6 => ?_)
  · --
    exact absurd h6 (by omega)
  · --
    refine Go.aload_n X 0 dX0_addSomebody_9 rfl ?_
    refine Go.get X f_X0_addSomebody_19 0 (v := .ref qk) rfl rfl dX0_addSomebody_10 ?_
    refine Go.aload_n X 0 dX0_addSomebody_13 rfl ?_
    refine Go.get X f_X0_addSomebody_44 0 (v := .int (nI (sP S))) rfl rfl dX0_addSomebody_14 ?_
    refine Go.iload_n X 1 dX0_addSomebody_17 rfl ?_
    refine Go.iastNM X 2 (schW g a qw qk qr (sN S, sA S, sW S, sD S, sP S, updN (sK S) (sP S) k, sO S, sG S, sT S, sF S, sX S)) (w := sK S) rfl (by first | omega | (split <;> omega)) rfl dX0_addSomebody_18 rfl ?_
    refine Go.aload_n X 0 dX0_addSomebody_19 rfl ?_
    refine Go.get X f_X0_addSomebody_22 0 (v := .ref qr) rfl rfl dX0_addSomebody_20 ?_
    refine Go.aload_n X 0 dX0_addSomebody_23 rfl ?_
    refine Go.get X f_X0_addSomebody_44 0 (v := .int (nI (sP S))) rfl rfl dX0_addSomebody_24 ?_
    refine Go.iload_n X 2 dX0_addSomebody_27 rfl ?_
    refine Go.iastNM X 3 (schW g a qw qk qr (sN S, sA S, sW S, sD S, sP S, updN (sK S) (sP S) k, updN (sO S) (sP S) u, sG S, sT S, sF S, sX S)) (w := sO S) rfl (by first | omega | (split <;> omega)) rfl dX0_addSomebody_28 rfl ?_
    refine Go.aload_n X 0 dX0_addSomebody_29 rfl ?_
    refine Go.dup X dX0_addSomebody_30 rfl ?_
    refine Go.get X f_X0_addSomebody_44 0 (v := .int (nI (sP S))) rfl rfl dX0_addSomebody_31 ?_
    refine Go.iconst X (nI 1) dX0_addSomebody_34 k_ic_1 ?_
    refine Go.iadd_e X (nI (sP S + 1)) dX0_addSomebody_35 (nI_add _ _) ?_
    refine Go.putM X f_X0_addSomebody_44 fp_0_4 0 (schW g a qw qk qr (sN S, sA S, sW S, sD S, sP S + 1, updN (sK S) (sP S) k, updN (sO S) (sP S) u, sG S, sT S, sF S, sX S)) rfl rfl rfl rfl dX0_addSomebody_36 rfl ?_
    exact Go.vret X E dX0_addSomebody_39 ⟨rfl, rfl⟩ rfl
set_option maxHeartbeats 4000000 in
set_option maxRecDepth 100000 in
theorem c_removeSomebody (g : gT) (a : Nat) (qw : Nat) (qk : Nat) (qr : Nat) (S : Sch) (i : Nat) (hS : sOk S) (hi : i < sP S) : Cw g yX0_removeSomebody wsX0_removeSomebody 2 43 [.ref a, .int (nI i)] (schW g a qw qk qr S) none (schW g a qw qk qr (sN S, sA S, sW S, sD S, sP S - 1, shf (sK S) i (sP S), shf (sO S) i (sP S), sG S, sT S, sF S, sX S)) := by
  refine Ct.start (cc := cX0_removeSomebody) (nL := 3) (ret := none) (own := RX0) (by decide) rfl rfl rfl ?_
  intro Γ X E
  show Go Γ g 3 (rmC 2 43) 0 0 (schW g a qw qk qr S) 0 [(0, .ref a), (1, .int (nI i))] []
  obtain ⟨o1, o2, o3, o4, o5, o6, o7, o8⟩ := id hS
  have o9 := p2_9 o2
  have o10 := sA_512 hS
  refine Go.aload_n X 0 dX0_removeSomebody_0 rfl ?_
  refine Go.iload_n X 1 dX0_removeSomebody_1 rfl ?_
  refine Go.callVi X  (c_isSomebody g a qw qk qr S (nI i) (by exact hS)) cal_X0_isSomebody [0, 1, 2, 3] rfl rfl gX0_removeSomebody_X0_isSomebody (ci := 0) (q0 := 0) rfl rfl rfl rfl rfl dX0_removeSomebody_2 ?_
  refine Go.if_neB X 9 dX0_removeSomebody_5 (by decide) (fun h5 => ?_) (fun h5 => ?_)
  · --
    refine Go.iload_n X 1 dX0_removeSomebody_9 rfl ?_
    refine Go.iconst X (nI 1) dX0_removeSomebody_10 k_ic_1 ?_
    refine Go.iadd_e X (nI (i + 1)) dX0_removeSomebody_11 (nI_add _ _) ?_
    refine Go.istore_n_new X dX0_removeSomebody_12 (by decide) rfl ?_
    have L13 : ∀ (f13 : Nat) (k : Nat) (hk : k ≤ sP S) (hk1 : i < k) (hf13 : sP S - k < f13), Go Γ g 3 (rmC 2 43) 0 0 (schW g a qw qk qr (sN S, sA S, sW S, sD S, sP S, shf (sK S) i k, shf (sO S) i k, sG S, sT S, sF S, sX S)) 13 [(2, .int (nI k)), (0, .ref a), (1, .int (nI i))] [] := by
      intro f13
      induction f13 with
      | zero => intro k hk hk1 hf13; exact absurd hf13 (Nat.not_lt_zero _)
      | succ f13 ih13 =>
        intro k hk hk1 hf13
        refine Go.iload_n X 0 dX0_removeSomebody_13 rfl ?_
        refine Go.aload_n X 1 dX0_removeSomebody_14 rfl ?_
        refine Go.get X f_X0_removeSomebody_44 0 (v := .int (nI (sP S))) rfl rfl dX0_removeSomebody_15 ?_
        refine Go.icmp_geN X 55 dX0_removeSomebody_18 (by decide) (by first | omega | (split <;> omega)) (by first | omega | (split <;> omega)) (fun h18 => ?_) (fun h18 => ?_)
        · --
          refine Go.aload_n X 1 dX0_removeSomebody_55 rfl ?_
          refine Go.dup X dX0_removeSomebody_56 rfl ?_
          refine Go.get X f_X0_removeSomebody_44 0 (v := .int (nI (sP S))) rfl rfl dX0_removeSomebody_57 ?_
          refine Go.iconst X (nI 1) dX0_removeSomebody_60 k_ic_1 ?_
          refine Go.isub_e X (nI (sP S - 1)) dX0_removeSomebody_61 (pk_sub (by first | omega | (split <;> omega))) ?_
          refine Go.putM X f_X0_removeSomebody_44 fp_0_4 0 (schW g a qw qk qr (sN S, sA S, sW S, sD S, sP S - 1, shf (sK S) i k, shf (sO S) i k, sG S, sT S, sF S, sX S)) rfl rfl rfl rfl dX0_removeSomebody_62 rfl ?_
          exact Go.vret X E dX0_removeSomebody_65 ⟨rfl, (by rw [show k = sP S by omega])⟩ rfl
        · --
          refine Go.aload_n X 1 dX0_removeSomebody_21 rfl ?_
          refine Go.get X f_X0_removeSomebody_19 0 (v := .ref qk) rfl rfl dX0_removeSomebody_22 ?_
          refine Go.iload_n X 0 dX0_removeSomebody_25 rfl ?_
          refine Go.iconst X (nI 1) dX0_removeSomebody_26 k_ic_1 ?_
          refine Go.isub_e X (nI (k - 1)) dX0_removeSomebody_27 (pk_sub (by first | omega | (split <;> omega))) ?_
          refine Go.aload_n X 1 dX0_removeSomebody_28 rfl ?_
          refine Go.get X f_X0_removeSomebody_19 0 (v := .ref qk) rfl rfl dX0_removeSomebody_29 ?_
          refine Go.iload_n X 0 dX0_removeSomebody_32 rfl ?_
          refine Go.ialdN X 2 (w := shf (sK S) i k) rfl (by first | omega | (split <;> omega)) rfl dX0_removeSomebody_33 ?_
          refine Go.iastNM X 2 (schW g a qw qk qr (sN S, sA S, sW S, sD S, sP S, updN (shf (sK S) i k) (k - 1) ((shf (sK S) i k) k), shf (sO S) i k, sG S, sT S, sF S, sX S)) (w := shf (sK S) i k) rfl (by first | omega | (split <;> omega)) rfl dX0_removeSomebody_34 rfl ?_
          refine Go.aload_n X 1 dX0_removeSomebody_35 rfl ?_
          refine Go.get X f_X0_removeSomebody_22 0 (v := .ref qr) rfl rfl dX0_removeSomebody_36 ?_
          refine Go.iload_n X 0 dX0_removeSomebody_39 rfl ?_
          refine Go.iconst X (nI 1) dX0_removeSomebody_40 k_ic_1 ?_
          refine Go.isub_e X (nI (k - 1)) dX0_removeSomebody_41 (pk_sub (by first | omega | (split <;> omega))) ?_
          refine Go.aload_n X 1 dX0_removeSomebody_42 rfl ?_
          refine Go.get X f_X0_removeSomebody_22 0 (v := .ref qr) rfl rfl dX0_removeSomebody_43 ?_
          refine Go.iload_n X 0 dX0_removeSomebody_46 rfl ?_
          refine Go.ialdN X 3 (w := shf (sO S) i k) rfl (by first | omega | (split <;> omega)) rfl dX0_removeSomebody_47 ?_
          refine Go.iastNM X 3 (schW g a qw qk qr (sN S, sA S, sW S, sD S, sP S, updN (shf (sK S) i k) (k - 1) ((shf (sK S) i k) k), updN (shf (sO S) i k) (k - 1) ((shf (sO S) i k) k), sG S, sT S, sF S, sX S)) (w := shf (sO S) i k) rfl (by first | omega | (split <;> omega)) rfl dX0_removeSomebody_48 rfl ?_
          refine Go.iinc_0 X (nI (k + 1)) dX0_removeSomebody_49 (by decide) rfl (show nI k + Int32.ofInt 1 = nI (k + 1) from nI_add _ 1) ?_
          refine Go.goto X 13 dX0_removeSomebody_52 (by decide) ?_
          refine Go.conv (M1 := schW g a qw qk qr (sN S, sA S, sW S, sD S, sP S, shf (sK S) i (k + 1), shf (sO S) i (k + 1), sG S, sT S, sF S, sX S)) ?_ (by rw [shf_s hk1, shf_s hk1]) rfl rfl
          exact ih13 (k + 1) (by first | omega | (split <;> omega)) (by first | omega | (split <;> omega)) (by first | omega | (split <;> omega))
    refine Go.conv (M1 := schW g a qw qk qr (sN S, sA S, sW S, sD S, sP S, shf (sK S) i (i + 1), shf (sO S) i (i + 1), sG S, sT S, sF S, sX S)) ?_ (by rw [shf_0, shf_0]) rfl rfl
    exact L13 (sP S - (i + 1) + 1) (i + 1) (by first | omega | (split <;> omega)) (by first | omega | (split <;> omega)) (Nat.lt_succ_self _)
  · --
    rw [inb_nI (by omega) (by omega)] at h5; exact absurd (decide_eq_false_iff_not.mp h5) (by omega)
