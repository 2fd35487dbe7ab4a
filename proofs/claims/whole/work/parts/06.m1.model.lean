/-! 06.m1.model -/
theorem f_X4_still_111 : FL wsX4_still RX4 111 4 4 := ⟨RX4, TX4, 27, rfl, fun _ h => List.mem_cons_of_mem _ (List.mem_append_right _ h), by decide, List.mem_of_getElem? (i := 1) (by decide +kernel)⟩
theorem f_X4_weights_66 : FL wsX4_weights RX4 66 4 3 := ⟨RX4, TX4, 27, rfl, fun _ h => List.mem_cons_of_mem _ (List.mem_append_right _ h), by decide, List.mem_of_getElem? (i := 1) (by decide +kernel)⟩
theorem cal_X4_has : Cal yX4_has wsX4_has cX4_has 2 (some .boolean) RX4 2 := ⟨⟨_, rfl⟩, by decide +kernel⟩
theorem f_X4_weights_20 : FL wsX4_weights RX4 20 4 5 := ⟨RX4, TX4, 27, rfl, fun _ h => List.mem_cons_of_mem _ (List.mem_append_right _ h), by decide, List.mem_of_getElem? (i := 2) (by decide +kernel)⟩
theorem f_X4_sleeps_23 : FL wsX4_sleeps RX4 23 4 8 := ⟨RX4, TX4, 27, rfl, fun _ h => List.mem_cons_of_mem _ (List.mem_append_right _ h), by decide, List.mem_of_getElem? (i := 1) (by decide +kernel)⟩
theorem f_X4_sleeps_26 : FL wsX4_sleeps RX4 26 4 9 := ⟨RX4, TX4, 27, rfl, fun _ h => List.mem_cons_of_mem _ (List.mem_append_right _ h), by decide, List.mem_of_getElem? (i := 2) (by decide +kernel)⟩
theorem f_X4_depth_26 : FL wsX4_depth RX4 26 4 9 := ⟨RX4, TX4, 27, rfl, fun _ h => List.mem_cons_of_mem _ (List.mem_append_right _ h), by decide, List.mem_of_getElem? (i := 1) (by decide +kernel)⟩
theorem f_X4_depth_48 : FL wsX4_depth RX4 48 4 6 := ⟨RX4, TX4, 27, rfl, fun _ h => List.mem_cons_of_mem _ (List.mem_append_right _ h), by decide, List.mem_of_getElem? (i := 2) (by decide +kernel)⟩
theorem f_X4_depth_23 : FL wsX4_depth RX4 23 4 8 := ⟨RX4, TX4, 27, rfl, fun _ h => List.mem_cons_of_mem _ (List.mem_append_right _ h), by decide, List.mem_of_getElem? (i := 7) (by decide +kernel)⟩
theorem f_X4_depth_59 : FL wsX4_depth RX4 59 4 7 := ⟨RX4, TX4, 27, rfl, fun _ h => List.mem_cons_of_mem _ (List.mem_append_right _ h), by decide, List.mem_of_getElem? (i := 8) (by decide +kernel)⟩
theorem f_X4_depth_55 : FL wsX4_depth RX4 55 4 14 := ⟨RX4, TX4, 27, rfl, fun _ h => List.mem_cons_of_mem _ (List.mem_append_right _ h), by decide, List.mem_of_getElem? (i := 9) (by decide +kernel)⟩
theorem cal_X4_depth : Cal yX4_depth wsX4_depth cX4_depth 5 (some .int) RX4 1 := ⟨⟨_, rfl⟩, by decide +kernel⟩
set_option maxHeartbeats 4000000 in
set_option maxRecDepth 100000 in
theorem d_still (g : gT) (ad : Nat → Nat) (N : Sch) (K : Sch) (b : Bool) (z : Nat) (le : Nat → Nat) (rf : Nat → Int32) (hd : Nat → Int32) (ln : Nat → Nat) (vl : Nat → Nat → Int64) (aw : Nat) (at1 : Nat) (tk : Nat) (so : Int32) (va : Int32) (lm : Nat → Nat) (ol : Nat → Int32) (ah : Nat → Int32) (lt : Int32) (lo : Nat → Int32) (m : Nat) (hN : sOk N) (hm : m < 9) : Cw g yX4_still wsX4_still 0 0 [.ref (ad 0), .int (nI m)] (mdW g ad (N, K, b, z, le, rf, hd, ln, vl) (aw, at1, tk, so, va, lm, ol, ah, lt, lo)) (some (.int (nI (still (sA N) m)))) (mdW g ad (N, K, b, z, le, rf, hd, ln, vl) (aw, at1, tk, so, va, lm, ol, ah, lt, lo)) := by
  refine Ct.start (cc := cX4_still) (nL := 2) (ret := (some .int)) (own := RX4) (by decide) rfl rfl rfl ?_
  intro Γ X E
  show Go Γ g 2 (rmC 0 0) 0 0 (mdW g ad (N, K, b, z, le, rf, hd, ln, vl) (aw, at1, tk, so, va, lm, ol, ah, lt, lo)) 0 [(0, .ref (ad 0)), (1, .int (nI m))] []
  obtain ⟨o1, o2, o3, o4, o5, o6, o7, o8⟩ := id hN
  have o9 := p2_9 o2
  have o10 := sA_512 hN
  refine Go.aload_n X 0 dX4_still_0 rfl ?_
  refine Go.get X f_X4_still_111 0 (v := .int (nI (sA N))) rfl rfl dX4_still_1 ?_
  refine Go.iload_n X 1 dX4_still_4 rfl ?_
  refine Go.ishr_e X (nI ((sA N) >>> m)) dX4_still_5 (nI_shr (by first | omega | (split <;> omega)) (by first | omega | (split <;> omega))) ?_
  refine Go.iload_n X 1 dX4_still_6 rfl ?_
  have o11 : sA N >>> m <<< m ≤ sA N := still_le _ _
  refine Go.ishl_e X (nI (((sA N) >>> m) <<< m)) dX4_still_7 (nI_shl (by first | omega | (split <;> omega)) (by first | omega | (split <;> omega))) ?_
  exact Go.iret X E dX4_still_8 ⟨rv (congrArg nI (show ((sA N) >>> m) <<< m = still (sA N) m from by rfl)), rfl⟩ rfl
set_option maxHeartbeats 4000000 in
set_option maxRecDepth 100000 in
theorem d_weights (g : gT) (ad : Nat → Nat) (N : Sch) (K : Sch) (b : Bool) (z : Nat) (le : Nat → Nat) (rf : Nat → Int32) (hd : Nat → Int32) (ln : Nat → Nat) (vl : Nat → Nat → Int64) (aw : Nat) (at1 : Nat) (tk : Nat) (so : Int32) (va : Int32) (lm : Nat → Nat) (ol : Nat → Int32) (ah : Nat → Int32) (lt : Int32) (lo : Nat → Int32) (s : Nat) (hN : sOk N) (hs : s < 2 ^ 31) : Cw g yX4_weights wsX4_weights 1 21 [.ref (ad 0), .int (nI s)] (mdW g ad (N, K, b, z, le, rf, hd, ln, vl) (aw, at1, tk, so, va, lm, ol, ah, lt, lo)) (some (.int (nI (wsum (sW N) s (sN N))))) (mdW g ad (N, K, b, z, le, rf, hd, ln, vl) (aw, at1, tk, so, va, lm, ol, ah, lt, lo)) := by
  refine Ct.start (cc := cX4_weights) (nL := 4) (ret := (some .int)) (own := RX4) (by decide) rfl rfl rfl ?_
  intro Γ X E
  show Go Γ g 4 (rmC 1 21) 0 0 (mdW g ad (N, K, b, z, le, rf, hd, ln, vl) (aw, at1, tk, so, va, lm, ol, ah, lt, lo)) 0 [(0, .ref (ad 0)), (1, .int (nI s))] []
  obtain ⟨o1, o2, o3, o4, o5, o6, o7, o8⟩ := id hN
  have o9 := p2_9 o2
  have o10 := sA_512 hN
  refine Go.iconst X (nI 0) dX4_weights_0 k_ic_0 ?_
  refine Go.istore_n_new X dX4_weights_1 (by decide) rfl ?_
  refine Go.iconst X (nI 0) dX4_weights_2 k_ic_0 ?_
  refine Go.istore_n_new X dX4_weights_3 (by decide) rfl ?_
  have L4 : ∀ (f4 : Nat) (k : Nat) (hk : k ≤ sN N) (hf4 : sN N - k < f4), Go Γ g 4 (rmC 1 21) 0 0 (mdW g ad (N, K, b, z, le, rf, hd, ln, vl) (aw, at1, tk, so, va, lm, ol, ah, lt, lo)) 4 [(3, .int (nI k)), (2, .int (nI (wsum (sW N) s k))), (0, .ref (ad 0)), (1, .int (nI s))] [] := by
    intro f4
    induction f4 with
    | zero => intro k hk hf4; exact absurd hf4 (Nat.not_lt_zero _)
    | succ f4 ih4 =>
      intro k hk hf4
      refine Go.iload_n X 0 dX4_weights_4 rfl ?_
      refine Go.aload_n X 2 dX4_weights_5 rfl ?_
      refine Go.get X f_X4_weights_66 0 (v := .int (nI (sN N))) rfl rfl dX4_weights_6 ?_
      refine Go.icmp_geN X 35 dX4_weights_9 (by decide) (by first | omega | (split <;> omega)) (by first | omega | (split <;> omega)) (fun h9 => ?_) (fun h9 => ?_)
      · --
        refine Go.iload_n X 1 dX4_weights_35 rfl ?_
        exact Go.iret X E dX4_weights_36 ⟨rv (congrArg nI (show wsum (sW N) s k = wsum (sW N) s (sN N) from by rw [show k = sN N by omega])), rfl⟩ rfl
      · --
        refine Go.iload_n X 3 dX4_weights_12 rfl ?_
        refine Go.iload_n X 0 dX4_weights_13 rfl ?_
        refine Go.callSi X  (d_has g s k (by first | omega | (split <;> omega)) (by first | omega | (split <;> omega))) cal_X4_has [] rfl rfl gX4_weights_X4_has rfl rfl rfl dX4_weights_14 ?_
        refine Go.if_eqB X 29 dX4_weights_17 (by decide) (fun h17 => ?_) (fun h17 => ?_)
        · --
          refine Go.iinc_0 X (nI (k + 1)) dX4_weights_29 (by decide) rfl (show nI k + Int32.ofInt 1 = nI (k + 1) from nI_add _ 1) ?_
          refine Go.goto X 4 dX4_weights_32 (by decide) ?_
          refine Go.lv_1 (congrArg (fun z => Value.int (nI z)) (show wsum (sW N) s k = wsum (sW N) s (k + 1) from by simp [wsum, h17])) ?_
          exact ih4 (k + 1) (by first | omega | (split <;> omega)) (by first | omega | (split <;> omega))
        · --
          refine Go.iload_n X 1 dX4_weights_20 rfl ?_
          refine Go.aload_n X 2 dX4_weights_21 rfl ?_
          refine Go.get X f_X4_weights_20 0 (v := .ref (ad 4)) rfl rfl dX4_weights_22 ?_
          refine Go.iload_n X 0 dX4_weights_25 rfl ?_
          refine Go.ialdN X 4 (w := sW N) rfl (by first | omega | (split <;> omega)) rfl dX4_weights_26 ?_
          refine Go.iadd_e X (nI (wsum (sW N) s k + (sW N) k)) dX4_weights_27 (nI_add _ _) ?_
          refine Go.istore_n_1 X dX4_weights_28 (by decide) rfl ?_
          refine Go.iinc_0 X (nI (k + 1)) dX4_weights_29 (by decide) rfl (show nI k + Int32.ofInt 1 = nI (k + 1) from nI_add _ 1) ?_
          refine Go.goto X 4 dX4_weights_32 (by decide) ?_
          refine Go.lv_1 (congrArg (fun z => Value.int (nI z)) (show wsum (sW N) s k + (sW N) k = wsum (sW N) s (k + 1) from by simp [wsum, h17])) ?_
          exact ih4 (k + 1) (by first | omega | (split <;> omega)) (by first | omega | (split <;> omega))
  refine Go.lv_1 (congrArg (fun z => Value.int (nI z)) (show 0 = wsum (sW N) s 0 from by rfl)) ?_
  exact L4 (sN N - 0 + 1) 0 (by first | omega | (split <;> omega)) (Nat.lt_succ_self _)
set_option maxHeartbeats 4000000 in
set_option maxRecDepth 100000 in
theorem d_sleeps (g : gT) (ad : Nat → Nat) (N : Sch) (K : Sch) (b : Bool) (z : Nat) (le : Nat → Nat) (rf : Nat → Int32) (hd : Nat → Int32) (ln : Nat → Nat) (vl : Nat → Nat → Int64) (aw : Nat) (at1 : Nat) (tk : Nat) (so : Int32) (va : Int32) (lm : Nat → Nat) (ol : Nat → Int32) (ah : Nat → Int32) (lt : Int32) (lo : Nat → Int32) (i : Nat) (m : Nat) (hN : sOk N) (hi : i < 6) (hm : m < 9) : Cw g yX4_sleeps wsX4_sleeps 0 0 [.ref (ad 0), .int (nI i), .int (nI m)] (mdW g ad (N, K, b, z, le, rf, hd, ln, vl) (aw, at1, tk, so, va, lm, ol, ah, lt, lo)) (some (.int (b2i (slp N i m)))) (mdW g ad (N, K, b, z, le, rf, hd, ln, vl) (aw, at1, tk, so, va, lm, ol, ah, lt, lo)) := by
  refine Ct.start (cc := cX4_sleeps) (nL := 3) (ret := (some .boolean)) (own := RX4) (by decide) rfl rfl rfl ?_
  intro Γ X E
  show Go Γ g 3 (rmC 0 0) 0 0 (mdW g ad (N, K, b, z, le, rf, hd, ln, vl) (aw, at1, tk, so, va, lm, ol, ah, lt, lo)) 0 [(0, .ref (ad 0)), (1, .int (nI i)), (2, .int (nI m))] []
  obtain ⟨o1, o2, o3, o4, o5, o6, o7, o8⟩ := id hN
  have o9 := p2_9 o2
  have o10 := sA_512 hN
  refine Go.aload_n X 0 dX4_sleeps_0 rfl ?_
  refine Go.get X f_X4_sleeps_23 0 (v := .ref (ad 5)) rfl rfl dX4_sleeps_1 ?_
  refine Go.iload_n X 1 dX4_sleeps_4 rfl ?_
  refine Go.ialdN X 5 (w := sK N) rfl (by first | omega | (split <;> omega)) rfl dX4_sleeps_5 ?_
  have o11 := o7 i hi
  refine Go.iconst X (nI 1) dX4_sleeps_6 k_ic_1 ?_
  refine Go.icmp_eqN X 20 dX4_sleeps_7 (by decide) (by first | omega | (split <;> omega)) (by decide) (fun h7 => ?_) (fun h7 => ?_)
  · --
    refine Go.iload_n X 2 dX4_sleeps_20 rfl ?_
    refine Go.iconst X (nI 2) dX4_sleeps_21 k_ic_2 ?_
    refine Go.aload_n X 0 dX4_sleeps_22 rfl ?_
    refine Go.get X f_X4_sleeps_26 0 (v := .ref (ad 6)) rfl rfl dX4_sleeps_23 ?_
    refine Go.iload_n X 1 dX4_sleeps_26 rfl ?_
    refine Go.ialdN X 6 (w := sO N) rfl (by first | omega | (split <;> omega)) rfl dX4_sleeps_27 ?_
    have o12 := o8 i hi
    refine Go.iconst X (nI 3) dX4_sleeps_28 k_ic_3 ?_
    refine Go.irem_e X (nI (((sO N) i) % 3)) dX4_sleeps_29 (nI_ne0 (by first | omega | (split <;> omega)) (by first | omega | (split <;> omega))) (pk_rem (by first | omega | (split <;> omega)) (by first | omega | (split <;> omega)) (by first | omega | (split <;> omega))) ?_
    refine Go.iadd_e X (nI (2 + ((sO N) i) % 3)) dX4_sleeps_30 (nI_add _ _) ?_
    have o13 := Nat.mod_le m (2 + sO N i % 3)
    refine Go.irem_e X (nI (m % (2 + ((sO N) i) % 3))) dX4_sleeps_31 (nI_ne0 (by first | omega | (split <;> omega)) (by first | omega | (split <;> omega))) (pk_rem (by first | omega | (split <;> omega)) (by first | omega | (split <;> omega)) (by first | omega | (split <;> omega))) ?_
    refine Go.if_neN X 39 dX4_sleeps_32 (by decide) (by first | omega | (split <;> omega)) (fun h32 => ?_) (fun h32 => ?_)
    · --
      refine Go.iconst X (nI 0) dX4_sleeps_39 k_ic_0 ?_
      exact Go.nret X E rfl dX4_sleeps_40 ⟨rv (b2i_f (by simp [slp, h7, h32])), rfl⟩ rfl
    · --
      refine Go.iconst X (nI 1) dX4_sleeps_35 k_ic_1 ?_
      refine Go.goto X 40 dX4_sleeps_36 (by decide) ?_
      exact Go.nret X E rfl dX4_sleeps_40 ⟨rv (b2i_t (by simp [slp, h7, h32])), rfl⟩ rfl
  · --
    refine Go.aload_n X 0 dX4_sleeps_10 rfl ?_
    refine Go.get X f_X4_sleeps_23 0 (v := .ref (ad 5)) rfl rfl dX4_sleeps_11 ?_
    refine Go.iload_n X 1 dX4_sleeps_14 rfl ?_
    refine Go.ialdN X 5 (w := sK N) rfl (by first | omega | (split <;> omega)) rfl dX4_sleeps_15 ?_
    refine Go.iconst X (nI 3) dX4_sleeps_16 k_ic_3 ?_
    refine Go.icmp_neN X 39 dX4_sleeps_17 (by decide) (by first | omega | (split <;> omega)) (by decide) (fun h17 => ?_) (fun h17 => ?_)
    · --
      refine Go.iconst X (nI 0) dX4_sleeps_39 k_ic_0 ?_
      exact Go.nret X E rfl dX4_sleeps_40 ⟨rv (b2i_f (by simp [slp, h7, h17])), rfl⟩ rfl
    · --
      refine Go.iload_n X 2 dX4_sleeps_20 rfl ?_
      refine Go.iconst X (nI 2) dX4_sleeps_21 k_ic_2 ?_
      refine Go.aload_n X 0 dX4_sleeps_22 rfl ?_
      refine Go.get X f_X4_sleeps_26 0 (v := .ref (ad 6)) rfl rfl dX4_sleeps_23 ?_
      refine Go.iload_n X 1 dX4_sleeps_26 rfl ?_
      refine Go.ialdN X 6 (w := sO N) rfl (by first | omega | (split <;> omega)) rfl dX4_sleeps_27 ?_
      have o12 := o8 i hi
      refine Go.iconst X (nI 3) dX4_sleeps_28 k_ic_3 ?_
      refine Go.irem_e X (nI (((sO N) i) % 3)) dX4_sleeps_29 (nI_ne0 (by first | omega | (split <;> omega)) (by first | omega | (split <;> omega))) (pk_rem (by first | omega | (split <;> omega)) (by first | omega | (split <;> omega)) (by first | omega | (split <;> omega))) ?_
      refine Go.iadd_e X (nI (2 + ((sO N) i) % 3)) dX4_sleeps_30 (nI_add _ _) ?_
      have o13 := Nat.mod_le m (2 + sO N i % 3)
      refine Go.irem_e X (nI (m % (2 + ((sO N) i) % 3))) dX4_sleeps_31 (nI_ne0 (by first | omega | (split <;> omega)) (by first | omega | (split <;> omega))) (pk_rem (by first | omega | (split <;> omega)) (by first | omega | (split <;> omega)) (by first | omega | (split <;> omega))) ?_
      refine Go.if_neN X 39 dX4_sleeps_32 (by decide) (by first | omega | (split <;> omega)) (fun h32 => ?_) (fun h32 => ?_)
      · --
        refine Go.iconst X (nI 0) dX4_sleeps_39 k_ic_0 ?_
        exact Go.nret X E rfl dX4_sleeps_40 ⟨rv (b2i_f (by simp [slp, h7, h17, h32])), rfl⟩ rfl
      · --
        refine Go.iconst X (nI 1) dX4_sleeps_35 k_ic_1 ?_
        refine Go.goto X 40 dX4_sleeps_36 (by decide) ?_
        exact Go.nret X E rfl dX4_sleeps_40 ⟨rv (b2i_t (by simp [slp, h7, h17, h32])), rfl⟩ rfl
set_option maxHeartbeats 4000000 in
set_option maxRecDepth 100000 in
theorem d_ownD (g : gT) (ad : Nat → Nat) (N : Sch) (K : Sch) (b : Bool) (z : Nat) (le : Nat → Nat) (rf : Nat → Int32) (hd : Nat → Int32) (ln : Nat → Nat) (vl : Nat → Nat → Int64) (aw : Nat) (at1 : Nat) (tk : Nat) (so : Int32) (va : Int32) (lm : Nat → Nat) (ol : Nat → Int32) (ah : Nat → Int32) (lt : Int32) (lo : Nat → Int32) (i : Nat) (hN : sOk N) (hi : i < 6) (h4 : ¬ sK N i = 4) : Cw g yX4_depth wsX4_depth 1 21 [.ref (ad 0), .int (nI i)] (mdW g ad (N, K, b, z, le, rf, hd, ln, vl) (aw, at1, tk, so, va, lm, ol, ah, lt, lo)) (some (.int (nI (ownD N i)))) (mdW g ad (N, K, b, z, le, rf, hd, ln, vl) (aw, at1, tk, so, va, lm, ol, ah, lt, lo)) := by
  refine Ct.start (cc := cX4_depth) (nL := 5) (ret := (some .int)) (own := RX4) (by decide) rfl rfl rfl ?_
  intro Γ X E
  show Go Γ g 5 (rmC 1 21) 0 0 (mdW g ad (N, K, b, z, le, rf, hd, ln, vl) (aw, at1, tk, so, va, lm, ol, ah, lt, lo)) 0 [(0, .ref (ad 0)), (1, .int (nI i))] []
  obtain ⟨o1, o2, o3, o4, o5, o6, o7, o8⟩ := id hN
  have o9 := p2_9 o2
  have o10 := sA_512 hN
  refine Go.aload_n X 0 dX4_depth_0 rfl ?_
  refine Go.get X f_X4_depth_26 0 (v := .ref (ad 6)) rfl rfl dX4_depth_1 ?_
  refine Go.iload_n X 1 dX4_depth_4 rfl ?_
  refine Go.ialdN X 6 (w := sO N) rfl (by first | omega | (split <;> omega)) rfl dX4_depth_5 ?_
  have o11 := o8 i hi
  refine Go.aload_n X 0 dX4_depth_6 rfl ?_
  refine Go.get X f_X4_depth_48 0 (v := .int (nI (sD N))) rfl rfl dX4_depth_7 ?_
  refine Go.mmin X (nI (min ((sO N) i) (sD N))) (List.mem_of_getElem? (i := 3) (by decide +kernel)) (List.mem_of_getElem? (i := 4) (by decide +kernel)) (List.mem_of_getElem? (i := 5) (by decide +kernel)) (List.mem_of_getElem? (i := 6) (by decide +kernel)) rfl (by exact nmin (by first | omega | (split <;> omega)) (by first | omega | (split <;> omega))) dX4_depth_10 ?_
  refine Go.istore_n_new X dX4_depth_13 (by decide) rfl ?_
  refine Go.aload_n X 1 dX4_depth_14 rfl ?_
  refine Go.get X f_X4_depth_23 0 (v := .ref (ad 5)) rfl rfl dX4_depth_15 ?_
  refine Go.iload_n X 2 dX4_depth_18 rfl ?_
  refine Go.ialdN X 5 (w := sK N) rfl (by first | omega | (split <;> omega)) rfl dX4_depth_19 ?_
  have o12 := o7 i hi
  refine Go.iconst X (nI 3) dX4_depth_20 k_ic_3 ?_
  refine Go.icmp_neN X 28 dX4_depth_21 (by decide) (by first | omega | (split <;> omega)) (by decide) (fun h21 => ?_) (fun h21 => ?_)
  · --
    refine Go.aload_n X 1 dX4_depth_28 rfl ?_
    refine Go.get X f_X4_depth_23 0 (v := .ref (ad 5)) rfl rfl dX4_depth_29 ?_
    refine Go.iload_n X 2 dX4_depth_32 rfl ?_
    refine Go.ialdN X 5 (w := sK N) rfl (by first | omega | (split <;> omega)) rfl dX4_depth_33 ?_
    refine Go.iconst X (nI 4) dX4_depth_34 k_ic_4 ?_
    refine Go.icmp_eqN X 40 dX4_depth_35 (by decide) (by first | omega | (split <;> omega)) (by decide) (fun h35 => ?_) (fun h35 => ?_)
    · --
      exact absurd h35 h4
    · --
      refine Go.iload_n X 0 dX4_depth_38 rfl ?_
      exact Go.iret X E dX4_depth_39 ⟨rv (congrArg nI (show min ((sO N) i) (sD N) = ownD N i from by simp [ownD, h21])), rfl⟩ rfl
  · --
    refine Go.iload_n X 0 dX4_depth_24 rfl ?_
    refine Go.iconst X (nI 1) dX4_depth_25 k_ic_1 ?_
    refine Go.iadd_e X (nI (min ((sO N) i) (sD N) + 1)) dX4_depth_26 (nI_add _ _) ?_
    exact Go.iret X E dX4_depth_27 ⟨rv (congrArg nI (show min ((sO N) i) (sD N) + 1 = ownD N i from by simp [ownD, h21])), rfl⟩ rfl
set_option maxHeartbeats 4000000 in
set_option maxRecDepth 100000 in
theorem d_depth (g : gT) (ad : Nat → Nat) (N : Sch) (K : Sch) (b : Bool) (z : Nat) (le : Nat → Nat) (rf : Nat → Int32) (hd : Nat → Int32) (ln : Nat → Nat) (vl : Nat → Nat → Int64) (aw : Nat) (at1 : Nat) (tk : Nat) (so : Int32) (va : Int32) (lm : Nat → Nat) (ol : Nat → Int32) (ah : Nat → Int32) (lt : Int32) (lo : Nat → Int32) (i : Nat) (hN : sOk N) (hi : i < 6) (ha : aw ≤ 6) : Cw g yX4_depth wsX4_depth 2 45 [.ref (ad 0), .int (nI i)] (mdW g ad (N, K, b, z, le, rf, hd, ln, vl) (aw, at1, tk, so, va, lm, ol, ah, lt, lo)) (some (.int (nI (dep N aw i)))) (mdW g ad (N, K, b, z, le, rf, hd, ln, vl) (aw, at1, tk, so, va, lm, ol, ah, lt, lo)) := by
  refine Ct.start (cc := cX4_depth) (nL := 5) (ret := (some .int)) (own := RX4) (by decide) rfl rfl rfl ?_
  intro Γ X E
  show Go Γ g 5 (rmC 2 45) 0 0 (mdW g ad (N, K, b, z, le, rf, hd, ln, vl) (aw, at1, tk, so, va, lm, ol, ah, lt, lo)) 0 [(0, .ref (ad 0)), (1, .int (nI i))] []
  obtain ⟨o1, o2, o3, o4, o5, o6, o7, o8⟩ := id hN
  have o9 := p2_9 o2
  have o10 := sA_512 hN
  refine Go.aload_n X 0 dX4_depth_0 rfl ?_
  refine Go.get X f_X4_depth_26 0 (v := .ref (ad 6)) rfl rfl dX4_depth_1 ?_
  refine Go.iload_n X 1 dX4_depth_4 rfl ?_
  refine Go.ialdN X 6 (w := sO N) rfl (by first | omega | (split <;> omega)) rfl dX4_depth_5 ?_
  have o11 := o8 i hi
  refine Go.aload_n X 0 dX4_depth_6 rfl ?_
  refine Go.get X f_X4_depth_48 0 (v := .int (nI (sD N))) rfl rfl dX4_depth_7 ?_
  refine Go.mmin X (nI (min ((sO N) i) (sD N))) (List.mem_of_getElem? (i := 3) (by decide +kernel)) (List.mem_of_getElem? (i := 4) (by decide +kernel)) (List.mem_of_getElem? (i := 5) (by decide +kernel)) (List.mem_of_getElem? (i := 6) (by decide +kernel)) rfl (by exact nmin (by first | omega | (split <;> omega)) (by first | omega | (split <;> omega))) dX4_depth_10 ?_
  refine Go.istore_n_new X dX4_depth_13 (by decide) rfl ?_
  refine Go.aload_n X 1 dX4_depth_14 rfl ?_
  refine Go.get X f_X4_depth_23 0 (v := .ref (ad 5)) rfl rfl dX4_depth_15 ?_
  refine Go.iload_n X 2 dX4_depth_18 rfl ?_
  refine Go.ialdN X 5 (w := sK N) rfl (by first | omega | (split <;> omega)) rfl dX4_depth_19 ?_
  have o12 := o7 i hi
  refine Go.iconst X (nI 3) dX4_depth_20 k_ic_3 ?_
  refine Go.icmp_neN X 28 dX4_depth_21 (by decide) (by first | omega | (split <;> omega)) (by decide) (fun h21 => ?_) (fun h21 => ?_)
  · --
    refine Go.aload_n X 1 dX4_depth_28 rfl ?_
    refine Go.get X f_X4_depth_23 0 (v := .ref (ad 5)) rfl rfl dX4_depth_29 ?_
    refine Go.iload_n X 2 dX4_depth_32 rfl ?_
    refine Go.ialdN X 5 (w := sK N) rfl (by first | omega | (split <;> omega)) rfl dX4_depth_33 ?_
    refine Go.iconst X (nI 4) dX4_depth_34 k_ic_4 ?_
    refine Go.icmp_eqN X 40 dX4_depth_35 (by decide) (by first | omega | (split <;> omega)) (by decide) (fun h35 => ?_) (fun h35 => ?_)
    · --
      refine Go.iconst X ((-1 : Int32)) dX4_depth_40 k_ic_m1 ?_
      refine Go.istore_n_new X dX4_depth_41 (by decide) rfl ?_
      refine Go.iconst X (nI 0) dX4_depth_42 k_ic_0 ?_
      refine Go.istore_new X dX4_depth_43 (by decide) rfl ?_
      have L45 : ∀ (f45 : Nat) (k : Nat) (hk : k ≤ sP N) (hf45 : sP N - k < f45), Go Γ g 5 (rmC 2 45) 0 0 (mdW g ad (N, K, b, z, le, rf, hd, ln, vl) (aw, at1, tk, so, va, lm, ol, ah, lt, lo)) 45 [(4, .int (nI k)), (3, .int (pI (mxD N aw k))), (2, .int (nI (min ((sO N) i) (sD N)))), (0, .ref (ad 0)), (1, .int (nI i))] [] := by
        intro f45
        induction f45 with
        | zero => intro k hk hf45; exact absurd hf45 (Nat.not_lt_zero _)
        | succ f45 ih45 =>
          intro k hk hf45
          refine Go.iload X 0 dX4_depth_45 rfl ?_
          refine Go.aload_n X 3 dX4_depth_47 rfl ?_
          refine Go.get X f_X4_depth_59 0 (v := .int (nI (sP N))) rfl rfl dX4_depth_48 ?_
          refine Go.icmp_geN X 91 dX4_depth_51 (by decide) (by first | omega | (split <;> omega)) (by first | omega | (split <;> omega)) (fun h51 => ?_) (fun h51 => ?_)
          · --
            refine Go.iload_n X 1 dX4_depth_91 rfl ?_
            have e9 : k = sP N := by omega
            have o15 := mxD_le hN aw k
            by_cases hm0 : mxD N aw k = 0
            · --
              refine Go.top (w := .int (-1)) (by rw [hm0]; exact congrArg Value.int (by decide)) ?_
              refine Go.lv_1 (w := .int (-1)) (by rw [hm0]; exact congrArg Value.int (by decide)) ?_
              refine Go.if_ge X 99 dX4_depth_92 (by decide) (fun h => absurd h (by decide)) (fun _ => ?_)
              refine Go.iconst X (nI 0) dX4_depth_95 k_ic_0 ?_
              refine Go.goto X 109 dX4_depth_96 (by decide) ?_
              exact Go.iret X E dX4_depth_109 ⟨rv (congrArg nI (show 0 = dep N aw i from by rw [dep, if_pos h35, ← e9, hm0]; exact (Nat.zero_min _).symm)), rfl⟩ rfl
            · --
              refine Go.top (w := .int (nI (mxD N aw k - 1))) (by rw [pI_at hm0]) ?_
              refine Go.lv_1 (w := .int (nI (mxD N aw k - 1))) (by rw [pI_at hm0]) ?_
              refine Go.if_geN X 99 dX4_depth_92 (by decide) (by first | omega | (split <;> omega)) ?_
              refine Go.aload_n X 3 dX4_depth_99 rfl ?_
              refine Go.get X f_X4_depth_48 0 (v := .int (nI (sD N))) rfl rfl dX4_depth_100 ?_
              refine Go.iload_n X 1 dX4_depth_103 rfl ?_
              refine Go.iconst X (nI 1) dX4_depth_104 k_ic_1 ?_
              refine Go.iadd_e X (nI (mxD N aw k - 1 + 1)) dX4_depth_105 (nI_add _ _) ?_
              refine Go.mmin X (nI (min (sD N) (mxD N aw k - 1 + 1))) (List.mem_of_getElem? (i := 3) (by decide +kernel)) (List.mem_of_getElem? (i := 4) (by decide +kernel)) (List.mem_of_getElem? (i := 5) (by decide +kernel)) (List.mem_of_getElem? (i := 6) (by decide +kernel)) rfl (by exact nmin (by first | omega | (split <;> omega)) (by first | omega | (split <;> omega))) dX4_depth_106 ?_
              exact Go.iret X E dX4_depth_109 ⟨rv (congrArg nI (show min (sD N) (mxD N aw k - 1 + 1) = dep N aw i from by rw [dep, if_pos h35, ← e9]; omega)), rfl⟩ rfl
          · --
            refine Go.aload_n X 3 dX4_depth_54 rfl ?_
            refine Go.get X f_X4_depth_23 0 (v := .ref (ad 5)) rfl rfl dX4_depth_55 ?_
            refine Go.iload X 0 dX4_depth_58 rfl ?_
            refine Go.ialdN X 5 (w := sK N) rfl (by first | omega | (split <;> omega)) rfl dX4_depth_60 ?_
            have o13 := o7 k (by omega)
            have o14 := mxD_le hN aw k
            refine Go.iconst X (nI 4) dX4_depth_61 k_ic_4 ?_
            refine Go.icmp_eqN X 85 dX4_depth_62 (by decide) (by first | omega | (split <;> omega)) (by decide) (fun h62 => ?_) (fun h62 => ?_)
            · --
              refine Go.iinc_0 X (nI (k + 1)) dX4_depth_85 (by decide) rfl (show nI k + Int32.ofInt 1 = nI (k + 1) from nI_add _ 1) ?_
              refine Go.goto X 45 dX4_depth_88 (by decide) ?_
              refine Go.lv_1 (congrArg Value.int (show pI (mxD N aw k) = pI (mxD N aw (k + 1)) from by rw [mxD, if_neg (fun q => q.1 h62)])) ?_
              exact ih45 (k + 1) (by first | omega | (split <;> omega)) (by first | omega | (split <;> omega))
            · --
              refine Go.iload X 0 dX4_depth_65 rfl ?_
              refine Go.aload_n X 3 dX4_depth_67 rfl ?_
              refine Go.get X f_X4_depth_55 0 (v := .int (awI aw)) rfl rfl dX4_depth_68 ?_
              refine Go.icmp_eq X 85 dX4_depth_71 (by decide) (fun h71 => ?_) (fun h71 => ?_)
              · --
                refine Go.iinc_0 X (nI (k + 1)) dX4_depth_85 (by decide) rfl (show nI k + Int32.ofInt 1 = nI (k + 1) from nI_add _ 1) ?_
                refine Go.goto X 45 dX4_depth_88 (by decide) ?_
                refine Go.lv_1 (congrArg Value.int (show pI (mxD N aw k) = pI (mxD N aw (k + 1)) from by rw [mxD, if_neg (fun q => q.2 ((aw_eq (by omega) ha).mp h71))])) ?_
                exact ih45 (k + 1) (by first | omega | (split <;> omega)) (by first | omega | (split <;> omega))
              · --
                refine Go.iload_n X 1 dX4_depth_74 rfl ?_
                refine Go.aload_n X 3 dX4_depth_75 rfl ?_
                refine Go.iload X 0 dX4_depth_76 rfl ?_
                refine Go.callV0i X (d_ownD g ad N K b z le rf hd ln vl aw at1 tk so va lm ol ah lt lo k (by exact hN) (by first | omega | (split <;> omega)) (by first | omega | (split <;> omega))) cal_X4_depth gX4_depth_X4_depth (ci := 4) (q0 := 0) rfl rfl rfl rfl rfl dX4_depth_78 ?_
                have f78_1 := ownD_le hN k
                refine Go.mmax X (pI (max (mxD N aw k) (ownD N k + 1))) (List.mem_of_getElem? (i := 10) (by decide +kernel)) (List.mem_of_getElem? (i := 11) (by decide +kernel)) (List.mem_of_getElem? (i := 5) (by decide +kernel)) (List.mem_of_getElem? (i := 12) (by decide +kernel)) rfl (by exact max_pI (by omega) (by omega)) dX4_depth_81 ?_
                refine Go.istore_n_1 X dX4_depth_84 (by decide) rfl ?_
                refine Go.iinc_0 X (nI (k + 1)) dX4_depth_85 (by decide) rfl (show nI k + Int32.ofInt 1 = nI (k + 1) from nI_add _ 1) ?_
                refine Go.goto X 45 dX4_depth_88 (by decide) ?_
                refine Go.lv_1 (congrArg Value.int (show pI (max (mxD N aw k) (ownD N k + 1)) = pI (mxD N aw (k + 1)) from by rw [mxD, if_pos ⟨h62, fun q => h71 ((aw_eq (by omega) ha).mpr q)⟩])) ?_
                exact ih45 (k + 1) (by first | omega | (split <;> omega)) (by first | omega | (split <;> omega))
      refine Go.lv_1 (congrArg Value.int (show (-1) = pI (mxD N aw 0) from by exact (by decide : (-1 : Int32) = pI 0))) ?_
      exact L45 (sP N - 0 + 1) 0 (by first | omega | (split <;> omega)) (Nat.lt_succ_self _)
    · --
      refine Go.iload_n X 0 dX4_depth_38 rfl ?_
      exact Go.iret X E dX4_depth_39 ⟨rv (congrArg nI (show min ((sO N) i) (sD N) = dep N aw i from by rw [dep, if_neg h35, ownD, if_neg h21]; rfl)), rfl⟩ rfl
  · --
    refine Go.iload_n X 0 dX4_depth_24 rfl ?_
    refine Go.iconst X (nI 1) dX4_depth_25 k_ic_1 ?_
    refine Go.iadd_e X (nI (min ((sO N) i) (sD N) + 1)) dX4_depth_26 (nI_add _ _) ?_
    exact Go.iret X E dX4_depth_27 ⟨rv (congrArg nI (show min ((sO N) i) (sD N) + 1 = dep N aw i from by rw [dep, if_neg (by omega), ownD, if_pos h21])), rfl⟩ rfl
