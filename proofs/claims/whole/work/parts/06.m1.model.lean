/-! 06.m1.model -/
theorem f_X4_still_111 : FL wsX4_still RX4 111 4 4 := ⟨RX4, TX4, 27, rfl, fun _ h => List.mem_cons_of_mem _ (List.mem_append_right _ h), by decide, List.mem_of_getElem? (i := 1) (by decide +kernel)⟩
theorem f_X4_weights_66 : FL wsX4_weights RX4 66 4 3 := ⟨RX4, TX4, 27, rfl, fun _ h => List.mem_cons_of_mem _ (List.mem_append_right _ h), by decide, List.mem_of_getElem? (i := 1) (by decide +kernel)⟩
theorem cal_X4_has : Cal yX4_has wsX4_has cX4_has 2 (some .boolean) RX4 2 := ⟨⟨_, rfl⟩, by decide +kernel⟩
theorem f_X4_weights_20 : FL wsX4_weights RX4 20 4 5 := ⟨RX4, TX4, 27, rfl, fun _ h => List.mem_cons_of_mem _ (List.mem_append_right _ h), by decide, List.mem_of_getElem? (i := 2) (by decide +kernel)⟩
theorem f_X4_sleeps_23 : FL wsX4_sleeps RX4 23 4 8 := ⟨RX4, TX4, 27, rfl, fun _ h => List.mem_cons_of_mem _ (List.mem_append_right _ h), by decide, List.mem_of_getElem? (i := 1) (by decide +kernel)⟩
theorem f_X4_sleeps_26 : FL wsX4_sleeps RX4 26 4 9 := ⟨RX4, TX4, 27, rfl, fun _ h => List.mem_cons_of_mem _ (List.mem_append_right _ h), by decide, List.mem_of_getElem? (i := 2) (by decide +kernel)⟩
set_option maxHeartbeats 4000000 in
set_option maxRecDepth 100000 in
theorem d_still (g : gT) (ad : Nat → Nat) (N : Sch) (K : Sch) (b : Bool) (z : Nat) (le : Nat → Nat) (rf : Nat → Int32) (hd : Nat → Int32) (ln : Nat → Nat) (vl : Nat → Nat → Int64) (aw : Nat) (at1 : Nat) (tk : Nat) (so : Int32) (va : Int32) (lm : Nat → Nat) (ol : Nat → Int32) (ah : Nat → Int32) (lt : Int32) (lo : Nat → Int32) (m : Nat) (hN : sOk N) (hm : m < 9) : Cw g yX4_still wsX4_still 0 0 [.ref (ad 0), .int (nI m)] (mdW g ad (N, K, b, z, le, rf, hd, ln, vl) (aw, at1, tk, so, va, lm, ol, ah, lt, lo)) (some (.int (nI (still (sA N) m)))) (mdW g ad (N, K, b, z, le, rf, hd, ln, vl) (aw, at1, tk, so, va, lm, ol, ah, lt, lo)) := by
  refine Ct.start (cc := cX4_still) (nL := 2) (ret := (some .int)) (own := RX4) (by decide) rfl rfl rfl ?_
  intro Γ X E
  show Go Γ g 2 (rmC 0 0) 0 0 (mdW g ad (N, K, b, z, le, rf, hd, ln, vl) (aw, at1, tk, so, va, lm, ol, ah, lt, lo)) 0 [(0, .ref (ad 0)), (1, .int (nI m))] []
  obtain ⟨o1, o2, o3, o4, o5, o6, o7, o8⟩ := id hN
  have o9 := p2_9 o2
  have o10 := sA_512 hN
  refine Go.aload_n X 0 dX4_still_0 rfl ?_
  refine Go.get X f_X4_still_111 0 (v := .int (nI (sA N))) rfl rfl dX4_still_1 ?_
  refine Go.iload_n X 1 dX4_still_4 rfl ?_
  refine Go.ishr_e X (nI ((sA N) >>> m)) dX4_still_5 (nI_shr (by first | omega | (split <;> omega)) (by first | omega | (split <;> omega))) ?_
  refine Go.iload_n X 1 dX4_still_6 rfl ?_
  have o11 : sA N >>> m <<< m ≤ sA N := still_le _ _
  refine Go.ishl_e X (nI (((sA N) >>> m) <<< m)) dX4_still_7 (nI_shl (by first | omega | (split <;> omega)) (by first | omega | (split <;> omega))) ?_
  exact Go.iret X E dX4_still_8 ⟨rv (congrArg nI (show ((sA N) >>> m) <<< m = still (sA N) m from by rfl)), rfl⟩ rfl
set_option maxHeartbeats 4000000 in
set_option maxRecDepth 100000 in
theorem d_weights (g : gT) (ad : Nat → Nat) (N : Sch) (K : Sch) (b : Bool) (z : Nat) (le : Nat → Nat) (rf : Nat → Int32) (hd : Nat → Int32) (ln : Nat → Nat) (vl : Nat → Nat → Int64) (aw : Nat) (at1 : Nat) (tk : Nat) (so : Int32) (va : Int32) (lm : Nat → Nat) (ol : Nat → Int32) (ah : Nat → Int32) (lt : Int32) (lo : Nat → Int32) (s : Nat) (hN : sOk N) (hs : s < 2 ^ 31) : Cw g yX4_weights wsX4_weights 1 21 [.ref (ad 0), .int (nI s)] (mdW g ad (N, K, b, z, le, rf, hd, ln, vl) (aw, at1, tk, so, va, lm, ol, ah, lt, lo)) (some (.int (nI (wsum (sW N) s (sN N))))) (mdW g ad (N, K, b, z, le, rf, hd, ln, vl) (aw, at1, tk, so, va, lm, ol, ah, lt, lo)) := by
  refine Ct.start (cc := cX4_weights) (nL := 4) (ret := (some .int)) (own := RX4) (by decide) rfl rfl rfl ?_
  intro Γ X E
  show Go Γ g 4 (rmC 1 21) 0 0 (mdW g ad (N, K, b, z, le, rf, hd, ln, vl) (aw, at1, tk, so, va, lm, ol, ah, lt, lo)) 0 [(0, .ref (ad 0)), (1, .int (nI s))] []
  obtain ⟨o1, o2, o3, o4, o5, o6, o7, o8⟩ := id hN
  have o9 := p2_9 o2
  have o10 := sA_512 hN
  refine Go.iconst X (nI 0) dX4_weights_0 k_ic_0 ?_
  refine Go.istore_n_new X dX4_weights_1 (by decide) rfl ?_
  refine Go.iconst X (nI 0) dX4_weights_2 k_ic_0 ?_
  refine Go.istore_n_new X dX4_weights_3 (by decide) rfl ?_
  have L4 : ∀ (f4 : Nat) (k : Nat) (hk : k ≤ sN N) (hf4 : sN N - k < f4), Go Γ g 4 (rmC 1 21) 0 0 (mdW g ad (N, K, b, z, le, rf, hd, ln, vl) (aw, at1, tk, so, va, lm, ol, ah, lt, lo)) 4 [(3, .int (nI k)), (2, .int (nI (wsum (sW N) s k))), (0, .ref (ad 0)), (1, .int (nI s))] [] := by
    intro f4
    induction f4 with
    | zero => intro k hk hf4; exact absurd hf4 (Nat.not_lt_zero _)
    | succ f4 ih4 =>
      intro k hk hf4
      refine Go.iload_n X 0 dX4_weights_4 rfl ?_
      refine Go.aload_n X 2 dX4_weights_5 rfl ?_
      refine Go.get X f_X4_weights_66 0 (v := .int (nI (sN N))) rfl rfl dX4_weights_6 ?_
      refine Go.icmp_geN X 35 dX4_weights_9 (by decide) (by first | omega | (split <;> omega)) (by first | omega | (split <;> omega)) (fun h9 => ?_) (fun h9 => ?_)
      · --
        refine Go.iload_n X 1 dX4_weights_35 rfl ?_
        exact Go.iret X E dX4_weights_36 ⟨rv (congrArg nI (show wsum (sW N) s k = wsum (sW N) s (sN N) from by rw [show k = sN N by omega])), rfl⟩ rfl
      · --
        refine Go.iload_n X 3 dX4_weights_12 rfl ?_
        refine Go.iload_n X 0 dX4_weights_13 rfl ?_
        refine Go.callSi X  (d_has g s k (by first | omega | (split <;> omega)) (by first | omega | (split <;> omega))) cal_X4_has [] rfl rfl gX4_weights_X4_has rfl rfl rfl dX4_weights_14 ?_
        refine Go.if_eqB X 29 dX4_weights_17 (by decide) (fun h17 => ?_) (fun h17 => ?_)
        · --
          refine Go.iinc_0 X (nI (k + 1)) dX4_weights_29 (by decide) rfl (show nI k + Int32.ofInt 1 = nI (k + 1) from nI_add _ 1) ?_
          refine Go.goto X 4 dX4_weights_32 (by decide) ?_
          refine Go.lv_1 (congrArg (fun z => Value.int (nI z)) (show wsum (sW N) s k = wsum (sW N) s (k + 1) from by simp [wsum, h17])) ?_
          exact ih4 (k + 1) (by first | omega | (split <;> omega)) (by first | omega | (split <;> omega))
        · --
          refine Go.iload_n X 1 dX4_weights_20 rfl ?_
          refine Go.aload_n X 2 dX4_weights_21 rfl ?_
          refine Go.get X f_X4_weights_20 0 (v := .ref (ad 4)) rfl rfl dX4_weights_22 ?_
          refine Go.iload_n X 0 dX4_weights_25 rfl ?_
          refine Go.ialdN X 4 (w := sW N) rfl (by first | omega | (split <;> omega)) rfl dX4_weights_26 ?_
          refine Go.iadd_e X (nI (wsum (sW N) s k + (sW N) k)) dX4_weights_27 (nI_add _ _) ?_
          refine Go.istore_n_1 X dX4_weights_28 (by decide) rfl ?_
          refine Go.iinc_0 X (nI (k + 1)) dX4_weights_29 (by decide) rfl (show nI k + Int32.ofInt 1 = nI (k + 1) from nI_add _ 1) ?_
          refine Go.goto X 4 dX4_weights_32 (by decide) ?_
          refine Go.lv_1 (congrArg (fun z => Value.int (nI z)) (show wsum (sW N) s k + (sW N) k = wsum (sW N) s (k + 1) from by simp [wsum, h17])) ?_
          exact ih4 (k + 1) (by first | omega | (split <;> omega)) (by first | omega | (split <;> omega))
  refine Go.lv_1 (congrArg (fun z => Value.int (nI z)) (show 0 = wsum (sW N) s 0 from by rfl)) ?_
  exact L4 (sN N - 0 + 1) 0 (by first | omega | (split <;> omega)) (Nat.lt_succ_self _)
set_option maxHeartbeats 4000000 in
set_option maxRecDepth 100000 in
theorem d_sleeps (g : gT) (ad : Nat → Nat) (N : Sch) (K : Sch) (b : Bool) (z : Nat) (le : Nat → Nat) (rf : Nat → Int32) (hd : Nat → Int32) (ln : Nat → Nat) (vl : Nat → Nat → Int64) (aw : Nat) (at1 : Nat) (tk : Nat) (so : Int32) (va : Int32) (lm : Nat → Nat) (ol : Nat → Int32) (ah : Nat → Int32) (lt : Int32) (lo : Nat → Int32) (i : Nat) (m : Nat) (hN : sOk N) (hi : i < 6) (hm : m < 9) : Cw g yX4_sleeps wsX4_sleeps 0 0 [.ref (ad 0), .int (nI i), .int (nI m)] (mdW g ad (N, K, b, z, le, rf, hd, ln, vl) (aw, at1, tk, so, va, lm, ol, ah, lt, lo)) (some (.int (b2i (slp N i m)))) (mdW g ad (N, K, b, z, le, rf, hd, ln, vl) (aw, at1, tk, so, va, lm, ol, ah, lt, lo)) := by
  refine Ct.start (cc := cX4_sleeps) (nL := 3) (ret := (some .boolean)) (own := RX4) (by decide) rfl rfl rfl ?_
  intro Γ X E
  show Go Γ g 3 (rmC 0 0) 0 0 (mdW g ad (N, K, b, z, le, rf, hd, ln, vl) (aw, at1, tk, so, va, lm, ol, ah, lt, lo)) 0 [(0, .ref (ad 0)), (1, .int (nI i)), (2, .int (nI m))] []
  obtain ⟨o1, o2, o3, o4, o5, o6, o7, o8⟩ := id hN
  have o9 := p2_9 o2
  have o10 := sA_512 hN
  refine Go.aload_n X 0 dX4_sleeps_0 rfl ?_
  refine Go.get X f_X4_sleeps_23 0 (v := .ref (ad 5)) rfl rfl dX4_sleeps_1 ?_
  refine Go.iload_n X 1 dX4_sleeps_4 rfl ?_
  refine Go.ialdN X 5 (w := sK N) rfl (by first | omega | (split <;> omega)) rfl dX4_sleeps_5 ?_
  have o11 := o7 i hi
  refine Go.iconst X (nI 1) dX4_sleeps_6 k_ic_1 ?_
  refine Go.icmp_eqN X 20 dX4_sleeps_7 (by decide) (by first | omega | (split <;> omega)) (by decide) (fun h7 => ?_) (fun h7 => ?_)
  · --
    refine Go.iload_n X 2 dX4_sleeps_20 rfl ?_
    refine Go.iconst X (nI 2) dX4_sleeps_21 k_ic_2 ?_
    refine Go.aload_n X 0 dX4_sleeps_22 rfl ?_
    refine Go.get X f_X4_sleeps_26 0 (v := .ref (ad 6)) rfl rfl dX4_sleeps_23 ?_
    refine Go.iload_n X 1 dX4_sleeps_26 rfl ?_
    refine Go.ialdN X 6 (w := sO N) rfl (by first | omega | (split <;> omega)) rfl dX4_sleeps_27 ?_
    have o12 := o8 i hi
    refine Go.iconst X (nI 3) dX4_sleeps_28 k_ic_3 ?_
    refine Go.irem_e X (nI (((sO N) i) % 3)) dX4_sleeps_29 (nI_ne0 (by first | omega | (split <;> omega)) (by first | omega | (split <;> omega))) (pk_rem (by first | omega | (split <;> omega)) (by first | omega | (split <;> omega)) (by first | omega | (split <;> omega))) ?_
    refine Go.iadd_e X (nI (2 + ((sO N) i) % 3)) dX4_sleeps_30 (nI_add _ _) ?_
    have o13 := Nat.mod_le m (2 + sO N i % 3)
    refine Go.irem_e X (nI (m % (2 + ((sO N) i) % 3))) dX4_sleeps_31 (nI_ne0 (by first | omega | (split <;> omega)) (by first | omega | (split <;> omega))) (pk_rem (by first | omega | (split <;> omega)) (by first | omega | (split <;> omega)) (by first | omega | (split <;> omega))) ?_
    refine Go.if_neN X 39 dX4_sleeps_32 (by decide) (by first | omega | (split <;> omega)) (fun h32 => ?_) (fun h32 => ?_)
    · --
      refine Go.iconst X (nI 0) dX4_sleeps_39 k_ic_0 ?_
      exact Go.nret X E rfl dX4_sleeps_40 ⟨rv (b2i_f (by simp [slp, h7, h32])), rfl⟩ rfl
    · --
      refine Go.iconst X (nI 1) dX4_sleeps_35 k_ic_1 ?_
      refine Go.goto X 40 dX4_sleeps_36 (by decide) ?_
      exact Go.nret X E rfl dX4_sleeps_40 ⟨rv (b2i_t (by simp [slp, h7, h32])), rfl⟩ rfl
  · --
    refine Go.aload_n X 0 dX4_sleeps_10 rfl ?_
    refine Go.get X f_X4_sleeps_23 0 (v := .ref (ad 5)) rfl rfl dX4_sleeps_11 ?_
    refine Go.iload_n X 1 dX4_sleeps_14 rfl ?_
    refine Go.ialdN X 5 (w := sK N) rfl (by first | omega | (split <;> omega)) rfl dX4_sleeps_15 ?_
    refine Go.iconst X (nI 3) dX4_sleeps_16 k_ic_3 ?_
    refine Go.icmp_neN X 39 dX4_sleeps_17 (by decide) (by first | omega | (split <;> omega)) (by decide) (fun h17 => ?_) (fun h17 => ?_)
    · --
      refine Go.iconst X (nI 0) dX4_sleeps_39 k_ic_0 ?_
      exact Go.nret X E rfl dX4_sleeps_40 ⟨rv (b2i_f (by simp [slp, h7, h17])), rfl⟩ rfl
    · --
      refine Go.iload_n X 2 dX4_sleeps_20 rfl ?_
      refine Go.iconst X (nI 2) dX4_sleeps_21 k_ic_2 ?_
      refine Go.aload_n X 0 dX4_sleeps_22 rfl ?_
      refine Go.get X f_X4_sleeps_26 0 (v := .ref (ad 6)) rfl rfl dX4_sleeps_23 ?_
      refine Go.iload_n X 1 dX4_sleeps_26 rfl ?_
      refine Go.ialdN X 6 (w := sO N) rfl (by first | omega | (split <;> omega)) rfl dX4_sleeps_27 ?_
      have o12 := o8 i hi
      refine Go.iconst X (nI 3) dX4_sleeps_28 k_ic_3 ?_
      refine Go.irem_e X (nI (((sO N) i) % 3)) dX4_sleeps_29 (nI_ne0 (by first | omega | (split <;> omega)) (by first | omega | (split <;> omega))) (pk_rem (by first | omega | (split <;> omega)) (by first | omega | (split <;> omega)) (by first | omega | (split <;> omega))) ?_
      refine Go.iadd_e X (nI (2 + ((sO N) i) % 3)) dX4_sleeps_30 (nI_add _ _) ?_
      have o13 := Nat.mod_le m (2 + sO N i % 3)
      refine Go.irem_e X (nI (m % (2 + ((sO N) i) % 3))) dX4_sleeps_31 (nI_ne0 (by first | omega | (split <;> omega)) (by first | omega | (split <;> omega))) (pk_rem (by first | omega | (split <;> omega)) (by first | omega | (split <;> omega)) (by first | omega | (split <;> omega))) ?_
      refine Go.if_neN X 39 dX4_sleeps_32 (by decide) (by first | omega | (split <;> omega)) (fun h32 => ?_) (fun h32 => ?_)
      · --
        refine Go.iconst X (nI 0) dX4_sleeps_39 k_ic_0 ?_
        exact Go.nret X E rfl dX4_sleeps_40 ⟨rv (b2i_f (by simp [slp, h7, h17, h32])), rfl⟩ rfl
      · --
        refine Go.iconst X (nI 1) dX4_sleeps_35 k_ic_1 ?_
        refine Go.goto X 40 dX4_sleeps_36 (by decide) ?_
        exact Go.nret X E rfl dX4_sleeps_40 ⟨rv (b2i_t (by simp [slp, h7, h17, h32])), rfl⟩ rfl
