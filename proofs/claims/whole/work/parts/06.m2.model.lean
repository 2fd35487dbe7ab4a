/-! 06.m2.model -/
theorem f_X4_canBe_111 : FL wsX4_canBe RX4 111 4 4 := ⟨RX4, TX4, 27, rfl, fun _ h => List.mem_cons_of_mem _ (List.mem_append_right _ h), by decide, List.mem_of_getElem? (i := 1) (by decide +kernel)⟩
theorem cal_J6_highestOneBit_0f7a4 : Cal yJ6_highestOneBit_0f7a4 wsJ6_highestOneBit_0f7a4 cJ6_highestOneBit_0f7a4 1 (some .int) RJ6 1 := ⟨⟨_, rfl⟩, by decide +kernel⟩
set_option maxHeartbeats 4000000 in
set_option maxRecDepth 100000 in
theorem d_canBe (g : gT) (ad : Nat → Nat) (N : Sch) (K : Sch) (b : Bool) (z : Nat) (le : Nat → Nat) (rf : Nat → Int32) (hd : Nat → Int32) (ln : Nat → Nat) (vl : Nat → Nat → Int64) (aw : Nat) (at1 : Nat) (tk : Nat) (so : Int32) (va : Int32) (lm : Nat → Nat) (ol : Nat → Int32) (ah : Nat → Int32) (lt : Int32) (lo : Nat → Int32) (i : Nat) (m : Nat) (hN : sOk N) (hi : i < 6) (hm : m < 9) (ha : aw ≤ 6) : Cw g yX4_canBe wsX4_canBe 3 69 [.ref (ad 0), .int (nI i), .int (nI m)] (mdW g ad (N, K, b, z, le, rf, hd, ln, vl) (aw, at1, tk, so, va, lm, ol, ah, lt, lo)) (some (.int (nI (canB N aw i m)))) (mdW g ad (N, K, b, z, le, rf, hd, ln, vl) (aw, at1, tk, so, va, lm, ol, ah, lt, lo)) := by
  refine Ct.start (cc := cX4_canBe) (nL := 5) (ret := (some .int)) (own := RX4) (by decide) rfl rfl rfl ?_
  intro Γ X E
  show Go Γ g 5 (rmC 3 69) 0 0 (mdW g ad (N, K, b, z, le, rf, hd, ln, vl) (aw, at1, tk, so, va, lm, ol, ah, lt, lo)) 0 [(0, .ref (ad 0)), (1, .int (nI i)), (2, .int (nI m))] []
  obtain ⟨o1, o2, o3, o4, o5, o6, o7, o8⟩ := id hN
  have o9 := p2_9 o2
  have o10 := sA_512 hN
  refine Go.aload_n X 0 dX4_canBe_0 rfl ?_
  refine Go.get X f_X4_canBe_111 0 (v := .int (nI (sA N))) rfl rfl dX4_canBe_1 ?_
  refine Go.istore_n_new X dX4_canBe_4 (by decide) rfl ?_
  refine Go.aload_n X 1 dX4_canBe_5 rfl ?_
  refine Go.iload_n X 2 dX4_canBe_6 rfl ?_
  refine Go.callV0i X (d_depth g ad N K b z le rf hd ln vl aw at1 tk so va lm ol ah lt lo i (by exact hN) (by first | omega | (split <;> omega)) (by first | omega | (split <;> omega))) cal_X4_depth gX4_canBe_X4_depth (ci := 4) (q0 := 0) rfl rfl rfl rfl rfl dX4_canBe_7 ?_
  have f7_1 := dep_le hN aw i
  refine Go.istore_new X dX4_canBe_10 (by decide) rfl ?_
  have L12 : ∀ (f12 : Nat) (c : Nat) (hc : c ≤ dep N aw i) (hf12 : dep N aw i - c < f12), Go Γ g 5 (rmC 3 69) 0 0 (mdW g ad (N, K, b, z, le, rf, hd, ln, vl) (aw, at1, tk, so, va, lm, ol, ah, lt, lo)) 12 [(4, .int (nI (dep N aw i - c))), (3, .int (nI (drp (sA N) c))), (0, .ref (ad 0)), (1, .int (nI i)), (2, .int (nI m))] [] := by
    intro f12
    induction f12 with
    | zero => intro c hc hf12; exact absurd hf12 (Nat.not_lt_zero _)
    | succ f12 ih12 =>
      intro c hc hf12
      refine Go.iload X 0 dX4_canBe_12 rfl ?_
      have o15 := dep_le hN aw i
      have o11 := drp_512 hN c
      have o13 := log2_lt9 o11
      refine Go.if_leN X 36 dX4_canBe_14 (by decide) (by first | omega | (split <;> omega)) (fun h14 => ?_) (fun h14 => ?_)
      · --
        refine Go.lv_1 (w := .int (nI (drp (sA N) (dep N aw i)))) (by rw [show c = dep N aw i by omega]) ?_
        have o14 := drp_512 hN (dep N aw i)
        have o12 : drp (sA N) (dep N aw i) >>> m <<< m ≤ drp (sA N) (dep N aw i) := still_le _ _
        refine Go.iload_n X 1 dX4_canBe_36 rfl ?_
        refine Go.iload_n X 4 dX4_canBe_37 rfl ?_
        refine Go.ishr_e X (nI ((drp (sA N) (dep N aw i)) >>> m)) dX4_canBe_38 (nI_shr (by first | omega | (split <;> omega)) (by first | omega | (split <;> omega))) ?_
        refine Go.iload_n X 4 dX4_canBe_39 rfl ?_
        refine Go.ishl_e X (nI (((drp (sA N) (dep N aw i)) >>> m) <<< m)) dX4_canBe_40 (nI_shl (by first | omega | (split <;> omega)) (by first | omega | (split <;> omega))) ?_
        exact Go.iret X E dX4_canBe_41 ⟨rv (congrArg nI (show ((drp (sA N) (dep N aw i)) >>> m) <<< m = canB N aw i m from by rfl)), rfl⟩ rfl
      · --
        refine Go.iload_n X 1 dX4_canBe_17 rfl ?_
        refine Go.if_eqN X 36 dX4_canBe_18 (by decide) (by first | omega | (split <;> omega)) (fun h18 => ?_) (fun h18 => ?_)
        · --
          refine Go.lv_1 (w := .int (nI (drp (sA N) (dep N aw i)))) (by rw [h18, drp_z h18 hc]) ?_
          have o14 := drp_512 hN (dep N aw i)
          have o12 : drp (sA N) (dep N aw i) >>> m <<< m ≤ drp (sA N) (dep N aw i) := still_le _ _
          refine Go.iload_n X 1 dX4_canBe_36 rfl ?_
          refine Go.iload_n X 4 dX4_canBe_37 rfl ?_
          refine Go.ishr_e X (nI ((drp (sA N) (dep N aw i)) >>> m)) dX4_canBe_38 (nI_shr (by first | omega | (split <;> omega)) (by first | omega | (split <;> omega))) ?_
          refine Go.iload_n X 4 dX4_canBe_39 rfl ?_
          refine Go.ishl_e X (nI (((drp (sA N) (dep N aw i)) >>> m) <<< m)) dX4_canBe_40 (nI_shl (by first | omega | (split <;> omega)) (by first | omega | (split <;> omega))) ?_
          exact Go.iret X E dX4_canBe_41 ⟨rv (congrArg nI (show ((drp (sA N) (dep N aw i)) >>> m) <<< m = canB N aw i m from by rfl)), rfl⟩ rfl
        · --
          refine Go.iload_n X 1 dX4_canBe_21 rfl ?_
          refine Go.iload_n X 1 dX4_canBe_22 rfl ?_
          refine Go.callSi X  (c_hob g (drp (sA N) c) (by first | omega | (split <;> omega)) (by first | omega | (split <;> omega))) cal_J6_highestOneBit_0f7a4 [] rfl rfl gX4_canBe_J6_highestOneBit_0f7a4 rfl rfl rfl dX4_canBe_23 ?_
          have f23_2 := log2_lt9 (show (drp (sA N) c) < 512 by omega)
          refine Go.iconst X ((-1 : Int32)) dX4_canBe_26 k_ic_m1 ?_
          refine Go.ixor_e X (nI (2 ^ (Nat.log2 (drp (sA N) c))) ^^^ (-1)) dX4_canBe_27 rfl ?_
          refine Go.iand_e X (nI (dif (drp (sA N) c) (2 ^ (Nat.log2 (drp (sA N) c))))) dX4_canBe_28 (nI_andnot _ _) ?_
          refine Go.istore_n_1 X dX4_canBe_29 (by decide) rfl ?_
          refine Go.iinc_0 X (nI (dep N aw i - c - 1)) dX4_canBe_30 (by decide) rfl (i_dec (by first | omega | (split <;> omega))) ?_
          refine Go.goto X 12 dX4_canBe_33 (by decide) ?_
          refine Go.lv_0 (congrArg (fun z => Value.int (nI z)) (show dep N aw i - c - 1 = dep N aw i - (c + 1) from by omega)) ?_
          refine Go.lv_1 (congrArg (fun z => Value.int (nI z)) (show dif (drp (sA N) c) (2 ^ (Nat.log2 (drp (sA N) c))) = drp (sA N) (c + 1) from by rw [dif_log (by omega) h18, ← drp_s])) ?_
          exact ih12 (c + 1) (by first | omega | (split <;> omega)) (by first | omega | (split <;> omega))
  refine Go.lv_0 (congrArg (fun z => Value.int (nI z)) (show dep N aw i = dep N aw i - 0 from by omega)) ?_
  refine Go.lv_1 (congrArg (fun z => Value.int (nI z)) (show sA N = drp (sA N) 0 from by rfl)) ?_
  exact L12 (dep N aw i - 0 + 1) 0 (by first | omega | (split <;> omega)) (Nat.lt_succ_self _)
