/-! 06.m6.model -/
theorem f_X4_saying_48 : FL wsX4_saying RX4 48 4 6 := ⟨RX4, TX4, 27, rfl, fun _ h => List.mem_cons_of_mem _ (List.mem_append_right _ h), by decide, List.mem_of_getElem? (i := 1) (by decide +kernel)⟩
theorem cal_X4_saying : Cal yX4_saying wsX4_saying cX4_saying 5 (some .int) RX4 1 := ⟨⟨_, rfl⟩, by decide +kernel⟩
theorem f_X4_spoiling_55 : FL wsX4_spoiling RX4 55 4 14 := ⟨RX4, TX4, 27, rfl, fun _ h => List.mem_cons_of_mem _ (List.mem_append_right _ h), by decide, List.mem_of_getElem? (i := 1) (by decide +kernel)⟩
theorem fp_4_14 : FP 4 14 .int := ⟨RX4, TX4, 27, tyX4, rfl, tyX4_ok, nmX4, rfl, by decide +kernel⟩
theorem cal_X4_spoiling : Cal yX4_spoiling wsX4_spoiling cX4_spoiling 4 (some .int) RX4 1 := ⟨⟨_, rfl⟩, by decide +kernel⟩
theorem f_X4_spoiler_59 : FL wsX4_spoiler RX4 59 4 7 := ⟨RX4, TX4, 27, rfl, fun _ h => List.mem_cons_of_mem _ (List.mem_append_right _ h), by decide, List.mem_of_getElem? (i := 1) (by decide +kernel)⟩
theorem f_X4_deeper_26 : FL wsX4_deeper RX4 26 4 9 := ⟨RX4, TX4, 27, rfl, fun _ h => List.mem_cons_of_mem _ (List.mem_append_right _ h), by decide, List.mem_of_getElem? (i := 1) (by decide +kernel)⟩
theorem f_X4_crowd_38 : FL wsX4_crowd RX4 38 4 24 := ⟨RX4, TX4, 27, rfl, fun _ h => List.mem_cons_of_mem _ (List.mem_append_right _ h), by decide, List.mem_of_getElem? (i := 1) (by decide +kernel)⟩
theorem f_X4_crowd_59 : FL wsX4_crowd RX4 59 4 7 := ⟨RX4, TX4, 27, rfl, fun _ h => List.mem_cons_of_mem _ (List.mem_append_right _ h), by decide, List.mem_of_getElem? (i := 2) (by decide +kernel)⟩
theorem f_X4_crowd_23 : FL wsX4_crowd RX4 23 4 8 := ⟨RX4, TX4, 27, rfl, fun _ h => List.mem_cons_of_mem _ (List.mem_append_right _ h), by decide, List.mem_of_getElem? (i := 3) (by decide +kernel)⟩
theorem f_X4_hints_111 : FL wsX4_hints RX4 111 4 4 := ⟨RX4, TX4, 27, rfl, fun _ h => List.mem_cons_of_mem _ (List.mem_append_right _ h), by decide, List.mem_of_getElem? (i := 1) (by decide +kernel)⟩
theorem k_sp_511 : (Int16.ofInt (511)).toInt32 = nI 511 := by decide
theorem k_sp_512 : (Int16.ofInt (512)).toInt32 = nI 512 := by decide
set_option maxHeartbeats 4000000 in
set_option maxRecDepth 100000 in
theorem d_saying (g : gT) (ad : Nat → Nat) (N : Sch) (K : Sch) (b : Bool) (z : Nat) (le : Nat → Nat) (rf : Nat → Int32) (hd : Nat → Int32) (ln : Nat → Nat) (vl : Nat → Nat → Int64) (at1 : Nat) (tk : Nat) (so : Int32) (va : Int32) (lm : Nat → Nat) (ol : Nat → Int32) (ah : Nat → Int32) (lt : Int32) (lo : Nat → Int32) (s : Nat) (hN : sOk N) (hs : s < 512) : Cw g yX4_saying wsX4_saying 7 161 [.ref (ad 0), .int (nI s)] (mdW g ad (N, K, b, z, le, rf, hd, ln, vl) (6, at1, tk, so, va, lm, ol, ah, lt, lo)) (some (.int (lsA N s))) (mdW g ad (N, K, b, z, le, rf, hd, ln, vl) (6, at1, tk, so, va, lm, ol, ah, lt, lo)) := by
  refine Ct.start (cc := cX4_saying) (nL := 5) (ret := (some .int)) (own := RX4) (by decide) rfl rfl rfl ?_
  intro Γ X E
  show Go Γ g 5 (rmC 7 161) 0 0 (mdW g ad (N, K, b, z, le, rf, hd, ln, vl) (6, at1, tk, so, va, lm, ol, ah, lt, lo)) 0 [(0, .ref (ad 0)), (1, .int (nI s))] []
  obtain ⟨o1, o2, o3, o4, o5, o6, o7, o8⟩ := id hN
  have o9 := p2_9 o2
  have o10 := sA_512 hN
  refine Go.aload_n X 0 dX4_saying_0 rfl ?_
  refine Go.get X f_X4_saying_48 0 (v := .int (nI (sD N))) rfl rfl dX4_saying_1 ?_
  refine Go.istore_n_new X dX4_saying_4 (by decide) rfl ?_
  refine Go.iconst X ((-1 : Int32)) dX4_saying_5 k_ic_m1 ?_
  refine Go.istore_n_new X dX4_saying_6 (by decide) rfl ?_
  refine Go.iconst X (nI 0) dX4_saying_7 k_ic_0 ?_
  refine Go.istore_new X dX4_saying_8 (by decide) rfl ?_
  have L10 : ∀ (f10 : Nat) (k : Nat) (F : Int32) (d : Nat) (hk : k ≤ 10) (hq : (F = -1 ∧ ∀ j, j < k → decide (sur (stD N j) 6 &&& s = 0) = false) ∨ (0 ≤ F ∧ F = lsA N s)) (hf10 : 10 - k < f10), Go Γ g 5 (rmC 7 161) 0 0 (mdW g ad (stD N d, K, b, z, le, rf, hd, ln, vl) (6, at1, tk, so, va, lm, ol, ah, lt, lo)) 10 [(4, .int (nI k)), (3, .int F), (2, .int (nI (sD N))), (0, .ref (ad 0)), (1, .int (nI s))] [] := by
    intro f10
    induction f10 with
    | zero => intro k F d hk hq hf10; exact absurd hf10 (Nat.not_lt_zero _)
    | succ f10 ih10 =>
      intro k F d hk hq hf10
      refine Go.iload X 0 dX4_saying_10 rfl ?_
      refine Go.bipush X (nI 10) dX4_saying_12 k_bp_10 ?_
      refine Go.icmp_geN X 45 dX4_saying_14 (by decide) (by first | omega | (split <;> omega)) (by decide) (fun h14 => ?_) (fun h14 => ?_)
      · --
        refine Go.aload_n X 3 dX4_saying_45 rfl ?_
        refine Go.iload_n X 2 dX4_saying_46 rfl ?_
        refine Go.putM X f_X4_saying_48 fp_4_6 0 (mdW g ad ((sN N, sA N, sW N, sD N, sP N, sK N, sO N, sG N, sT N, sF N, sX N), K, b, z, le, rf, hd, ln, vl) (6, at1, tk, so, va, lm, ol, ah, lt, lo)) rfl rfl rfl rfl dX4_saying_47 rfl ?_
        refine Go.iload_n X 1 dX4_saying_50 rfl ?_
        exact Go.iret X E dX4_saying_51 ⟨rv (show F = lsA N s from by exact say_e (P := fun v => decide (sur (stD N v) 6 &&& s = 0)) (n := 10) hq (.inl h14)), (by rfl)⟩ rfl
      · --
        refine Go.iload_n X 1 dX4_saying_17 rfl ?_
        refine Go.if_ge X 45 dX4_saying_18 (by decide) (fun h18 => ?_) (fun h18 => ?_)
        · --
          refine Go.aload_n X 3 dX4_saying_45 rfl ?_
          refine Go.iload_n X 2 dX4_saying_46 rfl ?_
          refine Go.putM X f_X4_saying_48 fp_4_6 0 (mdW g ad ((sN N, sA N, sW N, sD N, sP N, sK N, sO N, sG N, sT N, sF N, sX N), K, b, z, le, rf, hd, ln, vl) (6, at1, tk, so, va, lm, ol, ah, lt, lo)) rfl rfl rfl rfl dX4_saying_47 rfl ?_
          refine Go.iload_n X 1 dX4_saying_50 rfl ?_
          exact Go.iret X E dX4_saying_51 ⟨rv (show F = lsA N s from by exact say_e (P := fun v => decide (sur (stD N v) 6 &&& s = 0)) (n := 10) hq (.inr h18)), (by rfl)⟩ rfl
        · --
          refine Go.aload_n X 3 dX4_saying_21 rfl ?_
          refine Go.iload X 0 dX4_saying_22 rfl ?_
          refine Go.putM X f_X4_saying_48 fp_4_6 0 (mdW g ad ((sN N, sA N, sW N, k, sP N, sK N, sO N, sG N, sT N, sF N, sX N), K, b, z, le, rf, hd, ln, vl) (6, at1, tk, so, va, lm, ol, ah, lt, lo)) rfl rfl rfl rfl dX4_saying_24 rfl ?_
          refine Go.aload_n X 3 dX4_saying_27 rfl ?_
          refine Go.conv (M1 := mdW g ad (stD N k, K, b, z, le, rf, hd, ln, vl) (6, at1, tk, so, va, lm, ol, ah, lt, lo)) ?_ (by rfl) rfl rfl
          have z28 : sOk (stD N k) := by exact ok_D hN (by omega)
          refine Go.callV0i X (d_bySurprise g ad (stD N k) K b z le rf hd ln vl 6 at1 tk so va lm ol ah lt lo (by exact z28) (by first | omega | (split <;> omega))) cal_X4_bySurprise gX4_saying_X4_bySurprise (ci := 4) (q0 := 0) rfl rfl rfl rfl rfl dX4_saying_28 ?_
          have f28_1 := sur_512 z28 6
          refine Go.iload_n X 4 dX4_saying_31 rfl ?_
          refine Go.iand_e X (nI ((sur (stD N k) 6) &&& s)) dX4_saying_32 (nI_and _ _) ?_
          have o11 : sur (stD N k) 6 &&& s ≤ s := Nat.and_le_right
          refine Go.if_neN X 39 dX4_saying_33 (by decide) (by first | omega | (split <;> omega)) (fun h33 => ?_) (fun h33 => ?_)
          · --
            refine Go.iinc_0 X (nI (k + 1)) dX4_saying_39 (by decide) rfl (show nI k + Int32.ofInt 1 = nI (k + 1) from nI_add _ 1) ?_
            refine Go.goto X 10 dX4_saying_42 (by decide) ?_
            refine Go.conv (M1 := mdW g ad (stD N k, K, b, z, le, rf, hd, ln, vl) (6, at1, tk, so, va, lm, ol, ah, lt, lo)) ?_ (by rfl) rfl rfl
            exact ih10 (k + 1) F k (by first | omega | (split <;> omega)) (by exact .inl ⟨(say_n (P := fun v => decide (sur (stD N v) 6 &&& s = 0)) (n := 10) hq h18).1, fP_s (P := fun v => decide (sur (stD N v) 6 &&& s = 0)) (say_n (P := fun v => decide (sur (stD N v) 6 &&& s = 0)) (n := 10) hq h18).2 (decide_eq_false h33)⟩) (by first | omega | (split <;> omega))
          · --
            refine Go.iload X 0 dX4_saying_36 rfl ?_
            refine Go.istore_n_1 X dX4_saying_38 (by decide) rfl ?_
            refine Go.iinc_0 X (nI (k + 1)) dX4_saying_39 (by decide) rfl (show nI k + Int32.ofInt 1 = nI (k + 1) from nI_add _ 1) ?_
            refine Go.goto X 10 dX4_saying_42 (by decide) ?_
            refine Go.lv_1 (show (.int (nI k) : Value) = .int (nI k) from by rfl) ?_
            refine Go.conv (M1 := mdW g ad (stD N k, K, b, z, le, rf, hd, ln, vl) (6, at1, tk, so, va, lm, ol, ah, lt, lo)) ?_ (by rfl) rfl rfl
            exact ih10 (k + 1) (nI k) k (by first | omega | (split <;> omega)) (by exact .inr ⟨nI_pos' (by omega), (fP_at (P := fun v => decide (sur (stD N v) 6 &&& s = 0)) (n := 10) (by omega) (decide_eq_true h33) (say_n (P := fun v => decide (sur (stD N v) 6 &&& s = 0)) (n := 10) hq h18).2 (by omega)).symm⟩) (by first | omega | (split <;> omega))
  refine Go.conv (M1 := mdW g ad (stD N (sD N), K, b, z, le, rf, hd, ln, vl) (6, at1, tk, so, va, lm, ol, ah, lt, lo)) ?_ (by rfl) rfl rfl
  exact L10 (10 - 0 + 1) 0 (-1) (sD N) (by first | omega | (split <;> omega)) (by exact .inl ⟨rfl, fun j hj => by omega⟩) (Nat.lt_succ_self _)
set_option maxHeartbeats 4000000 in
set_option maxRecDepth 100000 in
theorem e_will (g : gT) (ad : Nat → Nat) (N : Sch) (K : Sch) (b : Bool) (z : Nat) (le : Nat → Nat) (rf : Nat → Int32) (hd : Nat → Int32) (ln : Nat → Nat) (vl : Nat → Nat → Int64) (at1 : Nat) (tk : Nat) (so : Int32) (va : Int32) (lm : Nat → Nat) (ol : Nat → Int32) (ah : Nat → Int32) (lt : Int32) (lo : Nat → Int32) (hN : sOk N) (hH : hOk (sP N) hd) (hm : mOk (N, K, b, z, le, rf, hd, ln, vl) (6, at1, tk, so, va, lm, ol, ah, lt, lo)) : Ct g yX4_will wsX4_will 8 185 [.ref (ad 0)] (mdW g ad (N, K, b, z, le, rf, hd, ln, vl) (6, at1, tk, so, va, lm, ol, ah, lt, lo)) (fun v9 w9 => v9 = (some (.int (x_will (N, K, b, z, le, rf, hd, ln, vl)).2)) ∧ ∃ J9, mOk (x_will (N, K, b, z, le, rf, hd, ln, vl)).1 J9 ∧ w9 = mdW g ad (x_will (N, K, b, z, le, rf, hd, ln, vl)).1 J9) := by
  refine Ct.start (cc := cX4_will) (nL := 1) (ret := (some .int)) (own := RX4) (by decide) rfl rfl rfl ?_
  intro Γ X E
  show Go Γ g 1 (rmC 8 185) 0 0 (mdW g ad (N, K, b, z, le, rf, hd, ln, vl) (6, at1, tk, so, va, lm, ol, ah, lt, lo)) 0 [(0, .ref (ad 0))] []
  obtain ⟨o1, o2, o3, o4, o5, o6, o7, o8⟩ := id hN
  have o9 := p2_9 o2
  have o10 := sA_512 hN
  refine Go.aload_n X 0 dX4_will_0 rfl ?_
  refine Go.sipush X (nI 511) dX4_will_1 k_sp_511 ?_
  refine Go.callV0i X (d_saying g ad N K b z le rf hd ln vl at1 tk so va lm ol ah lt lo 511 (by exact hN) (by first | omega | (split <;> omega))) cal_X4_saying gX4_will_X4_saying (ci := 4) (q0 := 0) rfl rfl rfl rfl rfl dX4_will_4 ?_
  have e9 : x_will (N, K, b, z, le, rf, hd, ln, vl) = ((N, K, b, z, le, rf, hd, ln, vl), (lsA N 511)) := by rw [lsA_511 o2]; rfl
  have m9 : mOk (N, K, b, z, le, rf, hd, ln, vl) (6, at1, tk, so, va, lm, ol, ah, lt, lo) := ⟨rfl, hm.2.1, hm.2.2⟩
  exact Go.iret X E dX4_will_7 ⟨by rw [e9], _, by rw [e9]; exact m9, by rw [e9]⟩ rfl
set_option maxHeartbeats 4000000 in
set_option maxRecDepth 100000 in
theorem e_level (g : gT) (ad : Nat → Nat) (N : Sch) (K : Sch) (b : Bool) (z : Nat) (le : Nat → Nat) (rf : Nat → Int32) (hd : Nat → Int32) (ln : Nat → Nat) (vl : Nat → Nat → Int64) (at1 : Nat) (tk : Nat) (so : Int32) (va : Int32) (lm : Nat → Nat) (ol : Nat → Int32) (ah : Nat → Int32) (lt : Int32) (lo : Nat → Int32) (m : Int32) (hN : sOk N) (hH : hOk (sP N) hd) (hm : mOk (N, K, b, z, le, rf, hd, ln, vl) (6, at1, tk, so, va, lm, ol, ah, lt, lo)) : Ct g yX4_level wsX4_level 8 185 [.ref (ad 0), .int m] (mdW g ad (N, K, b, z, le, rf, hd, ln, vl) (6, at1, tk, so, va, lm, ol, ah, lt, lo)) (fun v9 w9 => v9 = (some (.int (x_level (N, K, b, z, le, rf, hd, ln, vl) m).2)) ∧ ∃ J9, mOk (x_level (N, K, b, z, le, rf, hd, ln, vl) m).1 J9 ∧ w9 = mdW g ad (x_level (N, K, b, z, le, rf, hd, ln, vl) m).1 J9) := by
  refine Ct.start (cc := cX4_level) (nL := 2) (ret := (some .int)) (own := RX4) (by decide) rfl rfl rfl ?_
  intro Γ X E
  show Go Γ g 2 (rmC 8 185) 0 0 (mdW g ad (N, K, b, z, le, rf, hd, ln, vl) (6, at1, tk, so, va, lm, ol, ah, lt, lo)) 0 [(0, .ref (ad 0)), (1, .int m)] []
  obtain ⟨o1, o2, o3, o4, o5, o6, o7, o8⟩ := id hN
  have o9 := p2_9 o2
  have o10 := sA_512 hN
  refine Go.aload_n X 0 dX4_level_0 rfl ?_
  refine Go.iload_n X 1 dX4_level_1 rfl ?_
  refine Go.callV0i X (d_isMorning g ad N K b z le rf hd ln vl 6 at1 tk so va lm ol ah lt lo m (by exact hN)) cal_X4_isMorning gX4_level_X4_isMorning (ci := 4) (q0 := 0) rfl rfl rfl rfl rfl dX4_level_2 ?_
  refine Go.if_eqB X 18 dX4_level_5 (by decide) (fun h5 => ?_) (fun h5 => ?_)
  · --
    refine Go.aload_n X 0 dX4_level_18 rfl ?_
    refine Go.bipush X ((-2 : Int32)) dX4_level_19 k_bp_m2 ?_
    refine Go.callV0i X (d_no_0 g ad N K b z le rf hd ln vl 6 at1 tk so va lm ol ah lt lo) cal_X4_no gX4_level_X4_no (ci := 4) (q0 := 0) rfl rfl rfl rfl rfl dX4_level_21 ?_
    have e9 : x_level (N, K, b, z, le, rf, hd, ln, vl) m = ((N, K, b, z, le, inc rf 0, hd, ln, vl), (-2)) := by simp (decide := true) [x_level, rfS, upS_id, h5]
    have m9 : mOk (N, K, b, z, le, inc rf 0, hd, ln, vl) (6, at1, tk, so, va, lm, ol, ah, lt, lo) := ⟨rfl, hm.2.1, hm.2.2⟩
    exact Go.iret X E dX4_level_24 ⟨by rw [e9], _, by rw [e9]; exact m9, by rw [e9]⟩ rfl
  · --
    obtain ⟨mk, hmk, rfl⟩ := inb_at (by first | omega | (split <;> omega)) h5
    refine Go.aload_n X 0 dX4_level_8 rfl ?_
    refine Go.iconst X (nI 1) dX4_level_9 k_ic_1 ?_
    refine Go.iload_n X 1 dX4_level_10 rfl ?_
    refine Go.ishl_e X (nI (2 ^ mk)) dX4_level_11 (nI_shl1 (by first | omega | (split <;> omega))) ?_
    have o11 : 2 ^ mk < 2 ^ 9 := Nat.pow_lt_pow_right (by decide) (by omega)
    refine Go.callV0i X (d_saying g ad N K b z le rf hd ln vl at1 tk so va lm ol ah lt lo (2 ^ mk) (by exact hN) (by first | omega | (split <;> omega))) cal_X4_saying gX4_level_X4_saying (ci := 4) (q0 := 0) rfl rfl rfl rfl rfl dX4_level_12 ?_
    refine Go.goto X 24 dX4_level_15 (by decide) ?_
    have e9 : x_level (N, K, b, z, le, rf, hd, ln, vl) (nI mk) = ((N, K, b, z, le, rf, hd, ln, vl), (lsA N (2 ^ mk))) := by simp (decide := true) [x_level, rfS, upS_id, h5, nI_clamp (show mk < 2 ^ 31 by omega)]
    have m9 : mOk (N, K, b, z, le, rf, hd, ln, vl) (6, at1, tk, so, va, lm, ol, ah, lt, lo) := ⟨rfl, hm.2.1, hm.2.2⟩
    exact Go.iret X E dX4_level_24 ⟨by rw [e9], _, by rw [e9]; exact m9, by rw [e9]⟩ rfl
set_option maxHeartbeats 4000000 in
set_option maxRecDepth 100000 in
theorem d_spoiling (g : gT) (ad : Nat → Nat) (N : Sch) (K : Sch) (b : Bool) (z : Nat) (le : Nat → Nat) (rf : Nat → Int32) (hd : Nat → Int32) (ln : Nat → Nat) (vl : Nat → Nat → Int64) (at1 : Nat) (tk : Nat) (so : Int32) (va : Int32) (lm : Nat → Nat) (ol : Nat → Int32) (ah : Nat → Int32) (lt : Int32) (lo : Nat → Int32) (i : Nat) (hN : sOk N) (hi : i < sP N) : Cw g yX4_spoiling wsX4_spoiling 7 161 [.ref (ad 0), .int (nI i)] (mdW g ad (N, K, b, z, le, rf, hd, ln, vl) (6, at1, tk, so, va, lm, ol, ah, lt, lo)) (some (.int (mwI N i))) (mdW g ad (N, K, b, z, le, rf, hd, ln, vl) (6, at1, tk, so, va, lm, ol, ah, lt, lo)) := by
  refine Ct.start (cc := cX4_spoiling) (nL := 4) (ret := (some .int)) (own := RX4) (by decide) rfl rfl rfl ?_
  intro Γ X E
  show Go Γ g 4 (rmC 7 161) 0 0 (mdW g ad (N, K, b, z, le, rf, hd, ln, vl) (6, at1, tk, so, va, lm, ol, ah, lt, lo)) 0 [(0, .ref (ad 0)), (1, .int (nI i))] []
  obtain ⟨o1, o2, o3, o4, o5, o6, o7, o8⟩ := id hN
  have o9 := p2_9 o2
  have o10 := sA_512 hN
  refine Go.aload_n X 0 dX4_spoiling_0 rfl ?_
  refine Go.callV0i X (d_bySurprise g ad N K b z le rf hd ln vl 6 at1 tk so va lm ol ah lt lo (by exact hN) (by first | omega | (split <;> omega))) cal_X4_bySurprise gX4_spoiling_X4_bySurprise (ci := 4) (q0 := 0) rfl rfl rfl rfl rfl dX4_spoiling_1 ?_
  have f1_1 := sur_512 hN 6
  refine Go.callSi X  (c_bitCount g (sur N 6) (by first | omega | (split <;> omega))) cal_J6_bitCount_0f7a4 [] rfl rfl gX4_spoiling_J6_bitCount_0f7a4 rfl rfl rfl dX4_spoiling_4 ?_
  refine Go.istore_n_new X dX4_spoiling_7 (by decide) rfl ?_
  refine Go.aload_n X 1 dX4_spoiling_8 rfl ?_
  refine Go.iload_n X 2 dX4_spoiling_9 rfl ?_
  refine Go.top (w := .int (awI i)) (by rw [awI_n (by omega)]) ?_
  refine Go.putM X f_X4_spoiling_55 fp_4_14 0 (mdW g ad (N, K, b, z, le, rf, hd, ln, vl) (i, at1, tk, so, va, lm, ol, ah, lt, lo)) rfl rfl rfl rfl dX4_spoiling_10 rfl ?_
  refine Go.aload_n X 1 dX4_spoiling_13 rfl ?_
  refine Go.callV0i X (d_bySurprise g ad N K b z le rf hd ln vl i at1 tk so va lm ol ah lt lo (by exact hN) (by first | omega | (split <;> omega))) cal_X4_bySurprise gX4_spoiling_X4_bySurprise (ci := 4) (q0 := 0) rfl rfl rfl rfl rfl dX4_spoiling_14 ?_
  have f14_2 := sur_512 hN i
  refine Go.callSi X  (c_bitCount g (sur N i) (by first | omega | (split <;> omega))) cal_J6_bitCount_0f7a4 [] rfl rfl gX4_spoiling_J6_bitCount_0f7a4 rfl rfl rfl dX4_spoiling_17 ?_
  refine Go.istore_n_new X dX4_spoiling_20 (by decide) rfl ?_
  refine Go.aload_n X 2 dX4_spoiling_21 rfl ?_
  refine Go.iconst X ((-1 : Int32)) dX4_spoiling_22 k_ic_m1 ?_
  refine Go.top (w := .int (awI 6)) (by decide) ?_
  refine Go.putM X f_X4_spoiling_55 fp_4_14 0 (mdW g ad (N, K, b, z, le, rf, hd, ln, vl) (6, at1, tk, so, va, lm, ol, ah, lt, lo)) rfl rfl rfl rfl dX4_spoiling_23 rfl ?_
  refine Go.iload_n X 0 dX4_spoiling_26 rfl ?_
  refine Go.iload_n X 1 dX4_spoiling_27 rfl ?_
  refine Go.isub_e X ((nI (bcn (sur N i))) - (nI (bcn (sur N 6)))) dX4_spoiling_28 rfl ?_
  exact Go.iret X E dX4_spoiling_29 ⟨rv (show ((nI (bcn (sur N i))) - (nI (bcn (sur N 6)))) = mwI N i from by exact mw_eq hi o6), rfl⟩ rfl
set_option maxHeartbeats 4000000 in
set_option maxRecDepth 100000 in
theorem e_spoils (g : gT) (ad : Nat → Nat) (N : Sch) (K : Sch) (b : Bool) (z : Nat) (le : Nat → Nat) (rf : Nat → Int32) (hd : Nat → Int32) (ln : Nat → Nat) (vl : Nat → Nat → Int64) (at1 : Nat) (tk : Nat) (so : Int32) (va : Int32) (lm : Nat → Nat) (ol : Nat → Int32) (ah : Nat → Int32) (lt : Int32) (lo : Nat → Int32) (i : Int32) (hN : sOk N) (hH : hOk (sP N) hd) (hm : mOk (N, K, b, z, le, rf, hd, ln, vl) (6, at1, tk, so, va, lm, ol, ah, lt, lo)) : Ct g yX4_spoils wsX4_spoils 8 184 [.ref (ad 0), .int i] (mdW g ad (N, K, b, z, le, rf, hd, ln, vl) (6, at1, tk, so, va, lm, ol, ah, lt, lo)) (fun v9 w9 => v9 = (some (.int (x_spoils (N, K, b, z, le, rf, hd, ln, vl) i).2)) ∧ ∃ J9, mOk (x_spoils (N, K, b, z, le, rf, hd, ln, vl) i).1 J9 ∧ w9 = mdW g ad (x_spoils (N, K, b, z, le, rf, hd, ln, vl) i).1 J9) := by
  refine Ct.start (cc := cX4_spoils) (nL := 2) (ret := (some .int)) (own := RX4) (by decide) rfl rfl rfl ?_
  intro Γ X E
  show Go Γ g 2 (rmC 8 184) 0 0 (mdW g ad (N, K, b, z, le, rf, hd, ln, vl) (6, at1, tk, so, va, lm, ol, ah, lt, lo)) 0 [(0, .ref (ad 0)), (1, .int i)] []
  obtain ⟨o1, o2, o3, o4, o5, o6, o7, o8⟩ := id hN
  have o9 := p2_9 o2
  have o10 := sA_512 hN
  refine Go.aload_n X 0 dX4_spoils_0 rfl ?_
  refine Go.iload_n X 1 dX4_spoils_1 rfl ?_
  refine Go.callV0i X (d_isOne g ad N K b z le rf hd ln vl 6 at1 tk so va lm ol ah lt lo i (by exact hN)) cal_X4_isOne gX4_spoils_X4_isOne (ci := 4) (q0 := 0) rfl rfl rfl rfl rfl dX4_spoils_2 ?_
  refine Go.if_eqB X 16 dX4_spoils_5 (by decide) (fun h5 => ?_) (fun h5 => ?_)
  · --
    refine Go.aload_n X 0 dX4_spoils_16 rfl ?_
    refine Go.bipush X ((-2 : Int32)) dX4_spoils_17 k_bp_m2 ?_
    refine Go.callV0i X (d_noFar_0 g ad N K b z le rf hd ln vl 6 at1 tk so va lm ol ah lt lo) cal_X4_noFar gX4_spoils_X4_noFar (ci := 4) (q0 := 0) rfl rfl rfl rfl rfl dX4_spoils_19 ?_
    have e9 : x_spoils (N, K, b, z, le, rf, hd, ln, vl) i = ((N, K, b, z, le, inc rf 0, hd, ln, vl), (-10000002)) := by simp (decide := true) [x_spoils, rfS, upS_id, h5]
    have m9 : mOk (N, K, b, z, le, inc rf 0, hd, ln, vl) (6, at1, tk, so, va, lm, ol, ah, lt, lo) := ⟨rfl, hm.2.1, hm.2.2⟩
    exact Go.iret X E dX4_spoils_22 ⟨by rw [e9], _, by rw [e9]; exact m9, by rw [e9]⟩ rfl
  · --
    obtain ⟨ik, hik, rfl⟩ := inb_at (by first | omega | (split <;> omega)) h5
    refine Go.aload_n X 0 dX4_spoils_8 rfl ?_
    refine Go.iload_n X 1 dX4_spoils_9 rfl ?_
    refine Go.callV0i X (d_spoiling g ad N K b z le rf hd ln vl at1 tk so va lm ol ah lt lo ik (by exact hN) (by first | omega | (split <;> omega))) cal_X4_spoiling gX4_spoils_X4_spoiling (ci := 4) (q0 := 0) rfl rfl rfl rfl rfl dX4_spoils_10 ?_
    refine Go.goto X 22 dX4_spoils_13 (by decide) ?_
    have e9 : x_spoils (N, K, b, z, le, rf, hd, ln, vl) (nI ik) = ((N, K, b, z, le, rf, hd, ln, vl), (mwI N ik)) := by simp (decide := true) [x_spoils, rfS, upS_id, h5, nI_clamp (show ik < 2 ^ 31 by omega)]
    have m9 : mOk (N, K, b, z, le, rf, hd, ln, vl) (6, at1, tk, so, va, lm, ol, ah, lt, lo) := ⟨rfl, hm.2.1, hm.2.2⟩
    exact Go.iret X E dX4_spoils_22 ⟨by rw [e9], _, by rw [e9]; exact m9, by rw [e9]⟩ rfl
set_option maxHeartbeats 4000000 in
set_option maxRecDepth 100000 in
theorem e_spoiler (g : gT) (ad : Nat → Nat) (N : Sch) (K : Sch) (b : Bool) (z : Nat) (le : Nat → Nat) (rf : Nat → Int32) (hd : Nat → Int32) (ln : Nat → Nat) (vl : Nat → Nat → Int64) (at1 : Nat) (tk : Nat) (so : Int32) (va : Int32) (lm : Nat → Nat) (ol : Nat → Int32) (ah : Nat → Int32) (lt : Int32) (lo : Nat → Int32) (hN : sOk N) (hH : hOk (sP N) hd) (hm : mOk (N, K, b, z, le, rf, hd, ln, vl) (6, at1, tk, so, va, lm, ol, ah, lt, lo)) : Ct g yX4_spoiler wsX4_spoiler 8 184 [.ref (ad 0)] (mdW g ad (N, K, b, z, le, rf, hd, ln, vl) (6, at1, tk, so, va, lm, ol, ah, lt, lo)) (fun v9 w9 => v9 = (some (.int (x_spoiler (N, K, b, z, le, rf, hd, ln, vl)).2)) ∧ ∃ J9, mOk (x_spoiler (N, K, b, z, le, rf, hd, ln, vl)).1 J9 ∧ w9 = mdW g ad (x_spoiler (N, K, b, z, le, rf, hd, ln, vl)).1 J9) := by
  refine Ct.start (cc := cX4_spoiler) (nL := 3) (ret := (some .int)) (own := RX4) (by decide) rfl rfl rfl ?_
  intro Γ X E
  show Go Γ g 3 (rmC 8 184) 0 0 (mdW g ad (N, K, b, z, le, rf, hd, ln, vl) (6, at1, tk, so, va, lm, ol, ah, lt, lo)) 0 [(0, .ref (ad 0))] []
  obtain ⟨o1, o2, o3, o4, o5, o6, o7, o8⟩ := id hN
  have o9 := p2_9 o2
  have o10 := sA_512 hN
  refine Go.aload_n X 0 dX4_spoiler_0 rfl ?_
  refine Go.get X f_X4_spoiler_59 0 (v := .int (nI (sP N))) rfl rfl dX4_spoiler_1 ?_
  refine Go.if_neN X 14 dX4_spoiler_4 (by decide) (by first | omega | (split <;> omega)) (fun h4 => ?_) (fun h4 => ?_)
  · --
    refine Go.iconst X (nI 0) dX4_spoiler_14 k_ic_0 ?_
    refine Go.istore_n_new X dX4_spoiler_15 (by decide) rfl ?_
    refine Go.iconst X (nI 1) dX4_spoiler_16 k_ic_1 ?_
    refine Go.istore_n_new X dX4_spoiler_17 (by decide) rfl ?_
    have L18 : ∀ (f18 : Nat) (k : Nat) (hk : k ≤ sP N) (hk1 : 1 ≤ k) (hf18 : sP N - k < f18), Go Γ g 3 (rmC 8 184) 0 0 (mdW g ad (N, K, b, z, le, rf, hd, ln, vl) (6, at1, tk, so, va, lm, ol, ah, lt, lo)) 18 [(2, .int (nI k)), (1, .int (nI (spF N k))), (0, .ref (ad 0))] [] := by
      intro f18
      induction f18 with
      | zero => intro k hk hk1 hf18; exact absurd hf18 (Nat.not_lt_zero _)
      | succ f18 ih18 =>
        intro k hk hk1 hf18
        refine Go.iload_n X 0 dX4_spoiler_18 rfl ?_
        refine Go.aload_n X 2 dX4_spoiler_19 rfl ?_
        refine Go.get X f_X4_spoiler_59 0 (v := .int (nI (sP N))) rfl rfl dX4_spoiler_20 ?_
        refine Go.icmp_geN X 47 dX4_spoiler_23 (by decide) (by first | omega | (split <;> omega)) (by first | omega | (split <;> omega)) (fun h23 => ?_) (fun h23 => ?_)
        · --
          refine Go.lv_1 (w := .int (nI (spF N (sP N)))) (by rw [show k = sP N by omega]) ?_
          refine Go.iload_n X 1 dX4_spoiler_47 rfl ?_
          have e9 : x_spoiler (N, K, b, z, le, rf, hd, ln, vl) = ((N, K, b, z, le, rf, hd, ln, vl), (nI (spF N (sP N)))) := by simp (decide := true) [x_spoiler, rfS, upS_id, h4, h23, Nat.not_lt.mpr h23]
          have m9 : mOk (N, K, b, z, le, rf, hd, ln, vl) (6, at1, tk, so, va, lm, ol, ah, lt, lo) := ⟨rfl, hm.2.1, hm.2.2⟩
          exact Go.iret X E dX4_spoiler_48 ⟨by rw [e9], _, by rw [e9]; exact m9, by rw [e9]⟩ rfl
        · --
          have o11 := spF_k N hk1
          refine Go.aload_n X 2 dX4_spoiler_26 rfl ?_
          refine Go.iload_n X 0 dX4_spoiler_27 rfl ?_
          refine Go.callV0i X (d_spoiling g ad N K b z le rf hd ln vl at1 tk so va lm ol ah lt lo k (by exact hN) (by first | omega | (split <;> omega))) cal_X4_spoiling gX4_spoiler_X4_spoiling (ci := 4) (q0 := 0) rfl rfl rfl rfl rfl dX4_spoiler_28 ?_
          refine Go.aload_n X 2 dX4_spoiler_31 rfl ?_
          refine Go.iload_n X 1 dX4_spoiler_32 rfl ?_
          refine Go.callV0i X (d_spoiling g ad N K b z le rf hd ln vl at1 tk so va lm ol ah lt lo (spF N k) (by exact hN) (by first | omega | (split <;> omega))) cal_X4_spoiling gX4_spoiler_X4_spoiling (ci := 4) (q0 := 0) rfl rfl rfl rfl rfl dX4_spoiler_33 ?_
          refine Go.icmp_le X 41 dX4_spoiler_36 (by decide) (fun h36 => ?_) (fun h36 => ?_)
          · --
            refine Go.iinc_0 X (nI (k + 1)) dX4_spoiler_41 (by decide) rfl (show nI k + Int32.ofInt 1 = nI (k + 1) from nI_add _ 1) ?_
            refine Go.goto X 18 dX4_spoiler_44 (by decide) ?_
            refine Go.lv_1 (congrArg (fun z => Value.int (nI z)) (show spF N k = spF N (k + 1) from by rw [spF, if_neg (by rw [sp_k N hk1]; exact Int32.not_lt.mpr h36)])) ?_
            exact ih18 (k + 1) (by first | omega | (split <;> omega)) (by first | omega | (split <;> omega)) (by first | omega | (split <;> omega))
          · --
            refine Go.iload_n X 0 dX4_spoiler_39 rfl ?_
            refine Go.istore_n_1 X dX4_spoiler_40 (by decide) rfl ?_
            refine Go.iinc_0 X (nI (k + 1)) dX4_spoiler_41 (by decide) rfl (show nI k + Int32.ofInt 1 = nI (k + 1) from nI_add _ 1) ?_
            refine Go.goto X 18 dX4_spoiler_44 (by decide) ?_
            refine Go.lv_1 (congrArg (fun z => Value.int (nI z)) (show k = spF N (k + 1) from by rw [spF, if_pos (by rw [sp_k N hk1]; exact Int32.not_le.mp h36)])) ?_
            exact ih18 (k + 1) (by first | omega | (split <;> omega)) (by first | omega | (split <;> omega)) (by first | omega | (split <;> omega))
    refine Go.lv_1 (congrArg (fun z => Value.int (nI z)) (show 0 = spF N 1 from by rw [spF_1])) ?_
    exact L18 (sP N - 1 + 1) 1 (by first | omega | (split <;> omega)) (by first | omega | (split <;> omega)) (Nat.lt_succ_self _)
  · --
    refine Go.aload_n X 0 dX4_spoiler_7 rfl ?_
    refine Go.bipush X ((-5 : Int32)) dX4_spoiler_8 k_bp_m5 ?_
    refine Go.callV0i X (d_no_3 g ad N K b z le rf hd ln vl 6 at1 tk so va lm ol ah lt lo) cal_X4_no gX4_spoiler_X4_no (ci := 4) (q0 := 0) rfl rfl rfl rfl rfl dX4_spoiler_10 ?_
    have e9 : x_spoiler (N, K, b, z, le, rf, hd, ln, vl) = ((N, K, b, z, le, inc rf 3, hd, ln, vl), (-5)) := by simp (decide := true) [x_spoiler, rfS, upS_id, h4]
    have m9 : mOk (N, K, b, z, le, inc rf 3, hd, ln, vl) (6, at1, tk, so, va, lm, ol, ah, lt, lo) := ⟨rfl, hm.2.1, hm.2.2⟩
    exact Go.iret X E dX4_spoiler_13 ⟨by rw [e9], _, by rw [e9]; exact m9, by rw [e9]⟩ rfl
set_option maxHeartbeats 4000000 in
set_option maxRecDepth 100000 in
theorem e_deeper (g : gT) (ad : Nat → Nat) (N : Sch) (K : Sch) (b : Bool) (z : Nat) (le : Nat → Nat) (rf : Nat → Int32) (hd : Nat → Int32) (ln : Nat → Nat) (vl : Nat → Nat → Int64) (at1 : Nat) (tk : Nat) (so : Int32) (va : Int32) (lm : Nat → Nat) (ol : Nat → Int32) (ah : Nat → Int32) (lt : Int32) (lo : Nat → Int32) (i : Int32) (m : Int32) (hN : sOk N) (hH : hOk (sP N) hd) (hm : mOk (N, K, b, z, le, rf, hd, ln, vl) (6, at1, tk, so, va, lm, ol, ah, lt, lo)) : Ct g yX4_deeper wsX4_deeper 5 116 [.ref (ad 0), .int i, .int m] (mdW g ad (N, K, b, z, le, rf, hd, ln, vl) (6, at1, tk, so, va, lm, ol, ah, lt, lo)) (fun v9 w9 => v9 = (some (.int (x_deeper (N, K, b, z, le, rf, hd, ln, vl) i m).2)) ∧ ∃ J9, mOk (x_deeper (N, K, b, z, le, rf, hd, ln, vl) i m).1 J9 ∧ w9 = mdW g ad (x_deeper (N, K, b, z, le, rf, hd, ln, vl) i m).1 J9) := by
  refine Ct.start (cc := cX4_deeper) (nL := 6) (ret := (some .int)) (own := RX4) (by decide) rfl rfl rfl ?_
  intro Γ X E
  show Go Γ g 6 (rmC 5 116) 0 0 (mdW g ad (N, K, b, z, le, rf, hd, ln, vl) (6, at1, tk, so, va, lm, ol, ah, lt, lo)) 0 [(0, .ref (ad 0)), (1, .int i), (2, .int m)] []
  obtain ⟨o1, o2, o3, o4, o5, o6, o7, o8⟩ := id hN
  have o9 := p2_9 o2
  have o10 := sA_512 hN
  refine Go.aload_n X 0 dX4_deeper_0 rfl ?_
  refine Go.iload_n X 1 dX4_deeper_1 rfl ?_
  refine Go.callV0i X (d_isOne g ad N K b z le rf hd ln vl 6 at1 tk so va lm ol ah lt lo i (by exact hN)) cal_X4_isOne gX4_deeper_X4_isOne (ci := 4) (q0 := 0) rfl rfl rfl rfl rfl dX4_deeper_2 ?_
  refine Go.if_eqB X 16 dX4_deeper_5 (by decide) (fun h5 => ?_) (fun h5 => ?_)
  · --
    refine Go.aload_n X 0 dX4_deeper_16 rfl ?_
    refine Go.bipush X ((-2 : Int32)) dX4_deeper_17 k_bp_m2 ?_
    refine Go.callV0i X (d_no_0 g ad N K b z le rf hd ln vl 6 at1 tk so va lm ol ah lt lo) cal_X4_no gX4_deeper_X4_no (ci := 4) (q0 := 0) rfl rfl rfl rfl rfl dX4_deeper_19 ?_
    have e9 : x_deeper (N, K, b, z, le, rf, hd, ln, vl) i m = ((N, K, b, z, le, inc rf 0, hd, ln, vl), (-2)) := by simp (decide := true) [x_deeper, rfS, upS_id, h5]
    have m9 : mOk (N, K, b, z, le, inc rf 0, hd, ln, vl) (6, at1, tk, so, va, lm, ol, ah, lt, lo) := ⟨rfl, hm.2.1, hm.2.2⟩
    exact Go.iret X E dX4_deeper_22 ⟨by rw [e9], _, by rw [e9]; exact m9, by rw [e9]⟩ rfl
  · --
    obtain ⟨ik, hik, rfl⟩ := inb_at (by first | omega | (split <;> omega)) h5
    refine Go.aload_n X 0 dX4_deeper_8 rfl ?_
    refine Go.iload_n X 2 dX4_deeper_9 rfl ?_
    refine Go.callV0i X (d_isMorning g ad N K b z le rf hd ln vl 6 at1 tk so va lm ol ah lt lo m (by exact hN)) cal_X4_isMorning gX4_deeper_X4_isMorning (ci := 4) (q0 := 0) rfl rfl rfl rfl rfl dX4_deeper_10 ?_
    refine Go.if_neB X 23 dX4_deeper_13 (by decide) (fun h13 => ?_) (fun h13 => ?_)
    · --
      obtain ⟨mk, hmk, rfl⟩ := inb_at (by first | omega | (split <;> omega)) h13
      refine Go.aload_n X 0 dX4_deeper_23 rfl ?_
      refine Go.get X f_X4_deeper_26 0 (v := .ref (ad 6)) rfl rfl dX4_deeper_24 ?_
      refine Go.iload_n X 1 dX4_deeper_27 rfl ?_
      refine Go.ialdN X 6 (w := sO N) rfl (by first | omega | (split <;> omega)) rfl dX4_deeper_28 ?_
      refine Go.istore_n_new X dX4_deeper_29 (by decide) rfl ?_
      refine Go.iconst X ((-1 : Int32)) dX4_deeper_30 k_ic_m1 ?_
      refine Go.istore_new X dX4_deeper_31 (by decide) rfl ?_
      refine Go.iconst X (nI 0) dX4_deeper_33 k_ic_0 ?_
      refine Go.istore_new X dX4_deeper_34 (by decide) rfl ?_
      have L36 : ∀ (f36 : Nat) (k : Nat) (F : Int32) (w : Nat → Nat) (hk : k ≤ 10) (hw : ∀ a, updN w ik a = updN (sO N) ik a) (hq : (F = -1 ∧ ∀ j, j < k → (expd (stO N (updN (sO N) ik j)) 6 ik).testBit mk = false) ∨ (0 ≤ F ∧ F = fP (fun a => (expd (stO N (updN (sO N) ik a)) 6 ik).testBit mk) 10)) (hf36 : 10 - k < f36), Go Γ g 6 (rmC 5 116) 0 0 (mdW g ad (stO N w, K, b, z, le, rf, hd, ln, vl) (6, at1, tk, so, va, lm, ol, ah, lt, lo)) 36 [(5, .int (nI k)), (4, .int F), (3, .int (nI ((sO N) ik))), (0, .ref (ad 0)), (1, .int (nI ik)), (2, .int (nI mk))] [] := by
        intro f36
        induction f36 with
        | zero => intro k F w hk hw hq hf36; exact absurd hf36 (Nat.not_lt_zero _)
        | succ f36 ih36 =>
          intro k F w hk hw hq hf36
          refine Go.iload X 0 dX4_deeper_36 rfl ?_
          refine Go.bipush X (nI 10) dX4_deeper_38 k_bp_10 ?_
          refine Go.icmp_geN X 75 dX4_deeper_40 (by decide) (by first | omega | (split <;> omega)) (by decide) (fun h40 => ?_) (fun h40 => ?_)
          · --
            refine Go.aload_n X 3 dX4_deeper_75 rfl ?_
            refine Go.get X f_X4_deeper_26 0 (v := .ref (ad 6)) rfl rfl dX4_deeper_76 ?_
            refine Go.iload_n X 4 dX4_deeper_79 rfl ?_
            refine Go.iload_n X 2 dX4_deeper_80 rfl ?_
            refine Go.iastNM X 6 (mdW g ad ((sN N, sA N, sW N, sD N, sP N, sK N, updN w ik ((sO N) ik), sG N, sT N, sF N, sX N), K, b, z, le, rf, hd, ln, vl) (6, at1, tk, so, va, lm, ol, ah, lt, lo)) (w := w) rfl (by first | omega | (split <;> omega)) rfl dX4_deeper_81 rfl ?_
            refine Go.conv (M1 := mdW g ad (N, K, b, z, le, rf, hd, ln, vl) (6, at1, tk, so, va, lm, ol, ah, lt, lo)) ?_ (by rw [hw, upN_id]) rfl rfl
            refine Go.iload X 1 dX4_deeper_82 rfl ?_
            have e9 : x_deeper (N, K, b, z, le, rf, hd, ln, vl) (nI ik) (nI mk) = ((N, K, b, z, le, rf, hd, ln, vl), F) := by have q := say_e (P := fun a => (expd (stO N (updN (sO N) ik a)) 6 ik).testBit mk) (n := 10) hq (.inl h40); simp only [x_deeper, h5, h13, Bool.and_self, if_true, nI_clamp (show ik < 2 ^ 31 by omega), nI_clamp (show mk < 2 ^ 31 by omega)]; rw [q]
            have m9 : mOk (N, K, b, z, le, rf, hd, ln, vl) (6, at1, tk, so, va, lm, ol, ah, lt, lo) := ⟨rfl, hm.2.1, hm.2.2⟩
            exact Go.iret X E dX4_deeper_84 ⟨by rw [e9], _, by rw [e9]; exact m9, by rw [e9]⟩ rfl
          · --
            refine Go.iload X 1 dX4_deeper_43 rfl ?_
            refine Go.if_ge X 75 dX4_deeper_45 (by decide) (fun h45 => ?_) (fun h45 => ?_)
            · --
              refine Go.aload_n X 3 dX4_deeper_75 rfl ?_
              refine Go.get X f_X4_deeper_26 0 (v := .ref (ad 6)) rfl rfl dX4_deeper_76 ?_
              refine Go.iload_n X 4 dX4_deeper_79 rfl ?_
              refine Go.iload_n X 2 dX4_deeper_80 rfl ?_
              refine Go.iastNM X 6 (mdW g ad ((sN N, sA N, sW N, sD N, sP N, sK N, updN w ik ((sO N) ik), sG N, sT N, sF N, sX N), K, b, z, le, rf, hd, ln, vl) (6, at1, tk, so, va, lm, ol, ah, lt, lo)) (w := w) rfl (by first | omega | (split <;> omega)) rfl dX4_deeper_81 rfl ?_
              refine Go.conv (M1 := mdW g ad (N, K, b, z, le, rf, hd, ln, vl) (6, at1, tk, so, va, lm, ol, ah, lt, lo)) ?_ (by rw [hw, upN_id]) rfl rfl
              refine Go.iload X 1 dX4_deeper_82 rfl ?_
              have e9 : x_deeper (N, K, b, z, le, rf, hd, ln, vl) (nI ik) (nI mk) = ((N, K, b, z, le, rf, hd, ln, vl), F) := by have q := say_e (P := fun a => (expd (stO N (updN (sO N) ik a)) 6 ik).testBit mk) (n := 10) hq (.inr h45); simp only [x_deeper, h5, h13, Bool.and_self, if_true, nI_clamp (show ik < 2 ^ 31 by omega), nI_clamp (show mk < 2 ^ 31 by omega)]; rw [q]
              have m9 : mOk (N, K, b, z, le, rf, hd, ln, vl) (6, at1, tk, so, va, lm, ol, ah, lt, lo) := ⟨rfl, hm.2.1, hm.2.2⟩
              exact Go.iret X E dX4_deeper_84 ⟨by rw [e9], _, by rw [e9]; exact m9, by rw [e9]⟩ rfl
            · --
              refine Go.aload_n X 3 dX4_deeper_48 rfl ?_
              refine Go.get X f_X4_deeper_26 0 (v := .ref (ad 6)) rfl rfl dX4_deeper_49 ?_
              refine Go.iload_n X 4 dX4_deeper_52 rfl ?_
              refine Go.iload X 0 dX4_deeper_53 rfl ?_
              refine Go.iastNM X 6 (mdW g ad ((sN N, sA N, sW N, sD N, sP N, sK N, updN w ik k, sG N, sT N, sF N, sX N), K, b, z, le, rf, hd, ln, vl) (6, at1, tk, so, va, lm, ol, ah, lt, lo)) (w := w) rfl (by first | omega | (split <;> omega)) rfl dX4_deeper_55 rfl ?_
              refine Go.conv (M1 := mdW g ad (stO N (updN (sO N) ik k), K, b, z, le, rf, hd, ln, vl) (6, at1, tk, so, va, lm, ol, ah, lt, lo)) ?_ (by rw [hw]) rfl rfl
              refine Go.aload_n X 3 dX4_deeper_56 rfl ?_
              refine Go.iload_n X 4 dX4_deeper_57 rfl ?_
              refine Go.iload_n X 5 dX4_deeper_58 rfl ?_
              have z59 : sOk (stO N (updN (sO N) ik k)) := by exact ok_O hN (up_le o8 (by omega))
              refine Go.callV0i X (d_expectsIt g ad (stO N (updN (sO N) ik k)) K b z le rf hd ln vl 6 at1 tk so va lm ol ah lt lo ik mk (by exact z59) (by first | omega | (split <;> omega)) (by first | omega | (split <;> omega)) (by first | omega | (split <;> omega))) cal_X4_expectsIt gX4_deeper_X4_expectsIt (ci := 4) (q0 := 0) rfl rfl rfl rfl rfl dX4_deeper_59 ?_
              refine Go.if_eqB X 69 dX4_deeper_62 (by decide) (fun h62 => ?_) (fun h62 => ?_)
              · --
                refine Go.iinc_0 X (nI (k + 1)) dX4_deeper_69 (by decide) rfl (show nI k + Int32.ofInt 1 = nI (k + 1) from nI_add _ 1) ?_
                refine Go.goto X 36 dX4_deeper_72 (by decide) ?_
                refine Go.conv (M1 := mdW g ad (stO N (updN (sO N) ik k), K, b, z, le, rf, hd, ln, vl) (6, at1, tk, so, va, lm, ol, ah, lt, lo)) ?_ (by rfl) rfl rfl
                exact ih36 (k + 1) F (updN (sO N) ik k) (by first | omega | (split <;> omega)) (by intro a; exact up_up _ _ _ _) (by exact .inl ⟨(say_n (P := fun a => (expd (stO N (updN (sO N) ik a)) 6 ik).testBit mk) (n := 10) hq h45).1, fP_s (P := fun a => (expd (stO N (updN (sO N) ik a)) 6 ik).testBit mk) (say_n (P := fun a => (expd (stO N (updN (sO N) ik a)) 6 ik).testBit mk) (n := 10) hq h45).2 ((expd_bit (S := stO N (updN (sO N) ik k)) hmk).trans h62)⟩) (by first | omega | (split <;> omega))
              · --
                refine Go.iload X 0 dX4_deeper_65 rfl ?_
                refine Go.istore_1 X dX4_deeper_67 (by decide) rfl ?_
                refine Go.iinc_0 X (nI (k + 1)) dX4_deeper_69 (by decide) rfl (show nI k + Int32.ofInt 1 = nI (k + 1) from nI_add _ 1) ?_
                refine Go.goto X 36 dX4_deeper_72 (by decide) ?_
                refine Go.lv_1 (show (.int (nI k) : Value) = .int (nI k) from by rfl) ?_
                refine Go.conv (M1 := mdW g ad (stO N (updN (sO N) ik k), K, b, z, le, rf, hd, ln, vl) (6, at1, tk, so, va, lm, ol, ah, lt, lo)) ?_ (by rfl) rfl rfl
                exact ih36 (k + 1) (nI k) (updN (sO N) ik k) (by first | omega | (split <;> omega)) (by intro a; exact up_up _ _ _ _) (by exact .inr ⟨nI_pos' (by omega), (fP_at (P := fun a => (expd (stO N (updN (sO N) ik a)) 6 ik).testBit mk) (n := 10) (by omega) ((expd_bit (S := stO N (updN (sO N) ik k)) hmk).trans h62) (say_n (P := fun a => (expd (stO N (updN (sO N) ik a)) 6 ik).testBit mk) (n := 10) hq h45).2 (by omega)).symm⟩) (by first | omega | (split <;> omega))
      refine Go.conv (M1 := mdW g ad (stO N (sO N), K, b, z, le, rf, hd, ln, vl) (6, at1, tk, so, va, lm, ol, ah, lt, lo)) ?_ (by rfl) rfl rfl
      exact L36 (10 - 0 + 1) 0 (-1) (sO N) (by first | omega | (split <;> omega)) (by intro a; rfl) (by exact .inl ⟨rfl, fun j hj => by omega⟩) (Nat.lt_succ_self _)
    · --
      refine Go.aload_n X 0 dX4_deeper_16 rfl ?_
      refine Go.bipush X ((-2 : Int32)) dX4_deeper_17 k_bp_m2 ?_
      refine Go.callV0i X (d_no_0 g ad N K b z le rf hd ln vl 6 at1 tk so va lm ol ah lt lo) cal_X4_no gX4_deeper_X4_no (ci := 4) (q0 := 0) rfl rfl rfl rfl rfl dX4_deeper_19 ?_
      have e9 : x_deeper (N, K, b, z, le, rf, hd, ln, vl) (nI ik) m = ((N, K, b, z, le, inc rf 0, hd, ln, vl), (-2)) := by simp (decide := true) [x_deeper, rfS, upS_id, h5, h13, nI_clamp (show ik < 2 ^ 31 by omega)]
      have m9 : mOk (N, K, b, z, le, inc rf 0, hd, ln, vl) (6, at1, tk, so, va, lm, ol, ah, lt, lo) := ⟨rfl, hm.2.1, hm.2.2⟩
      exact Go.iret X E dX4_deeper_22 ⟨by rw [e9], _, by rw [e9]; exact m9, by rw [e9]⟩ rfl
set_option maxHeartbeats 4000000 in
set_option maxRecDepth 100000 in
theorem e_crowd (g : gT) (ad : Nat → Nat) (N : Sch) (K : Sch) (b : Bool) (z : Nat) (le : Nat → Nat) (rf : Nat → Int32) (hd : Nat → Int32) (ln : Nat → Nat) (vl : Nat → Nat → Int64) (at1 : Nat) (tk : Nat) (so : Int32) (va : Int32) (lm : Nat → Nat) (ol : Nat → Int32) (ah : Nat → Int32) (lt : Int32) (lo : Nat → Int32) (k : Int32) (hN : sOk N) (hH : hOk (sP N) hd) (hm : mOk (N, K, b, z, le, rf, hd, ln, vl) (6, at1, tk, so, va, lm, ol, ah, lt, lo)) : Ct g yX4_crowd wsX4_crowd 7 161 [.ref (ad 0), .int k] (mdW g ad (N, K, b, z, le, rf, hd, ln, vl) (6, at1, tk, so, va, lm, ol, ah, lt, lo)) (fun v9 w9 => v9 = (some (.int (x_crowd (N, K, b, z, le, rf, hd, ln, vl) k).2)) ∧ ∃ J9, mOk (x_crowd (N, K, b, z, le, rf, hd, ln, vl) k).1 J9 ∧ w9 = mdW g ad (x_crowd (N, K, b, z, le, rf, hd, ln, vl) k).1 J9) := by
  refine Ct.start (cc := cX4_crowd) (nL := 3) (ret := (some .int)) (own := RX4) (by decide) rfl rfl rfl ?_
  intro Γ X E
  show Go Γ g 3 (rmC 7 161) 0 0 (mdW g ad (N, K, b, z, le, rf, hd, ln, vl) (6, at1, tk, so, va, lm, ol, ah, lt, lo)) 0 [(0, .ref (ad 0)), (1, .int k)] []
  obtain ⟨o1, o2, o3, o4, o5, o6, o7, o8⟩ := id hN
  have o9 := p2_9 o2
  have o10 := sA_512 hN
  refine Go.iload_n X 1 dX4_crowd_0 rfl ?_
  refine Go.iconst X (nI 0) dX4_crowd_1 k_ic_0 ?_
  refine Go.iconst X (nI 5) dX4_crowd_2 k_ic_5 ?_
  refine Go.callSi X  (d_within_5 g k) cal_X4_within [] rfl rfl gX4_crowd_X4_within rfl rfl rfl dX4_crowd_3 ?_
  refine Go.if_neB X 16 dX4_crowd_6 (by decide) (fun h6 => ?_) (fun h6 => ?_)
  · --
    obtain ⟨kk, hkk, rfl⟩ := inb_at (by first | omega | (split <;> omega)) h6
    refine Go.aload_n X 0 dX4_crowd_16 rfl ?_
    refine Go.aload_n X 0 dX4_crowd_17 rfl ?_
    refine Go.get X f_X4_crowd_38 0 (v := .ref (ad 10)) rfl rfl dX4_crowd_18 ?_
    refine Go.callV0v X (d_keep_ahead g ad N K b z le rf hd ln vl 6 at1 tk so va lm ol ah lt lo (by exact hN)) cal_X4_keep gX4_crowd_X4_keep (ci := 4) (q0 := 0) rfl rfl rfl rfl rfl dX4_crowd_21 ?_
    refine Go.iconst X (nI 0) dX4_crowd_24 k_ic_0 ?_
    refine Go.istore_n_new X dX4_crowd_25 (by decide) rfl ?_
    have L26 : ∀ (f26 : Nat) (j : Nat) (hj : j ≤ sP N) (hf26 : sP N - j < f26), Go Γ g 3 (rmC 7 161) 0 0 (mdW g ad (stK N (fillN (sK N) kk j), K, b, z, le, rf, hd, ln, vl) (6, at1, tk, so, va, lm, ol, encK N, lt, lo)) 26 [(2, .int (nI j)), (0, .ref (ad 0)), (1, .int (nI kk))] [] := by
      intro f26
      induction f26 with
      | zero => intro j hj hf26; exact absurd hf26 (Nat.not_lt_zero _)
      | succ f26 ih26 =>
        intro j hj hf26
        refine Go.iload_n X 0 dX4_crowd_26 rfl ?_
        refine Go.aload_n X 1 dX4_crowd_27 rfl ?_
        refine Go.get X f_X4_crowd_59 0 (v := .int (nI (sP N))) rfl rfl dX4_crowd_28 ?_
        refine Go.icmp_geN X 47 dX4_crowd_31 (by decide) (by first | omega | (split <;> omega)) (by first | omega | (split <;> omega)) (fun h31 => ?_) (fun h31 => ?_)
        · --
          refine Go.aload_n X 1 dX4_crowd_47 rfl ?_
          refine Go.conv (M1 := mdW g ad (stK N (fillN (sK N) kk (sP N)), K, b, z, le, rf, hd, ln, vl) (6, at1, tk, so, va, lm, ol, encK N, lt, lo)) ?_ (by rw [show j = sP N by omega]) rfl rfl
          have z48 : sOk (stK N (fillN (sK N) kk (sP N))) := by exact ok_K hN (fun i hi => by have := fil_le (f := sK N) (n := 6) (b := 5) (v := kk) (fun j hj => by have := o7 j hj; omega) (by omega) (sP N) i hi; omega)
          refine Go.callV0i X (d_bySurprise g ad (stK N (fillN (sK N) kk (sP N))) K b z le rf hd ln vl 6 at1 tk so va lm ol (encK N) lt lo (by exact z48) (by first | omega | (split <;> omega))) cal_X4_bySurprise gX4_crowd_X4_bySurprise (ci := 4) (q0 := 0) rfl rfl rfl rfl rfl dX4_crowd_48 ?_
          have f48_1 := sur_512 z48 6
          refine Go.istore_n_0 X dX4_crowd_51 (by decide) rfl ?_
          refine Go.aload_n X 1 dX4_crowd_52 rfl ?_
          refine Go.aload_n X 1 dX4_crowd_53 rfl ?_
          refine Go.get X f_X4_crowd_38 0 (v := .ref (ad 10)) rfl rfl dX4_crowd_54 ?_
          refine Go.callV0v X (d_again_ahead g ad (stK N (fillN (sK N) kk (sP N))) K b z le rf hd ln vl 6 at1 tk so va lm ol (encK N) lt lo N (by exact hN) (by exact fun j _ => rfl)) cal_X4_again gX4_crowd_X4_again (ci := 4) (q0 := 0) rfl rfl rfl rfl rfl dX4_crowd_57 ?_
          refine Go.iload_n X 0 dX4_crowd_60 rfl ?_
          have e9 : x_crowd (N, K, b, z, le, rf, hd, ln, vl) (nI kk) = ((N, K, b, z, le, rf, hd, ln, vl), (nI (sur (stK N (fillN (sK N) kk (sP N))) 6))) := by simp (decide := true) [x_crowd, rfS, upS_id, h6, h31, Nat.not_lt.mpr h31, nI_clamp (show kk < 2 ^ 31 by omega)]
          have m9 : mOk (N, K, b, z, le, rf, hd, ln, vl) (6, at1, tk, so, va, lm, ol, encK N, lt, lo) := ⟨rfl, hm.2.1, hm.2.2⟩
          exact Go.iret X E dX4_crowd_61 ⟨by rw [e9], _, by rw [e9]; exact m9, by rw [e9]⟩ rfl
        · --
          refine Go.aload_n X 1 dX4_crowd_34 rfl ?_
          refine Go.get X f_X4_crowd_23 0 (v := .ref (ad 5)) rfl rfl dX4_crowd_35 ?_
          refine Go.iload_n X 0 dX4_crowd_38 rfl ?_
          refine Go.iload_n X 2 dX4_crowd_39 rfl ?_
          refine Go.iastNM X 5 (mdW g ad ((sN N, sA N, sW N, sD N, sP N, updN (fillN (sK N) kk j) j kk, sO N, sG N, sT N, sF N, sX N), K, b, z, le, rf, hd, ln, vl) (6, at1, tk, so, va, lm, ol, encK N, lt, lo)) (w := fillN (sK N) kk j) rfl (by first | omega | (split <;> omega)) rfl dX4_crowd_40 rfl ?_
          refine Go.iinc_0 X (nI (j + 1)) dX4_crowd_41 (by decide) rfl (show nI j + Int32.ofInt 1 = nI (j + 1) from nI_add _ 1) ?_
          refine Go.goto X 26 dX4_crowd_44 (by decide) ?_
          refine Go.conv (M1 := mdW g ad (stK N (fillN (sK N) kk (j + 1)), K, b, z, le, rf, hd, ln, vl) (6, at1, tk, so, va, lm, ol, encK N, lt, lo)) ?_ (by rw [fill_s]) rfl rfl
          exact ih26 (j + 1) (by first | omega | (split <;> omega)) (by first | omega | (split <;> omega))
    refine Go.conv (M1 := mdW g ad (stK N (fillN (sK N) kk 0), K, b, z, le, rf, hd, ln, vl) (6, at1, tk, so, va, lm, ol, encK N, lt, lo)) ?_ (by rw [fill_0]) rfl rfl
    exact L26 (sP N - 0 + 1) 0 (by first | omega | (split <;> omega)) (Nat.lt_succ_self _)
  · --
    refine Go.aload_n X 0 dX4_crowd_9 rfl ?_
    refine Go.bipush X ((-2 : Int32)) dX4_crowd_10 k_bp_m2 ?_
    refine Go.callV0i X (d_no_0 g ad N K b z le rf hd ln vl 6 at1 tk so va lm ol ah lt lo) cal_X4_no gX4_crowd_X4_no (ci := 4) (q0 := 0) rfl rfl rfl rfl rfl dX4_crowd_12 ?_
    have e9 : x_crowd (N, K, b, z, le, rf, hd, ln, vl) k = ((N, K, b, z, le, inc rf 0, hd, ln, vl), (-2)) := by simp (decide := true) [x_crowd, rfS, upS_id, h6]
    have m9 : mOk (N, K, b, z, le, inc rf 0, hd, ln, vl) (6, at1, tk, so, va, lm, ol, ah, lt, lo) := ⟨rfl, hm.2.1, hm.2.2⟩
    exact Go.iret X E dX4_crowd_15 ⟨by rw [e9], _, by rw [e9]; exact m9, by rw [e9]⟩ rfl
set_option maxHeartbeats 4000000 in
set_option maxRecDepth 100000 in
theorem e_hints (g : gT) (ad : Nat → Nat) (N : Sch) (K : Sch) (b : Bool) (z : Nat) (le : Nat → Nat) (rf : Nat → Int32) (hd : Nat → Int32) (ln : Nat → Nat) (vl : Nat → Nat → Int64) (at1 : Nat) (tk : Nat) (so : Int32) (va : Int32) (lm : Nat → Nat) (ol : Nat → Int32) (ah : Nat → Int32) (lt : Int32) (lo : Nat → Int32) (w : Int32) (hN : sOk N) (hH : hOk (sP N) hd) (hm : mOk (N, K, b, z, le, rf, hd, ln, vl) (6, at1, tk, so, va, lm, ol, ah, lt, lo)) : Ct g yX4_hints wsX4_hints 7 161 [.ref (ad 0), .int w] (mdW g ad (N, K, b, z, le, rf, hd, ln, vl) (6, at1, tk, so, va, lm, ol, ah, lt, lo)) (fun v9 w9 => v9 = (some (.int (x_hints (N, K, b, z, le, rf, hd, ln, vl) w).2)) ∧ ∃ J9, mOk (x_hints (N, K, b, z, le, rf, hd, ln, vl) w).1 J9 ∧ w9 = mdW g ad (x_hints (N, K, b, z, le, rf, hd, ln, vl) w).1 J9) := by
  refine Ct.start (cc := cX4_hints) (nL := 7) (ret := (some .int)) (own := RX4) (by decide) rfl rfl rfl ?_
  intro Γ X E
  show Go Γ g 7 (rmC 7 161) 0 0 (mdW g ad (N, K, b, z, le, rf, hd, ln, vl) (6, at1, tk, so, va, lm, ol, ah, lt, lo)) 0 [(0, .ref (ad 0)), (1, .int w)] []
  obtain ⟨o1, o2, o3, o4, o5, o6, o7, o8⟩ := id hN
  have o9 := p2_9 o2
  have o10 := sA_512 hN
  refine Go.iload_n X 1 dX4_hints_0 rfl ?_
  refine Go.iconst X (nI 0) dX4_hints_1 k_ic_0 ?_
  refine Go.iconst X (nI 1) dX4_hints_2 k_ic_1 ?_
  refine Go.callSi X  (d_within_1 g w) cal_X4_within [] rfl rfl gX4_hints_X4_within rfl rfl rfl dX4_hints_3 ?_
  refine Go.if_neB X 16 dX4_hints_6 (by decide) (fun h6 => ?_) (fun h6 => ?_)
  · --
    obtain ⟨wk, hwk, rfl⟩ := inb_at (by first | omega | (split <;> omega)) h6
    refine Go.aload_n X 0 dX4_hints_16 rfl ?_
    refine Go.get X f_X4_hints_111 0 (v := .int (nI (sA N))) rfl rfl dX4_hints_17 ?_
    refine Go.istore_n_new X dX4_hints_20 (by decide) rfl ?_
    refine Go.iconst X (nI 0) dX4_hints_21 k_ic_0 ?_
    refine Go.istore_n_new X dX4_hints_22 (by decide) rfl ?_
    refine Go.iconst X ((-1 : Int32)) dX4_hints_23 k_ic_m1 ?_
    refine Go.istore_new X dX4_hints_24 (by decide) rfl ?_
    refine Go.iconst X (nI 0) dX4_hints_26 k_ic_0 ?_
    refine Go.istore_new X dX4_hints_27 (by decide) rfl ?_
    have L29 : ∀ (f29 : Nat) (k : Nat) (d : Nat) (hk : k ≤ 512) (hf29 : 512 - k < f29), Go Γ g 7 (rmC 7 161) 0 0 (mdW g ad (stA N d, K, b, z, le, rf, hd, ln, vl) (6, at1, tk, so, va, lm, ol, ah, lt, lo)) 29 [(5, .int (nI k)), (4, .int (hMI N k)), (3, .int (nI (hF N k))), (2, .int (nI (sA N))), (0, .ref (ad 0)), (1, .int (nI wk))] [] := by
      intro f29
      induction f29 with
      | zero => intro k d hk hf29; exact absurd hf29 (Nat.not_lt_zero _)
      | succ f29 ih29 =>
        intro k d hk hf29
        refine Go.iload X 0 dX4_hints_29 rfl ?_
        refine Go.sipush X (nI 512) dX4_hints_31 k_sp_512 ?_
        refine Go.icmp_geN X 106 dX4_hints_34 (by decide) (by first | omega | (split <;> omega)) (by decide) (fun h34 => ?_) (fun h34 => ?_)
        · --
          have e512 : k = 512 := by omega
          refine Go.lv_2 (w := .int (nI (hF N (sA N + 1)))) (by rw [e512, (h_512 o10).1]) ?_
          refine Go.lv_1 (w := .int (nI (hC N (hF N (sA N + 1))))) (by rw [e512, hMI, if_neg (by decide), (h_512 o10).2, hM_hC]) ?_
          refine Go.aload_n X 4 dX4_hints_106 rfl ?_
          refine Go.iload_n X 3 dX4_hints_107 rfl ?_
          refine Go.putM X f_X4_hints_111 fp_4_4 0 (mdW g ad ((sN N, sA N, sW N, sD N, sP N, sK N, sO N, sG N, sT N, sF N, sX N), K, b, z, le, rf, hd, ln, vl) (6, at1, tk, so, va, lm, ol, ah, lt, lo)) rfl rfl rfl rfl dX4_hints_108 rfl ?_
          refine Go.conv (M1 := mdW g ad (N, K, b, z, le, rf, hd, ln, vl) (6, at1, tk, so, va, lm, ol, ah, lt, lo)) ?_ (by rfl) rfl rfl
          refine Go.iload_n X 5 dX4_hints_111 rfl ?_
          refine Go.if_neN X 119 dX4_hints_112 (by decide) (by first | omega | (split <;> omega)) (fun h112 => ?_) (fun h112 => ?_)
          · --
            refine Go.iload X 1 dX4_hints_119 rfl ?_
            have e9 : x_hints (N, K, b, z, le, rf, hd, ln, vl) (nI wk) = ((N, K, b, z, le, rf, hd, ln, vl), (nI (hC N (hF N (sA N + 1))))) := by simp (decide := true) [x_hints, rfS, h6, h112, nI_clamp (show wk < 2 ^ 31 by omega)]
            have m9 : mOk (N, K, b, z, le, rf, hd, ln, vl) (6, at1, tk, so, va, lm, ol, ah, lt, lo) := ⟨rfl, hm.2.1, hm.2.2⟩
            exact Go.iret X E dX4_hints_121 ⟨by rw [e9], _, by rw [e9]; exact m9, by rw [e9]⟩ rfl
          · --
            refine Go.iload_n X 2 dX4_hints_115 rfl ?_
            refine Go.goto X 121 dX4_hints_116 (by decide) ?_
            have e9 : x_hints (N, K, b, z, le, rf, hd, ln, vl) (nI wk) = ((N, K, b, z, le, rf, hd, ln, vl), (nI (hF N (sA N + 1)))) := by simp (decide := true) [x_hints, rfS, h6, h112, nI_clamp (show wk < 2 ^ 31 by omega)]
            have m9 : mOk (N, K, b, z, le, rf, hd, ln, vl) (6, at1, tk, so, va, lm, ol, ah, lt, lo) := ⟨rfl, hm.2.1, hm.2.2⟩
            exact Go.iret X E dX4_hints_121 ⟨by rw [e9], _, by rw [e9]; exact m9, by rw [e9]⟩ rfl
        · --
          have o11 := dif_le k (sA N)
          have o12 := hF_le N k
          have o13 := hM_le N k
          refine Go.iload X 0 dX4_hints_37 rfl ?_
          refine Go.iload_n X 3 dX4_hints_39 rfl ?_
          refine Go.iconst X ((-1 : Int32)) dX4_hints_40 k_ic_m1 ?_
          refine Go.ixor_e X (nI (sA N) ^^^ (-1)) dX4_hints_41 rfl ?_
          refine Go.iand_e X (nI (dif k (sA N))) dX4_hints_42 (nI_andnot _ _) ?_
          refine Go.if_eqN X 49 dX4_hints_43 (by decide) (by first | omega | (split <;> omega)) (fun h43 => ?_) (fun h43 => ?_)
          · --
            refine Go.aload_n X 4 dX4_hints_49 rfl ?_
            refine Go.iload X 0 dX4_hints_50 rfl ?_
            refine Go.putM X f_X4_hints_111 fp_4_4 0 (mdW g ad ((sN N, k, sW N, sD N, sP N, sK N, sO N, sG N, sT N, sF N, sX N), K, b, z, le, rf, hd, ln, vl) (6, at1, tk, so, va, lm, ol, ah, lt, lo)) rfl rfl rfl rfl dX4_hints_52 rfl ?_
            refine Go.aload_n X 4 dX4_hints_55 rfl ?_
            refine Go.conv (M1 := mdW g ad (stA N k, K, b, z, le, rf, hd, ln, vl) (6, at1, tk, so, va, lm, ol, ah, lt, lo)) ?_ (by rfl) rfl rfl
            have z56 : sOk (stA N k) := by exact ok_A hN (Nat.lt_of_le_of_lt (dif_0 h43) o3)
            refine Go.callV0i X (d_bySurprise g ad (stA N k) K b z le rf hd ln vl 6 at1 tk so va lm ol ah lt lo (by exact z56) (by first | omega | (split <;> omega))) cal_X4_bySurprise gX4_hints_X4_bySurprise (ci := 4) (q0 := 0) rfl rfl rfl rfl rfl dX4_hints_56 ?_
            have f56_1 := sur_512 z56 6
            refine Go.callSi X  (c_bitCount g (sur (stA N k) 6) (by first | omega | (split <;> omega))) cal_J6_bitCount_0f7a4 [] rfl rfl gX4_hints_J6_bitCount_0f7a4 rfl rfl rfl dX4_hints_59 ?_
            refine Go.top (w := .int (nI (hC N k))) (by rfl) ?_
            have o14 : hC N k ≤ 9 := bcn_9 _
            refine Go.istore_new X dX4_hints_62 (by decide) rfl ?_
            by_cases hk0 : k = 0
            · --
              refine Go.lv_2 (w := .int (-1)) (by rw [hk0]; rfl) ?_
              refine Go.iload X 0 dX4_hints_64 rfl ?_
              refine Go.iload X 2 dX4_hints_66 rfl ?_
              refine Go.icmp_lt X 100 dX4_hints_68 (by decide) (fun h68 => ?_) (fun h68 => ?_)
              · --
                exact (Int32.lt_irrefl (Int32.lt_trans h68 (m1_lt (a := hC N k) (by omega)))).elim
              · --
                refine Go.iload X 0 dX4_hints_71 rfl ?_
                refine Go.iload X 2 dX4_hints_73 rfl ?_
                refine Go.icmp_ne X 93 dX4_hints_75 (by decide) (fun h75 => ?_) (fun h75 => ?_)
                · --
                  refine Go.iload X 0 dX4_hints_93 rfl ?_
                  refine Go.istore_2 X dX4_hints_95 (by decide) rfl ?_
                  refine Go.iload X 1 dX4_hints_97 rfl ?_
                  refine Go.istore_n_3 X dX4_hints_99 (by decide) rfl ?_
                  refine Go.iinc_1 X (nI (k + 1)) dX4_hints_100 (by decide) rfl (show nI k + Int32.ofInt 1 = nI (k + 1) from nI_add _ 1) ?_
                  refine Go.goto X 29 dX4_hints_103 (by decide) ?_
                  refine Go.lv_2 (show (.int (nI (hC N k)) : Value) = .int (hMI N (k + 1)) from by subst hk0; rw [hMI_1]) ?_
                  refine Go.lv_3 (congrArg (fun z => Value.int (nI z)) (show k = hF N (k + 1) from by subst hk0; exact (h_1 N).1.symm)) ?_
                  refine Go.conv (M1 := mdW g ad (stA N k, K, b, z, le, rf, hd, ln, vl) (6, at1, tk, so, va, lm, ol, ah, lt, lo)) ?_ (by rfl) rfl rfl
                  refine Go.sub [1, 2, 3, 4, 5, 6] rfl ?_
                  exact ih29 (k + 1) k (by first | omega | (split <;> omega)) (by first | omega | (split <;> omega))
                · --
                  exact absurd h75.symm (m1_ne (by omega))
            · --
              refine Go.lv_2 (w := .int (nI (hM N k))) (by rw [hMI, if_neg hk0]) ?_
              refine Go.iload X 0 dX4_hints_64 rfl ?_
              refine Go.iload X 2 dX4_hints_66 rfl ?_
              refine Go.icmp_ltN X 100 dX4_hints_68 (by decide) (by first | omega | (split <;> omega)) (by first | omega | (split <;> omega)) (fun h68 => ?_) (fun h68 => ?_)
              · --
                refine Go.iinc_1 X (nI (k + 1)) dX4_hints_100 (by decide) rfl (show nI k + Int32.ofInt 1 = nI (k + 1) from nI_add _ 1) ?_
                refine Go.goto X 29 dX4_hints_103 (by decide) ?_
                refine Go.lv_2 (show (.int (nI (hM N k)) : Value) = .int (hMI N (k + 1)) from by rw [hMI, if_neg (by omega), hM_n (fun q => by omega)]) ?_
                refine Go.lv_3 (congrArg (fun z => Value.int (nI z)) (show hF N k = hF N (k + 1) from by rw [hF_n (fun q => by omega)])) ?_
                refine Go.conv (M1 := mdW g ad (stA N k, K, b, z, le, rf, hd, ln, vl) (6, at1, tk, so, va, lm, ol, ah, lt, lo)) ?_ (by rfl) rfl rfl
                refine Go.sub [1, 2, 3, 4, 5, 6] rfl ?_
                exact ih29 (k + 1) k (by first | omega | (split <;> omega)) (by first | omega | (split <;> omega))
              · --
                refine Go.iload X 0 dX4_hints_71 rfl ?_
                refine Go.iload X 2 dX4_hints_73 rfl ?_
                refine Go.icmp_neN X 93 dX4_hints_75 (by decide) (by first | omega | (split <;> omega)) (by first | omega | (split <;> omega)) (fun h75 => ?_) (fun h75 => ?_)
                · --
                  refine Go.iload X 0 dX4_hints_93 rfl ?_
                  refine Go.istore_2 X dX4_hints_95 (by decide) rfl ?_
                  refine Go.iload X 1 dX4_hints_97 rfl ?_
                  refine Go.istore_n_3 X dX4_hints_99 (by decide) rfl ?_
                  refine Go.iinc_1 X (nI (k + 1)) dX4_hints_100 (by decide) rfl (show nI k + Int32.ofInt 1 = nI (k + 1) from nI_add _ 1) ?_
                  refine Go.goto X 29 dX4_hints_103 (by decide) ?_
                  refine Go.lv_2 (show (.int (nI (hC N k)) : Value) = .int (hMI N (k + 1)) from by rw [hMI, if_neg (by omega), hM_y (by omega) h43 (by omega)]) ?_
                  refine Go.lv_3 (congrArg (fun z => Value.int (nI z)) (show k = hF N (k + 1) from by rw [hF_y ⟨by omega, h43, by omega⟩])) ?_
                  refine Go.conv (M1 := mdW g ad (stA N k, K, b, z, le, rf, hd, ln, vl) (6, at1, tk, so, va, lm, ol, ah, lt, lo)) ?_ (by rfl) rfl rfl
                  refine Go.sub [1, 2, 3, 4, 5, 6] rfl ?_
                  exact ih29 (k + 1) k (by first | omega | (split <;> omega)) (by first | omega | (split <;> omega))
                · --
                  have o15 := bcn_9 k
                  have o16 := bcn_9 (hF N k)
                  refine Go.iload X 1 dX4_hints_78 rfl ?_
                  refine Go.callSi X  (c_bitCount g k (by first | omega | (split <;> omega))) cal_J6_bitCount_0f7a4 [] rfl rfl gX4_hints_J6_bitCount_0f7a4 rfl rfl rfl dX4_hints_80 ?_
                  refine Go.iload_n X 3 dX4_hints_83 rfl ?_
                  refine Go.callSi X  (c_bitCount g (hF N k) (by first | omega | (split <;> omega))) cal_J6_bitCount_0f7a4 [] rfl rfl gX4_hints_J6_bitCount_0f7a4 rfl rfl rfl dX4_hints_84 ?_
                  refine Go.icmp_ltN X 93 dX4_hints_87 (by decide) (by first | omega | (split <;> omega)) (by first | omega | (split <;> omega)) (fun h87 => ?_) (fun h87 => ?_)
                  · --
                    refine Go.iload X 0 dX4_hints_93 rfl ?_
                    refine Go.istore_2 X dX4_hints_95 (by decide) rfl ?_
                    refine Go.iload X 1 dX4_hints_97 rfl ?_
                    refine Go.istore_n_3 X dX4_hints_99 (by decide) rfl ?_
                    refine Go.iinc_1 X (nI (k + 1)) dX4_hints_100 (by decide) rfl (show nI k + Int32.ofInt 1 = nI (k + 1) from nI_add _ 1) ?_
                    refine Go.goto X 29 dX4_hints_103 (by decide) ?_
                    refine Go.lv_2 (show (.int (nI (hC N k)) : Value) = .int (hMI N (k + 1)) from by rw [hMI, if_neg (by omega), hM_y (by omega) h43 (by omega)]) ?_
                    refine Go.lv_3 (congrArg (fun z => Value.int (nI z)) (show k = hF N (k + 1) from by rw [hF_y ⟨by omega, h43, by omega⟩])) ?_
                    refine Go.conv (M1 := mdW g ad (stA N k, K, b, z, le, rf, hd, ln, vl) (6, at1, tk, so, va, lm, ol, ah, lt, lo)) ?_ (by rfl) rfl rfl
                    refine Go.sub [1, 2, 3, 4, 5, 6] rfl ?_
                    exact ih29 (k + 1) k (by first | omega | (split <;> omega)) (by first | omega | (split <;> omega))
                  · --
                    refine Go.goto X 100 dX4_hints_90 (by decide) ?_
                    refine Go.iinc_1 X (nI (k + 1)) dX4_hints_100 (by decide) rfl (show nI k + Int32.ofInt 1 = nI (k + 1) from nI_add _ 1) ?_
                    refine Go.goto X 29 dX4_hints_103 (by decide) ?_
                    refine Go.lv_2 (show (.int (nI (hM N k)) : Value) = .int (hMI N (k + 1)) from by rw [hMI, if_neg (by omega), hM_n (fun q => by omega)]) ?_
                    refine Go.lv_3 (congrArg (fun z => Value.int (nI z)) (show hF N k = hF N (k + 1) from by rw [hF_n (fun q => by omega)])) ?_
                    refine Go.conv (M1 := mdW g ad (stA N k, K, b, z, le, rf, hd, ln, vl) (6, at1, tk, so, va, lm, ol, ah, lt, lo)) ?_ (by rfl) rfl rfl
                    refine Go.sub [1, 2, 3, 4, 5, 6] rfl ?_
                    exact ih29 (k + 1) k (by first | omega | (split <;> omega)) (by first | omega | (split <;> omega))
          · --
            refine Go.goto X 100 dX4_hints_46 (by decide) ?_
            refine Go.iinc_0 X (nI (k + 1)) dX4_hints_100 (by decide) rfl (show nI k + Int32.ofInt 1 = nI (k + 1) from nI_add _ 1) ?_
            refine Go.goto X 29 dX4_hints_103 (by decide) ?_
            refine Go.lv_1 (congrArg Value.int (show hMI N k = hMI N (k + 1) from by rw [hMI_n h43])) ?_
            refine Go.lv_2 (congrArg (fun z => Value.int (nI z)) (show hF N k = hF N (k + 1) from by rw [hF_n (fun q => h43 q.2.1)])) ?_
            refine Go.conv (M1 := mdW g ad (stA N d, K, b, z, le, rf, hd, ln, vl) (6, at1, tk, so, va, lm, ol, ah, lt, lo)) ?_ (by rfl) rfl rfl
            exact ih29 (k + 1) d (by first | omega | (split <;> omega)) (by first | omega | (split <;> omega))
    refine Go.lv_1 (congrArg Value.int (show (-1) = hMI N 0 from by rfl)) ?_
    refine Go.lv_2 (congrArg (fun z => Value.int (nI z)) (show 0 = hF N 0 from by rfl)) ?_
    refine Go.conv (M1 := mdW g ad (stA N (sA N), K, b, z, le, rf, hd, ln, vl) (6, at1, tk, so, va, lm, ol, ah, lt, lo)) ?_ (by rfl) rfl rfl
    exact L29 (512 - 0 + 1) 0 (sA N) (by first | omega | (split <;> omega)) (Nat.lt_succ_self _)
  · --
    refine Go.aload_n X 0 dX4_hints_9 rfl ?_
    refine Go.bipush X ((-2 : Int32)) dX4_hints_10 k_bp_m2 ?_
    refine Go.callV0i X (d_no_0 g ad N K b z le rf hd ln vl 6 at1 tk so va lm ol ah lt lo) cal_X4_no gX4_hints_X4_no (ci := 4) (q0 := 0) rfl rfl rfl rfl rfl dX4_hints_12 ?_
    have e9 : x_hints (N, K, b, z, le, rf, hd, ln, vl) w = ((N, K, b, z, le, inc rf 0, hd, ln, vl), (-2)) := by simp (decide := true) [x_hints, rfS, upS_id, h6]
    have m9 : mOk (N, K, b, z, le, inc rf 0, hd, ln, vl) (6, at1, tk, so, va, lm, ol, ah, lt, lo) := ⟨rfl, hm.2.1, hm.2.2⟩
    exact Go.iret X E dX4_hints_15 ⟨by rw [e9], _, by rw [e9]; exact m9, by rw [e9]⟩ rfl
