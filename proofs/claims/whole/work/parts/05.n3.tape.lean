/-! 05.n3.tape -/
theorem f_X2_readInto_19 : FL wsX2_readInto RX2 19 2 3 := ⟨RX2, TX2, 5, rfl, fun _ h => List.mem_cons_of_mem _ (List.mem_append_left _ (List.mem_append_right _ h)), by decide, List.mem_of_getElem? (i := 1) (by decide +kernel)⟩
theorem cal_X2_readStatement : Cal yX2_readStatement wsX2_readStatement cX2_readStatement 2 (some .boolean) RX2 1 := ⟨⟨_, rfl⟩, by decide +kernel⟩
theorem f_X2_readInto_29 : FL wsX2_readInto RX2 29 2 4 := ⟨RX2, TX2, 5, rfl, fun _ h => List.mem_cons_of_mem _ (List.mem_append_left _ (List.mem_append_right _ h)), by decide, List.mem_of_getElem? (i := 2) (by decide +kernel)⟩
theorem f_X3_school_16 : FL wsX3_school RX3 16 3 1 := ⟨RX3, TX3, 8, rfl, fun _ h => List.mem_cons_of_mem _ (List.mem_append_left _ (List.mem_append_left _ (List.mem_append_right _ h))), by decide, List.mem_of_getElem? (i := 1) (by decide +kernel)⟩
theorem f_X3_school_10 : FL wsX3_school RX3 10 3 0 := ⟨RX3, TX3, 8, rfl, fun _ h => List.mem_cons_of_mem _ (List.mem_append_left _ (List.mem_append_left _ (List.mem_append_right _ h))), by decide, List.mem_of_getElem? (i := 2) (by decide +kernel)⟩
theorem f_X3_school_25 : FL wsX3_school RX3 25 3 4 := ⟨RX3, TX3, 8, rfl, fun _ h => List.mem_cons_of_mem _ (List.mem_append_left _ (List.mem_append_left _ (List.mem_append_right _ h))), by decide, List.mem_of_getElem? (i := 3) (by decide +kernel)⟩
theorem cal_X2_readInto : Cal yX2_readInto wsX2_readInto cX2_readInto 3 (some .int) RX2 1 := ⟨⟨_, rfl⟩, by decide +kernel⟩
theorem f_X3_school_173 : FL wsX3_school RX3 173 2 1 := ⟨RX2, TX2, 5, rfl, fun _ h => List.mem_cons_of_mem _ (List.mem_append_left _ (List.mem_append_right _ h)), by decide, List.mem_of_getElem? (i := 4) (by decide +kernel)⟩
theorem f_X3_school_183 : FL wsX3_school RX3 183 2 2 := ⟨RX2, TX2, 5, rfl, fun _ h => List.mem_cons_of_mem _ (List.mem_append_left _ (List.mem_append_right _ h)), by decide, List.mem_of_getElem? (i := 5) (by decide +kernel)⟩
theorem k_bp_m20 : (Int8.ofInt (-20)).toInt32 = (-20 : Int32) := by decide
set_option maxHeartbeats 4000000 in
set_option maxRecDepth 100000 in
theorem c_readInto (g : gT) (a : Nat) (q : Nat) (z : Nat) (le : Nat → Nat) (ts : Nat) (te : Nat) (tk : Nat) (b : Nat) (rw : Nat) (rk : Nat) (rr : Nat) (S : Sch) (hz : z ≤ 250) (hl : ∀ i, i < 250 → le i < 256) (hS : sOk S) : Cw g yX2_readInto wsX2_readInto 6 128 [.ref a, .ref b] (tsW g a q z le b rw rk rr (S, ts, te, tk)) (some (.int (rtT le z S).1)) (tsW g a q z le b rw rk rr (rtT le z S).2) := by
  refine Ct.start (cc := cX2_readInto) (nL := 3) (ret := (some .int)) (own := RX2) (by decide) rfl rfl rfl ?_
  intro Γ X E
  show Go Γ g 3 (rmC 6 128) 0 0 (tsW g a q z le b rw rk rr (S, ts, te, tk)) 0 [(0, .ref a), (1, .ref b)] []
  obtain ⟨o1, o2, o3, o4, o5, o6, o7, o8⟩ := id hS
  have o9 := p2_9 o2
  have o10 := sA_512 hS
  refine Go.aload_n X 0 dX2_readInto_0 rfl ?_
  refine Go.iconst X (nI 0) dX2_readInto_1 k_ic_0 ?_
  refine Go.putM X f_X2_readInto_19 fp_2_3 0 (tsW g a q z le b rw rk rr (S, ts, 0, tk)) rfl rfl rfl rfl dX2_readInto_2 rfl ?_
  refine Go.aload_n X 0 dX2_readInto_5 rfl ?_
  refine Go.callVvw X (c_step g a q z le ts 0 tk (by first | omega | (split <;> omega)) (by first | omega | (split <;> omega)) (by first | omega | (split <;> omega))) cal_X2_step [0, 1] rfl rfl gX2_readInto_X2_step (ci := 2) (q0 := 0) rfl rfl rfl rfl rfl dX2_readInto_6 (M9 := tsW g a q z le b rw rk rr (S, skp le z 0, tkE le z 0, tkK le z 0)) rfl ?_
  have f6_1 := st_le (le := le) (z := z) (e := 0) (by omega)
  have f6_2 := tkK_le le z 0
  refine Go.iconst X (nI 1) dX2_readInto_9 k_ic_1 ?_
  refine Go.istore_n_new X dX2_readInto_10 (by decide) rfl ?_
  have L11 : ∀ (f11 : Nat) (n : Nat) (D : Sch) (x : Nat) (y : Nat) (w : Nat) (hn : n ≤ 251) (hn1 : 1 ≤ n) (hD : sOk D) (hp : x ≤ y ∧ y ≤ z ∧ w ≤ 4) (hh : rtF le z (251 - n) n D (x, y, w) = rtT le z S) (hf11 : 251 - n < f11), Go Γ g 3 (rmC 6 128) 0 0 (tsW g a q z le b rw rk rr (D, x, y, w)) 11 [(2, .int (nI n)), (0, .ref a), (1, .ref b)] [] := by
    intro f11
    induction f11 with
    | zero => intro n D x y w hn hn1 hD hp hh hf11; exact absurd hf11 (Nat.not_lt_zero _)
    | succ f11 ih11 =>
      intro n D x y w hn hn1 hD hp hh hf11
      refine Go.iload_n X 0 dX2_readInto_11 rfl ?_
      refine Go.sipush X (nI 250) dX2_readInto_12 k_sp_250 ?_
      refine Go.icmp_gtN X 57 dX2_readInto_15 (by decide) (by first | omega | (split <;> omega)) (by decide) (fun h15 => ?_) (fun h15 => ?_)
      · --
        refine Go.iconst X ((-1 : Int32)) dX2_readInto_57 k_ic_m1 ?_
        have e9 : rtT le z S = ((-1), (D, x, y, w)) := by rw [← hh, show 251 - n = 0 by omega]; rfl
        exact Go.iret X E dX2_readInto_58 ⟨by rw [e9], by rw [e9]⟩ rfl
      · --
        refine Go.aload_n X 1 dX2_readInto_18 rfl ?_
        refine Go.aload_n X 2 dX2_readInto_19 rfl ?_
        refine Go.callV0i X (c_readStatement g _ _ z le x y w _ _ _ _ D (by first | omega | (split <;> omega)) (by first | omega | (split <;> omega)) (by first | omega | (split <;> omega)) (by first | omega | (split <;> omega)) (by first | omega | (split <;> omega)) (by exact hD)) cal_X2_readStatement gX2_readInto_X2_readStatement (ci := 2) (q0 := 0) rfl rfl rfl rfl rfl dX2_readInto_20 ?_
        have f20_3 := rdX_ok (le := le) hD (p := (x, y, w)) ⟨show x ≤ y by omega, show y ≤ z by omega, show w ≤ 4 by omega⟩
        have q8 := rdX_ok (le := le) hD (p := (x, y, w)) hp
        obtain ⟨q4, q5, q6⟩ := q8.2
        refine Go.if_neB X 28 dX2_readInto_23 (by decide) (fun h23 => ?_) (fun h23 => ?_)
        · --
          refine Go.aload_n X 1 dX2_readInto_28 rfl ?_
          refine Go.get X f_X2_readInto_29 0 (v := .int (nI ((rdX le z D (x, y, w)).2.2.2.2))) rfl rfl dX2_readInto_29 ?_
          refine Go.if_neN X 37 dX2_readInto_32 (by decide) (by first | omega | (split <;> omega)) (fun h32 => ?_) (fun h32 => ?_)
          · --
            refine Go.aload_n X 1 dX2_readInto_37 rfl ?_
            refine Go.get X f_X2_readInto_29 0 (v := .int (nI ((rdX le z D (x, y, w)).2.2.2.2))) rfl rfl dX2_readInto_38 ?_
            refine Go.iconst X (nI 3) dX2_readInto_41 k_ic_3 ?_
            refine Go.icmp_eqN X 47 dX2_readInto_42 (by decide) (by first | omega | (split <;> omega)) (by decide) (fun h42 => ?_) (fun h42 => ?_)
            · --
              refine Go.aload_n X 1 dX2_readInto_47 rfl ?_
              refine Go.callVvw X (c_step g a q z le ((rdX le z D (x, y, w)).2.2.1) ((rdX le z D (x, y, w)).2.2.2.1) ((rdX le z D (x, y, w)).2.2.2.2) (by first | omega | (split <;> omega)) (by first | omega | (split <;> omega)) (by first | omega | (split <;> omega))) cal_X2_step [0, 1] rfl rfl gX2_readInto_X2_step (ci := 2) (q0 := 0) rfl rfl rfl rfl rfl dX2_readInto_48 (M9 := tsW g a q z le b rw rk rr ((rdX le z D (x, y, w)).2.1, skp le z ((rdX le z D (x, y, w)).2.2.2.1), tkE le z ((rdX le z D (x, y, w)).2.2.2.1), tkK le z ((rdX le z D (x, y, w)).2.2.2.1))) rfl ?_
              have f48_4 := st_le (le := le) (z := z) (e := ((rdX le z D (x, y, w)).2.2.2.1)) (by omega)
              have f48_5 := tkK_le le z ((rdX le z D (x, y, w)).2.2.2.1)
              refine Go.iinc_0 X (nI (n + 1)) dX2_readInto_51 (by decide) rfl (show nI n + Int32.ofInt 1 = nI (n + 1) from nI_add _ 1) ?_
              refine Go.goto X 11 dX2_readInto_54 (by decide) ?_
              refine Go.conv (M1 := tsW g a q z le b rw rk rr (((rdX le z D (x, y, w)).2.1), (skp le z (rdX le z D (x, y, w)).2.2.2.1), (tkE le z (rdX le z D (x, y, w)).2.2.2.1), (tkK le z (rdX le z D (x, y, w)).2.2.2.1))) ?_ (by rfl) rfl rfl
              exact ih11 (n + 1) ((rdX le z D (x, y, w)).2.1) (skp le z (rdX le z D (x, y, w)).2.2.2.1) (tkE le z (rdX le z D (x, y, w)).2.2.2.1) (tkK le z (rdX le z D (x, y, w)).2.2.2.1) (by first | omega | (split <;> omega)) (by first | omega | (split <;> omega)) (by exact q8.1) (by omega) (by rw [← hh, rtF_s (p := (x, y, w)) (by omega) h23 h32 h42]; rfl) (by first | omega | (split <;> omega))
            · --
              refine Go.iconst X ((-1 : Int32)) dX2_readInto_45 k_ic_m1 ?_
              have e9 : rtT le z S = ((-1), ((rdX le z D (x, y, w)).2.1, (rdX le z D (x, y, w)).2.2.1, (rdX le z D (x, y, w)).2.2.2.1, (rdX le z D (x, y, w)).2.2.2.2)) := by exact hh.symm.trans (rtF_n (p := (x, y, w)) (by omega) h23 h32 h42)
              exact Go.iret X E dX2_readInto_46 ⟨by rw [e9], by rw [e9]⟩ rfl
          · --
            refine Go.iload_n X 0 dX2_readInto_35 rfl ?_
            have e9 : rtT le z S = ((nI n), ((rdX le z D (x, y, w)).2.1, (rdX le z D (x, y, w)).2.2.1, (rdX le z D (x, y, w)).2.2.2.1, (rdX le z D (x, y, w)).2.2.2.2)) := by exact hh.symm.trans (rtF_e (p := (x, y, w)) (by omega) h23 h32)
            exact Go.iret X E dX2_readInto_36 ⟨by rw [e9], by rw [e9]⟩ rfl
        · --
          refine Go.iconst X ((-1 : Int32)) dX2_readInto_26 k_ic_m1 ?_
          have e9 : rtT le z S = ((-1), ((rdX le z D (x, y, w)).2.1, (rdX le z D (x, y, w)).2.2.1, (rdX le z D (x, y, w)).2.2.2.1, (rdX le z D (x, y, w)).2.2.2.2)) := by exact hh.symm.trans (rtF_f (p := (x, y, w)) (by omega) h23)
          exact Go.iret X E dX2_readInto_27 ⟨by rw [e9], by rw [e9]⟩ rfl
  refine Go.conv (M1 := tsW g a q z le b rw rk rr (S, (skp le z 0), (tkE le z 0), (tkK le z 0))) ?_ (by rfl) rfl rfl
  exact L11 (251 - 1 + 1) 1 S (skp le z 0) (tkE le z 0) (tkK le z 0) (by first | omega | (split <;> omega)) (by first | omega | (split <;> omega)) (by exact hS) (by omega) (by rfl) (Nat.lt_succ_self _)
set_option maxHeartbeats 4000000 in
set_option maxRecDepth 100000 in
theorem b_school (g : gT) (ad : Nat → Nat) (N : Sch) (K : Sch) (b : Bool) (z : Nat) (le : Nat → Nat) (rf : Nat → Int32) (hd : Nat → Int32) (ln : Nat → Nat) (vl : Nat → Nat → Int64) (T : Sch) (ts : Nat) (te : Nat) (tk : Nat) (br : Nat → Nat) (hN : sOk N) (hz : z ≤ 250) (hl : ∀ i, i < 250 → le i < 256) : Ct g yX3_school wsX3_school 7 150 [.ref (ad 0)] (bxW g ad (N, K, b, z, le, rf, hd, ln, vl) (T, ts, te, tk, br)) (fun v9 w9 => v9 = (some (.int (x_school (N, K, b, z, le, rf, hd, ln, vl)).2)) ∧ ∃ J9, w9 = bxW g ad (x_school (N, K, b, z, le, rf, hd, ln, vl)).1 J9) := by
  refine Ct.start (cc := cX3_school) (nL := 2) (ret := (some .int)) (own := RX3) (by decide) rfl rfl rfl ?_
  intro Γ X E
  show Go Γ g 2 (rmC 7 150) 0 0 (bxW g ad (N, K, b, z, le, rf, hd, ln, vl) (T, ts, te, tk, br)) 0 [(0, .ref (ad 0))] []
  obtain ⟨o1, o2, o3, o4, o5, o6, o7, o8⟩ := id hN
  have o9 := p2_9 o2
  have o10 := sA_512 hN
  refine Go.aload_n X 0 dX3_school_0 rfl ?_
  refine Go.get X f_X3_school_16 0 (v := .ref (ad 5)) rfl rfl dX3_school_1 ?_
  refine Go.aload_n X 0 dX3_school_4 rfl ?_
  refine Go.get X f_X3_school_10 0 (v := .ref (ad 1)) rfl rfl dX3_school_5 ?_
  refine Go.callVvw X (c_become g (ad 5) (ad 6) (ad 7) (ad 8) T (ad 1) (ad 2) (ad 3) (ad 4) N) cal_X0_become [5, 6, 7, 8, 1, 2, 3, 4] rfl rfl gX3_school_X0_become (ci := 0) (q0 := 5) rfl rfl rfl rfl rfl dX3_school_8 (M9 := bxW g ad (N, K, b, z, le, rf, hd, ln, vl) (N, ts, te, tk, br)) rfl ?_
  refine Go.aload_n X 0 dX3_school_11 rfl ?_
  refine Go.get X f_X3_school_25 0 (v := .ref (ad 13)) rfl rfl dX3_school_12 ?_
  refine Go.aload_n X 0 dX3_school_15 rfl ?_
  refine Go.get X f_X3_school_16 0 (v := .ref (ad 5)) rfl rfl dX3_school_16 ?_
  refine Go.callViw X (c_readInto g (ad 13) (ad 14) z le ts te tk (ad 5) (ad 6) (ad 7) (ad 8) N (by first | omega | (split <;> omega)) (by first | omega | (split <;> omega)) (by exact hN)) cal_X2_readInto [13, 14, 5, 6, 7, 8] rfl rfl gX3_school_X2_readInto (ci := 2) (q0 := 13) rfl rfl rfl rfl rfl dX3_school_19 (M9 := bxW g ad (N, K, b, z, le, rf, hd, ln, vl) ((rtT le z N).2.1, (rtT le z N).2.2.1, (rtT le z N).2.2.2.1, (rtT le z N).2.2.2.2, br)) rfl ?_
  refine Go.istore_n_new X dX3_school_22 (by decide) rfl ?_
  refine Go.aload_n X 1 dX3_school_23 rfl ?_
  refine Go.get X f_X3_school_25 0 (v := .ref (ad 13)) rfl rfl dX3_school_24 ?_
  refine Go.iconst X (nI 0) dX3_school_27 k_ic_0 ?_
  refine Go.putM X f_X3_school_173 fp_2_1 13 (bxW g ad (N, K, b, 0, le, rf, hd, ln, vl) ((rtT le z N).2.1, (rtT le z N).2.2.1, (rtT le z N).2.2.2.1, (rtT le z N).2.2.2.2, br)) rfl rfl rfl rfl dX3_school_28 rfl ?_
  refine Go.iload_n X 0 dX3_school_31 rfl ?_
  refine Go.iconst X ((-1 : Int32)) dX3_school_32 k_ic_m1 ?_
  refine Go.icmp_ne X 54 dX3_school_33 (by decide) (fun h33 => ?_) (fun h33 => ?_)
  · --
    refine Go.aload_n X 1 dX3_school_54 rfl ?_
    refine Go.get X f_X3_school_10 0 (v := .ref (ad 1)) rfl rfl dX3_school_55 ?_
    refine Go.aload_n X 1 dX3_school_58 rfl ?_
    refine Go.get X f_X3_school_16 0 (v := .ref (ad 5)) rfl rfl dX3_school_59 ?_
    refine Go.callVvw X (c_become g (ad 1) (ad 2) (ad 3) (ad 4) N (ad 5) (ad 6) (ad 7) (ad 8) ((rtT le z N).2.1)) cal_X0_become [1, 2, 3, 4, 5, 6, 7, 8] rfl rfl gX3_school_X0_become (ci := 0) (q0 := 1) rfl rfl rfl rfl rfl dX3_school_62 (M9 := bxW g ad (((rtT le z N).2.1), K, b, 0, le, rf, hd, ln, vl) ((rtT le z N).2.1, (rtT le z N).2.2.1, (rtT le z N).2.2.2.1, (rtT le z N).2.2.2.2, br)) rfl ?_
    refine Go.iload_n X 0 dX3_school_65 rfl ?_
    have e9 : x_school (N, K, b, z, le, rf, hd, ln, vl) = ((((rtT le z N).2.1), K, b, 0, le, rf, hd, ln, vl), ((rtT le z N).1)) := by simp [x_school, h33, rfS]
    exact Go.iret X E dX3_school_66 ⟨by rw [e9], _, by rw [e9]⟩ rfl
  · --
    refine Go.aload_n X 1 dX3_school_36 rfl ?_
    refine Go.bipush X ((-2 : Int32)) dX3_school_37 k_bp_m2 ?_
    refine Go.callV0i X (c_refuse_0 g ad N K b 0 le rf hd ln vl ((rtT le z N).2.1) ((rtT le z N).2.2.1) ((rtT le z N).2.2.2.1) ((rtT le z N).2.2.2.2) br) cal_X3_refuse gX3_school_X3_refuse (ci := 3) (q0 := 0) rfl rfl rfl rfl rfl dX3_school_39 ?_
    refine Go.pop X dX3_school_42 rfl ?_
    refine Go.bipush X ((-20 : Int32)) dX3_school_43 k_bp_m20 ?_
    refine Go.aload_n X 1 dX3_school_45 rfl ?_
    refine Go.get X f_X3_school_25 0 (v := .ref (ad 13)) rfl rfl dX3_school_46 ?_
    refine Go.get X f_X3_school_183 13 (v := .int (nI ((rtT le z N).2.2.1))) rfl rfl dX3_school_49 ?_
    refine Go.isub_e X ((-20) - (nI ((rtT le z N).2.2.1))) dX3_school_52 rfl ?_
    have e9 : x_school (N, K, b, z, le, rf, hd, ln, vl) = ((N, K, b, 0, le, inc rf 0, hd, ln, vl), ((-20) - (nI ((rtT le z N).2.2.1)))) := by simp [x_school, h33, rfS]
    exact Go.iret X E dX3_school_53 ⟨by rw [e9], _, by rw [e9]⟩ rfl
