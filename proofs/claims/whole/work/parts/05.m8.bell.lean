/-! 05.m8.bell -/
theorem f_X3_book_31 : FL wsX3_book RX3 31 3 5 := ⟨RX3, TX3, 8, rfl, fun _ h => List.mem_cons_of_mem _ (List.mem_append_left _ (List.mem_append_left _ (List.mem_append_right _ h))), by decide, List.mem_of_getElem? (i := 1) (by decide +kernel)⟩
theorem cal_X3_areWagers : Cal yX3_areWagers wsX3_areWagers cX3_areWagers 6 (some .boolean) RX3 2 := ⟨⟨_, rfl⟩, by decide +kernel⟩
theorem f_X3_book_10 : FL wsX3_book RX3 10 3 0 := ⟨RX3, TX3, 8, rfl, fun _ h => List.mem_cons_of_mem _ (List.mem_append_left _ (List.mem_append_left _ (List.mem_append_right _ h))), by decide, List.mem_of_getElem? (i := 2) (by decide +kernel)⟩
theorem f_X3_book_135 : FL wsX3_book RX3 135 0 1 := ⟨RX0, TX0, 11, rfl, fun _ h => List.mem_cons_of_mem _ (List.mem_append_left _ (List.mem_append_right _ h)), by decide, List.mem_of_getElem? (i := 3) (by decide +kernel)⟩
theorem f_X3_book_84 : FL wsX3_book RX3 84 1 2 := ⟨RX1, TX1, 3, rfl, fun _ h => List.mem_cons_of_mem _ (List.mem_append_right _ h), by decide, List.mem_of_getElem? (i := 4) (by decide +kernel)⟩
theorem f_X3_copy_31 : FL wsX3_copy RX3 31 3 5 := ⟨RX3, TX3, 8, rfl, fun _ h => List.mem_cons_of_mem _ (List.mem_append_left _ (List.mem_append_right _ h)), by decide, List.mem_of_getElem? (i := 1) (by decide +kernel)⟩
theorem f_X3_copy_76 : FL wsX3_copy RX3 76 1 0 := ⟨RX1, TX1, 3, rfl, fun _ h => List.mem_cons_of_mem _ (List.mem_append_right _ h), by decide, List.mem_of_getElem? (i := 2) (by decide +kernel)⟩
theorem f_X3_copy_84 : FL wsX3_copy RX3 84 1 2 := ⟨RX1, TX1, 3, rfl, fun _ h => List.mem_cons_of_mem _ (List.mem_append_right _ h), by decide, List.mem_of_getElem? (i := 3) (by decide +kernel)⟩
theorem k_bp_100 : (Int8.ofInt (100)).toInt32 = nI 100 := by decide
set_option maxHeartbeats 4000000 in
set_option maxRecDepth 100000 in
theorem b_book (g : gT) (ad : Nat → Nat) (N : Sch) (K : Sch) (b : Bool) (z : Nat) (le : Nat → Nat) (rf : Nat → Int32) (hd : Nat → Int32) (ln : Nat → Nat) (vl : Nat → Nat → Int64) (T : Sch) (ts : Nat) (te : Nat) (tk : Nat) (br : Nat → Nat) (s : Int32) (n : Int32) (hN : sOk N) (hl : ∀ s, s < 8 → ln s ≤ 40) : Ct g yX3_book wsX3_book 3 67 [.ref (ad 0), .int s, .int n] (bxW g ad (N, K, b, z, le, rf, hd, ln, vl) (T, ts, te, tk, br)) (fun v9 w9 => v9 = (some (.int (x_book (N, K, b, z, le, rf, hd, ln, vl) s n).2)) ∧ ∃ J9, w9 = bxW g ad (x_book (N, K, b, z, le, rf, hd, ln, vl) s n).1 J9) := by
  refine Ct.start (cc := cX3_book) (nL := 8) (ret := (some .int)) (own := RX3) (by decide) rfl rfl rfl ?_
  intro Γ X E
  show Go Γ g 8 (rmC 3 67) 0 0 (bxW g ad (N, K, b, z, le, rf, hd, ln, vl) (T, ts, te, tk, br)) 0 [(0, .ref (ad 0)), (1, .int s), (2, .int n)] []
  obtain ⟨o1, o2, o3, o4, o5, o6, o7, o8⟩ := id hN
  have o9 := p2_9 o2
  have o10 := sA_512 hN
  refine Go.iload_n X 2 dX3_book_0 rfl ?_
  refine Go.iconst X (nI 0) dX3_book_1 k_ic_0 ?_
  refine Go.iconst X (nI 5) dX3_book_2 k_ic_5 ?_
  refine Go.callSi X  (c_within_5 g n) cal_X3_isWithin [] rfl rfl gX3_book_X3_isWithin rfl rfl rfl dX3_book_3 ?_
  refine Go.if_neB X 16 dX3_book_6 (by decide) (fun h6 => ?_) (fun h6 => ?_)
  · --
    obtain ⟨nk, hnk, rfl⟩ := inb_at (by first | omega | (split <;> omega)) h6
    refine Go.aload_n X 0 dX3_book_16 rfl ?_
    refine Go.iload_n X 1 dX3_book_17 rfl ?_
    refine Go.callV0i X (c_rowRefusal g ad N K b z le rf hd ln vl T ts te tk br s) cal_X3_rowRefusal gX3_book_X3_rowRefusal (ci := 3) (q0 := 0) rfl rfl rfl rfl rfl dX3_book_18 ?_
    rcases rr_c hd s with ⟨q1, q9⟩ | ⟨sk, hsk, rfl, q0, q1, q9⟩ | ⟨sk, hsk, rfl, q0, q1, q2, q9⟩ | ⟨sk, hsk, rfl, q0, q1, q2, q9⟩
    · --
      refine Go.top (w := .int (-2)) (by rw [q9]) ?_
      refine Go.istore_n_new X dX3_book_21 (by decide) rfl ?_
      refine Go.iload_n X 0 dX3_book_22 rfl ?_
      refine Go.if_eq X 32 dX3_book_23 (by decide) (fun h => absurd h (by decide)) (fun _ => ?_)
      refine Go.aload_n X 1 dX3_book_26 rfl ?_
      refine Go.iload_n X 0 dX3_book_27 rfl ?_
      refine Go.callV0i X (c_refuseFar_0 g ad N K b z le rf hd ln vl T ts te tk br) cal_X3_refuseFarBelow gX3_book_X3_refuseFarBelow (ci := 3) (q0 := 0) rfl rfl rfl rfl rfl dX3_book_28 ?_
      have e9 : x_book (N, K, b, z, le, rf, hd, ln, vl) s (nI nk) = ((N, K, b, z, le, inc rf 0, hd, ln, vl), (-10000002)) := by simp (decide := true) [x_book, rfS, upS_id, h6, q1, nI_clamp (show nk < 2 ^ 31 by omega)]
      exact Go.iret X E dX3_book_31 ⟨by rw [e9], _, by rw [e9]⟩ rfl
    · --
      refine Go.top (w := .int (-3)) (by rw [q9]) ?_
      refine Go.istore_n_new X dX3_book_21 (by decide) rfl ?_
      refine Go.iload_n X 0 dX3_book_22 rfl ?_
      refine Go.if_eq X 32 dX3_book_23 (by decide) (fun h => absurd h (by decide)) (fun _ => ?_)
      refine Go.aload_n X 1 dX3_book_26 rfl ?_
      refine Go.iload_n X 0 dX3_book_27 rfl ?_
      refine Go.callV0i X (c_refuseFar_1 g ad N K b z le rf hd ln vl T ts te tk br) cal_X3_refuseFarBelow gX3_book_X3_refuseFarBelow (ci := 3) (q0 := 0) rfl rfl rfl rfl rfl dX3_book_28 ?_
      have e9 : x_book (N, K, b, z, le, rf, hd, ln, vl) (nI sk) (nI nk) = ((N, K, b, z, le, inc rf 1, hd, ln, vl), (-10000003)) := by simp (decide := true) [x_book, rfS, upS_id, h6, q0, q1, nI_clamp (show nk < 2 ^ 31 by omega), nI_clamp (show sk < 2 ^ 31 by omega)]
      exact Go.iret X E dX3_book_31 ⟨by rw [e9], _, by rw [e9]⟩ rfl
    · --
      refine Go.top (w := .int (nI 0)) (by rw [q9]) ?_
      refine Go.istore_n_new X dX3_book_21 (by decide) rfl ?_
      refine Go.iload_n X 0 dX3_book_22 rfl ?_
      refine Go.if_eq X 32 dX3_book_23 (by decide) (fun _ => ?_) (fun h => absurd (by decide) h)
      refine Go.aload_n X 1 dX3_book_32 rfl ?_
      refine Go.aload_n X 1 dX3_book_33 rfl ?_
      refine Go.get X f_X3_book_31 0 (v := .ref (ad 15)) rfl rfl dX3_book_34 ?_
      refine Go.iload_n X 2 dX3_book_37 rfl ?_
      refine Go.aald X 15 (x := ad (18 + 2 * sk)) rfl (vp_in_nI (by first | omega | (split <;> omega)) (by decide)) (by rw [nI_clamp (by first | omega | (split <;> omega))]) dX3_book_38 ?_
      refine Go.iload_n X 3 dX3_book_39 rfl ?_
      refine Go.callV0i X (c_areWagers g ad N K b z le rf hd ln vl T ts te tk br sk nk (by exact hN) (by exact hl) (by first | omega | (split <;> omega)) (by first | omega | (split <;> omega))) cal_X3_areWagers gX3_book_X3_areWagers (ci := 3) (q0 := 0) rfl rfl rfl rfl rfl dX3_book_40 ?_
      refine Go.if_neB X 53 dX3_book_43 (by decide) (fun h43 => ?_) (fun h43 => ?_)
      · --
        refine Go.aload_n X 1 dX3_book_53 rfl ?_
        refine Go.get X f_X3_book_10 0 (v := .ref (ad 1)) rfl rfl dX3_book_54 ?_
        refine Go.aload_n X 1 dX3_book_57 rfl ?_
        refine Go.get X f_X3_book_10 0 (v := .ref (ad 1)) rfl rfl dX3_book_58 ?_
        refine Go.get X f_X3_book_135 1 (v := .int (nI (sA N))) rfl rfl dX3_book_61 ?_
        refine Go.callVi X  (c_weightsOf g (ad 1) (ad 2) (ad 3) (ad 4) N (sA N) (by exact hN) (by first | omega | (split <;> omega))) cal_X0_weightsOf [1, 2, 3, 4] rfl rfl gX3_book_X0_weightsOf (ci := 0) (q0 := 1) rfl rfl rfl rfl rfl dX3_book_64 ?_
        have f64_1 := wsum_81 hN (sA N)
        refine Go.istore_new X dX3_book_67 (by decide) rfl ?_
        refine Go.iload X 0 dX3_book_69 rfl ?_
        refine Go.if_neN X 81 dX3_book_71 (by decide) (by first | omega | (split <;> omega)) (fun h71 => ?_) (fun h71 => ?_)
        · --
          have q5 : allB (fun j => wagP N (vl sk j)) nk = true := by simp only [Bool.and_eq_true] at h43; exact h43.2
          refine Go.iconst X (nI 0) dX3_book_81 k_ic_0 ?_
          refine Go.istore_new X dX3_book_82 (by decide) rfl ?_
          refine Go.iconst X (nI 0) dX3_book_84 k_ic_0 ?_
          refine Go.istore_new X dX3_book_85 (by decide) rfl ?_
          have L87 : ∀ (f87 : Nat) (k : Nat) (hk : k ≤ nk) (hf87 : nk - k < f87), Go Γ g 8 (rmC 3 67) 0 0 (bxW g ad (N, K, b, z, le, rf, hd, ln, vl) (T, ts, te, tk, br)) 87 [(6, .int (nI k)), (5, .int (bkS N (vl sk) k)), (4, .int (nI (wsum (sW N) (sA N) (sN N)))), (3, .int (nI 0)), (0, .ref (ad 0)), (1, .int (nI sk)), (2, .int (nI nk))] [] := by
            intro f87
            induction f87 with
            | zero => intro k hk hf87; exact absurd hf87 (Nat.not_lt_zero _)
            | succ f87 ih87 =>
              intro k hk hf87
              refine Go.iload X 0 dX3_book_87 rfl ?_
              refine Go.iload_n X 6 dX3_book_89 rfl ?_
              refine Go.icmp_geN X 141 dX3_book_90 (by decide) (by first | omega | (split <;> omega)) (by first | omega | (split <;> omega)) (fun h90 => ?_) (fun h90 => ?_)
              · --
                refine Go.lv_1 (w := .int (bkS N (vl sk) nk)) (by rw [show k = nk by omega]) ?_
                refine Go.iload X 1 dX3_book_141 rfl ?_
                have e9 : x_book (N, K, b, z, le, rf, hd, ln, vl) (nI sk) (nI nk) = ((N, K, b, z, le, rf, hd, ln, vl), (bkS N (vl sk) nk)) := by simp only [x_book, rfS, q0, q1, q2, h6, h43, if_true, if_false, nI_clamp (show sk < 2 ^ 31 by omega), nI_clamp (show nk < 2 ^ 31 by omega)]; simp [h71, rfS]
                exact Go.iret X E dX3_book_143 ⟨by rw [e9], _, by rw [e9]⟩ rfl
              · --
                refine Go.aload_n X 4 dX3_book_93 rfl ?_
                refine Go.get X f_X3_book_31 0 (v := .ref (ad 15)) rfl rfl dX3_book_94 ?_
                refine Go.iload_n X 5 dX3_book_97 rfl ?_
                refine Go.aald X 15 (x := ad (18 + 2 * sk)) rfl (vp_in_nI (by first | omega | (split <;> omega)) (by decide)) (by rw [nI_clamp (by first | omega | (split <;> omega))]) dX3_book_98 ?_
                refine Go.get X f_X3_book_84 (18 + 2 * sk) (v := .ref (ad (19 + 2 * sk))) (bx_sh g ad _ _ (by first | omega | (split <;> omega))) rfl dX3_book_99 ?_
                refine Go.iload X 0 dX3_book_102 rfl ?_
                refine Go.laldF X (19 + 2 * sk) (f := vl sk) (bx_va g ad _ _ (by first | omega | (split <;> omega))) (by first | omega | (split <;> omega)) rfl dX3_book_104 ?_
                refine Go.l2i X (((vl sk) k).toInt32) dX3_book_105 rfl ?_
                obtain ⟨w1, w2, w3, w4, w5⟩ := wag_at o2 (allB_at q5 h90)
                refine Go.top (w := .int (nI (tI (vl sk k)))) (by rw [w1]) ?_
                refine Go.istore_new X dX3_book_106 (by decide) rfl ?_
                refine Go.iload X 2 dX3_book_108 rfl ?_
                refine Go.aload_n X 5 dX3_book_110 rfl ?_
                refine Go.get X f_X3_book_10 0 (v := .ref (ad 1)) rfl rfl dX3_book_111 ?_
                refine Go.iload X 0 dX3_book_114 rfl ?_
                refine Go.bipush X (nI 100) dX3_book_116 k_bp_100 ?_
                refine Go.idiv_e X (nI ((tI (vl sk k)) / 100)) dX3_book_118 (nI_ne0 (by first | omega | (split <;> omega)) (by first | omega | (split <;> omega))) (pk_div (by first | omega | (split <;> omega)) (by first | omega | (split <;> omega)) (by first | omega | (split <;> omega))) ?_
                refine Go.callVi X  (c_lotsOf g (ad 1) (ad 2) (ad 3) (ad 4) N ((tI (vl sk k)) / 100) (by exact hN) (by first | omega | (split <;> omega))) cal_X0_lotsOf [1, 2, 3, 4] rfl rfl gX3_book_X0_lotsOf (ci := 0) (q0 := 1) rfl rfl rfl rfl rfl dX3_book_119 ?_
                have f119_2 := lotN_le hN (show ((tI (vl sk k)) / 100) < 9 by omega)
                refine Go.iload X 0 dX3_book_122 rfl ?_
                refine Go.bipush X (nI 100) dX3_book_124 k_bp_100 ?_
                refine Go.irem_e X (nI ((tI (vl sk k)) % 100)) dX3_book_126 (nI_ne0 (by first | omega | (split <;> omega)) (by first | omega | (split <;> omega))) (pk_rem (by first | omega | (split <;> omega)) (by first | omega | (split <;> omega)) (by first | omega | (split <;> omega))) ?_
                refine Go.iload X 3 dX3_book_127 rfl ?_
                have o11 : lotN N (tI (vl sk k) / 100) * (tI (vl sk k) % 100) ≤ 9 * 40 := Nat.mul_le_mul (lotN_le hN (by omega)) w4
                refine Go.callSi X  (c_wagered g (lotN N ((tI (vl sk k)) / 100)) ((tI (vl sk k)) % 100) (wsum (sW N) (sA N) (sN N)) (by first | omega | (split <;> omega)) (by first | omega | (split <;> omega)) (by first | omega | (split <;> omega))) cal_X3_wagered [] rfl rfl gX3_book_X3_wagered rfl rfl rfl dX3_book_129 ?_
                refine Go.iadd_e X ((bkS N (vl sk) k) + (wgr (lotN N ((tI (vl sk k)) / 100)) ((tI (vl sk k)) % 100) (wsum (sW N) (sA N) (sN N)))) dX3_book_132 rfl ?_
                refine Go.istore_2 X dX3_book_133 (by decide) rfl ?_
                refine Go.iinc_1 X (nI (k + 1)) dX3_book_135 (by decide) rfl (show nI k + Int32.ofInt 1 = nI (k + 1) from nI_add _ 1) ?_
                refine Go.goto X 87 dX3_book_138 (by decide) ?_
                refine Go.lv_2 (congrArg Value.int (show (bkS N (vl sk) k) + (wgr (lotN N ((tI (vl sk k)) / 100)) ((tI (vl sk k)) % 100) (wsum (sW N) (sA N) (sN N))) = bkS N (vl sk) (k + 1) from by rfl)) ?_
                refine Go.sub [1, 2, 3, 4, 5, 6, 7] rfl ?_
                exact ih87 (k + 1) (by first | omega | (split <;> omega)) (by first | omega | (split <;> omega))
          refine Go.lv_1 (show (.int (nI 0) : Value) = .int (bkS N (vl sk) 0) from by rfl) ?_
          exact L87 (nk - 0 + 1) 0 (by first | omega | (split <;> omega)) (Nat.lt_succ_self _)
        · --
          refine Go.aload_n X 2 dX3_book_74 rfl ?_
          refine Go.bipush X ((-5 : Int32)) dX3_book_75 k_bp_m5 ?_
          refine Go.callV0i X (c_refuseFar_3 g ad N K b z le rf hd ln vl T ts te tk br) cal_X3_refuseFarBelow gX3_book_X3_refuseFarBelow (ci := 3) (q0 := 0) rfl rfl rfl rfl rfl dX3_book_77 ?_
          have e9 : x_book (N, K, b, z, le, rf, hd, ln, vl) (nI sk) (nI nk) = ((N, K, b, z, le, inc rf 3, hd, ln, vl), (-10000005)) := by simp only [x_book, rfS, q0, q1, q2, h6, h43, if_true, if_false, nI_clamp (show sk < 2 ^ 31 by omega), nI_clamp (show nk < 2 ^ 31 by omega)]; simp [h71, rfS]
          exact Go.iret X E dX3_book_80 ⟨by rw [e9], _, by rw [e9]⟩ rfl
      · --
        refine Go.aload_n X 1 dX3_book_46 rfl ?_
        refine Go.bipush X ((-2 : Int32)) dX3_book_47 k_bp_m2 ?_
        refine Go.callV0i X (c_refuseFar_0 g ad N K b z le rf hd ln vl T ts te tk br) cal_X3_refuseFarBelow gX3_book_X3_refuseFarBelow (ci := 3) (q0 := 0) rfl rfl rfl rfl rfl dX3_book_49 ?_
        have e9 : x_book (N, K, b, z, le, rf, hd, ln, vl) (nI sk) (nI nk) = ((N, K, b, z, le, inc rf 0, hd, ln, vl), (-10000002)) := by simp (decide := true) [x_book, rfS, upS_id, h6, q0, q1, q2, h43, nI_clamp (show nk < 2 ^ 31 by omega), nI_clamp (show sk < 2 ^ 31 by omega)]
        exact Go.iret X E dX3_book_52 ⟨by rw [e9], _, by rw [e9]⟩ rfl
    · --
      refine Go.top (w := .int (-4)) (by rw [q9]) ?_
      refine Go.istore_n_new X dX3_book_21 (by decide) rfl ?_
      refine Go.iload_n X 0 dX3_book_22 rfl ?_
      refine Go.if_eq X 32 dX3_book_23 (by decide) (fun h => absurd h (by decide)) (fun _ => ?_)
      refine Go.aload_n X 1 dX3_book_26 rfl ?_
      refine Go.iload_n X 0 dX3_book_27 rfl ?_
      refine Go.callV0i X (c_refuseFar_2 g ad N K b z le rf hd ln vl T ts te tk br) cal_X3_refuseFarBelow gX3_book_X3_refuseFarBelow (ci := 3) (q0 := 0) rfl rfl rfl rfl rfl dX3_book_28 ?_
      have e9 : x_book (N, K, b, z, le, rf, hd, ln, vl) (nI sk) (nI nk) = ((N, K, b, z, le, inc rf 2, hd, ln, vl), (-10000004)) := by simp (decide := true) [x_book, rfS, upS_id, h6, q0, q1, q2, nI_clamp (show nk < 2 ^ 31 by omega), nI_clamp (show sk < 2 ^ 31 by omega)]
      exact Go.iret X E dX3_book_31 ⟨by rw [e9], _, by rw [e9]⟩ rfl
  · --
    refine Go.aload_n X 0 dX3_book_9 rfl ?_
    refine Go.bipush X ((-2 : Int32)) dX3_book_10 k_bp_m2 ?_
    refine Go.callV0i X (c_refuseFar_0 g ad N K b z le rf hd ln vl T ts te tk br) cal_X3_refuseFarBelow gX3_book_X3_refuseFarBelow (ci := 3) (q0 := 0) rfl rfl rfl rfl rfl dX3_book_12 ?_
    have e9 : x_book (N, K, b, z, le, rf, hd, ln, vl) s n = ((N, K, b, z, le, inc rf 0, hd, ln, vl), (-10000002)) := by simp (decide := true) [x_book, rfS, upS_id, h6]
    exact Go.iret X E dX3_book_15 ⟨by rw [e9], _, by rw [e9]⟩ rfl
set_option maxHeartbeats 4000000 in
set_option maxRecDepth 100000 in
theorem b_copy (g : gT) (ad : Nat → Nat) (N : Sch) (K : Sch) (b : Bool) (z : Nat) (le : Nat → Nat) (rf : Nat → Int32) (hd : Nat → Int32) (ln : Nat → Nat) (vl : Nat → Nat → Int64) (T : Sch) (ts : Nat) (te : Nat) (tk : Nat) (br : Nat → Nat) (p : Int32) (q : Int32) (i : Int32) (j : Int32) (n : Int32) (hl : ∀ s, s < 8 → ln s ≤ 40) : Ct g yX3_copy wsX3_copy 2 60 [.ref (ad 0), .int p, .int q, .int i, .int j, .int n] (bxW g ad (N, K, b, z, le, rf, hd, ln, vl) (T, ts, te, tk, br)) (fun v9 w9 => v9 = (some (.int (x_copy (N, K, b, z, le, rf, hd, ln, vl) p q i j n).2)) ∧ ∃ J9, w9 = bxW g ad (x_copy (N, K, b, z, le, rf, hd, ln, vl) p q i j n).1 J9) := by
  refine Ct.start (cc := cX3_copy) (nL := 8) (ret := (some .int)) (own := RX3) (by decide) rfl rfl rfl ?_
  intro Γ X E
  show Go Γ g 8 (rmC 2 60) 0 0 (bxW g ad (N, K, b, z, le, rf, hd, ln, vl) (T, ts, te, tk, br)) 0 [(0, .ref (ad 0)), (1, .int p), (2, .int q), (3, .int i), (4, .int j), (5, .int n)] []
  refine Go.iload_n X 1 dX3_copy_0 rfl ?_
  refine Go.callSi X  (c_isShelf g p) cal_X3_isShelf [] rfl rfl gX3_copy_X3_isShelf rfl rfl rfl dX3_copy_1 ?_
  refine Go.if_eqB X 14 dX3_copy_4 (by decide) (fun h4 => ?_) (fun h4 => ?_)
  · --
    refine Go.aload_n X 0 dX3_copy_14 rfl ?_
    refine Go.bipush X ((-2 : Int32)) dX3_copy_15 k_bp_m2 ?_
    refine Go.callV0i X (c_refuse_0 g ad N K b z le rf hd ln vl T ts te tk br) cal_X3_refuse gX3_copy_X3_refuse (ci := 3) (q0 := 0) rfl rfl rfl rfl rfl dX3_copy_17 ?_
    have e9 : x_copy (N, K, b, z, le, rf, hd, ln, vl) p q i j n = ((N, K, b, z, le, inc rf 0, hd, ln, vl), (-2)) := by simp [x_copy, rfS, h4]
    exact Go.iret X E dX3_copy_20 ⟨by rw [e9], _, by rw [e9]⟩ rfl
  · --
    obtain ⟨pk, hpk, rfl⟩ := inb_at (by first | omega | (split <;> omega)) h4
    refine Go.iload_n X 2 dX3_copy_7 rfl ?_
    refine Go.callSi X  (c_isShelf g q) cal_X3_isShelf [] rfl rfl gX3_copy_X3_isShelf rfl rfl rfl dX3_copy_8 ?_
    refine Go.if_neB X 21 dX3_copy_11 (by decide) (fun h11 => ?_) (fun h11 => ?_)
    · --
      obtain ⟨qk, hqk, rfl⟩ := inb_at (by first | omega | (split <;> omega)) h11
      refine Go.aload_n X 0 dX3_copy_21 rfl ?_
      refine Go.get X f_X3_copy_31 0 (v := .ref (ad 15)) rfl rfl dX3_copy_22 ?_
      refine Go.iload_n X 1 dX3_copy_25 rfl ?_
      refine Go.aald X 15 (x := ad (18 + 2 * pk)) rfl (vp_in_nI (by first | omega | (split <;> omega)) (by decide)) (by rw [nI_clamp (by first | omega | (split <;> omega))]) dX3_copy_26 ?_
      refine Go.astore_new X dX3_copy_27 (by decide) rfl ?_
      refine Go.aload_n X 1 dX3_copy_29 rfl ?_
      refine Go.get X f_X3_copy_31 0 (v := .ref (ad 15)) rfl rfl dX3_copy_30 ?_
      refine Go.iload_n X 3 dX3_copy_33 rfl ?_
      refine Go.aald X 15 (x := ad (18 + 2 * qk)) rfl (vp_in_nI (by first | omega | (split <;> omega)) (by decide)) (by rw [nI_clamp (by first | omega | (split <;> omega))]) dX3_copy_34 ?_
      refine Go.astore_new X dX3_copy_35 (by decide) rfl ?_
      refine Go.aload X 1 dX3_copy_37 rfl ?_
      refine Go.callVi X  (c_holdsSomebody g (ad (18 + 2 * pk)) (ad (19 + 2 * pk)) (hd pk) (ln pk) (vl pk)) cal_X1_holdsSomebody [(18 + 2 * pk), (19 + 2 * pk)] (bx_pos g ad _ _ (by first | omega | (split <;> omega))) (bx_nd (by first | omega | (split <;> omega))) gX3_copy_X1_holdsSomebody (ci := 1) (q0 := (18 + 2 * pk)) rfl (bx_sh g ad _ _ (by first | omega | (split <;> omega))) rfl rfl rfl dX3_copy_39 ?_
      refine Go.if_neB X 53 dX3_copy_42 (by decide) (fun h42 => ?_) (fun h42 => ?_)
      · --
        refine Go.aload_n X 2 dX3_copy_53 rfl ?_
        refine Go.bipush X ((-3 : Int32)) dX3_copy_54 k_bp_m3 ?_
        refine Go.callV0i X (c_refuse_1 g ad N K b z le rf hd ln vl T ts te tk br) cal_X3_refuse gX3_copy_X3_refuse (ci := 3) (q0 := 0) rfl rfl rfl rfl rfl dX3_copy_56 ?_
        have e9 : x_copy (N, K, b, z, le, rf, hd, ln, vl) (nI pk) (nI qk) i j n = ((N, K, b, z, le, inc rf 1, hd, ln, vl), (-3)) := by simp [x_copy, rfS, h4, h11, (of_decide_eq_true h42), nI_clamp (show pk < 2 ^ 31 by omega), nI_clamp (show qk < 2 ^ 31 by omega)]
        exact Go.iret X E dX3_copy_59 ⟨by rw [e9], _, by rw [e9]⟩ rfl
      · --
        refine Go.aload X 0 dX3_copy_45 rfl ?_
        refine Go.callVi X  (c_holdsSomebody g (ad (18 + 2 * qk)) (ad (19 + 2 * qk)) (hd qk) (ln qk) (vl qk)) cal_X1_holdsSomebody [(18 + 2 * qk), (19 + 2 * qk)] (bx_pos g ad _ _ (by first | omega | (split <;> omega))) (bx_nd (by first | omega | (split <;> omega))) gX3_copy_X1_holdsSomebody (ci := 1) (q0 := (18 + 2 * qk)) rfl (bx_sh g ad _ _ (by first | omega | (split <;> omega))) rfl rfl rfl dX3_copy_47 ?_
        refine Go.if_eqB X 60 dX3_copy_50 (by decide) (fun h50 => ?_) (fun h50 => ?_)
        · --
          refine Go.aload X 1 dX3_copy_60 rfl ?_
          refine Go.callVi X  (c_holdsRow g (ad (18 + 2 * pk)) (ad (19 + 2 * pk)) (hd pk) (ln pk) (vl pk)) cal_X1_holdsRow [(18 + 2 * pk), (19 + 2 * pk)] (bx_pos g ad _ _ (by first | omega | (split <;> omega))) (bx_nd (by first | omega | (split <;> omega))) gX3_copy_X1_holdsRow (ci := 1) (q0 := (18 + 2 * pk)) rfl (bx_sh g ad _ _ (by first | omega | (split <;> omega))) rfl rfl rfl dX3_copy_62 ?_
          refine Go.if_eqB X 96 dX3_copy_65 (by decide) (fun h65 => ?_) (fun h65 => ?_)
          · --
            refine Go.aload X 1 dX3_copy_96 rfl ?_
            refine Go.callVi X  (c_holdsRow g (ad (18 + 2 * pk)) (ad (19 + 2 * pk)) (hd pk) (ln pk) (vl pk)) cal_X1_holdsRow [(18 + 2 * pk), (19 + 2 * pk)] (bx_pos g ad _ _ (by first | omega | (split <;> omega))) (bx_nd (by first | omega | (split <;> omega))) gX3_copy_X1_holdsRow (ci := 1) (q0 := (18 + 2 * pk)) rfl (bx_sh g ad _ _ (by first | omega | (split <;> omega))) rfl rfl rfl dX3_copy_98 ?_
            refine Go.if_eqB X 112 dX3_copy_101 (by decide) (fun h101 => ?_) (fun h101 => ?_)
            · --
              refine Go.aload_n X 2 dX3_copy_112 rfl ?_
              refine Go.bipush X ((-4 : Int32)) dX3_copy_113 k_bp_m4 ?_
              refine Go.callV0i X (c_refuse_2 g ad N K b z le rf hd ln vl T ts te tk br) cal_X3_refuse gX3_copy_X3_refuse (ci := 3) (q0 := 0) rfl rfl rfl rfl rfl dX3_copy_115 ?_
              have e9 : x_copy (N, K, b, z, le, rf, hd, ln, vl) (nI pk) (nI qk) i j n = ((N, K, b, z, le, inc rf 2, hd, ln, vl), (-4)) := by simp [x_copy, rfS, h4, h11, h65, h101, (of_decide_eq_false h42), (of_decide_eq_false h50), nI_clamp (show pk < 2 ^ 31 by omega), nI_clamp (show qk < 2 ^ 31 by omega)]
              exact Go.iret X E dX3_copy_118 ⟨by rw [e9], _, by rw [e9]⟩ rfl
            · --
              exact absurd (h65.symm.trans h101) (by decide)
          · --
            refine Go.aload X 0 dX3_copy_68 rfl ?_
            refine Go.callVi X  (c_holdsRow g (ad (18 + 2 * qk)) (ad (19 + 2 * qk)) (hd qk) (ln qk) (vl qk)) cal_X1_holdsRow [(18 + 2 * qk), (19 + 2 * qk)] (bx_pos g ad _ _ (by first | omega | (split <;> omega))) (bx_nd (by first | omega | (split <;> omega))) gX3_copy_X1_holdsRow (ci := 1) (q0 := (18 + 2 * qk)) rfl (bx_sh g ad _ _ (by first | omega | (split <;> omega))) rfl rfl rfl dX3_copy_70 ?_
            refine Go.if_eqB X 96 dX3_copy_73 (by decide) (fun h73 => ?_) (fun h73 => ?_)
            · --
              refine Go.aload X 1 dX3_copy_96 rfl ?_
              refine Go.callVi X  (c_holdsRow g (ad (18 + 2 * pk)) (ad (19 + 2 * pk)) (hd pk) (ln pk) (vl pk)) cal_X1_holdsRow [(18 + 2 * pk), (19 + 2 * pk)] (bx_pos g ad _ _ (by first | omega | (split <;> omega))) (bx_nd (by first | omega | (split <;> omega))) gX3_copy_X1_holdsRow (ci := 1) (q0 := (18 + 2 * pk)) rfl (bx_sh g ad _ _ (by first | omega | (split <;> omega))) rfl rfl rfl dX3_copy_98 ?_
              refine Go.if_eqB X 112 dX3_copy_101 (by decide) (fun h101 => ?_) (fun h101 => ?_)
              · --
                exact absurd (h101.symm.trans h65) (by decide)
              · --
                refine Go.aload X 0 dX3_copy_104 rfl ?_
                refine Go.callVi X  (c_holdsRow g (ad (18 + 2 * qk)) (ad (19 + 2 * qk)) (hd qk) (ln qk) (vl qk)) cal_X1_holdsRow [(18 + 2 * qk), (19 + 2 * qk)] (bx_pos g ad _ _ (by first | omega | (split <;> omega))) (bx_nd (by first | omega | (split <;> omega))) gX3_copy_X1_holdsRow (ci := 1) (q0 := (18 + 2 * qk)) rfl (bx_sh g ad _ _ (by first | omega | (split <;> omega))) rfl rfl rfl dX3_copy_106 ?_
                refine Go.if_neB X 119 dX3_copy_109 (by decide) (fun h109 => ?_) (fun h109 => ?_)
                · --
                  exact absurd (h73.symm.trans h109) (by decide)
                · --
                  refine Go.aload_n X 2 dX3_copy_112 rfl ?_
                  refine Go.bipush X ((-4 : Int32)) dX3_copy_113 k_bp_m4 ?_
                  refine Go.callV0i X (c_refuse_2 g ad N K b z le rf hd ln vl T ts te tk br) cal_X3_refuse gX3_copy_X3_refuse (ci := 3) (q0 := 0) rfl rfl rfl rfl rfl dX3_copy_115 ?_
                  have e9 : x_copy (N, K, b, z, le, rf, hd, ln, vl) (nI pk) (nI qk) i j n = ((N, K, b, z, le, inc rf 2, hd, ln, vl), (-4)) := by simp [x_copy, rfS, h4, h11, h65, h73, h101, h109, (of_decide_eq_false h42), (of_decide_eq_false h50), nI_clamp (show pk < 2 ^ 31 by omega), nI_clamp (show qk < 2 ^ 31 by omega)]
                  exact Go.iret X E dX3_copy_118 ⟨by rw [e9], _, by rw [e9]⟩ rfl
            · --
              refine Go.aload X 1 dX3_copy_76 rfl ?_
              refine Go.get X f_X3_copy_76 (18 + 2 * pk) (v := .int (hd pk)) (bx_sh g ad _ _ (by first | omega | (split <;> omega))) rfl dX3_copy_78 ?_
              refine Go.aload X 0 dX3_copy_81 rfl ?_
              refine Go.get X f_X3_copy_76 (18 + 2 * qk) (v := .int (hd qk)) (bx_sh g ad _ _ (by first | omega | (split <;> omega))) rfl dX3_copy_83 ?_
              refine Go.icmp_eq X 96 dX3_copy_86 (by decide) (fun h86 => ?_) (fun h86 => ?_)
              · --
                refine Go.aload X 1 dX3_copy_96 rfl ?_
                refine Go.callVi X  (c_holdsRow g (ad (18 + 2 * pk)) (ad (19 + 2 * pk)) (hd pk) (ln pk) (vl pk)) cal_X1_holdsRow [(18 + 2 * pk), (19 + 2 * pk)] (bx_pos g ad _ _ (by first | omega | (split <;> omega))) (bx_nd (by first | omega | (split <;> omega))) gX3_copy_X1_holdsRow (ci := 1) (q0 := (18 + 2 * pk)) rfl (bx_sh g ad _ _ (by first | omega | (split <;> omega))) rfl rfl rfl dX3_copy_98 ?_
                refine Go.if_eqB X 112 dX3_copy_101 (by decide) (fun h101 => ?_) (fun h101 => ?_)
                · --
                  exact absurd (h101.symm.trans h65) (by decide)
                · --
                  refine Go.aload X 0 dX3_copy_104 rfl ?_
                  refine Go.callVi X  (c_holdsRow g (ad (18 + 2 * qk)) (ad (19 + 2 * qk)) (hd qk) (ln qk) (vl qk)) cal_X1_holdsRow [(18 + 2 * qk), (19 + 2 * qk)] (bx_pos g ad _ _ (by first | omega | (split <;> omega))) (bx_nd (by first | omega | (split <;> omega))) gX3_copy_X1_holdsRow (ci := 1) (q0 := (18 + 2 * qk)) rfl (bx_sh g ad _ _ (by first | omega | (split <;> omega))) rfl rfl rfl dX3_copy_106 ?_
                  refine Go.if_neB X 119 dX3_copy_109 (by decide) (fun h109 => ?_) (fun h109 => ?_)
                  · --
                    refine Go.aload X 1 dX3_copy_119 rfl ?_
                    refine Go.iload_n X 5 dX3_copy_121 rfl ?_
                    refine Go.iload X 7 dX3_copy_122 rfl ?_
                    have hlp := hl pk hpk
                    have hlq := hl qk hqk
                    refine Go.callVi X  (c_hasElements g (ad (18 + 2 * pk)) (ad (19 + 2 * pk)) (hd pk) (ln pk) (vl pk) i n (by first | omega | (split <;> omega))) cal_X1_hasElements [(18 + 2 * pk), (19 + 2 * pk)] (bx_pos g ad _ _ (by first | omega | (split <;> omega))) (bx_nd (by first | omega | (split <;> omega))) gX3_copy_X1_hasElements (ci := 1) (q0 := (18 + 2 * pk)) rfl (bx_sh g ad _ _ (by first | omega | (split <;> omega))) rfl rfl rfl dX3_copy_124 ?_
                    refine Go.if_eqB X 142 dX3_copy_127 (by decide) (fun h127 => ?_) (fun h127 => ?_)
                    · --
                      refine Go.aload_n X 2 dX3_copy_142 rfl ?_
                      refine Go.bipush X ((-2 : Int32)) dX3_copy_143 k_bp_m2 ?_
                      refine Go.callV0i X (c_refuse_0 g ad N K b z le rf hd ln vl T ts te tk br) cal_X3_refuse gX3_copy_X3_refuse (ci := 3) (q0 := 0) rfl rfl rfl rfl rfl dX3_copy_145 ?_
                      have e9 : x_copy (N, K, b, z, le, rf, hd, ln, vl) (nI pk) (nI qk) i j n = ((N, K, b, z, le, inc rf 0, hd, ln, vl), (-2)) := by simp [x_copy, rfS, h4, h11, h65, h73, h86, h101, h109, h127, (of_decide_eq_false h42), (of_decide_eq_false h50), nI_clamp (show pk < 2 ^ 31 by omega), nI_clamp (show qk < 2 ^ 31 by omega)]
                      exact Go.iret X E dX3_copy_148 ⟨by rw [e9], _, by rw [e9]⟩ rfl
                    · --
                      refine Go.aload X 0 dX3_copy_130 rfl ?_
                      refine Go.iload X 6 dX3_copy_132 rfl ?_
                      refine Go.iload X 7 dX3_copy_134 rfl ?_
                      refine Go.callVi X  (c_hasElements g (ad (18 + 2 * qk)) (ad (19 + 2 * qk)) (hd qk) (ln qk) (vl qk) j n (by first | omega | (split <;> omega))) cal_X1_hasElements [(18 + 2 * qk), (19 + 2 * qk)] (bx_pos g ad _ _ (by first | omega | (split <;> omega))) (bx_nd (by first | omega | (split <;> omega))) gX3_copy_X1_hasElements (ci := 1) (q0 := (18 + 2 * qk)) rfl (bx_sh g ad _ _ (by first | omega | (split <;> omega))) rfl rfl rfl dX3_copy_136 ?_
                      refine Go.if_neB X 149 dX3_copy_139 (by decide) (fun h139 => ?_) (fun h139 => ?_)
                      · --
                        obtain ⟨i1, n1, rfl, rfl, e1⟩ := hasR_at hlp h127
                        obtain ⟨j1, n2, rfl, e3, e2⟩ := hasR_at hlq h139
                        obtain rfl : n1 = n2 := by have q := congrArg Int32.toNatClampNeg e3; rw [nI_clamp (by omega), nI_clamp (by omega)] at q; exact q
                        refine Go.aload X 1 dX3_copy_149 rfl ?_
                        refine Go.get X f_X3_copy_84 (18 + 2 * pk) (v := .ref (ad (19 + 2 * pk))) (bx_sh g ad _ _ (by first | omega | (split <;> omega))) rfl dX3_copy_151 ?_
                        refine Go.iload_n X 5 dX3_copy_154 rfl ?_
                        refine Go.aload X 0 dX3_copy_155 rfl ?_
                        refine Go.get X f_X3_copy_84 (18 + 2 * qk) (v := .ref (ad (19 + 2 * qk))) (bx_sh g ad _ _ (by first | omega | (split <;> omega))) rfl dX3_copy_157 ?_
                        refine Go.iload X 6 dX3_copy_160 rfl ?_
                        refine Go.iload X 7 dX3_copy_162 rfl ?_
                        refine Go.copyL X (19 + 2 * pk) (19 + 2 * qk) (bxW g ad (N, K, b, z, le, rf, hd, ln, upS vl qk (va_cpy (vl pk) (vl qk) i1 j1 n1)) (T, ts, te, tk, br)) (List.mem_of_getElem? (i := 4) (by decide +kernel)) (List.mem_of_getElem? (i := 5) (by decide +kernel)) (List.mem_of_getElem? (i := 6) (by decide +kernel)) (List.mem_of_getElem? (i := 7) (by decide +kernel)) (bx_va g ad _ _ (by first | omega | (split <;> omega))) (bx_va g ad _ _ (by first | omega | (split <;> omega))) (by decide) (by decide) (by first | omega | (split <;> omega)) (by first | omega | (split <;> omega)) rfl dX3_copy_164 (bx_setv g ad _ _ _ _ _ _ _ _ _ _ (by first | omega | (split <;> omega)) _) ?_
                        refine Go.iload X 7 dX3_copy_167 rfl ?_
                        have e9 : x_copy (N, K, b, z, le, rf, hd, ln, vl) (nI pk) (nI qk) (nI i1) (nI j1) (nI n1) = ((N, K, b, z, le, rf, hd, ln, upS vl qk (va_cpy (vl pk) (vl qk) i1 j1 n1)), (nI n1)) := by simp [x_copy, rfS, h4, h11, h65, h73, h86, h101, h109, h127, h139, (of_decide_eq_false h42), (of_decide_eq_false h50), nI_clamp (show pk < 2 ^ 31 by omega), nI_clamp (show qk < 2 ^ 31 by omega), nI_clamp (show i1 < 2 ^ 31 by omega), nI_clamp (show n1 < 2 ^ 31 by omega), nI_clamp (show j1 < 2 ^ 31 by omega)]
                        exact Go.iret X E dX3_copy_169 ⟨by rw [e9], _, by rw [e9]⟩ rfl
                      · --
                        refine Go.aload_n X 2 dX3_copy_142 rfl ?_
                        refine Go.bipush X ((-2 : Int32)) dX3_copy_143 k_bp_m2 ?_
                        refine Go.callV0i X (c_refuse_0 g ad N K b z le rf hd ln vl T ts te tk br) cal_X3_refuse gX3_copy_X3_refuse (ci := 3) (q0 := 0) rfl rfl rfl rfl rfl dX3_copy_145 ?_
                        have e9 : x_copy (N, K, b, z, le, rf, hd, ln, vl) (nI pk) (nI qk) i j n = ((N, K, b, z, le, inc rf 0, hd, ln, vl), (-2)) := by simp [x_copy, rfS, h4, h11, h65, h73, h86, h101, h109, h127, h139, (of_decide_eq_false h42), (of_decide_eq_false h50), nI_clamp (show pk < 2 ^ 31 by omega), nI_clamp (show qk < 2 ^ 31 by omega)]
                        exact Go.iret X E dX3_copy_148 ⟨by rw [e9], _, by rw [e9]⟩ rfl
                  · --
                    exact absurd (h109.symm.trans h73) (by decide)
              · --
                refine Go.aload_n X 2 dX3_copy_89 rfl ?_
                refine Go.bipush X ((-3 : Int32)) dX3_copy_90 k_bp_m3 ?_
                refine Go.callV0i X (c_refuse_1 g ad N K b z le rf hd ln vl T ts te tk br) cal_X3_refuse gX3_copy_X3_refuse (ci := 3) (q0 := 0) rfl rfl rfl rfl rfl dX3_copy_92 ?_
                have e9 : x_copy (N, K, b, z, le, rf, hd, ln, vl) (nI pk) (nI qk) i j n = ((N, K, b, z, le, inc rf 1, hd, ln, vl), (-3)) := by simp [x_copy, rfS, h4, h11, h65, h73, h86, (of_decide_eq_false h42), (of_decide_eq_false h50), nI_clamp (show pk < 2 ^ 31 by omega), nI_clamp (show qk < 2 ^ 31 by omega)]
                exact Go.iret X E dX3_copy_95 ⟨by rw [e9], _, by rw [e9]⟩ rfl
        · --
          refine Go.aload_n X 2 dX3_copy_53 rfl ?_
          refine Go.bipush X ((-3 : Int32)) dX3_copy_54 k_bp_m3 ?_
          refine Go.callV0i X (c_refuse_1 g ad N K b z le rf hd ln vl T ts te tk br) cal_X3_refuse gX3_copy_X3_refuse (ci := 3) (q0 := 0) rfl rfl rfl rfl rfl dX3_copy_56 ?_
          have e9 : x_copy (N, K, b, z, le, rf, hd, ln, vl) (nI pk) (nI qk) i j n = ((N, K, b, z, le, inc rf 1, hd, ln, vl), (-3)) := by simp [x_copy, rfS, h4, h11, (of_decide_eq_false h42), (of_decide_eq_true h50), nI_clamp (show pk < 2 ^ 31 by omega), nI_clamp (show qk < 2 ^ 31 by omega)]
          exact Go.iret X E dX3_copy_59 ⟨by rw [e9], _, by rw [e9]⟩ rfl
    · --
      refine Go.aload_n X 0 dX3_copy_14 rfl ?_
      refine Go.bipush X ((-2 : Int32)) dX3_copy_15 k_bp_m2 ?_
      refine Go.callV0i X (c_refuse_0 g ad N K b z le rf hd ln vl T ts te tk br) cal_X3_refuse gX3_copy_X3_refuse (ci := 3) (q0 := 0) rfl rfl rfl rfl rfl dX3_copy_17 ?_
      have e9 : x_copy (N, K, b, z, le, rf, hd, ln, vl) (nI pk) q i j n = ((N, K, b, z, le, inc rf 0, hd, ln, vl), (-2)) := by simp [x_copy, rfS, h4, h11, nI_clamp (show pk < 2 ^ 31 by omega)]
      exact Go.iret X E dX3_copy_20 ⟨by rw [e9], _, by rw [e9]⟩ rfl
