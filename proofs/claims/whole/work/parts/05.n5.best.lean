/-! 05.n5.best -/
theorem f_X3_seekBestRow_16 : FL wsX3_seekBestRow RX3 16 3 1 := ⟨RX3, TX3, 8, rfl, fun _ h => List.mem_cons_of_mem _ (List.mem_append_left _ (List.mem_append_right _ h)), by decide, List.mem_of_getElem? (i := 1) (by decide +kernel)⟩
theorem f_X3_seekBestRow_10 : FL wsX3_seekBestRow RX3 10 3 0 := ⟨RX3, TX3, 8, rfl, fun _ h => List.mem_cons_of_mem _ (List.mem_append_left _ (List.mem_append_right _ h)), by decide, List.mem_of_getElem? (i := 2) (by decide +kernel)⟩
theorem cal_X0_putAllOnLast : Cal yX0_putAllOnLast wsX0_putAllOnLast cX0_putAllOnLast 3 none RX0 1 := ⟨⟨_, rfl⟩, by decide +kernel⟩
theorem f_X3_seekBestRow_135 : FL wsX3_seekBestRow RX3 135 0 1 := ⟨RX0, TX0, 11, rfl, fun _ h => List.mem_cons_of_mem _ (List.mem_append_right _ h), by decide, List.mem_of_getElem? (i := 4) (by decide +kernel)⟩
theorem f_X3_seekBestRow_138 : FL wsX3_seekBestRow RX3 138 0 2 := ⟨RX0, TX0, 11, rfl, fun _ h => List.mem_cons_of_mem _ (List.mem_append_right _ h), by decide, List.mem_of_getElem? (i := 5) (by decide +kernel)⟩
theorem f_X3_seekBestRow_39 : FL wsX3_seekBestRow RX3 39 3 7 := ⟨RX3, TX3, 8, rfl, fun _ h => List.mem_cons_of_mem _ (List.mem_append_left _ (List.mem_append_right _ h)), by decide, List.mem_of_getElem? (i := 6) (by decide +kernel)⟩
theorem cal_X0_moveToNextRow : Cal yX0_moveToNextRow wsX0_moveToNextRow cX0_moveToNextRow 4 (some .boolean) RX0 0 := ⟨⟨_, rfl⟩, by decide +kernel⟩
theorem f_X3_best_10 : FL wsX3_best RX3 10 3 0 := ⟨RX3, TX3, 8, rfl, fun _ h => List.mem_cons_of_mem _ (List.mem_append_left _ (List.mem_append_right _ h)), by decide, List.mem_of_getElem? (i := 1) (by decide +kernel)⟩
theorem f_X3_best_135 : FL wsX3_best RX3 135 0 1 := ⟨RX0, TX0, 11, rfl, fun _ h => List.mem_cons_of_mem _ (List.mem_append_right _ h), by decide, List.mem_of_getElem? (i := 2) (by decide +kernel)⟩
theorem cal_X3_seekBestRow : Cal yX3_seekBestRow wsX3_seekBestRow cX3_seekBestRow 6 (some .int) RX3 1 := ⟨⟨_, rfl⟩, by decide +kernel⟩
theorem f_X3_best_39 : FL wsX3_best RX3 39 3 7 := ⟨RX3, TX3, 8, rfl, fun _ h => List.mem_cons_of_mem _ (List.mem_append_left _ (List.mem_append_right _ h)), by decide, List.mem_of_getElem? (i := 3) (by decide +kernel)⟩
set_option maxHeartbeats 4000000 in
set_option maxRecDepth 100000 in
theorem c_seekBest (g : gT) (ad : Nat → Nat) (N : Sch) (K : Sch) (b : Bool) (z : Nat) (le : Nat → Nat) (rf : Nat → Int32) (hd : Nat → Int32) (ln : Nat → Nat) (vl : Nat → Nat → Int64) (T : Sch) (ts : Nat) (te : Nat) (tk : Nat) (br : Nat → Nat) (t : Nat) (hN : sOk N) (hA : ¬ sA N = 0) (ht : t ≤ 9) : Ct g yX3_seekBestRow wsX3_seekBestRow 5 110 [.ref (ad 0), .int (nI t)] (bxW g ad (N, K, b, z, le, rf, hd, ln, vl) (T, ts, te, tk, br)) (fun v9 w9 => v9 = (some (.int ((sbT N t).1))) ∧ ∃ (T1 : Sch), w9 = bxW g ad (N, K, b, z, le, rf, hd, ln, vl) (T1, ts, te, tk, (sbT N t).2)) := by
  refine Ct.start (cc := cX3_seekBestRow) (nL := 6) (ret := (some .int)) (own := RX3) (by decide) rfl rfl rfl ?_
  intro Γ X E
  show Go Γ g 6 (rmC 5 110) 0 0 (bxW g ad (N, K, b, z, le, rf, hd, ln, vl) (T, ts, te, tk, br)) 0 [(0, .ref (ad 0)), (1, .int (nI t))] []
  obtain ⟨o1, o2, o3, o4, o5, o6, o7, o8⟩ := id hN
  have o9 := p2_9 o2
  have o10 := sA_512 hN
  refine Go.aload_n X 0 dX3_seekBestRow_0 rfl ?_
  refine Go.get X f_X3_seekBestRow_16 0 (v := .ref (ad 5)) rfl rfl dX3_seekBestRow_1 ?_
  refine Go.aload_n X 0 dX3_seekBestRow_4 rfl ?_
  refine Go.get X f_X3_seekBestRow_10 0 (v := .ref (ad 1)) rfl rfl dX3_seekBestRow_5 ?_
  refine Go.callVvw X (c_become g (ad 5) (ad 6) (ad 7) (ad 8) T (ad 1) (ad 2) (ad 3) (ad 4) N) cal_X0_become [5, 6, 7, 8, 1, 2, 3, 4] rfl rfl gX3_seekBestRow_X0_become (ci := 0) (q0 := 5) rfl rfl rfl rfl rfl dX3_seekBestRow_8 (M9 := bxW g ad (N, K, b, z, le, rf, hd, ln, vl) (N, ts, te, tk, br)) rfl ?_
  refine Go.aload_n X 0 dX3_seekBestRow_11 rfl ?_
  refine Go.get X f_X3_seekBestRow_16 0 (v := .ref (ad 5)) rfl rfl dX3_seekBestRow_12 ?_
  refine Go.iload_n X 1 dX3_seekBestRow_15 rfl ?_
  refine Go.callVvw X (c_putAll g (ad 5) (ad 6) (ad 7) (ad 8) N t (by exact hN) (by first | omega | (split <;> omega))) cal_X0_putAllOnLast [5, 6, 7, 8] rfl rfl gX3_seekBestRow_X0_putAllOnLast (ci := 0) (q0 := 5) rfl rfl rfl rfl rfl dX3_seekBestRow_16 (M9 := bxW g ad (N, K, b, z, le, rf, hd, ln, vl) ((sN N, sA N, updN zer9 (sA N).log2 t, sD N, sP N, sK N, sO N, sG N, sT N, sF N, sX N), ts, te, tk, br)) rfl ?_
  refine Go.conv (M1 := bxW g ad (N, K, b, z, le, rf, hd, ln, vl) (stW N (updN zer9 (sA N).log2 t), ts, te, tk, br)) ?_ (by rfl) rfl rfl
  refine Go.aload_n X 0 dX3_seekBestRow_19 rfl ?_
  refine Go.get X f_X3_seekBestRow_16 0 (v := .ref (ad 5)) rfl rfl dX3_seekBestRow_20 ?_
  have z23 : sOk (stW N (updN zer9 (sA N).log2 t)) := by exact pa_ok hN hA ht
  refine Go.callVi X  (c_reasonedByAll g (ad 5) (ad 6) (ad 7) (ad 8) (stW N (updN zer9 (sA N).log2 t)) (by exact z23)) cal_X0_reasonedByAll [5, 6, 7, 8] rfl rfl gX3_seekBestRow_X0_reasonedByAll (ci := 0) (q0 := 5) rfl rfl rfl rfl rfl dX3_seekBestRow_23 ?_
  have f23_1 := orF_512 (reas_512 z23) (sP (stW N (updN zer9 (sA N).log2 t)))
  obtain ⟨R, hR⟩ : ∃ R, R = orF (reas (paS N t)) (sP N) := ⟨_, rfl⟩
  have hR9 : R < 512 := by rw [hR]; exact orF_512 (reas_512 (pa_ok hN hA ht)) (sP N)
  refine Go.top (w := .int (nI R)) (by rw [hR]) ?_
  refine Go.istore_n_new X dX3_seekBestRow_26 (by decide) rfl ?_
  refine Go.iconst X ((-1 : Int32)) dX3_seekBestRow_27 k_ic_m1 ?_
  refine Go.istore_n_new X dX3_seekBestRow_28 (by decide) rfl ?_
  refine Go.iconst X (nI 0) dX3_seekBestRow_29 k_ic_0 ?_
  refine Go.istore_new X dX3_seekBestRow_30 (by decide) rfl ?_
  have L32 : ∀ (f32 : Nat) (k : Nat) (l : Int32) (W : Nat → Nat) (u : Nat → Nat) (hk : k ≤ 100000) (hD : sOk (stW N W)) (hw : wIv (stW N W) t) (hh : sbF R (100000 - k) l (stW N W) u = sbT N t) (hf32 : 100000 - k < f32), Go Γ g 6 (rmC 5 110) 0 0 (bxW g ad (N, K, b, z, le, rf, hd, ln, vl) (stW N W, ts, te, tk, u)) 32 [(4, .int (nI k)), (3, .int l), (2, .int (nI R)), (0, .ref (ad 0)), (1, .int (nI t))] [] := by
    intro f32
    induction f32 with
    | zero => intro k l W u hk hD hw hh hf32; exact absurd hf32 (Nat.not_lt_zero _)
    | succ f32 ih32 =>
      intro k l W u hk hD hw hh hf32
      refine Go.iload X 0 dX3_seekBestRow_32 rfl ?_
      refine Go.ldcw X (nI 100000) dX3_seekBestRow_34 (List.mem_of_getElem? (i := 3) (by decide +kernel)) ?_
      refine Go.icmp_geN X 121 dX3_seekBestRow_37 (by decide) (by first | omega | (split <;> omega)) (by decide) (fun h37 => ?_) (fun h37 => ?_)
      · --
        refine Go.iload_n X 1 dX3_seekBestRow_121 rfl ?_
        exact Go.iret X E dX3_seekBestRow_122 ⟨rv (show l = (sbT N t).1 from by rw [← hh, show sbF R (100000 - k) l (stW N W) u = (l, u) from by rw [show 100000 - k = 0 by omega]; rfl]), stW N W, (by rw [← hh, show sbF R (100000 - k) l (stW N W) u = (l, u) from by rw [show 100000 - k = 0 by omega]; rfl])⟩ rfl
      · --
        refine Go.aload_n X 3 dX3_seekBestRow_40 rfl ?_
        refine Go.get X f_X3_seekBestRow_16 0 (v := .ref (ad 5)) rfl rfl dX3_seekBestRow_41 ?_
        refine Go.aload_n X 3 dX3_seekBestRow_44 rfl ?_
        refine Go.get X f_X3_seekBestRow_16 0 (v := .ref (ad 5)) rfl rfl dX3_seekBestRow_45 ?_
        refine Go.get X f_X3_seekBestRow_135 5 (v := .int (nI (sA N))) rfl rfl dX3_seekBestRow_48 ?_
        refine Go.iload_n X 2 dX3_seekBestRow_51 rfl ?_
        refine Go.aload_n X 3 dX3_seekBestRow_52 rfl ?_
        refine Go.get X f_X3_seekBestRow_16 0 (v := .ref (ad 5)) rfl rfl dX3_seekBestRow_53 ?_
        have z56 : sOk (stW N W) := by exact hD
        refine Go.callVi X  (c_betByAll g (ad 5) (ad 6) (ad 7) (ad 8) (stW N W) (by exact z56)) cal_X0_betByAll [5, 6, 7, 8] rfl rfl gX3_seekBestRow_X0_betByAll (ci := 0) (q0 := 5) rfl rfl rfl rfl rfl dX3_seekBestRow_56 ?_
        have f56_2 := orF_512 (bet_512 z56) (sP (stW N W))
        refine Go.ior_e X (nI (R ||| (orF (bet (stW N W)) (sP (stW N W))))) dX3_seekBestRow_59 (nI_or _ _) ?_
        refine Go.iand_e X (nI ((sA N) &&& (R ||| (orF (bet (stW N W)) (sP (stW N W)))))) dX3_seekBestRow_60 (nI_and _ _) ?_
        have o11 : sA N &&& (R ||| orF (bet (stW N W)) (sP (stW N W))) ≤ sA N := Nat.and_le_left
        have z61 : sOk (stW N W) := by exact hD
        refine Go.callVi X  (c_weightsOf g (ad 5) (ad 6) (ad 7) (ad 8) (stW N W) ((sA N) &&& (R ||| (orF (bet (stW N W)) (sP (stW N W))))) (by exact z61) (by exact Nat.lt_of_le_of_lt o11 (by omega))) cal_X0_weightsOf [5, 6, 7, 8] rfl rfl gX3_seekBestRow_X0_weightsOf (ci := 0) (q0 := 5) rfl rfl rfl rfl rfl dX3_seekBestRow_61 ?_
        have f61_3 := wsum_81 z61 ((sA N) &&& (R ||| (orF (bet (stW N W)) (sP (stW N W)))))
        refine Go.top (w := .int (nI (sbC R (stW N W)))) (by rfl) ?_
        have o12 : sbC R (stW N W) ≤ 81 := wsum_81 hD _
        refine Go.istore_new X dX3_seekBestRow_64 (by decide) rfl ?_
        refine Go.iload_n X 2 dX3_seekBestRow_66 rfl ?_
        refine Go.iconst X ((-1 : Int32)) dX3_seekBestRow_67 k_ic_m1 ?_
        refine Go.icmp_eq X 77 dX3_seekBestRow_68 (by decide) (fun h68 => ?_) (fun h68 => ?_)
        · --
          refine Go.iload X 0 dX3_seekBestRow_77 rfl ?_
          refine Go.istore_n_2 X dX3_seekBestRow_79 (by decide) rfl ?_
          refine Go.aload_n X 4 dX3_seekBestRow_80 rfl ?_
          refine Go.get X f_X3_seekBestRow_16 0 (v := .ref (ad 5)) rfl rfl dX3_seekBestRow_81 ?_
          refine Go.get X f_X3_seekBestRow_138 5 (v := .ref (ad 6)) rfl rfl dX3_seekBestRow_84 ?_
          refine Go.iconst X (nI 0) dX3_seekBestRow_87 k_ic_0 ?_
          refine Go.aload_n X 4 dX3_seekBestRow_88 rfl ?_
          refine Go.get X f_X3_seekBestRow_39 0 (v := .ref (ad 17)) rfl rfl dX3_seekBestRow_89 ?_
          refine Go.iconst X (nI 0) dX3_seekBestRow_92 k_ic_0 ?_
          refine Go.bipush X (nI 9) dX3_seekBestRow_93 k_bp_9 ?_
          refine Go.copyN X 6 17 (bxW g ad (N, K, b, z, le, rf, hd, ln, vl) (stW N W, ts, te, tk, W)) (w := W) (List.mem_of_getElem? (i := 7) (by decide +kernel)) (List.mem_of_getElem? (i := 8) (by decide +kernel)) (List.mem_of_getElem? (i := 9) (by decide +kernel)) (List.mem_of_getElem? (i := 10) (by decide +kernel)) rfl rfl rfl (by decide) dX3_seekBestRow_95 rfl ?_
          refine Go.iload_n X 2 dX3_seekBestRow_98 rfl ?_
          refine Go.if_eqN X 121 dX3_seekBestRow_99 (by decide) (by first | omega | (split <;> omega)) (fun h99 => ?_) (fun h99 => ?_)
          · --
            refine Go.iload_n X 2 dX3_seekBestRow_121 rfl ?_
            exact Go.iret X E dX3_seekBestRow_122 ⟨rv (show (nI (sbC R (stW N W))) = (sbT N t).1 from by rw [← hh, sbF_1 (by omega) (Or.inl h68) (Or.inl h99)]), stW N W, (by rw [← hh, sbF_1 (by omega) (Or.inl h68) (Or.inl h99)])⟩ rfl
          · --
            refine Go.aload_n X 4 dX3_seekBestRow_102 rfl ?_
            refine Go.get X f_X3_seekBestRow_16 0 (v := .ref (ad 5)) rfl rfl dX3_seekBestRow_103 ?_
            have z106 : sOk (stW N W) := by exact hD
            refine Go.callViw X (c_moveRow g (ad 5) (ad 6) (ad 7) (ad 8) (stW N W) (by exact z106) (by exact hA)) cal_X0_moveToNextRow [5, 6, 7, 8] rfl rfl gX3_seekBestRow_X0_moveToNextRow (ci := 0) (q0 := 5) rfl rfl rfl rfl rfl dX3_seekBestRow_106 (M9 := bxW g ad (N, K, b, z, le, rf, hd, ln, vl) ((sN (stW N W), sA (stW N W), mvT (stW N W), sD (stW N W), sP (stW N W), sK (stW N W), sO (stW N W), sG (stW N W), sT (stW N W), sF (stW N W), sX (stW N W)), ts, te, tk, W)) rfl ?_
            refine Go.conv (M1 := bxW g ad (N, K, b, z, le, rf, hd, ln, vl) (stW N (mvT (stW N W)), ts, te, tk, W)) ?_ (by rfl) rfl rfl
            refine Go.if_neB X 115 dX3_seekBestRow_109 (by decide) (fun h109 => ?_) (fun h109 => ?_)
            · --
              refine Go.iinc_1 X (nI (k + 1)) dX3_seekBestRow_115 (by decide) rfl (show nI k + Int32.ofInt 1 = nI (k + 1) from nI_add _ 1) ?_
              refine Go.goto X 32 dX3_seekBestRow_118 (by decide) ?_
              refine Go.lv_2 (show (.int (nI (sbC R (stW N W))) : Value) = .int (nI (sbC R (stW N W))) from by rfl) ?_
              refine Go.conv (M1 := bxW g ad (N, K, b, z, le, rf, hd, ln, vl) (stW N (mvT (stW N W)), ts, te, tk, W)) ?_ (by rfl) rfl rfl
              refine Go.sub [1, 2, 3, 4, 5] rfl ?_
              exact ih32 (k + 1) (nI (sbC R (stW N W))) (mvT (stW N W)) W (by first | omega | (split <;> omega)) (by exact mv_ok (S := stW N W) hD hw ht h109) (by exact mv_inv (S := stW N W) hD hw h109) (by refine Eq.trans ?_ hh; rw [show 100000 - (k + 1) = 100000 - k - 1 by omega]; exact (sbF_2 (by omega) (Or.inl h68) (fun q => q.elim h99 (fun z => by rw [h109] at z; exact absurd z (by decide)))).symm) (by first | omega | (split <;> omega))
            · --
              refine Go.goto X 121 dX3_seekBestRow_112 (by decide) ?_
              refine Go.iload_n X 2 dX3_seekBestRow_121 rfl ?_
              exact Go.iret X E dX3_seekBestRow_122 ⟨rv (show (nI (sbC R (stW N W))) = (sbT N t).1 from by rw [← hh, sbF_1 (by omega) (Or.inl h68) (Or.inr h109)]), stW N (mvT (stW N W)), (by rw [← hh, sbF_1 (by omega) (Or.inl h68) (Or.inr h109)])⟩ rfl
        · --
          refine Go.iload X 0 dX3_seekBestRow_71 rfl ?_
          refine Go.iload_n X 2 dX3_seekBestRow_73 rfl ?_
          refine Go.icmp_ge X 98 dX3_seekBestRow_74 (by decide) (fun h74 => ?_) (fun h74 => ?_)
          · --
            refine Go.iload_n X 2 dX3_seekBestRow_98 rfl ?_
            refine Go.if_eq X 121 dX3_seekBestRow_99 (by decide) (fun h99 => ?_) (fun h99 => ?_)
            · --
              refine Go.iload_n X 2 dX3_seekBestRow_121 rfl ?_
              exact Go.iret X E dX3_seekBestRow_122 ⟨rv (show l = (sbT N t).1 from by rw [← hh, sbF_3 (by omega) (fun q => q.elim h68 (fun z => absurd z (Int32.not_lt.mpr h74))) (Or.inl h99)]), stW N W, (by rw [← hh, sbF_3 (by omega) (fun q => q.elim h68 (fun z => absurd z (Int32.not_lt.mpr h74))) (Or.inl h99)])⟩ rfl
            · --
              refine Go.aload_n X 4 dX3_seekBestRow_102 rfl ?_
              refine Go.get X f_X3_seekBestRow_16 0 (v := .ref (ad 5)) rfl rfl dX3_seekBestRow_103 ?_
              have z106 : sOk (stW N W) := by exact hD
              refine Go.callViw X (c_moveRow g (ad 5) (ad 6) (ad 7) (ad 8) (stW N W) (by exact z106) (by exact hA)) cal_X0_moveToNextRow [5, 6, 7, 8] rfl rfl gX3_seekBestRow_X0_moveToNextRow (ci := 0) (q0 := 5) rfl rfl rfl rfl rfl dX3_seekBestRow_106 (M9 := bxW g ad (N, K, b, z, le, rf, hd, ln, vl) ((sN (stW N W), sA (stW N W), mvT (stW N W), sD (stW N W), sP (stW N W), sK (stW N W), sO (stW N W), sG (stW N W), sT (stW N W), sF (stW N W), sX (stW N W)), ts, te, tk, u)) rfl ?_
              refine Go.conv (M1 := bxW g ad (N, K, b, z, le, rf, hd, ln, vl) (stW N (mvT (stW N W)), ts, te, tk, u)) ?_ (by rfl) rfl rfl
              refine Go.if_neB X 115 dX3_seekBestRow_109 (by decide) (fun h109 => ?_) (fun h109 => ?_)
              · --
                refine Go.iinc_1 X (nI (k + 1)) dX3_seekBestRow_115 (by decide) rfl (show nI k + Int32.ofInt 1 = nI (k + 1) from nI_add _ 1) ?_
                refine Go.goto X 32 dX3_seekBestRow_118 (by decide) ?_
                refine Go.conv (M1 := bxW g ad (N, K, b, z, le, rf, hd, ln, vl) (stW N (mvT (stW N W)), ts, te, tk, u)) ?_ (by rfl) rfl rfl
                refine Go.sub [1, 2, 3, 4, 5] rfl ?_
                exact ih32 (k + 1) l (mvT (stW N W)) u (by first | omega | (split <;> omega)) (by exact mv_ok (S := stW N W) hD hw ht h109) (by exact mv_inv (S := stW N W) hD hw h109) (by refine Eq.trans ?_ hh; rw [show 100000 - (k + 1) = 100000 - k - 1 by omega]; exact (sbF_4 (by omega) (fun q => q.elim h68 (fun z => absurd z (Int32.not_lt.mpr h74))) (fun q => q.elim h99 (fun z => by rw [h109] at z; exact absurd z (by decide)))).symm) (by first | omega | (split <;> omega))
              · --
                refine Go.goto X 121 dX3_seekBestRow_112 (by decide) ?_
                refine Go.iload_n X 2 dX3_seekBestRow_121 rfl ?_
                exact Go.iret X E dX3_seekBestRow_122 ⟨rv (show l = (sbT N t).1 from by rw [← hh, sbF_3 (by omega) (fun q => q.elim h68 (fun z => absurd z (Int32.not_lt.mpr h74))) (Or.inr h109)]), stW N (mvT (stW N W)), (by rw [← hh, sbF_3 (by omega) (fun q => q.elim h68 (fun z => absurd z (Int32.not_lt.mpr h74))) (Or.inr h109)])⟩ rfl
          · --
            refine Go.iload X 0 dX3_seekBestRow_77 rfl ?_
            refine Go.istore_n_2 X dX3_seekBestRow_79 (by decide) rfl ?_
            refine Go.aload_n X 4 dX3_seekBestRow_80 rfl ?_
            refine Go.get X f_X3_seekBestRow_16 0 (v := .ref (ad 5)) rfl rfl dX3_seekBestRow_81 ?_
            refine Go.get X f_X3_seekBestRow_138 5 (v := .ref (ad 6)) rfl rfl dX3_seekBestRow_84 ?_
            refine Go.iconst X (nI 0) dX3_seekBestRow_87 k_ic_0 ?_
            refine Go.aload_n X 4 dX3_seekBestRow_88 rfl ?_
            refine Go.get X f_X3_seekBestRow_39 0 (v := .ref (ad 17)) rfl rfl dX3_seekBestRow_89 ?_
            refine Go.iconst X (nI 0) dX3_seekBestRow_92 k_ic_0 ?_
            refine Go.bipush X (nI 9) dX3_seekBestRow_93 k_bp_9 ?_
            refine Go.copyN X 6 17 (bxW g ad (N, K, b, z, le, rf, hd, ln, vl) (stW N W, ts, te, tk, W)) (w := W) (List.mem_of_getElem? (i := 7) (by decide +kernel)) (List.mem_of_getElem? (i := 8) (by decide +kernel)) (List.mem_of_getElem? (i := 9) (by decide +kernel)) (List.mem_of_getElem? (i := 10) (by decide +kernel)) rfl rfl rfl (by decide) dX3_seekBestRow_95 rfl ?_
            refine Go.iload_n X 2 dX3_seekBestRow_98 rfl ?_
            refine Go.if_eqN X 121 dX3_seekBestRow_99 (by decide) (by first | omega | (split <;> omega)) (fun h99 => ?_) (fun h99 => ?_)
            · --
              refine Go.iload_n X 2 dX3_seekBestRow_121 rfl ?_
              exact Go.iret X E dX3_seekBestRow_122 ⟨rv (show (nI (sbC R (stW N W))) = (sbT N t).1 from by rw [← hh, sbF_1 (by omega) (Or.inr (Int32.not_le.mp h74)) (Or.inl h99)]), stW N W, (by rw [← hh, sbF_1 (by omega) (Or.inr (Int32.not_le.mp h74)) (Or.inl h99)])⟩ rfl
            · --
              refine Go.aload_n X 4 dX3_seekBestRow_102 rfl ?_
              refine Go.get X f_X3_seekBestRow_16 0 (v := .ref (ad 5)) rfl rfl dX3_seekBestRow_103 ?_
              have z106 : sOk (stW N W) := by exact hD
              refine Go.callViw X (c_moveRow g (ad 5) (ad 6) (ad 7) (ad 8) (stW N W) (by exact z106) (by exact hA)) cal_X0_moveToNextRow [5, 6, 7, 8] rfl rfl gX3_seekBestRow_X0_moveToNextRow (ci := 0) (q0 := 5) rfl rfl rfl rfl rfl dX3_seekBestRow_106 (M9 := bxW g ad (N, K, b, z, le, rf, hd, ln, vl) ((sN (stW N W), sA (stW N W), mvT (stW N W), sD (stW N W), sP (stW N W), sK (stW N W), sO (stW N W), sG (stW N W), sT (stW N W), sF (stW N W), sX (stW N W)), ts, te, tk, W)) rfl ?_
              refine Go.conv (M1 := bxW g ad (N, K, b, z, le, rf, hd, ln, vl) (stW N (mvT (stW N W)), ts, te, tk, W)) ?_ (by rfl) rfl rfl
              refine Go.if_neB X 115 dX3_seekBestRow_109 (by decide) (fun h109 => ?_) (fun h109 => ?_)
              · --
                refine Go.iinc_1 X (nI (k + 1)) dX3_seekBestRow_115 (by decide) rfl (show nI k + Int32.ofInt 1 = nI (k + 1) from nI_add _ 1) ?_
                refine Go.goto X 32 dX3_seekBestRow_118 (by decide) ?_
                refine Go.lv_2 (show (.int (nI (sbC R (stW N W))) : Value) = .int (nI (sbC R (stW N W))) from by rfl) ?_
                refine Go.conv (M1 := bxW g ad (N, K, b, z, le, rf, hd, ln, vl) (stW N (mvT (stW N W)), ts, te, tk, W)) ?_ (by rfl) rfl rfl
                refine Go.sub [1, 2, 3, 4, 5] rfl ?_
                exact ih32 (k + 1) (nI (sbC R (stW N W))) (mvT (stW N W)) W (by first | omega | (split <;> omega)) (by exact mv_ok (S := stW N W) hD hw ht h109) (by exact mv_inv (S := stW N W) hD hw h109) (by refine Eq.trans ?_ hh; rw [show 100000 - (k + 1) = 100000 - k - 1 by omega]; exact (sbF_2 (by omega) (Or.inr (Int32.not_le.mp h74)) (fun q => q.elim h99 (fun z => by rw [h109] at z; exact absurd z (by decide)))).symm) (by first | omega | (split <;> omega))
              · --
                refine Go.goto X 121 dX3_seekBestRow_112 (by decide) ?_
                refine Go.iload_n X 2 dX3_seekBestRow_121 rfl ?_
                exact Go.iret X E dX3_seekBestRow_122 ⟨rv (show (nI (sbC R (stW N W))) = (sbT N t).1 from by rw [← hh, sbF_1 (by omega) (Or.inr (Int32.not_le.mp h74)) (Or.inr h109)]), stW N (mvT (stW N W)), (by rw [← hh, sbF_1 (by omega) (Or.inr (Int32.not_le.mp h74)) (Or.inr h109)])⟩ rfl
  refine Go.conv (M1 := bxW g ad (N, K, b, z, le, rf, hd, ln, vl) (stW N (updN zer9 (sA N).log2 t), ts, te, tk, br)) ?_ (by rfl) rfl rfl
  exact L32 (100000 - 0 + 1) 0 (-1) (updN zer9 (sA N).log2 t) br (by first | omega | (split <;> omega)) (by exact pa_ok hN hA ht) (by exact pa_inv hN hA t) (by rw [show 100000 - 0 = 100000 from rfl, sbT, ← hR]; exact sbF_i _ _ (by decide)) (Nat.lt_succ_self _)
set_option maxHeartbeats 4000000 in
set_option maxRecDepth 100000 in
theorem b_best (g : gT) (ad : Nat → Nat) (N : Sch) (K : Sch) (b : Bool) (z : Nat) (le : Nat → Nat) (rf : Nat → Int32) (hd : Nat → Int32) (ln : Nat → Nat) (vl : Nat → Nat → Int64) (T : Sch) (ts : Nat) (te : Nat) (tk : Nat) (br : Nat → Nat) (x : Int32) (m : Int32) (hN : sOk N) : Ct g yX3_best wsX3_best 6 135 [.ref (ad 0), .int x, .int m] (bxW g ad (N, K, b, z, le, rf, hd, ln, vl) (T, ts, te, tk, br)) (fun v9 w9 => v9 = (some (.int (x_best (N, K, b, z, le, rf, hd, ln, vl) x m).2)) ∧ ∃ J9, w9 = bxW g ad (x_best (N, K, b, z, le, rf, hd, ln, vl) x m).1 J9) := by
  refine Ct.start (cc := cX3_best) (nL := 4) (ret := (some .int)) (own := RX3) (by decide) rfl rfl rfl ?_
  intro Γ X E
  show Go Γ g 4 (rmC 6 135) 0 0 (bxW g ad (N, K, b, z, le, rf, hd, ln, vl) (T, ts, te, tk, br)) 0 [(0, .ref (ad 0)), (1, .int x), (2, .int m)] []
  obtain ⟨o1, o2, o3, o4, o5, o6, o7, o8⟩ := id hN
  have o9 := p2_9 o2
  have o10 := sA_512 hN
  refine Go.iload_n X 1 dX3_best_0 rfl ?_
  refine Go.iconst X (nI 1) dX3_best_1 k_ic_1 ?_
  refine Go.bipush X (nI 6) dX3_best_2 k_bp_6 ?_
  refine Go.callSi X  (c_isWithin g x (nI 1) (nI 6)) cal_X3_isWithin [] rfl rfl gX3_best_X3_isWithin rfl rfl rfl dX3_best_4 ?_
  refine Go.if_eqB X 26 dX3_best_7 (by decide) (fun h7 => ?_) (fun h7 => ?_)
  · --
    refine Go.aload_n X 0 dX3_best_26 rfl ?_
    refine Go.bipush X ((-2 : Int32)) dX3_best_27 k_bp_m2 ?_
    refine Go.callV0i X (c_refuse_0 g ad N K b z le rf hd ln vl T ts te tk br) cal_X3_refuse gX3_best_X3_refuse (ci := 3) (q0 := 0) rfl rfl rfl rfl rfl dX3_best_29 ?_
    have e9 : x_best (N, K, b, z, le, rf, hd, ln, vl) x m = ((N, K, b, z, le, inc rf 0, hd, ln, vl), (-2)) := by simp (decide := true) [x_best, rfS, h7]
    exact Go.iret X E dX3_best_32 ⟨by rw [e9], _, by rw [e9]⟩ rfl
  · --
    obtain ⟨xk, hxk, rfl⟩ := wi_at (by first | omega | (split <;> omega)) (by first | omega | (split <;> omega)) h7
    refine Go.iload_n X 2 dX3_best_10 rfl ?_
    refine Go.iconst X ((-1 : Int32)) dX3_best_11 k_ic_m1 ?_
    refine Go.icmp_eq X 33 dX3_best_12 (by decide) (fun h12 => ?_) (fun h12 => ?_)
    · --
      refine Go.lv_2 (w := .int (-1)) (by rw [h12]) ?_
      refine Go.aload_n X 0 dX3_best_33 rfl ?_
      refine Go.get X f_X3_best_10 0 (v := .ref (ad 1)) rfl rfl dX3_best_34 ?_
      refine Go.get X f_X3_best_135 1 (v := .int (nI (sA N))) rfl rfl dX3_best_37 ?_
      refine Go.if_neN X 50 dX3_best_40 (by decide) (by first | omega | (split <;> omega)) (fun h40 => ?_) (fun h40 => ?_)
      · --
        refine Go.aload_n X 0 dX3_best_50 rfl ?_
        refine Go.iload_n X 1 dX3_best_51 rfl ?_
        refine Go.callV0 X (c_seekBest g ad N K b z le rf hd ln vl T ts te tk br xk (by exact hN) (by first | omega | (split <;> omega)) (by first | omega | (split <;> omega))) cal_X3_seekBestRow gX3_best_X3_seekBestRow (ci := 3) (q0 := 0) rfl rfl rfl rfl rfl dX3_best_52 (fun v9 w9 e9 => ?_)
        obtain ⟨rfl, T1_52, rfl⟩ := e9
        show Go Γ g 4 (rmC 6 135) 0 0 (bxW g ad (N, K, b, z, le, rf, hd, ln, vl) (T1_52, ts, te, tk, (sbT N xk).2)) 55 [(0, .ref (ad 0)), (1, .int (nI xk)), (2, .int (-1))] [.int ((sbT N xk).1)]
        refine Go.istore_n_new X dX3_best_55 (by decide) rfl ?_
        refine Go.iload_n X 3 dX3_best_56 rfl ?_
        refine Go.iconst X ((-1 : Int32)) dX3_best_57 k_ic_m1 ?_
        refine Go.icmp_ne X 65 dX3_best_58 (by decide) (fun h => absurd h (by decide)) (fun _ => ?_)
        refine Go.iload_n X 0 dX3_best_61 rfl ?_
        refine Go.goto X 71 dX3_best_62 (by decide) ?_
        have e9 : x_best (N, K, b, z, le, rf, hd, ln, vl) (nI xk) m = ((N, K, b, z, le, rf, hd, ln, vl), ((sbT N xk).1)) := by simp (decide := true) [x_best, rfS, h7, h12, h40, nI_clamp (show xk < 2 ^ 31 by omega)]
        exact Go.iret X E dX3_best_71 ⟨by rw [e9], _, by rw [e9]⟩ rfl
      · --
        refine Go.aload_n X 0 dX3_best_43 rfl ?_
        refine Go.bipush X ((-5 : Int32)) dX3_best_44 k_bp_m5 ?_
        refine Go.callV0i X (c_refuse_3 g ad N K b z le rf hd ln vl T ts te tk br) cal_X3_refuse gX3_best_X3_refuse (ci := 3) (q0 := 0) rfl rfl rfl rfl rfl dX3_best_46 ?_
        have e9 : x_best (N, K, b, z, le, rf, hd, ln, vl) (nI xk) m = ((N, K, b, z, le, inc rf 3, hd, ln, vl), (-5)) := by simp (decide := true) [x_best, rfS, h7, h12, h40, nI_clamp (show xk < 2 ^ 31 by omega)]
        exact Go.iret X E dX3_best_49 ⟨by rw [e9], _, by rw [e9]⟩ rfl
    · --
      refine Go.aload_n X 0 dX3_best_15 rfl ?_
      refine Go.get X f_X3_best_10 0 (v := .ref (ad 1)) rfl rfl dX3_best_16 ?_
      refine Go.iload_n X 2 dX3_best_19 rfl ?_
      refine Go.callVi X  (c_isMorning g (ad 1) (ad 2) (ad 3) (ad 4) N m (by exact hN)) cal_X0_isMorning [1, 2, 3, 4] rfl rfl gX3_best_X0_isMorning (ci := 0) (q0 := 1) rfl rfl rfl rfl rfl dX3_best_20 ?_
      refine Go.if_neB X 33 dX3_best_23 (by decide) (fun h23 => ?_) (fun h23 => ?_)
      · --
        obtain ⟨mk, hmk, rfl⟩ := inb_at (by first | omega | (split <;> omega)) h23
        refine Go.aload_n X 0 dX3_best_33 rfl ?_
        refine Go.get X f_X3_best_10 0 (v := .ref (ad 1)) rfl rfl dX3_best_34 ?_
        refine Go.get X f_X3_best_135 1 (v := .int (nI (sA N))) rfl rfl dX3_best_37 ?_
        refine Go.if_neN X 50 dX3_best_40 (by decide) (by first | omega | (split <;> omega)) (fun h40 => ?_) (fun h40 => ?_)
        · --
          refine Go.aload_n X 0 dX3_best_50 rfl ?_
          refine Go.iload_n X 1 dX3_best_51 rfl ?_
          refine Go.callV0 X (c_seekBest g ad N K b z le rf hd ln vl T ts te tk br xk (by exact hN) (by first | omega | (split <;> omega)) (by first | omega | (split <;> omega))) cal_X3_seekBestRow gX3_best_X3_seekBestRow (ci := 3) (q0 := 0) rfl rfl rfl rfl rfl dX3_best_52 (fun v9 w9 e9 => ?_)
          obtain ⟨rfl, T1_52, rfl⟩ := e9
          show Go Γ g 4 (rmC 6 135) 0 0 (bxW g ad (N, K, b, z, le, rf, hd, ln, vl) (T1_52, ts, te, tk, (sbT N xk).2)) 55 [(0, .ref (ad 0)), (1, .int (nI xk)), (2, .int (nI mk))] [.int ((sbT N xk).1)]
          refine Go.istore_n_new X dX3_best_55 (by decide) rfl ?_
          refine Go.iload_n X 3 dX3_best_56 rfl ?_
          refine Go.iconst X ((-1 : Int32)) dX3_best_57 k_ic_m1 ?_
          refine Go.icmp_ne X 65 dX3_best_58 (by decide) (fun h58 => ?_) (fun h58 => ?_)
          · --
            refine Go.aload_n X 1 dX3_best_65 rfl ?_
            refine Go.get X f_X3_best_39 0 (v := .ref (ad 17)) rfl rfl dX3_best_66 ?_
            refine Go.iload_n X 3 dX3_best_69 rfl ?_
            refine Go.ialdN X 17 (w := (sbT N xk).2) rfl (by first | omega | (split <;> omega)) rfl dX3_best_70 ?_
            have e9 : x_best (N, K, b, z, le, rf, hd, ln, vl) (nI xk) (nI mk) = ((N, K, b, z, le, rf, hd, ln, vl), (nI (((sbT N xk).2) mk))) := by simp (decide := true) [x_best, rfS, h7, h12, h23, h40, nI_clamp (show xk < 2 ^ 31 by omega), nI_clamp (show mk < 2 ^ 31 by omega)]
            exact Go.iret X E dX3_best_71 ⟨by rw [e9], _, by rw [e9]⟩ rfl
          · --
            exact absurd h58.symm (m1_ne (by omega))
        · --
          refine Go.aload_n X 0 dX3_best_43 rfl ?_
          refine Go.bipush X ((-5 : Int32)) dX3_best_44 k_bp_m5 ?_
          refine Go.callV0i X (c_refuse_3 g ad N K b z le rf hd ln vl T ts te tk br) cal_X3_refuse gX3_best_X3_refuse (ci := 3) (q0 := 0) rfl rfl rfl rfl rfl dX3_best_46 ?_
          have e9 : x_best (N, K, b, z, le, rf, hd, ln, vl) (nI xk) (nI mk) = ((N, K, b, z, le, inc rf 3, hd, ln, vl), (-5)) := by simp (decide := true) [x_best, rfS, h7, h12, h23, h40, nI_clamp (show xk < 2 ^ 31 by omega), nI_clamp (show mk < 2 ^ 31 by omega)]
          exact Go.iret X E dX3_best_49 ⟨by rw [e9], _, by rw [e9]⟩ rfl
      · --
        refine Go.aload_n X 0 dX3_best_26 rfl ?_
        refine Go.bipush X ((-2 : Int32)) dX3_best_27 k_bp_m2 ?_
        refine Go.callV0i X (c_refuse_0 g ad N K b z le rf hd ln vl T ts te tk br) cal_X3_refuse gX3_best_X3_refuse (ci := 3) (q0 := 0) rfl rfl rfl rfl rfl dX3_best_29 ?_
        have e9 : x_best (N, K, b, z, le, rf, hd, ln, vl) (nI xk) m = ((N, K, b, z, le, inc rf 0, hd, ln, vl), (-2)) := by simp (decide := true) [x_best, rfS, h7, h12, h23, nI_clamp (show xk < 2 ^ 31 by omega)]
        exact Go.iret X E dX3_best_32 ⟨by rw [e9], _, by rw [e9]⟩ rfl
