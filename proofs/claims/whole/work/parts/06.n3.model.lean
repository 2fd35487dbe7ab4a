/-! 06.n3.model -/
theorem f_X4_draws_66 : FL wsX4_draws RX4 66 4 3 := ⟨RX4, TX4, 27, rfl, fun _ h => List.mem_cons_of_mem _ (List.mem_append_right _ h), by decide, List.mem_of_getElem? (i := 1) (by decide +kernel)⟩
theorem f_X4_draws_111 : FL wsX4_draws RX4 111 4 4 := ⟨RX4, TX4, 27, rfl, fun _ h => List.mem_cons_of_mem _ (List.mem_append_right _ h), by decide, List.mem_of_getElem? (i := 2) (by decide +kernel)⟩
theorem f_X4_draws_224 : FL wsX4_draws RX4 224 4 25 := ⟨RX4, TX4, 27, rfl, fun _ h => List.mem_cons_of_mem _ (List.mem_append_right _ h), by decide, List.mem_of_getElem? (i := 3) (by decide +kernel)⟩
theorem fp_4_25 : FP 4 25 .int := ⟨RX4, TX4, 27, tyX4, rfl, tyX4_ok, nmX4, rfl, by decide +kernel⟩
theorem f_X4_draws_41 : FL wsX4_draws RX4 41 4 26 := ⟨RX4, TX4, 27, rfl, fun _ h => List.mem_cons_of_mem _ (List.mem_append_right _ h), by decide, List.mem_of_getElem? (i := 4) (by decide +kernel)⟩
theorem f_X4_draws_20 : FL wsX4_draws RX4 20 4 5 := ⟨RX4, TX4, 27, rfl, fun _ h => List.mem_cons_of_mem _ (List.mem_append_right _ h), by decide, List.mem_of_getElem? (i := 5) (by decide +kernel)⟩
theorem cal_X4_draws : Cal yX4_draws wsX4_draws cX4_draws 5 none RX4 2 := ⟨⟨_, rfl⟩, by decide +kernel⟩
theorem f_X4_best_111 : FL wsX4_best RX4 111 4 4 := ⟨RX4, TX4, 27, rfl, fun _ h => List.mem_cons_of_mem _ (List.mem_append_right _ h), by decide, List.mem_of_getElem? (i := 1) (by decide +kernel)⟩
theorem f_X4_best_38 : FL wsX4_best RX4 38 4 24 := ⟨RX4, TX4, 27, rfl, fun _ h => List.mem_cons_of_mem _ (List.mem_append_right _ h), by decide, List.mem_of_getElem? (i := 2) (by decide +kernel)⟩
theorem f_X4_best_224 : FL wsX4_best RX4 224 4 25 := ⟨RX4, TX4, 27, rfl, fun _ h => List.mem_cons_of_mem _ (List.mem_append_right _ h), by decide, List.mem_of_getElem? (i := 3) (by decide +kernel)⟩
theorem f_X4_best_41 : FL wsX4_best RX4 41 4 26 := ⟨RX4, TX4, 27, rfl, fun _ h => List.mem_cons_of_mem _ (List.mem_append_right _ h), by decide, List.mem_of_getElem? (i := 4) (by decide +kernel)⟩
set_option maxHeartbeats 4000000 in
set_option maxRecDepth 100000 in
theorem d_draws_0 (g : gT) (ad : Nat → Nat) (N : Sch) (K : Sch) (b : Bool) (z : Nat) (le : Nat → Nat) (rf : Nat → Int32) (hd : Nat → Int32) (ln : Nat → Nat) (vl : Nat → Nat → Int64) (at1 : Nat) (tk : Nat) (so : Int32) (va : Int32) (lm : Nat → Nat) (ol : Nat → Int32) (ah : Nat → Int32) (w : Nat → Nat) (l : Int32) (br : Nat → Int32) (m : Nat) (left : Nat) (hN : sOk N) (hmD : m + 0 = sN N) (hl9 : left ≤ 9) (hw9 : ∀ i, i < 9 → w i ≤ 9) : Ct g yX4_draws wsX4_draws 7 161 [.ref (ad 0), .int (nI m), .int (nI left)] (mdW g ad (stW N w, K, b, z, le, rf, hd, ln, vl) (6, at1, tk, so, va, lm, ol, ah, l, br)) (fun v9 w9 => v9 = none ∧ ∃ (W1 : Nat → Nat), (∀ i, i < m ∨ sN N ≤ i → W1 i = w i) ∧ (∀ i, i < 9 → W1 i ≤ 9) ∧ w9 = mdW g ad (stW N W1, K, b, z, le, rf, hd, ln, vl) (6, at1, tk, so, va, lm, ol, ah, (fo N (l, br) (rws (sA N) 0 m left w)).1, (fo N (l, br) (rws (sA N) 0 m left w)).2)) := by
  refine Ct.start (cc := cX4_draws) (nL := 5) (ret := none) (own := RX4) (by decide) rfl rfl rfl ?_
  intro Γ X E
  show Go Γ g 5 (rmC 7 161) 0 0 (mdW g ad (stW N w, K, b, z, le, rf, hd, ln, vl) (6, at1, tk, so, va, lm, ol, ah, l, br)) 0 [(0, .ref (ad 0)), (1, .int (nI m)), (2, .int (nI left))] []
  obtain ⟨o1, o2, o3, o4, o5, o6, o7, o8⟩ := id hN
  have o9 := p2_9 o2
  have o10 := sA_512 hN
  refine Go.iload_n X 1 dX4_draws_0 rfl ?_
  refine Go.aload_n X 0 dX4_draws_1 rfl ?_
  refine Go.get X f_X4_draws_66 0 (v := .int (nI (sN N))) rfl rfl dX4_draws_2 ?_
  refine Go.icmp_neN X 81 dX4_draws_5 (by decide) (by first | omega | (split <;> omega)) (by first | omega | (split <;> omega)) (fun h5 => ?_) (fun h5 => ?_)
  · --
    exact absurd h5 (by omega)
  · --
    refine Go.iload_n X 2 dX4_draws_8 rfl ?_
    refine Go.if_leN X 13 dX4_draws_9 (by decide) (by first | omega | (split <;> omega)) (fun h9 => ?_) (fun h9 => ?_)
    · --
      refine Go.aload_n X 0 dX4_draws_13 rfl ?_
      refine Go.aload_n X 0 dX4_draws_14 rfl ?_
      refine Go.get X f_X4_draws_111 0 (v := .int (nI (sA N))) rfl rfl dX4_draws_15 ?_
      refine Go.aload_n X 0 dX4_draws_18 rfl ?_
      have z19 : sOk (stW N w) := by exact ok_W hN hw9
      refine Go.callV0i X (d_bySurprise g ad (stW N w) K b z le rf hd ln vl 6 at1 tk so va lm ol ah l br (by exact z19) (by first | omega | (split <;> omega))) cal_X4_bySurprise gX4_draws_X4_bySurprise (ci := 4) (q0 := 0) rfl rfl rfl rfl rfl dX4_draws_19 ?_
      have f19_1 := sur_512 z19 6
      refine Go.iconst X ((-1 : Int32)) dX4_draws_22 k_ic_m1 ?_
      refine Go.ixor_e X (nI (sur (stW N w) 6) ^^^ (-1)) dX4_draws_23 rfl ?_
      refine Go.iand_e X (nI (dif (sA N) (sur (stW N w) 6))) dX4_draws_24 (nI_andnot _ _) ?_
      have o11 := dif_le (sA N) (sur (stW N w) 6)
      have z25 : sOk (stW N w) := by exact ok_W hN hw9
      refine Go.callV0i X (d_weights g ad (stW N w) K b z le rf hd ln vl 6 at1 tk so va lm ol ah l br (dif (sA N) (sur (stW N w) 6)) (by exact z25) (by first | omega | (split <;> omega))) cal_X4_weights gX4_draws_X4_weights (ci := 4) (q0 := 0) rfl rfl rfl rfl rfl dX4_draws_25 ?_
      have f25_2 := wsum_81 z25 (dif (sA N) (sur (stW N w) 6))
      refine Go.top (w := .int (nI (cW N w))) (by rfl) ?_
      have o12 : cW N w ≤ 81 := wsum_81 (ok_W hN hw9) _
      refine Go.istore_n_new X dX4_draws_28 (by decide) rfl ?_
      refine Go.aload_n X 1 dX4_draws_29 rfl ?_
      refine Go.get X f_X4_draws_224 0 (v := .int l) rfl rfl dX4_draws_30 ?_
      refine Go.if_lt X 45 dX4_draws_33 (by decide) (fun h33 => ?_) (fun h33 => ?_)
      · --
        refine Go.aload_n X 1 dX4_draws_45 rfl ?_
        refine Go.iload_n X 0 dX4_draws_46 rfl ?_
        refine Go.putM X f_X4_draws_224 fp_4_25 0 (mdW g ad (stW N w, K, b, z, le, rf, hd, ln, vl) (6, at1, tk, so, va, lm, ol, ah, (nI (cW N w)), br)) rfl rfl rfl rfl dX4_draws_47 rfl ?_
        refine Go.iconst X (nI 0) dX4_draws_50 k_ic_0 ?_
        refine Go.istore_new X dX4_draws_51 (by decide) rfl ?_
        have L53 : ∀ (f53 : Nat) (k : Nat) (f : Nat → Int32) (hk : k ≤ 9) (hf : ∀ j, j < k → f j = aN w j) (hf53 : 9 - k < f53), Go Γ g 5 (rmC 7 161) 0 0 (mdW g ad (stW N w, K, b, z, le, rf, hd, ln, vl) (6, at1, tk, so, va, lm, ol, ah, (nI (cW N w)), f)) 53 [(4, .int (nI k)), (3, .int (nI (cW N w))), (0, .ref (ad 0)), (1, .int (nI m)), (2, .int (nI left))] [] := by
          intro f53
          induction f53 with
          | zero => intro k f hk hf hf53; exact absurd hf53 (Nat.not_lt_zero _)
          | succ f53 ih53 =>
            intro k f hk hf hf53
            refine Go.iload X 0 dX4_draws_53 rfl ?_
            refine Go.bipush X (nI 9) dX4_draws_55 k_bp_9 ?_
            refine Go.icmp_geN X 80 dX4_draws_57 (by decide) (by first | omega | (split <;> omega)) (by decide) (fun h57 => ?_) (fun h57 => ?_)
            · --
              refine Go.ext (q := 11) (f := f) (f1 := aN w) (M1 := mdW g ad (stW N w, K, b, z, le, rf, hd, ln, vl) (6, at1, tk, so, va, lm, ol, ah, (nI (cW N w)), aN w)) rfl (fun i hi => by exact hf i (by omega)) rfl ?_
              have e9 : fo N (l, br) (rws (sA N) 0 m left w) = (nI (cW N w), aN w) := (rws_00 (sA N) m w N (l, br) h9).trans (lfo_y (.inl h33))
              exact Go.vret X E dX4_draws_80 ⟨rfl, w, fun _ _ => rfl, hw9, by rw [e9]⟩ rfl
            · --
              refine Go.aload_n X 2 dX4_draws_60 rfl ?_
              refine Go.get X f_X4_draws_41 0 (v := .ref (ad 11)) rfl rfl dX4_draws_61 ?_
              refine Go.iload X 0 dX4_draws_64 rfl ?_
              refine Go.aload_n X 2 dX4_draws_66 rfl ?_
              refine Go.get X f_X4_draws_20 0 (v := .ref (ad 4)) rfl rfl dX4_draws_67 ?_
              refine Go.iload X 0 dX4_draws_70 rfl ?_
              refine Go.ialdN X 4 (w := w) rfl (by first | omega | (split <;> omega)) rfl dX4_draws_72 ?_
              refine Go.iastFM X 11 (mdW g ad (stW N w, K, b, z, le, rf, hd, ln, vl) (6, at1, tk, so, va, lm, ol, ah, (nI (cW N w)), upd f k (nI (w k)))) (f := f) rfl (by first | omega | (split <;> omega)) rfl dX4_draws_73 rfl ?_
              refine Go.iinc_0 X (nI (k + 1)) dX4_draws_74 (by decide) rfl (show nI k + Int32.ofInt 1 = nI (k + 1) from nI_add _ 1) ?_
              refine Go.goto X 53 dX4_draws_77 (by decide) ?_
              refine Go.conv (M1 := mdW g ad (stW N w, K, b, z, le, rf, hd, ln, vl) (6, at1, tk, so, va, lm, ol, ah, (nI (cW N w)), (upd f k (nI (w k))))) ?_ (by rfl) rfl rfl
              exact ih53 (k + 1) (upd f k (nI (w k))) (by first | omega | (split <;> omega)) (by exact up_f hf) (by first | omega | (split <;> omega))
        refine Go.conv (M1 := mdW g ad (stW N w, K, b, z, le, rf, hd, ln, vl) (6, at1, tk, so, va, lm, ol, ah, (nI (cW N w)), br)) ?_ (by rfl) rfl rfl
        exact L53 (9 - 0 + 1) 0 br (by first | omega | (split <;> omega)) (by intro j hj; omega) (Nat.lt_succ_self _)
      · --
        refine Go.iload_n X 0 dX4_draws_36 rfl ?_
        refine Go.aload_n X 1 dX4_draws_37 rfl ?_
        refine Go.get X f_X4_draws_224 0 (v := .int l) rfl rfl dX4_draws_38 ?_
        refine Go.icmp_lt X 45 dX4_draws_41 (by decide) (fun h41 => ?_) (fun h41 => ?_)
        · --
          refine Go.aload_n X 1 dX4_draws_45 rfl ?_
          refine Go.iload_n X 0 dX4_draws_46 rfl ?_
          refine Go.putM X f_X4_draws_224 fp_4_25 0 (mdW g ad (stW N w, K, b, z, le, rf, hd, ln, vl) (6, at1, tk, so, va, lm, ol, ah, (nI (cW N w)), br)) rfl rfl rfl rfl dX4_draws_47 rfl ?_
          refine Go.iconst X (nI 0) dX4_draws_50 k_ic_0 ?_
          refine Go.istore_new X dX4_draws_51 (by decide) rfl ?_
          have L53 : ∀ (f53 : Nat) (k : Nat) (f : Nat → Int32) (hk : k ≤ 9) (hf : ∀ j, j < k → f j = aN w j) (hf53 : 9 - k < f53), Go Γ g 5 (rmC 7 161) 0 0 (mdW g ad (stW N w, K, b, z, le, rf, hd, ln, vl) (6, at1, tk, so, va, lm, ol, ah, (nI (cW N w)), f)) 53 [(4, .int (nI k)), (3, .int (nI (cW N w))), (0, .ref (ad 0)), (1, .int (nI m)), (2, .int (nI left))] [] := by
            intro f53
            induction f53 with
            | zero => intro k f hk hf hf53; exact absurd hf53 (Nat.not_lt_zero _)
            | succ f53 ih53 =>
              intro k f hk hf hf53
              refine Go.iload X 0 dX4_draws_53 rfl ?_
              refine Go.bipush X (nI 9) dX4_draws_55 k_bp_9 ?_
              refine Go.icmp_geN X 80 dX4_draws_57 (by decide) (by first | omega | (split <;> omega)) (by decide) (fun h57 => ?_) (fun h57 => ?_)
              · --
                refine Go.ext (q := 11) (f := f) (f1 := aN w) (M1 := mdW g ad (stW N w, K, b, z, le, rf, hd, ln, vl) (6, at1, tk, so, va, lm, ol, ah, (nI (cW N w)), aN w)) rfl (fun i hi => by exact hf i (by omega)) rfl ?_
                have e9 : fo N (l, br) (rws (sA N) 0 m left w) = (nI (cW N w), aN w) := (rws_00 (sA N) m w N (l, br) h9).trans (lfo_y (.inr h41))
                exact Go.vret X E dX4_draws_80 ⟨rfl, w, fun _ _ => rfl, hw9, by rw [e9]⟩ rfl
              · --
                refine Go.aload_n X 2 dX4_draws_60 rfl ?_
                refine Go.get X f_X4_draws_41 0 (v := .ref (ad 11)) rfl rfl dX4_draws_61 ?_
                refine Go.iload X 0 dX4_draws_64 rfl ?_
                refine Go.aload_n X 2 dX4_draws_66 rfl ?_
                refine Go.get X f_X4_draws_20 0 (v := .ref (ad 4)) rfl rfl dX4_draws_67 ?_
                refine Go.iload X 0 dX4_draws_70 rfl ?_
                refine Go.ialdN X 4 (w := w) rfl (by first | omega | (split <;> omega)) rfl dX4_draws_72 ?_
                refine Go.iastFM X 11 (mdW g ad (stW N w, K, b, z, le, rf, hd, ln, vl) (6, at1, tk, so, va, lm, ol, ah, (nI (cW N w)), upd f k (nI (w k)))) (f := f) rfl (by first | omega | (split <;> omega)) rfl dX4_draws_73 rfl ?_
                refine Go.iinc_0 X (nI (k + 1)) dX4_draws_74 (by decide) rfl (show nI k + Int32.ofInt 1 = nI (k + 1) from nI_add _ 1) ?_
                refine Go.goto X 53 dX4_draws_77 (by decide) ?_
                refine Go.conv (M1 := mdW g ad (stW N w, K, b, z, le, rf, hd, ln, vl) (6, at1, tk, so, va, lm, ol, ah, (nI (cW N w)), (upd f k (nI (w k))))) ?_ (by rfl) rfl rfl
                exact ih53 (k + 1) (upd f k (nI (w k))) (by first | omega | (split <;> omega)) (by exact up_f hf) (by first | omega | (split <;> omega))
          refine Go.conv (M1 := mdW g ad (stW N w, K, b, z, le, rf, hd, ln, vl) (6, at1, tk, so, va, lm, ol, ah, (nI (cW N w)), br)) ?_ (by rfl) rfl rfl
          exact L53 (9 - 0 + 1) 0 br (by first | omega | (split <;> omega)) (by intro j hj; omega) (Nat.lt_succ_self _)
        · --
          have e9 : fo N (l, br) (rws (sA N) 0 m left w) = (l, br) := (rws_00 (sA N) m w N (l, br) h9).trans (lfo_n h33 h41)
          exact Go.vret X E dX4_draws_44 ⟨rfl, w, fun _ _ => rfl, hw9, by rw [e9]⟩ rfl
    · --
      have e9 : fo N (l, br) (rws (sA N) 0 m left w) = (l, br) := rws_01 (sA N) m w N (l, br) (show ¬ left = 0 by omega)
      exact Go.vret X E dX4_draws_12 ⟨rfl, w, fun _ _ => rfl, hw9, by rw [e9]⟩ rfl
set_option maxHeartbeats 4000000 in
set_option maxRecDepth 100000 in
theorem d_draws_1 (g : gT) (ad : Nat → Nat) (N : Sch) (K : Sch) (b : Bool) (z : Nat) (le : Nat → Nat) (rf : Nat → Int32) (hd : Nat → Int32) (ln : Nat → Nat) (vl : Nat → Nat → Int64) (at1 : Nat) (tk : Nat) (so : Int32) (va : Int32) (lm : Nat → Nat) (ol : Nat → Int32) (ah : Nat → Int32) (w : Nat → Nat) (l : Int32) (br : Nat → Int32) (m : Nat) (left : Nat) (hN : sOk N) (hmD : m + 1 = sN N) (hl9 : left ≤ 9) (hw9 : ∀ i, i < 9 → w i ≤ 9) : Ct g yX4_draws wsX4_draws 8 185 [.ref (ad 0), .int (nI m), .int (nI left)] (mdW g ad (stW N w, K, b, z, le, rf, hd, ln, vl) (6, at1, tk, so, va, lm, ol, ah, l, br)) (fun v9 w9 => v9 = none ∧ ∃ (W1 : Nat → Nat), (∀ i, i < m ∨ sN N ≤ i → W1 i = w i) ∧ (∀ i, i < 9 → W1 i ≤ 9) ∧ w9 = mdW g ad (stW N W1, K, b, z, le, rf, hd, ln, vl) (6, at1, tk, so, va, lm, ol, ah, (fo N (l, br) (rws (sA N) 1 m left w)).1, (fo N (l, br) (rws (sA N) 1 m left w)).2)) := by
  refine Ct.start (cc := cX4_draws) (nL := 5) (ret := none) (own := RX4) (by decide) rfl rfl rfl ?_
  intro Γ X E
  show Go Γ g 5 (rmC 8 185) 0 0 (mdW g ad (stW N w, K, b, z, le, rf, hd, ln, vl) (6, at1, tk, so, va, lm, ol, ah, l, br)) 0 [(0, .ref (ad 0)), (1, .int (nI m)), (2, .int (nI left))] []
  obtain ⟨o1, o2, o3, o4, o5, o6, o7, o8⟩ := id hN
  have o9 := p2_9 o2
  have o10 := sA_512 hN
  refine Go.iload_n X 1 dX4_draws_0 rfl ?_
  refine Go.aload_n X 0 dX4_draws_1 rfl ?_
  refine Go.get X f_X4_draws_66 0 (v := .int (nI (sN N))) rfl rfl dX4_draws_2 ?_
  refine Go.icmp_neN X 81 dX4_draws_5 (by decide) (by first | omega | (split <;> omega)) (by first | omega | (split <;> omega)) (fun h5 => ?_) (fun h5 => ?_)
  · --
    refine Go.aload_n X 0 dX4_draws_81 rfl ?_
    refine Go.get X f_X4_draws_111 0 (v := .int (nI (sA N))) rfl rfl dX4_draws_82 ?_
    refine Go.iload_n X 1 dX4_draws_85 rfl ?_
    refine Go.callSi X  (d_has g (sA N) m (by first | omega | (split <;> omega)) (by first | omega | (split <;> omega))) cal_X4_has [] rfl rfl gX4_draws_X4_has rfl rfl rfl dX4_draws_86 ?_
    refine Go.if_eqB X 96 dX4_draws_89 (by decide) (fun h89 => ?_) (fun h89 => ?_)
    · --
      refine Go.iconst X (nI 0) dX4_draws_96 k_ic_0 ?_
      obtain ⟨q, hq⟩ : ∃ q, q = (if (sA N).testBit m then left else 0) := ⟨_, rfl⟩
      have hql : q ≤ left := by rw [hq]; split <;> omega
      refine Go.top (w := .int (nI q)) (by rw [hq, if_neg (by rw [h89]; decide)]) ?_
      refine Go.istore_n_new X dX4_draws_97 (by decide) rfl ?_
      refine Go.iconst X (nI 0) dX4_draws_98 k_ic_0 ?_
      refine Go.istore_new X dX4_draws_99 (by decide) rfl ?_
      have L101 : ∀ (f101 : Nat) (v : Nat) (u : Nat → Nat) (hv : v ≤ q + 1) (hu : ∀ i, i < m ∨ sN N ≤ i → u i = w i) (hx : ∀ i, i < 9 → u i ≤ 9) (hf101 : q + 1 - v < f101), Go Γ g 5 (rmC 8 185) 0 0 (mdW g ad (stW N u, K, b, z, le, rf, hd, ln, vl) (6, at1, tk, so, va, lm, ol, ah, ((fo N (l, br) (sg (dF (sA N) 0 m left w) v))).1, ((fo N (l, br) (sg (dF (sA N) 0 m left w) v))).2)) 101 [(4, .int (nI v)), (3, .int (nI q)), (0, .ref (ad 0)), (1, .int (nI m)), (2, .int (nI left))] [] := by
        intro f101
        induction f101 with
        | zero => intro v u hv hu hx hf101; exact absurd hf101 (Nat.not_lt_zero _)
        | succ f101 ih101 =>
          intro v u hv hu hx hf101
          refine Go.iload X 0 dX4_draws_101 rfl ?_
          refine Go.iload_n X 1 dX4_draws_103 rfl ?_
          refine Go.icmp_gtN X 132 dX4_draws_104 (by decide) (by first | omega | (split <;> omega)) (by first | omega | (split <;> omega)) (fun h104 => ?_) (fun h104 => ?_)
          · --
            have e9 : fo N (l, br) (rws (sA N) 1 m left w) = fo N (l, br) (sg (dF (sA N) 0 m left w) v) := by rw [rws_dF, ← hq, show q + 1 = v by omega]
            exact Go.vret X E dX4_draws_132 ⟨rfl, u, hu, hx, by rw [e9]⟩ rfl
          · --
            refine Go.aload_n X 2 dX4_draws_107 rfl ?_
            refine Go.get X f_X4_draws_20 0 (v := .ref (ad 4)) rfl rfl dX4_draws_108 ?_
            refine Go.iload_n X 3 dX4_draws_111 rfl ?_
            refine Go.iload X 0 dX4_draws_112 rfl ?_
            refine Go.iastNM X 4 (mdW g ad ((sN N, sA N, updN u m v, sD N, sP N, sK N, sO N, sG N, sT N, sF N, sX N), K, b, z, le, rf, hd, ln, vl) (6, at1, tk, so, va, lm, ol, ah, ((fo N (l, br) (sg (dF (sA N) 0 m left w) v))).1, ((fo N (l, br) (sg (dF (sA N) 0 m left w) v))).2)) (w := u) rfl (by first | omega | (split <;> omega)) rfl dX4_draws_114 rfl ?_
            refine Go.conv (M1 := mdW g ad (stW N (updN u m v), K, b, z, le, rf, hd, ln, vl) (6, at1, tk, so, va, lm, ol, ah, ((fo N (l, br) (sg (dF (sA N) 0 m left w) v))).1, ((fo N (l, br) (sg (dF (sA N) 0 m left w) v))).2)) ?_ (by rfl) rfl rfl
            refine Go.aload_n X 2 dX4_draws_115 rfl ?_
            refine Go.iload_n X 3 dX4_draws_116 rfl ?_
            refine Go.iconst X (nI 1) dX4_draws_117 k_ic_1 ?_
            refine Go.iadd_e X (nI (m + 1)) dX4_draws_118 (nI_add _ _) ?_
            refine Go.iload_n X 4 dX4_draws_119 rfl ?_
            refine Go.iload X 0 dX4_draws_120 rfl ?_
            refine Go.isub_e X (nI (left - v)) dX4_draws_122 (pk_sub (by first | omega | (split <;> omega))) ?_
            refine Go.callV0 X (d_draws_0 g ad N K b z le rf hd ln vl at1 tk so va lm ol ah (updN u m v) (((fo N (l, br) (sg (dF (sA N) 0 m left w) v))).1) (((fo N (l, br) (sg (dF (sA N) 0 m left w) v))).2) (m + 1) (left - v) (by exact hN) (by omega) (by omega) (by exact up_le hx (by omega))) cal_X4_draws gX4_draws_X4_draws (ci := 4) (q0 := 0) rfl rfl rfl rfl rfl dX4_draws_123 (fun v9 w9 e9 => ?_)
            obtain ⟨rfl, W1_123, hw1_123, hw2_123, rfl⟩ := e9
            show Go Γ g 5 (rmC 8 185) 0 0 (mdW g ad (stW N W1_123, K, b, z, le, rf, hd, ln, vl) (6, at1, tk, so, va, lm, ol, ah, (fo N ((((fo N (l, br) (sg (dF (sA N) 0 m left w) v))).1), (((fo N (l, br) (sg (dF (sA N) 0 m left w) v))).2)) (rws (sA N) 0 (m + 1) (left - v) (updN u m v))).1, (fo N ((((fo N (l, br) (sg (dF (sA N) 0 m left w) v))).1), (((fo N (l, br) (sg (dF (sA N) 0 m left w) v))).2)) (rws (sA N) 0 (m + 1) (left - v) (updN u m v))).2)) 126 [(4, .int (nI v)), (3, .int (nI q)), (0, .ref (ad 0)), (1, .int (nI m)), (2, .int (nI left))] []
            have e126 : fo N ((fo N (l, br) (sg (dF (sA N) 0 m left w) v)).1, (fo N (l, br) (sg (dF (sA N) 0 m left w) v)).2) (rws (sA N) 0 (m + 1) (left - v) (updN u m v)) = (fo N (l, br) (sg (dF (sA N) 0 m left w) (v + 1))) := by rw [fo_sg, ← dF_ext (d := 0) (v := v) (fun i hi => hu i (by omega))]
            refine Go.conv (M1 := mdW g ad (stW N W1_123, K, b, z, le, rf, hd, ln, vl) (6, at1, tk, so, va, lm, ol, ah, ((fo N (l, br) (sg (dF (sA N) 0 m left w) (v + 1)))).1, (fo N ((((fo N (l, br) (sg (dF (sA N) 0 m left w) v))).1), (((fo N (l, br) (sg (dF (sA N) 0 m left w) v))).2)) (rws (sA N) 0 (m + 1) (left - v) (updN u m v))).2)) ?_ (by rw [e126]) rfl rfl
            refine Go.conv (M1 := mdW g ad (stW N W1_123, K, b, z, le, rf, hd, ln, vl) (6, at1, tk, so, va, lm, ol, ah, ((fo N (l, br) (sg (dF (sA N) 0 m left w) (v + 1)))).1, ((fo N (l, br) (sg (dF (sA N) 0 m left w) (v + 1)))).2)) ?_ (by rw [e126]) rfl rfl
            refine Go.iinc_0 X (nI (v + 1)) dX4_draws_126 (by decide) rfl (show nI v + Int32.ofInt 1 = nI (v + 1) from nI_add _ 1) ?_
            refine Go.goto X 101 dX4_draws_129 (by decide) ?_
            refine Go.conv (M1 := mdW g ad (stW N W1_123, K, b, z, le, rf, hd, ln, vl) (6, at1, tk, so, va, lm, ol, ah, ((fo N (l, br) (sg (dF (sA N) 0 m left w) (v + 1)))).1, ((fo N (l, br) (sg (dF (sA N) 0 m left w) (v + 1)))).2)) ?_ (by rfl) rfl rfl
            exact ih101 (v + 1) W1_123 (by first | omega | (split <;> omega)) (by exact up_keep hu (by omega) hw1_123) (by exact hw2_123) (by first | omega | (split <;> omega))
      refine Go.conv (M1 := mdW g ad (stW N w, K, b, z, le, rf, hd, ln, vl) (6, at1, tk, so, va, lm, ol, ah, ((fo N (l, br) (sg (dF (sA N) 0 m left w) 0))).1, ((fo N (l, br) (sg (dF (sA N) 0 m left w) 0))).2)) ?_ (by rfl) rfl rfl
      exact L101 (q + 1 - 0 + 1) 0 w (by first | omega | (split <;> omega)) (by intro i _; rfl) (by exact hw9) (Nat.lt_succ_self _)
    · --
      refine Go.iload_n X 2 dX4_draws_92 rfl ?_
      refine Go.goto X 97 dX4_draws_93 (by decide) ?_
      obtain ⟨q, hq⟩ : ∃ q, q = (if (sA N).testBit m then left else 0) := ⟨_, rfl⟩
      have hql : q ≤ left := by rw [hq]; split <;> omega
      refine Go.top (w := .int (nI q)) (by rw [hq, if_pos h89]) ?_
      refine Go.istore_n_new X dX4_draws_97 (by decide) rfl ?_
      refine Go.iconst X (nI 0) dX4_draws_98 k_ic_0 ?_
      refine Go.istore_new X dX4_draws_99 (by decide) rfl ?_
      have L101 : ∀ (f101 : Nat) (v : Nat) (u : Nat → Nat) (hv : v ≤ q + 1) (hu : ∀ i, i < m ∨ sN N ≤ i → u i = w i) (hx : ∀ i, i < 9 → u i ≤ 9) (hf101 : q + 1 - v < f101), Go Γ g 5 (rmC 8 185) 0 0 (mdW g ad (stW N u, K, b, z, le, rf, hd, ln, vl) (6, at1, tk, so, va, lm, ol, ah, ((fo N (l, br) (sg (dF (sA N) 0 m left w) v))).1, ((fo N (l, br) (sg (dF (sA N) 0 m left w) v))).2)) 101 [(4, .int (nI v)), (3, .int (nI q)), (0, .ref (ad 0)), (1, .int (nI m)), (2, .int (nI left))] [] := by
        intro f101
        induction f101 with
        | zero => intro v u hv hu hx hf101; exact absurd hf101 (Nat.not_lt_zero _)
        | succ f101 ih101 =>
          intro v u hv hu hx hf101
          refine Go.iload X 0 dX4_draws_101 rfl ?_
          refine Go.iload_n X 1 dX4_draws_103 rfl ?_
          refine Go.icmp_gtN X 132 dX4_draws_104 (by decide) (by first | omega | (split <;> omega)) (by first | omega | (split <;> omega)) (fun h104 => ?_) (fun h104 => ?_)
          · --
            have e9 : fo N (l, br) (rws (sA N) 1 m left w) = fo N (l, br) (sg (dF (sA N) 0 m left w) v) := by rw [rws_dF, ← hq, show q + 1 = v by omega]
            exact Go.vret X E dX4_draws_132 ⟨rfl, u, hu, hx, by rw [e9]⟩ rfl
          · --
            refine Go.aload_n X 2 dX4_draws_107 rfl ?_
            refine Go.get X f_X4_draws_20 0 (v := .ref (ad 4)) rfl rfl dX4_draws_108 ?_
            refine Go.iload_n X 3 dX4_draws_111 rfl ?_
            refine Go.iload X 0 dX4_draws_112 rfl ?_
            refine Go.iastNM X 4 (mdW g ad ((sN N, sA N, updN u m v, sD N, sP N, sK N, sO N, sG N, sT N, sF N, sX N), K, b, z, le, rf, hd, ln, vl) (6, at1, tk, so, va, lm, ol, ah, ((fo N (l, br) (sg (dF (sA N) 0 m left w) v))).1, ((fo N (l, br) (sg (dF (sA N) 0 m left w) v))).2)) (w := u) rfl (by first | omega | (split <;> omega)) rfl dX4_draws_114 rfl ?_
            refine Go.conv (M1 := mdW g ad (stW N (updN u m v), K, b, z, le, rf, hd, ln, vl) (6, at1, tk, so, va, lm, ol, ah, ((fo N (l, br) (sg (dF (sA N) 0 m left w) v))).1, ((fo N (l, br) (sg (dF (sA N) 0 m left w) v))).2)) ?_ (by rfl) rfl rfl
            refine Go.aload_n X 2 dX4_draws_115 rfl ?_
            refine Go.iload_n X 3 dX4_draws_116 rfl ?_
            refine Go.iconst X (nI 1) dX4_draws_117 k_ic_1 ?_
            refine Go.iadd_e X (nI (m + 1)) dX4_draws_118 (nI_add _ _) ?_
            refine Go.iload_n X 4 dX4_draws_119 rfl ?_
            refine Go.iload X 0 dX4_draws_120 rfl ?_
            refine Go.isub_e X (nI (left - v)) dX4_draws_122 (pk_sub (by first | omega | (split <;> omega))) ?_
            refine Go.callV0 X (d_draws_0 g ad N K b z le rf hd ln vl at1 tk so va lm ol ah (updN u m v) (((fo N (l, br) (sg (dF (sA N) 0 m left w) v))).1) (((fo N (l, br) (sg (dF (sA N) 0 m left w) v))).2) (m + 1) (left - v) (by exact hN) (by omega) (by omega) (by exact up_le hx (by omega))) cal_X4_draws gX4_draws_X4_draws (ci := 4) (q0 := 0) rfl rfl rfl rfl rfl dX4_draws_123 (fun v9 w9 e9 => ?_)
            obtain ⟨rfl, W1_123, hw1_123, hw2_123, rfl⟩ := e9
            show Go Γ g 5 (rmC 8 185) 0 0 (mdW g ad (stW N W1_123, K, b, z, le, rf, hd, ln, vl) (6, at1, tk, so, va, lm, ol, ah, (fo N ((((fo N (l, br) (sg (dF (sA N) 0 m left w) v))).1), (((fo N (l, br) (sg (dF (sA N) 0 m left w) v))).2)) (rws (sA N) 0 (m + 1) (left - v) (updN u m v))).1, (fo N ((((fo N (l, br) (sg (dF (sA N) 0 m left w) v))).1), (((fo N (l, br) (sg (dF (sA N) 0 m left w) v))).2)) (rws (sA N) 0 (m + 1) (left - v) (updN u m v))).2)) 126 [(4, .int (nI v)), (3, .int (nI q)), (0, .ref (ad 0)), (1, .int (nI m)), (2, .int (nI left))] []
            have e126 : fo N ((fo N (l, br) (sg (dF (sA N) 0 m left w) v)).1, (fo N (l, br) (sg (dF (sA N) 0 m left w) v)).2) (rws (sA N) 0 (m + 1) (left - v) (updN u m v)) = (fo N (l, br) (sg (dF (sA N) 0 m left w) (v + 1))) := by rw [fo_sg, ← dF_ext (d := 0) (v := v) (fun i hi => hu i (by omega))]
            refine Go.conv (M1 := mdW g ad (stW N W1_123, K, b, z, le, rf, hd, ln, vl) (6, at1, tk, so, va, lm, ol, ah, ((fo N (l, br) (sg (dF (sA N) 0 m left w) (v + 1)))).1, (fo N ((((fo N (l, br) (sg (dF (sA N) 0 m left w) v))).1), (((fo N (l, br) (sg (dF (sA N) 0 m left w) v))).2)) (rws (sA N) 0 (m + 1) (left - v) (updN u m v))).2)) ?_ (by rw [e126]) rfl rfl
            refine Go.conv (M1 := mdW g ad (stW N W1_123, K, b, z, le, rf, hd, ln, vl) (6, at1, tk, so, va, lm, ol, ah, ((fo N (l, br) (sg (dF (sA N) 0 m left w) (v + 1)))).1, ((fo N (l, br) (sg (dF (sA N) 0 m left w) (v + 1)))).2)) ?_ (by rw [e126]) rfl rfl
            refine Go.iinc_0 X (nI (v + 1)) dX4_draws_126 (by decide) rfl (show nI v + Int32.ofInt 1 = nI (v + 1) from nI_add _ 1) ?_
            refine Go.goto X 101 dX4_draws_129 (by decide) ?_
            refine Go.conv (M1 := mdW g ad (stW N W1_123, K, b, z, le, rf, hd, ln, vl) (6, at1, tk, so, va, lm, ol, ah, ((fo N (l, br) (sg (dF (sA N) 0 m left w) (v + 1)))).1, ((fo N (l, br) (sg (dF (sA N) 0 m left w) (v + 1)))).2)) ?_ (by rfl) rfl rfl
            exact ih101 (v + 1) W1_123 (by first | omega | (split <;> omega)) (by exact up_keep hu (by omega) hw1_123) (by exact hw2_123) (by first | omega | (split <;> omega))
      refine Go.conv (M1 := mdW g ad (stW N w, K, b, z, le, rf, hd, ln, vl) (6, at1, tk, so, va, lm, ol, ah, ((fo N (l, br) (sg (dF (sA N) 0 m left w) 0))).1, ((fo N (l, br) (sg (dF (sA N) 0 m left w) 0))).2)) ?_ (by rfl) rfl rfl
      exact L101 (q + 1 - 0 + 1) 0 w (by first | omega | (split <;> omega)) (by intro i _; rfl) (by exact hw9) (Nat.lt_succ_self _)
  · --
    exact absurd h5 (by omega)
set_option maxHeartbeats 4000000 in
set_option maxRecDepth 100000 in
theorem d_draws_2 (g : gT) (ad : Nat → Nat) (N : Sch) (K : Sch) (b : Bool) (z : Nat) (le : Nat → Nat) (rf : Nat → Int32) (hd : Nat → Int32) (ln : Nat → Nat) (vl : Nat → Nat → Int64) (at1 : Nat) (tk : Nat) (so : Int32) (va : Int32) (lm : Nat → Nat) (ol : Nat → Int32) (ah : Nat → Int32) (w : Nat → Nat) (l : Int32) (br : Nat → Int32) (m : Nat) (left : Nat) (hN : sOk N) (hmD : m + 2 = sN N) (hl9 : left ≤ 9) (hw9 : ∀ i, i < 9 → w i ≤ 9) : Ct g yX4_draws wsX4_draws 9 209 [.ref (ad 0), .int (nI m), .int (nI left)] (mdW g ad (stW N w, K, b, z, le, rf, hd, ln, vl) (6, at1, tk, so, va, lm, ol, ah, l, br)) (fun v9 w9 => v9 = none ∧ ∃ (W1 : Nat → Nat), (∀ i, i < m ∨ sN N ≤ i → W1 i = w i) ∧ (∀ i, i < 9 → W1 i ≤ 9) ∧ w9 = mdW g ad (stW N W1, K, b, z, le, rf, hd, ln, vl) (6, at1, tk, so, va, lm, ol, ah, (fo N (l, br) (rws (sA N) 2 m left w)).1, (fo N (l, br) (rws (sA N) 2 m left w)).2)) := by
  refine Ct.start (cc := cX4_draws) (nL := 5) (ret := none) (own := RX4) (by decide) rfl rfl rfl ?_
  intro Γ X E
  show Go Γ g 5 (rmC 9 209) 0 0 (mdW g ad (stW N w, K, b, z, le, rf, hd, ln, vl) (6, at1, tk, so, va, lm, ol, ah, l, br)) 0 [(0, .ref (ad 0)), (1, .int (nI m)), (2, .int (nI left))] []
  obtain ⟨o1, o2, o3, o4, o5, o6, o7, o8⟩ := id hN
  have o9 := p2_9 o2
  have o10 := sA_512 hN
  refine Go.iload_n X 1 dX4_draws_0 rfl ?_
  refine Go.aload_n X 0 dX4_draws_1 rfl ?_
  refine Go.get X f_X4_draws_66 0 (v := .int (nI (sN N))) rfl rfl dX4_draws_2 ?_
  refine Go.icmp_neN X 81 dX4_draws_5 (by decide) (by first | omega | (split <;> omega)) (by first | omega | (split <;> omega)) (fun h5 => ?_) (fun h5 => ?_)
  · --
    refine Go.aload_n X 0 dX4_draws_81 rfl ?_
    refine Go.get X f_X4_draws_111 0 (v := .int (nI (sA N))) rfl rfl dX4_draws_82 ?_
    refine Go.iload_n X 1 dX4_draws_85 rfl ?_
    refine Go.callSi X  (d_has g (sA N) m (by first | omega | (split <;> omega)) (by first | omega | (split <;> omega))) cal_X4_has [] rfl rfl gX4_draws_X4_has rfl rfl rfl dX4_draws_86 ?_
    refine Go.if_eqB X 96 dX4_draws_89 (by decide) (fun h89 => ?_) (fun h89 => ?_)
    · --
      refine Go.iconst X (nI 0) dX4_draws_96 k_ic_0 ?_
      obtain ⟨q, hq⟩ : ∃ q, q = (if (sA N).testBit m then left else 0) := ⟨_, rfl⟩
      have hql : q ≤ left := by rw [hq]; split <;> omega
      refine Go.top (w := .int (nI q)) (by rw [hq, if_neg (by rw [h89]; decide)]) ?_
      refine Go.istore_n_new X dX4_draws_97 (by decide) rfl ?_
      refine Go.iconst X (nI 0) dX4_draws_98 k_ic_0 ?_
      refine Go.istore_new X dX4_draws_99 (by decide) rfl ?_
      have L101 : ∀ (f101 : Nat) (v : Nat) (u : Nat → Nat) (hv : v ≤ q + 1) (hu : ∀ i, i < m ∨ sN N ≤ i → u i = w i) (hx : ∀ i, i < 9 → u i ≤ 9) (hf101 : q + 1 - v < f101), Go Γ g 5 (rmC 9 209) 0 0 (mdW g ad (stW N u, K, b, z, le, rf, hd, ln, vl) (6, at1, tk, so, va, lm, ol, ah, ((fo N (l, br) (sg (dF (sA N) 1 m left w) v))).1, ((fo N (l, br) (sg (dF (sA N) 1 m left w) v))).2)) 101 [(4, .int (nI v)), (3, .int (nI q)), (0, .ref (ad 0)), (1, .int (nI m)), (2, .int (nI left))] [] := by
        intro f101
        induction f101 with
        | zero => intro v u hv hu hx hf101; exact absurd hf101 (Nat.not_lt_zero _)
        | succ f101 ih101 =>
          intro v u hv hu hx hf101
          refine Go.iload X 0 dX4_draws_101 rfl ?_
          refine Go.iload_n X 1 dX4_draws_103 rfl ?_
          refine Go.icmp_gtN X 132 dX4_draws_104 (by decide) (by first | omega | (split <;> omega)) (by first | omega | (split <;> omega)) (fun h104 => ?_) (fun h104 => ?_)
          · --
            have e9 : fo N (l, br) (rws (sA N) 2 m left w) = fo N (l, br) (sg (dF (sA N) 1 m left w) v) := by rw [rws_dF, ← hq, show q + 1 = v by omega]
            exact Go.vret X E dX4_draws_132 ⟨rfl, u, hu, hx, by rw [e9]⟩ rfl
          · --
            refine Go.aload_n X 2 dX4_draws_107 rfl ?_
            refine Go.get X f_X4_draws_20 0 (v := .ref (ad 4)) rfl rfl dX4_draws_108 ?_
            refine Go.iload_n X 3 dX4_draws_111 rfl ?_
            refine Go.iload X 0 dX4_draws_112 rfl ?_
            refine Go.iastNM X 4 (mdW g ad ((sN N, sA N, updN u m v, sD N, sP N, sK N, sO N, sG N, sT N, sF N, sX N), K, b, z, le, rf, hd, ln, vl) (6, at1, tk, so, va, lm, ol, ah, ((fo N (l, br) (sg (dF (sA N) 1 m left w) v))).1, ((fo N (l, br) (sg (dF (sA N) 1 m left w) v))).2)) (w := u) rfl (by first | omega | (split <;> omega)) rfl dX4_draws_114 rfl ?_
            refine Go.conv (M1 := mdW g ad (stW N (updN u m v), K, b, z, le, rf, hd, ln, vl) (6, at1, tk, so, va, lm, ol, ah, ((fo N (l, br) (sg (dF (sA N) 1 m left w) v))).1, ((fo N (l, br) (sg (dF (sA N) 1 m left w) v))).2)) ?_ (by rfl) rfl rfl
            refine Go.aload_n X 2 dX4_draws_115 rfl ?_
            refine Go.iload_n X 3 dX4_draws_116 rfl ?_
            refine Go.iconst X (nI 1) dX4_draws_117 k_ic_1 ?_
            refine Go.iadd_e X (nI (m + 1)) dX4_draws_118 (nI_add _ _) ?_
            refine Go.iload_n X 4 dX4_draws_119 rfl ?_
            refine Go.iload X 0 dX4_draws_120 rfl ?_
            refine Go.isub_e X (nI (left - v)) dX4_draws_122 (pk_sub (by first | omega | (split <;> omega))) ?_
            refine Go.callV0 X (d_draws_1 g ad N K b z le rf hd ln vl at1 tk so va lm ol ah (updN u m v) (((fo N (l, br) (sg (dF (sA N) 1 m left w) v))).1) (((fo N (l, br) (sg (dF (sA N) 1 m left w) v))).2) (m + 1) (left - v) (by exact hN) (by omega) (by omega) (by exact up_le hx (by omega))) cal_X4_draws gX4_draws_X4_draws (ci := 4) (q0 := 0) rfl rfl rfl rfl rfl dX4_draws_123 (fun v9 w9 e9 => ?_)
            obtain ⟨rfl, W1_123, hw1_123, hw2_123, rfl⟩ := e9
            show Go Γ g 5 (rmC 9 209) 0 0 (mdW g ad (stW N W1_123, K, b, z, le, rf, hd, ln, vl) (6, at1, tk, so, va, lm, ol, ah, (fo N ((((fo N (l, br) (sg (dF (sA N) 1 m left w) v))).1), (((fo N (l, br) (sg (dF (sA N) 1 m left w) v))).2)) (rws (sA N) 1 (m + 1) (left - v) (updN u m v))).1, (fo N ((((fo N (l, br) (sg (dF (sA N) 1 m left w) v))).1), (((fo N (l, br) (sg (dF (sA N) 1 m left w) v))).2)) (rws (sA N) 1 (m + 1) (left - v) (updN u m v))).2)) 126 [(4, .int (nI v)), (3, .int (nI q)), (0, .ref (ad 0)), (1, .int (nI m)), (2, .int (nI left))] []
            have e126 : fo N ((fo N (l, br) (sg (dF (sA N) 1 m left w) v)).1, (fo N (l, br) (sg (dF (sA N) 1 m left w) v)).2) (rws (sA N) 1 (m + 1) (left - v) (updN u m v)) = (fo N (l, br) (sg (dF (sA N) 1 m left w) (v + 1))) := by rw [fo_sg, ← dF_ext (d := 1) (v := v) (fun i hi => hu i (by omega))]
            refine Go.conv (M1 := mdW g ad (stW N W1_123, K, b, z, le, rf, hd, ln, vl) (6, at1, tk, so, va, lm, ol, ah, ((fo N (l, br) (sg (dF (sA N) 1 m left w) (v + 1)))).1, (fo N ((((fo N (l, br) (sg (dF (sA N) 1 m left w) v))).1), (((fo N (l, br) (sg (dF (sA N) 1 m left w) v))).2)) (rws (sA N) 1 (m + 1) (left - v) (updN u m v))).2)) ?_ (by rw [e126]) rfl rfl
            refine Go.conv (M1 := mdW g ad (stW N W1_123, K, b, z, le, rf, hd, ln, vl) (6, at1, tk, so, va, lm, ol, ah, ((fo N (l, br) (sg (dF (sA N) 1 m left w) (v + 1)))).1, ((fo N (l, br) (sg (dF (sA N) 1 m left w) (v + 1)))).2)) ?_ (by rw [e126]) rfl rfl
            refine Go.iinc_0 X (nI (v + 1)) dX4_draws_126 (by decide) rfl (show nI v + Int32.ofInt 1 = nI (v + 1) from nI_add _ 1) ?_
            refine Go.goto X 101 dX4_draws_129 (by decide) ?_
            refine Go.conv (M1 := mdW g ad (stW N W1_123, K, b, z, le, rf, hd, ln, vl) (6, at1, tk, so, va, lm, ol, ah, ((fo N (l, br) (sg (dF (sA N) 1 m left w) (v + 1)))).1, ((fo N (l, br) (sg (dF (sA N) 1 m left w) (v + 1)))).2)) ?_ (by rfl) rfl rfl
            exact ih101 (v + 1) W1_123 (by first | omega | (split <;> omega)) (by exact up_keep hu (by omega) hw1_123) (by exact hw2_123) (by first | omega | (split <;> omega))
      refine Go.conv (M1 := mdW g ad (stW N w, K, b, z, le, rf, hd, ln, vl) (6, at1, tk, so, va, lm, ol, ah, ((fo N (l, br) (sg (dF (sA N) 1 m left w) 0))).1, ((fo N (l, br) (sg (dF (sA N) 1 m left w) 0))).2)) ?_ (by rfl) rfl rfl
      exact L101 (q + 1 - 0 + 1) 0 w (by first | omega | (split <;> omega)) (by intro i _; rfl) (by exact hw9) (Nat.lt_succ_self _)
    · --
      refine Go.iload_n X 2 dX4_draws_92 rfl ?_
      refine Go.goto X 97 dX4_draws_93 (by decide) ?_
      obtain ⟨q, hq⟩ : ∃ q, q = (if (sA N).testBit m then left else 0) := ⟨_, rfl⟩
      have hql : q ≤ left := by rw [hq]; split <;> omega
      refine Go.top (w := .int (nI q)) (by rw [hq, if_pos h89]) ?_
      refine Go.istore_n_new X dX4_draws_97 (by decide) rfl ?_
      refine Go.iconst X (nI 0) dX4_draws_98 k_ic_0 ?_
      refine Go.istore_new X dX4_draws_99 (by decide) rfl ?_
      have L101 : ∀ (f101 : Nat) (v : Nat) (u : Nat → Nat) (hv : v ≤ q + 1) (hu : ∀ i, i < m ∨ sN N ≤ i → u i = w i) (hx : ∀ i, i < 9 → u i ≤ 9) (hf101 : q + 1 - v < f101), Go Γ g 5 (rmC 9 209) 0 0 (mdW g ad (stW N u, K, b, z, le, rf, hd, ln, vl) (6, at1, tk, so, va, lm, ol, ah, ((fo N (l, br) (sg (dF (sA N) 1 m left w) v))).1, ((fo N (l, br) (sg (dF (sA N) 1 m left w) v))).2)) 101 [(4, .int (nI v)), (3, .int (nI q)), (0, .ref (ad 0)), (1, .int (nI m)), (2, .int (nI left))] [] := by
        intro f101
        induction f101 with
        | zero => intro v u hv hu hx hf101; exact absurd hf101 (Nat.not_lt_zero _)
        | succ f101 ih101 =>
          intro v u hv hu hx hf101
          refine Go.iload X 0 dX4_draws_101 rfl ?_
          refine Go.iload_n X 1 dX4_draws_103 rfl ?_
          refine Go.icmp_gtN X 132 dX4_draws_104 (by decide) (by first | omega | (split <;> omega)) (by first | omega | (split <;> omega)) (fun h104 => ?_) (fun h104 => ?_)
          · --
            have e9 : fo N (l, br) (rws (sA N) 2 m left w) = fo N (l, br) (sg (dF (sA N) 1 m left w) v) := by rw [rws_dF, ← hq, show q + 1 = v by omega]
            exact Go.vret X E dX4_draws_132 ⟨rfl, u, hu, hx, by rw [e9]⟩ rfl
          · --
            refine Go.aload_n X 2 dX4_draws_107 rfl ?_
            refine Go.get X f_X4_draws_20 0 (v := .ref (ad 4)) rfl rfl dX4_draws_108 ?_
            refine Go.iload_n X 3 dX4_draws_111 rfl ?_
            refine Go.iload X 0 dX4_draws_112 rfl ?_
            refine Go.iastNM X 4 (mdW g ad ((sN N, sA N, updN u m v, sD N, sP N, sK N, sO N, sG N, sT N, sF N, sX N), K, b, z, le, rf, hd, ln, vl) (6, at1, tk, so, va, lm, ol, ah, ((fo N (l, br) (sg (dF (sA N) 1 m left w) v))).1, ((fo N (l, br) (sg (dF (sA N) 1 m left w) v))).2)) (w := u) rfl (by first | omega | (split <;> omega)) rfl dX4_draws_114 rfl ?_
            refine Go.conv (M1 := mdW g ad (stW N (updN u m v), K, b, z, le, rf, hd, ln, vl) (6, at1, tk, so, va, lm, ol, ah, ((fo N (l, br) (sg (dF (sA N) 1 m left w) v))).1, ((fo N (l, br) (sg (dF (sA N) 1 m left w) v))).2)) ?_ (by rfl) rfl rfl
            refine Go.aload_n X 2 dX4_draws_115 rfl ?_
            refine Go.iload_n X 3 dX4_draws_116 rfl ?_
            refine Go.iconst X (nI 1) dX4_draws_117 k_ic_1 ?_
            refine Go.iadd_e X (nI (m + 1)) dX4_draws_118 (nI_add _ _) ?_
            refine Go.iload_n X 4 dX4_draws_119 rfl ?_
            refine Go.iload X 0 dX4_draws_120 rfl ?_
            refine Go.isub_e X (nI (left - v)) dX4_draws_122 (pk_sub (by first | omega | (split <;> omega))) ?_
            refine Go.callV0 X (d_draws_1 g ad N K b z le rf hd ln vl at1 tk so va lm ol ah (updN u m v) (((fo N (l, br) (sg (dF (sA N) 1 m left w) v))).1) (((fo N (l, br) (sg (dF (sA N) 1 m left w) v))).2) (m + 1) (left - v) (by exact hN) (by omega) (by omega) (by exact up_le hx (by omega))) cal_X4_draws gX4_draws_X4_draws (ci := 4) (q0 := 0) rfl rfl rfl rfl rfl dX4_draws_123 (fun v9 w9 e9 => ?_)
            obtain ⟨rfl, W1_123, hw1_123, hw2_123, rfl⟩ := e9
            show Go Γ g 5 (rmC 9 209) 0 0 (mdW g ad (stW N W1_123, K, b, z, le, rf, hd, ln, vl) (6, at1, tk, so, va, lm, ol, ah, (fo N ((((fo N (l, br) (sg (dF (sA N) 1 m left w) v))).1), (((fo N (l, br) (sg (dF (sA N) 1 m left w) v))).2)) (rws (sA N) 1 (m + 1) (left - v) (updN u m v))).1, (fo N ((((fo N (l, br) (sg (dF (sA N) 1 m left w) v))).1), (((fo N (l, br) (sg (dF (sA N) 1 m left w) v))).2)) (rws (sA N) 1 (m + 1) (left - v) (updN u m v))).2)) 126 [(4, .int (nI v)), (3, .int (nI q)), (0, .ref (ad 0)), (1, .int (nI m)), (2, .int (nI left))] []
            have e126 : fo N ((fo N (l, br) (sg (dF (sA N) 1 m left w) v)).1, (fo N (l, br) (sg (dF (sA N) 1 m left w) v)).2) (rws (sA N) 1 (m + 1) (left - v) (updN u m v)) = (fo N (l, br) (sg (dF (sA N) 1 m left w) (v + 1))) := by rw [fo_sg, ← dF_ext (d := 1) (v := v) (fun i hi => hu i (by omega))]
            refine Go.conv (M1 := mdW g ad (stW N W1_123, K, b, z, le, rf, hd, ln, vl) (6, at1, tk, so, va, lm, ol, ah, ((fo N (l, br) (sg (dF (sA N) 1 m left w) (v + 1)))).1, (fo N ((((fo N (l, br) (sg (dF (sA N) 1 m left w) v))).1), (((fo N (l, br) (sg (dF (sA N) 1 m left w) v))).2)) (rws (sA N) 1 (m + 1) (left - v) (updN u m v))).2)) ?_ (by rw [e126]) rfl rfl
            refine Go.conv (M1 := mdW g ad (stW N W1_123, K, b, z, le, rf, hd, ln, vl) (6, at1, tk, so, va, lm, ol, ah, ((fo N (l, br) (sg (dF (sA N) 1 m left w) (v + 1)))).1, ((fo N (l, br) (sg (dF (sA N) 1 m left w) (v + 1)))).2)) ?_ (by rw [e126]) rfl rfl
            refine Go.iinc_0 X (nI (v + 1)) dX4_draws_126 (by decide) rfl (show nI v + Int32.ofInt 1 = nI (v + 1) from nI_add _ 1) ?_
            refine Go.goto X 101 dX4_draws_129 (by decide) ?_
            refine Go.conv (M1 := mdW g ad (stW N W1_123, K, b, z, le, rf, hd, ln, vl) (6, at1, tk, so, va, lm, ol, ah, ((fo N (l, br) (sg (dF (sA N) 1 m left w) (v + 1)))).1, ((fo N (l, br) (sg (dF (sA N) 1 m left w) (v + 1)))).2)) ?_ (by rfl) rfl rfl
            exact ih101 (v + 1) W1_123 (by first | omega | (split <;> omega)) (by exact up_keep hu (by omega) hw1_123) (by exact hw2_123) (by first | omega | (split <;> omega))
      refine Go.conv (M1 := mdW g ad (stW N w, K, b, z, le, rf, hd, ln, vl) (6, at1, tk, so, va, lm, ol, ah, ((fo N (l, br) (sg (dF (sA N) 1 m left w) 0))).1, ((fo N (l, br) (sg (dF (sA N) 1 m left w) 0))).2)) ?_ (by rfl) rfl rfl
      exact L101 (q + 1 - 0 + 1) 0 w (by first | omega | (split <;> omega)) (by intro i _; rfl) (by exact hw9) (Nat.lt_succ_self _)
  · --
    exact absurd h5 (by omega)
set_option maxHeartbeats 4000000 in
set_option maxRecDepth 100000 in
theorem d_draws_3 (g : gT) (ad : Nat → Nat) (N : Sch) (K : Sch) (b : Bool) (z : Nat) (le : Nat → Nat) (rf : Nat → Int32) (hd : Nat → Int32) (ln : Nat → Nat) (vl : Nat → Nat → Int64) (at1 : Nat) (tk : Nat) (so : Int32) (va : Int32) (lm : Nat → Nat) (ol : Nat → Int32) (ah : Nat → Int32) (w : Nat → Nat) (l : Int32) (br : Nat → Int32) (m : Nat) (left : Nat) (hN : sOk N) (hmD : m + 3 = sN N) (hl9 : left ≤ 9) (hw9 : ∀ i, i < 9 → w i ≤ 9) : Ct g yX4_draws wsX4_draws 10 233 [.ref (ad 0), .int (nI m), .int (nI left)] (mdW g ad (stW N w, K, b, z, le, rf, hd, ln, vl) (6, at1, tk, so, va, lm, ol, ah, l, br)) (fun v9 w9 => v9 = none ∧ ∃ (W1 : Nat → Nat), (∀ i, i < m ∨ sN N ≤ i → W1 i = w i) ∧ (∀ i, i < 9 → W1 i ≤ 9) ∧ w9 = mdW g ad (stW N W1, K, b, z, le, rf, hd, ln, vl) (6, at1, tk, so, va, lm, ol, ah, (fo N (l, br) (rws (sA N) 3 m left w)).1, (fo N (l, br) (rws (sA N) 3 m left w)).2)) := by
  refine Ct.start (cc := cX4_draws) (nL := 5) (ret := none) (own := RX4) (by decide) rfl rfl rfl ?_
  intro Γ X E
  show Go Γ g 5 (rmC 10 233) 0 0 (mdW g ad (stW N w, K, b, z, le, rf, hd, ln, vl) (6, at1, tk, so, va, lm, ol, ah, l, br)) 0 [(0, .ref (ad 0)), (1, .int (nI m)), (2, .int (nI left))] []
  obtain ⟨o1, o2, o3, o4, o5, o6, o7, o8⟩ := id hN
  have o9 := p2_9 o2
  have o10 := sA_512 hN
  refine Go.iload_n X 1 dX4_draws_0 rfl ?_
  refine Go.aload_n X 0 dX4_draws_1 rfl ?_
  refine Go.get X f_X4_draws_66 0 (v := .int (nI (sN N))) rfl rfl dX4_draws_2 ?_
  refine Go.icmp_neN X 81 dX4_draws_5 (by decide) (by first | omega | (split <;> omega)) (by first | omega | (split <;> omega)) (fun h5 => ?_) (fun h5 => ?_)
  · --
    refine Go.aload_n X 0 dX4_draws_81 rfl ?_
    refine Go.get X f_X4_draws_111 0 (v := .int (nI (sA N))) rfl rfl dX4_draws_82 ?_
    refine Go.iload_n X 1 dX4_draws_85 rfl ?_
    refine Go.callSi X  (d_has g (sA N) m (by first | omega | (split <;> omega)) (by first | omega | (split <;> omega))) cal_X4_has [] rfl rfl gX4_draws_X4_has rfl rfl rfl dX4_draws_86 ?_
    refine Go.if_eqB X 96 dX4_draws_89 (by decide) (fun h89 => ?_) (fun h89 => ?_)
    · --
      refine Go.iconst X (nI 0) dX4_draws_96 k_ic_0 ?_
      obtain ⟨q, hq⟩ : ∃ q, q = (if (sA N).testBit m then left else 0) := ⟨_, rfl⟩
      have hql : q ≤ left := by rw [hq]; split <;> omega
      refine Go.top (w := .int (nI q)) (by rw [hq, if_neg (by rw [h89]; decide)]) ?_
      refine Go.istore_n_new X dX4_draws_97 (by decide) rfl ?_
      refine Go.iconst X (nI 0) dX4_draws_98 k_ic_0 ?_
      refine Go.istore_new X dX4_draws_99 (by decide) rfl ?_
      have L101 : ∀ (f101 : Nat) (v : Nat) (u : Nat → Nat) (hv : v ≤ q + 1) (hu : ∀ i, i < m ∨ sN N ≤ i → u i = w i) (hx : ∀ i, i < 9 → u i ≤ 9) (hf101 : q + 1 - v < f101), Go Γ g 5 (rmC 10 233) 0 0 (mdW g ad (stW N u, K, b, z, le, rf, hd, ln, vl) (6, at1, tk, so, va, lm, ol, ah, ((fo N (l, br) (sg (dF (sA N) 2 m left w) v))).1, ((fo N (l, br) (sg (dF (sA N) 2 m left w) v))).2)) 101 [(4, .int (nI v)), (3, .int (nI q)), (0, .ref (ad 0)), (1, .int (nI m)), (2, .int (nI left))] [] := by
        intro f101
        induction f101 with
        | zero => intro v u hv hu hx hf101; exact absurd hf101 (Nat.not_lt_zero _)
        | succ f101 ih101 =>
          intro v u hv hu hx hf101
          refine Go.iload X 0 dX4_draws_101 rfl ?_
          refine Go.iload_n X 1 dX4_draws_103 rfl ?_
          refine Go.icmp_gtN X 132 dX4_draws_104 (by decide) (by first | omega | (split <;> omega)) (by first | omega | (split <;> omega)) (fun h104 => ?_) (fun h104 => ?_)
          · --
            have e9 : fo N (l, br) (rws (sA N) 3 m left w) = fo N (l, br) (sg (dF (sA N) 2 m left w) v) := by rw [rws_dF, ← hq, show q + 1 = v by omega]
            exact Go.vret X E dX4_draws_132 ⟨rfl, u, hu, hx, by rw [e9]⟩ rfl
          · --
            refine Go.aload_n X 2 dX4_draws_107 rfl ?_
            refine Go.get X f_X4_draws_20 0 (v := .ref (ad 4)) rfl rfl dX4_draws_108 ?_
            refine Go.iload_n X 3 dX4_draws_111 rfl ?_
            refine Go.iload X 0 dX4_draws_112 rfl ?_
            refine Go.iastNM X 4 (mdW g ad ((sN N, sA N, updN u m v, sD N, sP N, sK N, sO N, sG N, sT N, sF N, sX N), K, b, z, le, rf, hd, ln, vl) (6, at1, tk, so, va, lm, ol, ah, ((fo N (l, br) (sg (dF (sA N) 2 m left w) v))).1, ((fo N (l, br) (sg (dF (sA N) 2 m left w) v))).2)) (w := u) rfl (by first | omega | (split <;> omega)) rfl dX4_draws_114 rfl ?_
            refine Go.conv (M1 := mdW g ad (stW N (updN u m v), K, b, z, le, rf, hd, ln, vl) (6, at1, tk, so, va, lm, ol, ah, ((fo N (l, br) (sg (dF (sA N) 2 m left w) v))).1, ((fo N (l, br) (sg (dF (sA N) 2 m left w) v))).2)) ?_ (by rfl) rfl rfl
            refine Go.aload_n X 2 dX4_draws_115 rfl ?_
            refine Go.iload_n X 3 dX4_draws_116 rfl ?_
            refine Go.iconst X (nI 1) dX4_draws_117 k_ic_1 ?_
            refine Go.iadd_e X (nI (m + 1)) dX4_draws_118 (nI_add _ _) ?_
            refine Go.iload_n X 4 dX4_draws_119 rfl ?_
            refine Go.iload X 0 dX4_draws_120 rfl ?_
            refine Go.isub_e X (nI (left - v)) dX4_draws_122 (pk_sub (by first | omega | (split <;> omega))) ?_
            refine Go.callV0 X (d_draws_2 g ad N K b z le rf hd ln vl at1 tk so va lm ol ah (updN u m v) (((fo N (l, br) (sg (dF (sA N) 2 m left w) v))).1) (((fo N (l, br) (sg (dF (sA N) 2 m left w) v))).2) (m + 1) (left - v) (by exact hN) (by omega) (by omega) (by exact up_le hx (by omega))) cal_X4_draws gX4_draws_X4_draws (ci := 4) (q0 := 0) rfl rfl rfl rfl rfl dX4_draws_123 (fun v9 w9 e9 => ?_)
            obtain ⟨rfl, W1_123, hw1_123, hw2_123, rfl⟩ := e9
            show Go Γ g 5 (rmC 10 233) 0 0 (mdW g ad (stW N W1_123, K, b, z, le, rf, hd, ln, vl) (6, at1, tk, so, va, lm, ol, ah, (fo N ((((fo N (l, br) (sg (dF (sA N) 2 m left w) v))).1), (((fo N (l, br) (sg (dF (sA N) 2 m left w) v))).2)) (rws (sA N) 2 (m + 1) (left - v) (updN u m v))).1, (fo N ((((fo N (l, br) (sg (dF (sA N) 2 m left w) v))).1), (((fo N (l, br) (sg (dF (sA N) 2 m left w) v))).2)) (rws (sA N) 2 (m + 1) (left - v) (updN u m v))).2)) 126 [(4, .int (nI v)), (3, .int (nI q)), (0, .ref (ad 0)), (1, .int (nI m)), (2, .int (nI left))] []
            have e126 : fo N ((fo N (l, br) (sg (dF (sA N) 2 m left w) v)).1, (fo N (l, br) (sg (dF (sA N) 2 m left w) v)).2) (rws (sA N) 2 (m + 1) (left - v) (updN u m v)) = (fo N (l, br) (sg (dF (sA N) 2 m left w) (v + 1))) := by rw [fo_sg, ← dF_ext (d := 2) (v := v) (fun i hi => hu i (by omega))]
            refine Go.conv (M1 := mdW g ad (stW N W1_123, K, b, z, le, rf, hd, ln, vl) (6, at1, tk, so, va, lm, ol, ah, ((fo N (l, br) (sg (dF (sA N) 2 m left w) (v + 1)))).1, (fo N ((((fo N (l, br) (sg (dF (sA N) 2 m left w) v))).1), (((fo N (l, br) (sg (dF (sA N) 2 m left w) v))).2)) (rws (sA N) 2 (m + 1) (left - v) (updN u m v))).2)) ?_ (by rw [e126]) rfl rfl
            refine Go.conv (M1 := mdW g ad (stW N W1_123, K, b, z, le, rf, hd, ln, vl) (6, at1, tk, so, va, lm, ol, ah, ((fo N (l, br) (sg (dF (sA N) 2 m left w) (v + 1)))).1, ((fo N (l, br) (sg (dF (sA N) 2 m left w) (v + 1)))).2)) ?_ (by rw [e126]) rfl rfl
            refine Go.iinc_0 X (nI (v + 1)) dX4_draws_126 (by decide) rfl (show nI v + Int32.ofInt 1 = nI (v + 1) from nI_add _ 1) ?_
            refine Go.goto X 101 dX4_draws_129 (by decide) ?_
            refine Go.conv (M1 := mdW g ad (stW N W1_123, K, b, z, le, rf, hd, ln, vl) (6, at1, tk, so, va, lm, ol, ah, ((fo N (l, br) (sg (dF (sA N) 2 m left w) (v + 1)))).1, ((fo N (l, br) (sg (dF (sA N) 2 m left w) (v + 1)))).2)) ?_ (by rfl) rfl rfl
            exact ih101 (v + 1) W1_123 (by first | omega | (split <;> omega)) (by exact up_keep hu (by omega) hw1_123) (by exact hw2_123) (by first | omega | (split <;> omega))
      refine Go.conv (M1 := mdW g ad (stW N w, K, b, z, le, rf, hd, ln, vl) (6, at1, tk, so, va, lm, ol, ah, ((fo N (l, br) (sg (dF (sA N) 2 m left w) 0))).1, ((fo N (l, br) (sg (dF (sA N) 2 m left w) 0))).2)) ?_ (by rfl) rfl rfl
      exact L101 (q + 1 - 0 + 1) 0 w (by first | omega | (split <;> omega)) (by intro i _; rfl) (by exact hw9) (Nat.lt_succ_self _)
    · --
      refine Go.iload_n X 2 dX4_draws_92 rfl ?_
      refine Go.goto X 97 dX4_draws_93 (by decide) ?_
      obtain ⟨q, hq⟩ : ∃ q, q = (if (sA N).testBit m then left else 0) := ⟨_, rfl⟩
      have hql : q ≤ left := by rw [hq]; split <;> omega
      refine Go.top (w := .int (nI q)) (by rw [hq, if_pos h89]) ?_
      refine Go.istore_n_new X dX4_draws_97 (by decide) rfl ?_
      refine Go.iconst X (nI 0) dX4_draws_98 k_ic_0 ?_
      refine Go.istore_new X dX4_draws_99 (by decide) rfl ?_
      have L101 : ∀ (f101 : Nat) (v : Nat) (u : Nat → Nat) (hv : v ≤ q + 1) (hu : ∀ i, i < m ∨ sN N ≤ i → u i = w i) (hx : ∀ i, i < 9 → u i ≤ 9) (hf101 : q + 1 - v < f101), Go Γ g 5 (rmC 10 233) 0 0 (mdW g ad (stW N u, K, b, z, le, rf, hd, ln, vl) (6, at1, tk, so, va, lm, ol, ah, ((fo N (l, br) (sg (dF (sA N) 2 m left w) v))).1, ((fo N (l, br) (sg (dF (sA N) 2 m left w) v))).2)) 101 [(4, .int (nI v)), (3, .int (nI q)), (0, .ref (ad 0)), (1, .int (nI m)), (2, .int (nI left))] [] := by
        intro f101
        induction f101 with
        | zero => intro v u hv hu hx hf101; exact absurd hf101 (Nat.not_lt_zero _)
        | succ f101 ih101 =>
          intro v u hv hu hx hf101
          refine Go.iload X 0 dX4_draws_101 rfl ?_
          refine Go.iload_n X 1 dX4_draws_103 rfl ?_
          refine Go.icmp_gtN X 132 dX4_draws_104 (by decide) (by first | omega | (split <;> omega)) (by first | omega | (split <;> omega)) (fun h104 => ?_) (fun h104 => ?_)
          · --
            have e9 : fo N (l, br) (rws (sA N) 3 m left w) = fo N (l, br) (sg (dF (sA N) 2 m left w) v) := by rw [rws_dF, ← hq, show q + 1 = v by omega]
            exact Go.vret X E dX4_draws_132 ⟨rfl, u, hu, hx, by rw [e9]⟩ rfl
          · --
            refine Go.aload_n X 2 dX4_draws_107 rfl ?_
            refine Go.get X f_X4_draws_20 0 (v := .ref (ad 4)) rfl rfl dX4_draws_108 ?_
            refine Go.iload_n X 3 dX4_draws_111 rfl ?_
            refine Go.iload X 0 dX4_draws_112 rfl ?_
            refine Go.iastNM X 4 (mdW g ad ((sN N, sA N, updN u m v, sD N, sP N, sK N, sO N, sG N, sT N, sF N, sX N), K, b, z, le, rf, hd, ln, vl) (6, at1, tk, so, va, lm, ol, ah, ((fo N (l, br) (sg (dF (sA N) 2 m left w) v))).1, ((fo N (l, br) (sg (dF (sA N) 2 m left w) v))).2)) (w := u) rfl (by first | omega | (split <;> omega)) rfl dX4_draws_114 rfl ?_
            refine Go.conv (M1 := mdW g ad (stW N (updN u m v), K, b, z, le, rf, hd, ln, vl) (6, at1, tk, so, va, lm, ol, ah, ((fo N (l, br) (sg (dF (sA N) 2 m left w) v))).1, ((fo N (l, br) (sg (dF (sA N) 2 m left w) v))).2)) ?_ (by rfl) rfl rfl
            refine Go.aload_n X 2 dX4_draws_115 rfl ?_
            refine Go.iload_n X 3 dX4_draws_116 rfl ?_
            refine Go.iconst X (nI 1) dX4_draws_117 k_ic_1 ?_
            refine Go.iadd_e X (nI (m + 1)) dX4_draws_118 (nI_add _ _) ?_
            refine Go.iload_n X 4 dX4_draws_119 rfl ?_
            refine Go.iload X 0 dX4_draws_120 rfl ?_
            refine Go.isub_e X (nI (left - v)) dX4_draws_122 (pk_sub (by first | omega | (split <;> omega))) ?_
            refine Go.callV0 X (d_draws_2 g ad N K b z le rf hd ln vl at1 tk so va lm ol ah (updN u m v) (((fo N (l, br) (sg (dF (sA N) 2 m left w) v))).1) (((fo N (l, br) (sg (dF (sA N) 2 m left w) v))).2) (m + 1) (left - v) (by exact hN) (by omega) (by omega) (by exact up_le hx (by omega))) cal_X4_draws gX4_draws_X4_draws (ci := 4) (q0 := 0) rfl rfl rfl rfl rfl dX4_draws_123 (fun v9 w9 e9 => ?_)
            obtain ⟨rfl, W1_123, hw1_123, hw2_123, rfl⟩ := e9
            show Go Γ g 5 (rmC 10 233) 0 0 (mdW g ad (stW N W1_123, K, b, z, le, rf, hd, ln, vl) (6, at1, tk, so, va, lm, ol, ah, (fo N ((((fo N (l, br) (sg (dF (sA N) 2 m left w) v))).1), (((fo N (l, br) (sg (dF (sA N) 2 m left w) v))).2)) (rws (sA N) 2 (m + 1) (left - v) (updN u m v))).1, (fo N ((((fo N (l, br) (sg (dF (sA N) 2 m left w) v))).1), (((fo N (l, br) (sg (dF (sA N) 2 m left w) v))).2)) (rws (sA N) 2 (m + 1) (left - v) (updN u m v))).2)) 126 [(4, .int (nI v)), (3, .int (nI q)), (0, .ref (ad 0)), (1, .int (nI m)), (2, .int (nI left))] []
            have e126 : fo N ((fo N (l, br) (sg (dF (sA N) 2 m left w) v)).1, (fo N (l, br) (sg (dF (sA N) 2 m left w) v)).2) (rws (sA N) 2 (m + 1) (left - v) (updN u m v)) = (fo N (l, br) (sg (dF (sA N) 2 m left w) (v + 1))) := by rw [fo_sg, ← dF_ext (d := 2) (v := v) (fun i hi => hu i (by omega))]
            refine Go.conv (M1 := mdW g ad (stW N W1_123, K, b, z, le, rf, hd, ln, vl) (6, at1, tk, so, va, lm, ol, ah, ((fo N (l, br) (sg (dF (sA N) 2 m left w) (v + 1)))).1, (fo N ((((fo N (l, br) (sg (dF (sA N) 2 m left w) v))).1), (((fo N (l, br) (sg (dF (sA N) 2 m left w) v))).2)) (rws (sA N) 2 (m + 1) (left - v) (updN u m v))).2)) ?_ (by rw [e126]) rfl rfl
            refine Go.conv (M1 := mdW g ad (stW N W1_123, K, b, z, le, rf, hd, ln, vl) (6, at1, tk, so, va, lm, ol, ah, ((fo N (l, br) (sg (dF (sA N) 2 m left w) (v + 1)))).1, ((fo N (l, br) (sg (dF (sA N) 2 m left w) (v + 1)))).2)) ?_ (by rw [e126]) rfl rfl
            refine Go.iinc_0 X (nI (v + 1)) dX4_draws_126 (by decide) rfl (show nI v + Int32.ofInt 1 = nI (v + 1) from nI_add _ 1) ?_
            refine Go.goto X 101 dX4_draws_129 (by decide) ?_
            refine Go.conv (M1 := mdW g ad (stW N W1_123, K, b, z, le, rf, hd, ln, vl) (6, at1, tk, so, va, lm, ol, ah, ((fo N (l, br) (sg (dF (sA N) 2 m left w) (v + 1)))).1, ((fo N (l, br) (sg (dF (sA N) 2 m left w) (v + 1)))).2)) ?_ (by rfl) rfl rfl
            exact ih101 (v + 1) W1_123 (by first | omega | (split <;> omega)) (by exact up_keep hu (by omega) hw1_123) (by exact hw2_123) (by first | omega | (split <;> omega))
      refine Go.conv (M1 := mdW g ad (stW N w, K, b, z, le, rf, hd, ln, vl) (6, at1, tk, so, va, lm, ol, ah, ((fo N (l, br) (sg (dF (sA N) 2 m left w) 0))).1, ((fo N (l, br) (sg (dF (sA N) 2 m left w) 0))).2)) ?_ (by rfl) rfl rfl
      exact L101 (q + 1 - 0 + 1) 0 w (by first | omega | (split <;> omega)) (by intro i _; rfl) (by exact hw9) (Nat.lt_succ_self _)
  · --
    exact absurd h5 (by omega)
set_option maxHeartbeats 4000000 in
set_option maxRecDepth 100000 in
theorem d_draws_4 (g : gT) (ad : Nat → Nat) (N : Sch) (K : Sch) (b : Bool) (z : Nat) (le : Nat → Nat) (rf : Nat → Int32) (hd : Nat → Int32) (ln : Nat → Nat) (vl : Nat → Nat → Int64) (at1 : Nat) (tk : Nat) (so : Int32) (va : Int32) (lm : Nat → Nat) (ol : Nat → Int32) (ah : Nat → Int32) (w : Nat → Nat) (l : Int32) (br : Nat → Int32) (m : Nat) (left : Nat) (hN : sOk N) (hmD : m + 4 = sN N) (hl9 : left ≤ 9) (hw9 : ∀ i, i < 9 → w i ≤ 9) : Ct g yX4_draws wsX4_draws 11 257 [.ref (ad 0), .int (nI m), .int (nI left)] (mdW g ad (stW N w, K, b, z, le, rf, hd, ln, vl) (6, at1, tk, so, va, lm, ol, ah, l, br)) (fun v9 w9 => v9 = none ∧ ∃ (W1 : Nat → Nat), (∀ i, i < m ∨ sN N ≤ i → W1 i = w i) ∧ (∀ i, i < 9 → W1 i ≤ 9) ∧ w9 = mdW g ad (stW N W1, K, b, z, le, rf, hd, ln, vl) (6, at1, tk, so, va, lm, ol, ah, (fo N (l, br) (rws (sA N) 4 m left w)).1, (fo N (l, br) (rws (sA N) 4 m left w)).2)) := by
  refine Ct.start (cc := cX4_draws) (nL := 5) (ret := none) (own := RX4) (by decide) rfl rfl rfl ?_
  intro Γ X E
  show Go Γ g 5 (rmC 11 257) 0 0 (mdW g ad (stW N w, K, b, z, le, rf, hd, ln, vl) (6, at1, tk, so, va, lm, ol, ah, l, br)) 0 [(0, .ref (ad 0)), (1, .int (nI m)), (2, .int (nI left))] []
  obtain ⟨o1, o2, o3, o4, o5, o6, o7, o8⟩ := id hN
  have o9 := p2_9 o2
  have o10 := sA_512 hN
  refine Go.iload_n X 1 dX4_draws_0 rfl ?_
  refine Go.aload_n X 0 dX4_draws_1 rfl ?_
  refine Go.get X f_X4_draws_66 0 (v := .int (nI (sN N))) rfl rfl dX4_draws_2 ?_
  refine Go.icmp_neN X 81 dX4_draws_5 (by decide) (by first | omega | (split <;> omega)) (by first | omega | (split <;> omega)) (fun h5 => ?_) (fun h5 => ?_)
  · --
    refine Go.aload_n X 0 dX4_draws_81 rfl ?_
    refine Go.get X f_X4_draws_111 0 (v := .int (nI (sA N))) rfl rfl dX4_draws_82 ?_
    refine Go.iload_n X 1 dX4_draws_85 rfl ?_
    refine Go.callSi X  (d_has g (sA N) m (by first | omega | (split <;> omega)) (by first | omega | (split <;> omega))) cal_X4_has [] rfl rfl gX4_draws_X4_has rfl rfl rfl dX4_draws_86 ?_
    refine Go.if_eqB X 96 dX4_draws_89 (by decide) (fun h89 => ?_) (fun h89 => ?_)
    · --
      refine Go.iconst X (nI 0) dX4_draws_96 k_ic_0 ?_
      obtain ⟨q, hq⟩ : ∃ q, q = (if (sA N).testBit m then left else 0) := ⟨_, rfl⟩
      have hql : q ≤ left := by rw [hq]; split <;> omega
      refine Go.top (w := .int (nI q)) (by rw [hq, if_neg (by rw [h89]; decide)]) ?_
      refine Go.istore_n_new X dX4_draws_97 (by decide) rfl ?_
      refine Go.iconst X (nI 0) dX4_draws_98 k_ic_0 ?_
      refine Go.istore_new X dX4_draws_99 (by decide) rfl ?_
      have L101 : ∀ (f101 : Nat) (v : Nat) (u : Nat → Nat) (hv : v ≤ q + 1) (hu : ∀ i, i < m ∨ sN N ≤ i → u i = w i) (hx : ∀ i, i < 9 → u i ≤ 9) (hf101 : q + 1 - v < f101), Go Γ g 5 (rmC 11 257) 0 0 (mdW g ad (stW N u, K, b, z, le, rf, hd, ln, vl) (6, at1, tk, so, va, lm, ol, ah, ((fo N (l, br) (sg (dF (sA N) 3 m left w) v))).1, ((fo N (l, br) (sg (dF (sA N) 3 m left w) v))).2)) 101 [(4, .int (nI v)), (3, .int (nI q)), (0, .ref (ad 0)), (1, .int (nI m)), (2, .int (nI left))] [] := by
        intro f101
        induction f101 with
        | zero => intro v u hv hu hx hf101; exact absurd hf101 (Nat.not_lt_zero _)
        | succ f101 ih101 =>
          intro v u hv hu hx hf101
          refine Go.iload X 0 dX4_draws_101 rfl ?_
          refine Go.iload_n X 1 dX4_draws_103 rfl ?_
          refine Go.icmp_gtN X 132 dX4_draws_104 (by decide) (by first | omega | (split <;> omega)) (by first | omega | (split <;> omega)) (fun h104 => ?_) (fun h104 => ?_)
          · --
            have e9 : fo N (l, br) (rws (sA N) 4 m left w) = fo N (l, br) (sg (dF (sA N) 3 m left w) v) := by rw [rws_dF, ← hq, show q + 1 = v by omega]
            exact Go.vret X E dX4_draws_132 ⟨rfl, u, hu, hx, by rw [e9]⟩ rfl
          · --
            refine Go.aload_n X 2 dX4_draws_107 rfl ?_
            refine Go.get X f_X4_draws_20 0 (v := .ref (ad 4)) rfl rfl dX4_draws_108 ?_
            refine Go.iload_n X 3 dX4_draws_111 rfl ?_
            refine Go.iload X 0 dX4_draws_112 rfl ?_
            refine Go.iastNM X 4 (mdW g ad ((sN N, sA N, updN u m v, sD N, sP N, sK N, sO N, sG N, sT N, sF N, sX N), K, b, z, le, rf, hd, ln, vl) (6, at1, tk, so, va, lm, ol, ah, ((fo N (l, br) (sg (dF (sA N) 3 m left w) v))).1, ((fo N (l, br) (sg (dF (sA N) 3 m left w) v))).2)) (w := u) rfl (by first | omega | (split <;> omega)) rfl dX4_draws_114 rfl ?_
            refine Go.conv (M1 := mdW g ad (stW N (updN u m v), K, b, z, le, rf, hd, ln, vl) (6, at1, tk, so, va, lm, ol, ah, ((fo N (l, br) (sg (dF (sA N) 3 m left w) v))).1, ((fo N (l, br) (sg (dF (sA N) 3 m left w) v))).2)) ?_ (by rfl) rfl rfl
            refine Go.aload_n X 2 dX4_draws_115 rfl ?_
            refine Go.iload_n X 3 dX4_draws_116 rfl ?_
            refine Go.iconst X (nI 1) dX4_draws_117 k_ic_1 ?_
            refine Go.iadd_e X (nI (m + 1)) dX4_draws_118 (nI_add _ _) ?_
            refine Go.iload_n X 4 dX4_draws_119 rfl ?_
            refine Go.iload X 0 dX4_draws_120 rfl ?_
            refine Go.isub_e X (nI (left - v)) dX4_draws_122 (pk_sub (by first | omega | (split <;> omega))) ?_
            refine Go.callV0 X (d_draws_3 g ad N K b z le rf hd ln vl at1 tk so va lm ol ah (updN u m v) (((fo N (l, br) (sg (dF (sA N) 3 m left w) v))).1) (((fo N (l, br) (sg (dF (sA N) 3 m left w) v))).2) (m + 1) (left - v) (by exact hN) (by omega) (by omega) (by exact up_le hx (by omega))) cal_X4_draws gX4_draws_X4_draws (ci := 4) (q0 := 0) rfl rfl rfl rfl rfl dX4_draws_123 (fun v9 w9 e9 => ?_)
            obtain ⟨rfl, W1_123, hw1_123, hw2_123, rfl⟩ := e9
            show Go Γ g 5 (rmC 11 257) 0 0 (mdW g ad (stW N W1_123, K, b, z, le, rf, hd, ln, vl) (6, at1, tk, so, va, lm, ol, ah, (fo N ((((fo N (l, br) (sg (dF (sA N) 3 m left w) v))).1), (((fo N (l, br) (sg (dF (sA N) 3 m left w) v))).2)) (rws (sA N) 3 (m + 1) (left - v) (updN u m v))).1, (fo N ((((fo N (l, br) (sg (dF (sA N) 3 m left w) v))).1), (((fo N (l, br) (sg (dF (sA N) 3 m left w) v))).2)) (rws (sA N) 3 (m + 1) (left - v) (updN u m v))).2)) 126 [(4, .int (nI v)), (3, .int (nI q)), (0, .ref (ad 0)), (1, .int (nI m)), (2, .int (nI left))] []
            have e126 : fo N ((fo N (l, br) (sg (dF (sA N) 3 m left w) v)).1, (fo N (l, br) (sg (dF (sA N) 3 m left w) v)).2) (rws (sA N) 3 (m + 1) (left - v) (updN u m v)) = (fo N (l, br) (sg (dF (sA N) 3 m left w) (v + 1))) := by rw [fo_sg, ← dF_ext (d := 3) (v := v) (fun i hi => hu i (by omega))]
            refine Go.conv (M1 := mdW g ad (stW N W1_123, K, b, z, le, rf, hd, ln, vl) (6, at1, tk, so, va, lm, ol, ah, ((fo N (l, br) (sg (dF (sA N) 3 m left w) (v + 1)))).1, (fo N ((((fo N (l, br) (sg (dF (sA N) 3 m left w) v))).1), (((fo N (l, br) (sg (dF (sA N) 3 m left w) v))).2)) (rws (sA N) 3 (m + 1) (left - v) (updN u m v))).2)) ?_ (by rw [e126]) rfl rfl
            refine Go.conv (M1 := mdW g ad (stW N W1_123, K, b, z, le, rf, hd, ln, vl) (6, at1, tk, so, va, lm, ol, ah, ((fo N (l, br) (sg (dF (sA N) 3 m left w) (v + 1)))).1, ((fo N (l, br) (sg (dF (sA N) 3 m left w) (v + 1)))).2)) ?_ (by rw [e126]) rfl rfl
            refine Go.iinc_0 X (nI (v + 1)) dX4_draws_126 (by decide) rfl (show nI v + Int32.ofInt 1 = nI (v + 1) from nI_add _ 1) ?_
            refine Go.goto X 101 dX4_draws_129 (by decide) ?_
            refine Go.conv (M1 := mdW g ad (stW N W1_123, K, b, z, le, rf, hd, ln, vl) (6, at1, tk, so, va, lm, ol, ah, ((fo N (l, br) (sg (dF (sA N) 3 m left w) (v + 1)))).1, ((fo N (l, br) (sg (dF (sA N) 3 m left w) (v + 1)))).2)) ?_ (by rfl) rfl rfl
            exact ih101 (v + 1) W1_123 (by first | omega | (split <;> omega)) (by exact up_keep hu (by omega) hw1_123) (by exact hw2_123) (by first | omega | (split <;> omega))
      refine Go.conv (M1 := mdW g ad (stW N w, K, b, z, le, rf, hd, ln, vl) (6, at1, tk, so, va, lm, ol, ah, ((fo N (l, br) (sg (dF (sA N) 3 m left w) 0))).1, ((fo N (l, br) (sg (dF (sA N) 3 m left w) 0))).2)) ?_ (by rfl) rfl rfl
      exact L101 (q + 1 - 0 + 1) 0 w (by first | omega | (split <;> omega)) (by intro i _; rfl) (by exact hw9) (Nat.lt_succ_self _)
    · --
      refine Go.iload_n X 2 dX4_draws_92 rfl ?_
      refine Go.goto X 97 dX4_draws_93 (by decide) ?_
      obtain ⟨q, hq⟩ : ∃ q, q = (if (sA N).testBit m then left else 0) := ⟨_, rfl⟩
      have hql : q ≤ left := by rw [hq]; split <;> omega
      refine Go.top (w := .int (nI q)) (by rw [hq, if_pos h89]) ?_
      refine Go.istore_n_new X dX4_draws_97 (by decide) rfl ?_
      refine Go.iconst X (nI 0) dX4_draws_98 k_ic_0 ?_
      refine Go.istore_new X dX4_draws_99 (by decide) rfl ?_
      have L101 : ∀ (f101 : Nat) (v : Nat) (u : Nat → Nat) (hv : v ≤ q + 1) (hu : ∀ i, i < m ∨ sN N ≤ i → u i = w i) (hx : ∀ i, i < 9 → u i ≤ 9) (hf101 : q + 1 - v < f101), Go Γ g 5 (rmC 11 257) 0 0 (mdW g ad (stW N u, K, b, z, le, rf, hd, ln, vl) (6, at1, tk, so, va, lm, ol, ah, ((fo N (l, br) (sg (dF (sA N) 3 m left w) v))).1, ((fo N (l, br) (sg (dF (sA N) 3 m left w) v))).2)) 101 [(4, .int (nI v)), (3, .int (nI q)), (0, .ref (ad 0)), (1, .int (nI m)), (2, .int (nI left))] [] := by
        intro f101
        induction f101 with
        | zero => intro v u hv hu hx hf101; exact absurd hf101 (Nat.not_lt_zero _)
        | succ f101 ih101 =>
          intro v u hv hu hx hf101
          refine Go.iload X 0 dX4_draws_101 rfl ?_
          refine Go.iload_n X 1 dX4_draws_103 rfl ?_
          refine Go.icmp_gtN X 132 dX4_draws_104 (by decide) (by first | omega | (split <;> omega)) (by first | omega | (split <;> omega)) (fun h104 => ?_) (fun h104 => ?_)
          · --
            have e9 : fo N (l, br) (rws (sA N) 4 m left w) = fo N (l, br) (sg (dF (sA N) 3 m left w) v) := by rw [rws_dF, ← hq, show q + 1 = v by omega]
            exact Go.vret X E dX4_draws_132 ⟨rfl, u, hu, hx, by rw [e9]⟩ rfl
          · --
            refine Go.aload_n X 2 dX4_draws_107 rfl ?_
            refine Go.get X f_X4_draws_20 0 (v := .ref (ad 4)) rfl rfl dX4_draws_108 ?_
            refine Go.iload_n X 3 dX4_draws_111 rfl ?_
            refine Go.iload X 0 dX4_draws_112 rfl ?_
            refine Go.iastNM X 4 (mdW g ad ((sN N, sA N, updN u m v, sD N, sP N, sK N, sO N, sG N, sT N, sF N, sX N), K, b, z, le, rf, hd, ln, vl) (6, at1, tk, so, va, lm, ol, ah, ((fo N (l, br) (sg (dF (sA N) 3 m left w) v))).1, ((fo N (l, br) (sg (dF (sA N) 3 m left w) v))).2)) (w := u) rfl (by first | omega | (split <;> omega)) rfl dX4_draws_114 rfl ?_
            refine Go.conv (M1 := mdW g ad (stW N (updN u m v), K, b, z, le, rf, hd, ln, vl) (6, at1, tk, so, va, lm, ol, ah, ((fo N (l, br) (sg (dF (sA N) 3 m left w) v))).1, ((fo N (l, br) (sg (dF (sA N) 3 m left w) v))).2)) ?_ (by rfl) rfl rfl
            refine Go.aload_n X 2 dX4_draws_115 rfl ?_
            refine Go.iload_n X 3 dX4_draws_116 rfl ?_
            refine Go.iconst X (nI 1) dX4_draws_117 k_ic_1 ?_
            refine Go.iadd_e X (nI (m + 1)) dX4_draws_118 (nI_add _ _) ?_
            refine Go.iload_n X 4 dX4_draws_119 rfl ?_
            refine Go.iload X 0 dX4_draws_120 rfl ?_
            refine Go.isub_e X (nI (left - v)) dX4_draws_122 (pk_sub (by first | omega | (split <;> omega))) ?_
            refine Go.callV0 X (d_draws_3 g ad N K b z le rf hd ln vl at1 tk so va lm ol ah (updN u m v) (((fo N (l, br) (sg (dF (sA N) 3 m left w) v))).1) (((fo N (l, br) (sg (dF (sA N) 3 m left w) v))).2) (m + 1) (left - v) (by exact hN) (by omega) (by omega) (by exact up_le hx (by omega))) cal_X4_draws gX4_draws_X4_draws (ci := 4) (q0 := 0) rfl rfl rfl rfl rfl dX4_draws_123 (fun v9 w9 e9 => ?_)
            obtain ⟨rfl, W1_123, hw1_123, hw2_123, rfl⟩ := e9
            show Go Γ g 5 (rmC 11 257) 0 0 (mdW g ad (stW N W1_123, K, b, z, le, rf, hd, ln, vl) (6, at1, tk, so, va, lm, ol, ah, (fo N ((((fo N (l, br) (sg (dF (sA N) 3 m left w) v))).1), (((fo N (l, br) (sg (dF (sA N) 3 m left w) v))).2)) (rws (sA N) 3 (m + 1) (left - v) (updN u m v))).1, (fo N ((((fo N (l, br) (sg (dF (sA N) 3 m left w) v))).1), (((fo N (l, br) (sg (dF (sA N) 3 m left w) v))).2)) (rws (sA N) 3 (m + 1) (left - v) (updN u m v))).2)) 126 [(4, .int (nI v)), (3, .int (nI q)), (0, .ref (ad 0)), (1, .int (nI m)), (2, .int (nI left))] []
            have e126 : fo N ((fo N (l, br) (sg (dF (sA N) 3 m left w) v)).1, (fo N (l, br) (sg (dF (sA N) 3 m left w) v)).2) (rws (sA N) 3 (m + 1) (left - v) (updN u m v)) = (fo N (l, br) (sg (dF (sA N) 3 m left w) (v + 1))) := by rw [fo_sg, ← dF_ext (d := 3) (v := v) (fun i hi => hu i (by omega))]
            refine Go.conv (M1 := mdW g ad (stW N W1_123, K, b, z, le, rf, hd, ln, vl) (6, at1, tk, so, va, lm, ol, ah, ((fo N (l, br) (sg (dF (sA N) 3 m left w) (v + 1)))).1, (fo N ((((fo N (l, br) (sg (dF (sA N) 3 m left w) v))).1), (((fo N (l, br) (sg (dF (sA N) 3 m left w) v))).2)) (rws (sA N) 3 (m + 1) (left - v) (updN u m v))).2)) ?_ (by rw [e126]) rfl rfl
            refine Go.conv (M1 := mdW g ad (stW N W1_123, K, b, z, le, rf, hd, ln, vl) (6, at1, tk, so, va, lm, ol, ah, ((fo N (l, br) (sg (dF (sA N) 3 m left w) (v + 1)))).1, ((fo N (l, br) (sg (dF (sA N) 3 m left w) (v + 1)))).2)) ?_ (by rw [e126]) rfl rfl
            refine Go.iinc_0 X (nI (v + 1)) dX4_draws_126 (by decide) rfl (show nI v + Int32.ofInt 1 = nI (v + 1) from nI_add _ 1) ?_
            refine Go.goto X 101 dX4_draws_129 (by decide) ?_
            refine Go.conv (M1 := mdW g ad (stW N W1_123, K, b, z, le, rf, hd, ln, vl) (6, at1, tk, so, va, lm, ol, ah, ((fo N (l, br) (sg (dF (sA N) 3 m left w) (v + 1)))).1, ((fo N (l, br) (sg (dF (sA N) 3 m left w) (v + 1)))).2)) ?_ (by rfl) rfl rfl
            exact ih101 (v + 1) W1_123 (by first | omega | (split <;> omega)) (by exact up_keep hu (by omega) hw1_123) (by exact hw2_123) (by first | omega | (split <;> omega))
      refine Go.conv (M1 := mdW g ad (stW N w, K, b, z, le, rf, hd, ln, vl) (6, at1, tk, so, va, lm, ol, ah, ((fo N (l, br) (sg (dF (sA N) 3 m left w) 0))).1, ((fo N (l, br) (sg (dF (sA N) 3 m left w) 0))).2)) ?_ (by rfl) rfl rfl
      exact L101 (q + 1 - 0 + 1) 0 w (by first | omega | (split <;> omega)) (by intro i _; rfl) (by exact hw9) (Nat.lt_succ_self _)
  · --
    exact absurd h5 (by omega)
set_option maxHeartbeats 4000000 in
set_option maxRecDepth 100000 in
theorem d_draws_5 (g : gT) (ad : Nat → Nat) (N : Sch) (K : Sch) (b : Bool) (z : Nat) (le : Nat → Nat) (rf : Nat → Int32) (hd : Nat → Int32) (ln : Nat → Nat) (vl : Nat → Nat → Int64) (at1 : Nat) (tk : Nat) (so : Int32) (va : Int32) (lm : Nat → Nat) (ol : Nat → Int32) (ah : Nat → Int32) (w : Nat → Nat) (l : Int32) (br : Nat → Int32) (m : Nat) (left : Nat) (hN : sOk N) (hmD : m + 5 = sN N) (hl9 : left ≤ 9) (hw9 : ∀ i, i < 9 → w i ≤ 9) : Ct g yX4_draws wsX4_draws 12 281 [.ref (ad 0), .int (nI m), .int (nI left)] (mdW g ad (stW N w, K, b, z, le, rf, hd, ln, vl) (6, at1, tk, so, va, lm, ol, ah, l, br)) (fun v9 w9 => v9 = none ∧ ∃ (W1 : Nat → Nat), (∀ i, i < m ∨ sN N ≤ i → W1 i = w i) ∧ (∀ i, i < 9 → W1 i ≤ 9) ∧ w9 = mdW g ad (stW N W1, K, b, z, le, rf, hd, ln, vl) (6, at1, tk, so, va, lm, ol, ah, (fo N (l, br) (rws (sA N) 5 m left w)).1, (fo N (l, br) (rws (sA N) 5 m left w)).2)) := by
  refine Ct.start (cc := cX4_draws) (nL := 5) (ret := none) (own := RX4) (by decide) rfl rfl rfl ?_
  intro Γ X E
  show Go Γ g 5 (rmC 12 281) 0 0 (mdW g ad (stW N w, K, b, z, le, rf, hd, ln, vl) (6, at1, tk, so, va, lm, ol, ah, l, br)) 0 [(0, .ref (ad 0)), (1, .int (nI m)), (2, .int (nI left))] []
  obtain ⟨o1, o2, o3, o4, o5, o6, o7, o8⟩ := id hN
  have o9 := p2_9 o2
  have o10 := sA_512 hN
  refine Go.iload_n X 1 dX4_draws_0 rfl ?_
  refine Go.aload_n X 0 dX4_draws_1 rfl ?_
  refine Go.get X f_X4_draws_66 0 (v := .int (nI (sN N))) rfl rfl dX4_draws_2 ?_
  refine Go.icmp_neN X 81 dX4_draws_5 (by decide) (by first | omega | (split <;> omega)) (by first | omega | (split <;> omega)) (fun h5 => ?_) (fun h5 => ?_)
  · --
    refine Go.aload_n X 0 dX4_draws_81 rfl ?_
    refine Go.get X f_X4_draws_111 0 (v := .int (nI (sA N))) rfl rfl dX4_draws_82 ?_
    refine Go.iload_n X 1 dX4_draws_85 rfl ?_
    refine Go.callSi X  (d_has g (sA N) m (by first | omega | (split <;> omega)) (by first | omega | (split <;> omega))) cal_X4_has [] rfl rfl gX4_draws_X4_has rfl rfl rfl dX4_draws_86 ?_
    refine Go.if_eqB X 96 dX4_draws_89 (by decide) (fun h89 => ?_) (fun h89 => ?_)
    · --
      refine Go.iconst X (nI 0) dX4_draws_96 k_ic_0 ?_
      obtain ⟨q, hq⟩ : ∃ q, q = (if (sA N).testBit m then left else 0) := ⟨_, rfl⟩
      have hql : q ≤ left := by rw [hq]; split <;> omega
      refine Go.top (w := .int (nI q)) (by rw [hq, if_neg (by rw [h89]; decide)]) ?_
      refine Go.istore_n_new X dX4_draws_97 (by decide) rfl ?_
      refine Go.iconst X (nI 0) dX4_draws_98 k_ic_0 ?_
      refine Go.istore_new X dX4_draws_99 (by decide) rfl ?_
      have L101 : ∀ (f101 : Nat) (v : Nat) (u : Nat → Nat) (hv : v ≤ q + 1) (hu : ∀ i, i < m ∨ sN N ≤ i → u i = w i) (hx : ∀ i, i < 9 → u i ≤ 9) (hf101 : q + 1 - v < f101), Go Γ g 5 (rmC 12 281) 0 0 (mdW g ad (stW N u, K, b, z, le, rf, hd, ln, vl) (6, at1, tk, so, va, lm, ol, ah, ((fo N (l, br) (sg (dF (sA N) 4 m left w) v))).1, ((fo N (l, br) (sg (dF (sA N) 4 m left w) v))).2)) 101 [(4, .int (nI v)), (3, .int (nI q)), (0, .ref (ad 0)), (1, .int (nI m)), (2, .int (nI left))] [] := by
        intro f101
        induction f101 with
        | zero => intro v u hv hu hx hf101; exact absurd hf101 (Nat.not_lt_zero _)
        | succ f101 ih101 =>
          intro v u hv hu hx hf101
          refine Go.iload X 0 dX4_draws_101 rfl ?_
          refine Go.iload_n X 1 dX4_draws_103 rfl ?_
          refine Go.icmp_gtN X 132 dX4_draws_104 (by decide) (by first | omega | (split <;> omega)) (by first | omega | (split <;> omega)) (fun h104 => ?_) (fun h104 => ?_)
          · --
            have e9 : fo N (l, br) (rws (sA N) 5 m left w) = fo N (l, br) (sg (dF (sA N) 4 m left w) v) := by rw [rws_dF, ← hq, show q + 1 = v by omega]
            exact Go.vret X E dX4_draws_132 ⟨rfl, u, hu, hx, by rw [e9]⟩ rfl
          · --
            refine Go.aload_n X 2 dX4_draws_107 rfl ?_
            refine Go.get X f_X4_draws_20 0 (v := .ref (ad 4)) rfl rfl dX4_draws_108 ?_
            refine Go.iload_n X 3 dX4_draws_111 rfl ?_
            refine Go.iload X 0 dX4_draws_112 rfl ?_
            refine Go.iastNM X 4 (mdW g ad ((sN N, sA N, updN u m v, sD N, sP N, sK N, sO N, sG N, sT N, sF N, sX N), K, b, z, le, rf, hd, ln, vl) (6, at1, tk, so, va, lm, ol, ah, ((fo N (l, br) (sg (dF (sA N) 4 m left w) v))).1, ((fo N (l, br) (sg (dF (sA N) 4 m left w) v))).2)) (w := u) rfl (by first | omega | (split <;> omega)) rfl dX4_draws_114 rfl ?_
            refine Go.conv (M1 := mdW g ad (stW N (updN u m v), K, b, z, le, rf, hd, ln, vl) (6, at1, tk, so, va, lm, ol, ah, ((fo N (l, br) (sg (dF (sA N) 4 m left w) v))).1, ((fo N (l, br) (sg (dF (sA N) 4 m left w) v))).2)) ?_ (by rfl) rfl rfl
            refine Go.aload_n X 2 dX4_draws_115 rfl ?_
            refine Go.iload_n X 3 dX4_draws_116 rfl ?_
            refine Go.iconst X (nI 1) dX4_draws_117 k_ic_1 ?_
            refine Go.iadd_e X (nI (m + 1)) dX4_draws_118 (nI_add _ _) ?_
            refine Go.iload_n X 4 dX4_draws_119 rfl ?_
            refine Go.iload X 0 dX4_draws_120 rfl ?_
            refine Go.isub_e X (nI (left - v)) dX4_draws_122 (pk_sub (by first | omega | (split <;> omega))) ?_
            refine Go.callV0 X (d_draws_4 g ad N K b z le rf hd ln vl at1 tk so va lm ol ah (updN u m v) (((fo N (l, br) (sg (dF (sA N) 4 m left w) v))).1) (((fo N (l, br) (sg (dF (sA N) 4 m left w) v))).2) (m + 1) (left - v) (by exact hN) (by omega) (by omega) (by exact up_le hx (by omega))) cal_X4_draws gX4_draws_X4_draws (ci := 4) (q0 := 0) rfl rfl rfl rfl rfl dX4_draws_123 (fun v9 w9 e9 => ?_)
            obtain ⟨rfl, W1_123, hw1_123, hw2_123, rfl⟩ := e9
            show Go Γ g 5 (rmC 12 281) 0 0 (mdW g ad (stW N W1_123, K, b, z, le, rf, hd, ln, vl) (6, at1, tk, so, va, lm, ol, ah, (fo N ((((fo N (l, br) (sg (dF (sA N) 4 m left w) v))).1), (((fo N (l, br) (sg (dF (sA N) 4 m left w) v))).2)) (rws (sA N) 4 (m + 1) (left - v) (updN u m v))).1, (fo N ((((fo N (l, br) (sg (dF (sA N) 4 m left w) v))).1), (((fo N (l, br) (sg (dF (sA N) 4 m left w) v))).2)) (rws (sA N) 4 (m + 1) (left - v) (updN u m v))).2)) 126 [(4, .int (nI v)), (3, .int (nI q)), (0, .ref (ad 0)), (1, .int (nI m)), (2, .int (nI left))] []
            have e126 : fo N ((fo N (l, br) (sg (dF (sA N) 4 m left w) v)).1, (fo N (l, br) (sg (dF (sA N) 4 m left w) v)).2) (rws (sA N) 4 (m + 1) (left - v) (updN u m v)) = (fo N (l, br) (sg (dF (sA N) 4 m left w) (v + 1))) := by rw [fo_sg, ← dF_ext (d := 4) (v := v) (fun i hi => hu i (by omega))]
            refine Go.conv (M1 := mdW g ad (stW N W1_123, K, b, z, le, rf, hd, ln, vl) (6, at1, tk, so, va, lm, ol, ah, ((fo N (l, br) (sg (dF (sA N) 4 m left w) (v + 1)))).1, (fo N ((((fo N (l, br) (sg (dF (sA N) 4 m left w) v))).1), (((fo N (l, br) (sg (dF (sA N) 4 m left w) v))).2)) (rws (sA N) 4 (m + 1) (left - v) (updN u m v))).2)) ?_ (by rw [e126]) rfl rfl
            refine Go.conv (M1 := mdW g ad (stW N W1_123, K, b, z, le, rf, hd, ln, vl) (6, at1, tk, so, va, lm, ol, ah, ((fo N (l, br) (sg (dF (sA N) 4 m left w) (v + 1)))).1, ((fo N (l, br) (sg (dF (sA N) 4 m left w) (v + 1)))).2)) ?_ (by rw [e126]) rfl rfl
            refine Go.iinc_0 X (nI (v + 1)) dX4_draws_126 (by decide) rfl (show nI v + Int32.ofInt 1 = nI (v + 1) from nI_add _ 1) ?_
            refine Go.goto X 101 dX4_draws_129 (by decide) ?_
            refine Go.conv (M1 := mdW g ad (stW N W1_123, K, b, z, le, rf, hd, ln, vl) (6, at1, tk, so, va, lm, ol, ah, ((fo N (l, br) (sg (dF (sA N) 4 m left w) (v + 1)))).1, ((fo N (l, br) (sg (dF (sA N) 4 m left w) (v + 1)))).2)) ?_ (by rfl) rfl rfl
            exact ih101 (v + 1) W1_123 (by first | omega | (split <;> omega)) (by exact up_keep hu (by omega) hw1_123) (by exact hw2_123) (by first | omega | (split <;> omega))
      refine Go.conv (M1 := mdW g ad (stW N w, K, b, z, le, rf, hd, ln, vl) (6, at1, tk, so, va, lm, ol, ah, ((fo N (l, br) (sg (dF (sA N) 4 m left w) 0))).1, ((fo N (l, br) (sg (dF (sA N) 4 m left w) 0))).2)) ?_ (by rfl) rfl rfl
      exact L101 (q + 1 - 0 + 1) 0 w (by first | omega | (split <;> omega)) (by intro i _; rfl) (by exact hw9) (Nat.lt_succ_self _)
    · --
      refine Go.iload_n X 2 dX4_draws_92 rfl ?_
      refine Go.goto X 97 dX4_draws_93 (by decide) ?_
      obtain ⟨q, hq⟩ : ∃ q, q = (if (sA N).testBit m then left else 0) := ⟨_, rfl⟩
      have hql : q ≤ left := by rw [hq]; split <;> omega
      refine Go.top (w := .int (nI q)) (by rw [hq, if_pos h89]) ?_
      refine Go.istore_n_new X dX4_draws_97 (by decide) rfl ?_
      refine Go.iconst X (nI 0) dX4_draws_98 k_ic_0 ?_
      refine Go.istore_new X dX4_draws_99 (by decide) rfl ?_
      have L101 : ∀ (f101 : Nat) (v : Nat) (u : Nat → Nat) (hv : v ≤ q + 1) (hu : ∀ i, i < m ∨ sN N ≤ i → u i = w i) (hx : ∀ i, i < 9 → u i ≤ 9) (hf101 : q + 1 - v < f101), Go Γ g 5 (rmC 12 281) 0 0 (mdW g ad (stW N u, K, b, z, le, rf, hd, ln, vl) (6, at1, tk, so, va, lm, ol, ah, ((fo N (l, br) (sg (dF (sA N) 4 m left w) v))).1, ((fo N (l, br) (sg (dF (sA N) 4 m left w) v))).2)) 101 [(4, .int (nI v)), (3, .int (nI q)), (0, .ref (ad 0)), (1, .int (nI m)), (2, .int (nI left))] [] := by
        intro f101
        induction f101 with
        | zero => intro v u hv hu hx hf101; exact absurd hf101 (Nat.not_lt_zero _)
        | succ f101 ih101 =>
          intro v u hv hu hx hf101
          refine Go.iload X 0 dX4_draws_101 rfl ?_
          refine Go.iload_n X 1 dX4_draws_103 rfl ?_
          refine Go.icmp_gtN X 132 dX4_draws_104 (by decide) (by first | omega | (split <;> omega)) (by first | omega | (split <;> omega)) (fun h104 => ?_) (fun h104 => ?_)
          · --
            have e9 : fo N (l, br) (rws (sA N) 5 m left w) = fo N (l, br) (sg (dF (sA N) 4 m left w) v) := by rw [rws_dF, ← hq, show q + 1 = v by omega]
            exact Go.vret X E dX4_draws_132 ⟨rfl, u, hu, hx, by rw [e9]⟩ rfl
          · --
            refine Go.aload_n X 2 dX4_draws_107 rfl ?_
            refine Go.get X f_X4_draws_20 0 (v := .ref (ad 4)) rfl rfl dX4_draws_108 ?_
            refine Go.iload_n X 3 dX4_draws_111 rfl ?_
            refine Go.iload X 0 dX4_draws_112 rfl ?_
            refine Go.iastNM X 4 (mdW g ad ((sN N, sA N, updN u m v, sD N, sP N, sK N, sO N, sG N, sT N, sF N, sX N), K, b, z, le, rf, hd, ln, vl) (6, at1, tk, so, va, lm, ol, ah, ((fo N (l, br) (sg (dF (sA N) 4 m left w) v))).1, ((fo N (l, br) (sg (dF (sA N) 4 m left w) v))).2)) (w := u) rfl (by first | omega | (split <;> omega)) rfl dX4_draws_114 rfl ?_
            refine Go.conv (M1 := mdW g ad (stW N (updN u m v), K, b, z, le, rf, hd, ln, vl) (6, at1, tk, so, va, lm, ol, ah, ((fo N (l, br) (sg (dF (sA N) 4 m left w) v))).1, ((fo N (l, br) (sg (dF (sA N) 4 m left w) v))).2)) ?_ (by rfl) rfl rfl
            refine Go.aload_n X 2 dX4_draws_115 rfl ?_
            refine Go.iload_n X 3 dX4_draws_116 rfl ?_
            refine Go.iconst X (nI 1) dX4_draws_117 k_ic_1 ?_
            refine Go.iadd_e X (nI (m + 1)) dX4_draws_118 (nI_add _ _) ?_
            refine Go.iload_n X 4 dX4_draws_119 rfl ?_
            refine Go.iload X 0 dX4_draws_120 rfl ?_
            refine Go.isub_e X (nI (left - v)) dX4_draws_122 (pk_sub (by first | omega | (split <;> omega))) ?_
            refine Go.callV0 X (d_draws_4 g ad N K b z le rf hd ln vl at1 tk so va lm ol ah (updN u m v) (((fo N (l, br) (sg (dF (sA N) 4 m left w) v))).1) (((fo N (l, br) (sg (dF (sA N) 4 m left w) v))).2) (m + 1) (left - v) (by exact hN) (by omega) (by omega) (by exact up_le hx (by omega))) cal_X4_draws gX4_draws_X4_draws (ci := 4) (q0 := 0) rfl rfl rfl rfl rfl dX4_draws_123 (fun v9 w9 e9 => ?_)
            obtain ⟨rfl, W1_123, hw1_123, hw2_123, rfl⟩ := e9
            show Go Γ g 5 (rmC 12 281) 0 0 (mdW g ad (stW N W1_123, K, b, z, le, rf, hd, ln, vl) (6, at1, tk, so, va, lm, ol, ah, (fo N ((((fo N (l, br) (sg (dF (sA N) 4 m left w) v))).1), (((fo N (l, br) (sg (dF (sA N) 4 m left w) v))).2)) (rws (sA N) 4 (m + 1) (left - v) (updN u m v))).1, (fo N ((((fo N (l, br) (sg (dF (sA N) 4 m left w) v))).1), (((fo N (l, br) (sg (dF (sA N) 4 m left w) v))).2)) (rws (sA N) 4 (m + 1) (left - v) (updN u m v))).2)) 126 [(4, .int (nI v)), (3, .int (nI q)), (0, .ref (ad 0)), (1, .int (nI m)), (2, .int (nI left))] []
            have e126 : fo N ((fo N (l, br) (sg (dF (sA N) 4 m left w) v)).1, (fo N (l, br) (sg (dF (sA N) 4 m left w) v)).2) (rws (sA N) 4 (m + 1) (left - v) (updN u m v)) = (fo N (l, br) (sg (dF (sA N) 4 m left w) (v + 1))) := by rw [fo_sg, ← dF_ext (d := 4) (v := v) (fun i hi => hu i (by omega))]
            refine Go.conv (M1 := mdW g ad (stW N W1_123, K, b, z, le, rf, hd, ln, vl) (6, at1, tk, so, va, lm, ol, ah, ((fo N (l, br) (sg (dF (sA N) 4 m left w) (v + 1)))).1, (fo N ((((fo N (l, br) (sg (dF (sA N) 4 m left w) v))).1), (((fo N (l, br) (sg (dF (sA N) 4 m left w) v))).2)) (rws (sA N) 4 (m + 1) (left - v) (updN u m v))).2)) ?_ (by rw [e126]) rfl rfl
            refine Go.conv (M1 := mdW g ad (stW N W1_123, K, b, z, le, rf, hd, ln, vl) (6, at1, tk, so, va, lm, ol, ah, ((fo N (l, br) (sg (dF (sA N) 4 m left w) (v + 1)))).1, ((fo N (l, br) (sg (dF (sA N) 4 m left w) (v + 1)))).2)) ?_ (by rw [e126]) rfl rfl
            refine Go.iinc_0 X (nI (v + 1)) dX4_draws_126 (by decide) rfl (show nI v + Int32.ofInt 1 = nI (v + 1) from nI_add _ 1) ?_
            refine Go.goto X 101 dX4_draws_129 (by decide) ?_
            refine Go.conv (M1 := mdW g ad (stW N W1_123, K, b, z, le, rf, hd, ln, vl) (6, at1, tk, so, va, lm, ol, ah, ((fo N (l, br) (sg (dF (sA N) 4 m left w) (v + 1)))).1, ((fo N (l, br) (sg (dF (sA N) 4 m left w) (v + 1)))).2)) ?_ (by rfl) rfl rfl
            exact ih101 (v + 1) W1_123 (by first | omega | (split <;> omega)) (by exact up_keep hu (by omega) hw1_123) (by exact hw2_123) (by first | omega | (split <;> omega))
      refine Go.conv (M1 := mdW g ad (stW N w, K, b, z, le, rf, hd, ln, vl) (6, at1, tk, so, va, lm, ol, ah, ((fo N (l, br) (sg (dF (sA N) 4 m left w) 0))).1, ((fo N (l, br) (sg (dF (sA N) 4 m left w) 0))).2)) ?_ (by rfl) rfl rfl
      exact L101 (q + 1 - 0 + 1) 0 w (by first | omega | (split <;> omega)) (by intro i _; rfl) (by exact hw9) (Nat.lt_succ_self _)
  · --
    exact absurd h5 (by omega)
set_option maxHeartbeats 4000000 in
set_option maxRecDepth 100000 in
theorem d_draws_6 (g : gT) (ad : Nat → Nat) (N : Sch) (K : Sch) (b : Bool) (z : Nat) (le : Nat → Nat) (rf : Nat → Int32) (hd : Nat → Int32) (ln : Nat → Nat) (vl : Nat → Nat → Int64) (at1 : Nat) (tk : Nat) (so : Int32) (va : Int32) (lm : Nat → Nat) (ol : Nat → Int32) (ah : Nat → Int32) (w : Nat → Nat) (l : Int32) (br : Nat → Int32) (m : Nat) (left : Nat) (hN : sOk N) (hmD : m + 6 = sN N) (hl9 : left ≤ 9) (hw9 : ∀ i, i < 9 → w i ≤ 9) : Ct g yX4_draws wsX4_draws 13 305 [.ref (ad 0), .int (nI m), .int (nI left)] (mdW g ad (stW N w, K, b, z, le, rf, hd, ln, vl) (6, at1, tk, so, va, lm, ol, ah, l, br)) (fun v9 w9 => v9 = none ∧ ∃ (W1 : Nat → Nat), (∀ i, i < m ∨ sN N ≤ i → W1 i = w i) ∧ (∀ i, i < 9 → W1 i ≤ 9) ∧ w9 = mdW g ad (stW N W1, K, b, z, le, rf, hd, ln, vl) (6, at1, tk, so, va, lm, ol, ah, (fo N (l, br) (rws (sA N) 6 m left w)).1, (fo N (l, br) (rws (sA N) 6 m left w)).2)) := by
  refine Ct.start (cc := cX4_draws) (nL := 5) (ret := none) (own := RX4) (by decide) rfl rfl rfl ?_
  intro Γ X E
  show Go Γ g 5 (rmC 13 305) 0 0 (mdW g ad (stW N w, K, b, z, le, rf, hd, ln, vl) (6, at1, tk, so, va, lm, ol, ah, l, br)) 0 [(0, .ref (ad 0)), (1, .int (nI m)), (2, .int (nI left))] []
  obtain ⟨o1, o2, o3, o4, o5, o6, o7, o8⟩ := id hN
  have o9 := p2_9 o2
  have o10 := sA_512 hN
  refine Go.iload_n X 1 dX4_draws_0 rfl ?_
  refine Go.aload_n X 0 dX4_draws_1 rfl ?_
  refine Go.get X f_X4_draws_66 0 (v := .int (nI (sN N))) rfl rfl dX4_draws_2 ?_
  refine Go.icmp_neN X 81 dX4_draws_5 (by decide) (by first | omega | (split <;> omega)) (by first | omega | (split <;> omega)) (fun h5 => ?_) (fun h5 => ?_)
  · --
    refine Go.aload_n X 0 dX4_draws_81 rfl ?_
    refine Go.get X f_X4_draws_111 0 (v := .int (nI (sA N))) rfl rfl dX4_draws_82 ?_
    refine Go.iload_n X 1 dX4_draws_85 rfl ?_
    refine Go.callSi X  (d_has g (sA N) m (by first | omega | (split <;> omega)) (by first | omega | (split <;> omega))) cal_X4_has [] rfl rfl gX4_draws_X4_has rfl rfl rfl dX4_draws_86 ?_
    refine Go.if_eqB X 96 dX4_draws_89 (by decide) (fun h89 => ?_) (fun h89 => ?_)
    · --
      refine Go.iconst X (nI 0) dX4_draws_96 k_ic_0 ?_
      obtain ⟨q, hq⟩ : ∃ q, q = (if (sA N).testBit m then left else 0) := ⟨_, rfl⟩
      have hql : q ≤ left := by rw [hq]; split <;> omega
      refine Go.top (w := .int (nI q)) (by rw [hq, if_neg (by rw [h89]; decide)]) ?_
      refine Go.istore_n_new X dX4_draws_97 (by decide) rfl ?_
      refine Go.iconst X (nI 0) dX4_draws_98 k_ic_0 ?_
      refine Go.istore_new X dX4_draws_99 (by decide) rfl ?_
      have L101 : ∀ (f101 : Nat) (v : Nat) (u : Nat → Nat) (hv : v ≤ q + 1) (hu : ∀ i, i < m ∨ sN N ≤ i → u i = w i) (hx : ∀ i, i < 9 → u i ≤ 9) (hf101 : q + 1 - v < f101), Go Γ g 5 (rmC 13 305) 0 0 (mdW g ad (stW N u, K, b, z, le, rf, hd, ln, vl) (6, at1, tk, so, va, lm, ol, ah, ((fo N (l, br) (sg (dF (sA N) 5 m left w) v))).1, ((fo N (l, br) (sg (dF (sA N) 5 m left w) v))).2)) 101 [(4, .int (nI v)), (3, .int (nI q)), (0, .ref (ad 0)), (1, .int (nI m)), (2, .int (nI left))] [] := by
        intro f101
        induction f101 with
        | zero => intro v u hv hu hx hf101; exact absurd hf101 (Nat.not_lt_zero _)
        | succ f101 ih101 =>
          intro v u hv hu hx hf101
          refine Go.iload X 0 dX4_draws_101 rfl ?_
          refine Go.iload_n X 1 dX4_draws_103 rfl ?_
          refine Go.icmp_gtN X 132 dX4_draws_104 (by decide) (by first | omega | (split <;> omega)) (by first | omega | (split <;> omega)) (fun h104 => ?_) (fun h104 => ?_)
          · --
            have e9 : fo N (l, br) (rws (sA N) 6 m left w) = fo N (l, br) (sg (dF (sA N) 5 m left w) v) := by rw [rws_dF, ← hq, show q + 1 = v by omega]
            exact Go.vret X E dX4_draws_132 ⟨rfl, u, hu, hx, by rw [e9]⟩ rfl
          · --
            refine Go.aload_n X 2 dX4_draws_107 rfl ?_
            refine Go.get X f_X4_draws_20 0 (v := .ref (ad 4)) rfl rfl dX4_draws_108 ?_
            refine Go.iload_n X 3 dX4_draws_111 rfl ?_
            refine Go.iload X 0 dX4_draws_112 rfl ?_
            refine Go.iastNM X 4 (mdW g ad ((sN N, sA N, updN u m v, sD N, sP N, sK N, sO N, sG N, sT N, sF N, sX N), K, b, z, le, rf, hd, ln, vl) (6, at1, tk, so, va, lm, ol, ah, ((fo N (l, br) (sg (dF (sA N) 5 m left w) v))).1, ((fo N (l, br) (sg (dF (sA N) 5 m left w) v))).2)) (w := u) rfl (by first | omega | (split <;> omega)) rfl dX4_draws_114 rfl ?_
            refine Go.conv (M1 := mdW g ad (stW N (updN u m v), K, b, z, le, rf, hd, ln, vl) (6, at1, tk, so, va, lm, ol, ah, ((fo N (l, br) (sg (dF (sA N) 5 m left w) v))).1, ((fo N (l, br) (sg (dF (sA N) 5 m left w) v))).2)) ?_ (by rfl) rfl rfl
            refine Go.aload_n X 2 dX4_draws_115 rfl ?_
            refine Go.iload_n X 3 dX4_draws_116 rfl ?_
            refine Go.iconst X (nI 1) dX4_draws_117 k_ic_1 ?_
            refine Go.iadd_e X (nI (m + 1)) dX4_draws_118 (nI_add _ _) ?_
            refine Go.iload_n X 4 dX4_draws_119 rfl ?_
            refine Go.iload X 0 dX4_draws_120 rfl ?_
            refine Go.isub_e X (nI (left - v)) dX4_draws_122 (pk_sub (by first | omega | (split <;> omega))) ?_
            refine Go.callV0 X (d_draws_5 g ad N K b z le rf hd ln vl at1 tk so va lm ol ah (updN u m v) (((fo N (l, br) (sg (dF (sA N) 5 m left w) v))).1) (((fo N (l, br) (sg (dF (sA N) 5 m left w) v))).2) (m + 1) (left - v) (by exact hN) (by omega) (by omega) (by exact up_le hx (by omega))) cal_X4_draws gX4_draws_X4_draws (ci := 4) (q0 := 0) rfl rfl rfl rfl rfl dX4_draws_123 (fun v9 w9 e9 => ?_)
            obtain ⟨rfl, W1_123, hw1_123, hw2_123, rfl⟩ := e9
            show Go Γ g 5 (rmC 13 305) 0 0 (mdW g ad (stW N W1_123, K, b, z, le, rf, hd, ln, vl) (6, at1, tk, so, va, lm, ol, ah, (fo N ((((fo N (l, br) (sg (dF (sA N) 5 m left w) v))).1), (((fo N (l, br) (sg (dF (sA N) 5 m left w) v))).2)) (rws (sA N) 5 (m + 1) (left - v) (updN u m v))).1, (fo N ((((fo N (l, br) (sg (dF (sA N) 5 m left w) v))).1), (((fo N (l, br) (sg (dF (sA N) 5 m left w) v))).2)) (rws (sA N) 5 (m + 1) (left - v) (updN u m v))).2)) 126 [(4, .int (nI v)), (3, .int (nI q)), (0, .ref (ad 0)), (1, .int (nI m)), (2, .int (nI left))] []
            have e126 : fo N ((fo N (l, br) (sg (dF (sA N) 5 m left w) v)).1, (fo N (l, br) (sg (dF (sA N) 5 m left w) v)).2) (rws (sA N) 5 (m + 1) (left - v) (updN u m v)) = (fo N (l, br) (sg (dF (sA N) 5 m left w) (v + 1))) := by rw [fo_sg, ← dF_ext (d := 5) (v := v) (fun i hi => hu i (by omega))]
            refine Go.conv (M1 := mdW g ad (stW N W1_123, K, b, z, le, rf, hd, ln, vl) (6, at1, tk, so, va, lm, ol, ah, ((fo N (l, br) (sg (dF (sA N) 5 m left w) (v + 1)))).1, (fo N ((((fo N (l, br) (sg (dF (sA N) 5 m left w) v))).1), (((fo N (l, br) (sg (dF (sA N) 5 m left w) v))).2)) (rws (sA N) 5 (m + 1) (left - v) (updN u m v))).2)) ?_ (by rw [e126]) rfl rfl
            refine Go.conv (M1 := mdW g ad (stW N W1_123, K, b, z, le, rf, hd, ln, vl) (6, at1, tk, so, va, lm, ol, ah, ((fo N (l, br) (sg (dF (sA N) 5 m left w) (v + 1)))).1, ((fo N (l, br) (sg (dF (sA N) 5 m left w) (v + 1)))).2)) ?_ (by rw [e126]) rfl rfl
            refine Go.iinc_0 X (nI (v + 1)) dX4_draws_126 (by decide) rfl (show nI v + Int32.ofInt 1 = nI (v + 1) from nI_add _ 1) ?_
            refine Go.goto X 101 dX4_draws_129 (by decide) ?_
            refine Go.conv (M1 := mdW g ad (stW N W1_123, K, b, z, le, rf, hd, ln, vl) (6, at1, tk, so, va, lm, ol, ah, ((fo N (l, br) (sg (dF (sA N) 5 m left w) (v + 1)))).1, ((fo N (l, br) (sg (dF (sA N) 5 m left w) (v + 1)))).2)) ?_ (by rfl) rfl rfl
            exact ih101 (v + 1) W1_123 (by first | omega | (split <;> omega)) (by exact up_keep hu (by omega) hw1_123) (by exact hw2_123) (by first | omega | (split <;> omega))
      refine Go.conv (M1 := mdW g ad (stW N w, K, b, z, le, rf, hd, ln, vl) (6, at1, tk, so, va, lm, ol, ah, ((fo N (l, br) (sg (dF (sA N) 5 m left w) 0))).1, ((fo N (l, br) (sg (dF (sA N) 5 m left w) 0))).2)) ?_ (by rfl) rfl rfl
      exact L101 (q + 1 - 0 + 1) 0 w (by first | omega | (split <;> omega)) (by intro i _; rfl) (by exact hw9) (Nat.lt_succ_self _)
    · --
      refine Go.iload_n X 2 dX4_draws_92 rfl ?_
      refine Go.goto X 97 dX4_draws_93 (by decide) ?_
      obtain ⟨q, hq⟩ : ∃ q, q = (if (sA N).testBit m then left else 0) := ⟨_, rfl⟩
      have hql : q ≤ left := by rw [hq]; split <;> omega
      refine Go.top (w := .int (nI q)) (by rw [hq, if_pos h89]) ?_
      refine Go.istore_n_new X dX4_draws_97 (by decide) rfl ?_
      refine Go.iconst X (nI 0) dX4_draws_98 k_ic_0 ?_
      refine Go.istore_new X dX4_draws_99 (by decide) rfl ?_
      have L101 : ∀ (f101 : Nat) (v : Nat) (u : Nat → Nat) (hv : v ≤ q + 1) (hu : ∀ i, i < m ∨ sN N ≤ i → u i = w i) (hx : ∀ i, i < 9 → u i ≤ 9) (hf101 : q + 1 - v < f101), Go Γ g 5 (rmC 13 305) 0 0 (mdW g ad (stW N u, K, b, z, le, rf, hd, ln, vl) (6, at1, tk, so, va, lm, ol, ah, ((fo N (l, br) (sg (dF (sA N) 5 m left w) v))).1, ((fo N (l, br) (sg (dF (sA N) 5 m left w) v))).2)) 101 [(4, .int (nI v)), (3, .int (nI q)), (0, .ref (ad 0)), (1, .int (nI m)), (2, .int (nI left))] [] := by
        intro f101
        induction f101 with
        | zero => intro v u hv hu hx hf101; exact absurd hf101 (Nat.not_lt_zero _)
        | succ f101 ih101 =>
          intro v u hv hu hx hf101
          refine Go.iload X 0 dX4_draws_101 rfl ?_
          refine Go.iload_n X 1 dX4_draws_103 rfl ?_
          refine Go.icmp_gtN X 132 dX4_draws_104 (by decide) (by first | omega | (split <;> omega)) (by first | omega | (split <;> omega)) (fun h104 => ?_) (fun h104 => ?_)
          · --
            have e9 : fo N (l, br) (rws (sA N) 6 m left w) = fo N (l, br) (sg (dF (sA N) 5 m left w) v) := by rw [rws_dF, ← hq, show q + 1 = v by omega]
            exact Go.vret X E dX4_draws_132 ⟨rfl, u, hu, hx, by rw [e9]⟩ rfl
          · --
            refine Go.aload_n X 2 dX4_draws_107 rfl ?_
            refine Go.get X f_X4_draws_20 0 (v := .ref (ad 4)) rfl rfl dX4_draws_108 ?_
            refine Go.iload_n X 3 dX4_draws_111 rfl ?_
            refine Go.iload X 0 dX4_draws_112 rfl ?_
            refine Go.iastNM X 4 (mdW g ad ((sN N, sA N, updN u m v, sD N, sP N, sK N, sO N, sG N, sT N, sF N, sX N), K, b, z, le, rf, hd, ln, vl) (6, at1, tk, so, va, lm, ol, ah, ((fo N (l, br) (sg (dF (sA N) 5 m left w) v))).1, ((fo N (l, br) (sg (dF (sA N) 5 m left w) v))).2)) (w := u) rfl (by first | omega | (split <;> omega)) rfl dX4_draws_114 rfl ?_
            refine Go.conv (M1 := mdW g ad (stW N (updN u m v), K, b, z, le, rf, hd, ln, vl) (6, at1, tk, so, va, lm, ol, ah, ((fo N (l, br) (sg (dF (sA N) 5 m left w) v))).1, ((fo N (l, br) (sg (dF (sA N) 5 m left w) v))).2)) ?_ (by rfl) rfl rfl
            refine Go.aload_n X 2 dX4_draws_115 rfl ?_
            refine Go.iload_n X 3 dX4_draws_116 rfl ?_
            refine Go.iconst X (nI 1) dX4_draws_117 k_ic_1 ?_
            refine Go.iadd_e X (nI (m + 1)) dX4_draws_118 (nI_add _ _) ?_
            refine Go.iload_n X 4 dX4_draws_119 rfl ?_
            refine Go.iload X 0 dX4_draws_120 rfl ?_
            refine Go.isub_e X (nI (left - v)) dX4_draws_122 (pk_sub (by first | omega | (split <;> omega))) ?_
            refine Go.callV0 X (d_draws_5 g ad N K b z le rf hd ln vl at1 tk so va lm ol ah (updN u m v) (((fo N (l, br) (sg (dF (sA N) 5 m left w) v))).1) (((fo N (l, br) (sg (dF (sA N) 5 m left w) v))).2) (m + 1) (left - v) (by exact hN) (by omega) (by omega) (by exact up_le hx (by omega))) cal_X4_draws gX4_draws_X4_draws (ci := 4) (q0 := 0) rfl rfl rfl rfl rfl dX4_draws_123 (fun v9 w9 e9 => ?_)
            obtain ⟨rfl, W1_123, hw1_123, hw2_123, rfl⟩ := e9
            show Go Γ g 5 (rmC 13 305) 0 0 (mdW g ad (stW N W1_123, K, b, z, le, rf, hd, ln, vl) (6, at1, tk, so, va, lm, ol, ah, (fo N ((((fo N (l, br) (sg (dF (sA N) 5 m left w) v))).1), (((fo N (l, br) (sg (dF (sA N) 5 m left w) v))).2)) (rws (sA N) 5 (m + 1) (left - v) (updN u m v))).1, (fo N ((((fo N (l, br) (sg (dF (sA N) 5 m left w) v))).1), (((fo N (l, br) (sg (dF (sA N) 5 m left w) v))).2)) (rws (sA N) 5 (m + 1) (left - v) (updN u m v))).2)) 126 [(4, .int (nI v)), (3, .int (nI q)), (0, .ref (ad 0)), (1, .int (nI m)), (2, .int (nI left))] []
            have e126 : fo N ((fo N (l, br) (sg (dF (sA N) 5 m left w) v)).1, (fo N (l, br) (sg (dF (sA N) 5 m left w) v)).2) (rws (sA N) 5 (m + 1) (left - v) (updN u m v)) = (fo N (l, br) (sg (dF (sA N) 5 m left w) (v + 1))) := by rw [fo_sg, ← dF_ext (d := 5) (v := v) (fun i hi => hu i (by omega))]
            refine Go.conv (M1 := mdW g ad (stW N W1_123, K, b, z, le, rf, hd, ln, vl) (6, at1, tk, so, va, lm, ol, ah, ((fo N (l, br) (sg (dF (sA N) 5 m left w) (v + 1)))).1, (fo N ((((fo N (l, br) (sg (dF (sA N) 5 m left w) v))).1), (((fo N (l, br) (sg (dF (sA N) 5 m left w) v))).2)) (rws (sA N) 5 (m + 1) (left - v) (updN u m v))).2)) ?_ (by rw [e126]) rfl rfl
            refine Go.conv (M1 := mdW g ad (stW N W1_123, K, b, z, le, rf, hd, ln, vl) (6, at1, tk, so, va, lm, ol, ah, ((fo N (l, br) (sg (dF (sA N) 5 m left w) (v + 1)))).1, ((fo N (l, br) (sg (dF (sA N) 5 m left w) (v + 1)))).2)) ?_ (by rw [e126]) rfl rfl
            refine Go.iinc_0 X (nI (v + 1)) dX4_draws_126 (by decide) rfl (show nI v + Int32.ofInt 1 = nI (v + 1) from nI_add _ 1) ?_
            refine Go.goto X 101 dX4_draws_129 (by decide) ?_
            refine Go.conv (M1 := mdW g ad (stW N W1_123, K, b, z, le, rf, hd, ln, vl) (6, at1, tk, so, va, lm, ol, ah, ((fo N (l, br) (sg (dF (sA N) 5 m left w) (v + 1)))).1, ((fo N (l, br) (sg (dF (sA N) 5 m left w) (v + 1)))).2)) ?_ (by rfl) rfl rfl
            exact ih101 (v + 1) W1_123 (by first | omega | (split <;> omega)) (by exact up_keep hu (by omega) hw1_123) (by exact hw2_123) (by first | omega | (split <;> omega))
      refine Go.conv (M1 := mdW g ad (stW N w, K, b, z, le, rf, hd, ln, vl) (6, at1, tk, so, va, lm, ol, ah, ((fo N (l, br) (sg (dF (sA N) 5 m left w) 0))).1, ((fo N (l, br) (sg (dF (sA N) 5 m left w) 0))).2)) ?_ (by rfl) rfl rfl
      exact L101 (q + 1 - 0 + 1) 0 w (by first | omega | (split <;> omega)) (by intro i _; rfl) (by exact hw9) (Nat.lt_succ_self _)
  · --
    exact absurd h5 (by omega)
set_option maxHeartbeats 4000000 in
set_option maxRecDepth 100000 in
theorem d_draws_7 (g : gT) (ad : Nat → Nat) (N : Sch) (K : Sch) (b : Bool) (z : Nat) (le : Nat → Nat) (rf : Nat → Int32) (hd : Nat → Int32) (ln : Nat → Nat) (vl : Nat → Nat → Int64) (at1 : Nat) (tk : Nat) (so : Int32) (va : Int32) (lm : Nat → Nat) (ol : Nat → Int32) (ah : Nat → Int32) (w : Nat → Nat) (l : Int32) (br : Nat → Int32) (m : Nat) (left : Nat) (hN : sOk N) (hmD : m + 7 = sN N) (hl9 : left ≤ 9) (hw9 : ∀ i, i < 9 → w i ≤ 9) : Ct g yX4_draws wsX4_draws 14 329 [.ref (ad 0), .int (nI m), .int (nI left)] (mdW g ad (stW N w, K, b, z, le, rf, hd, ln, vl) (6, at1, tk, so, va, lm, ol, ah, l, br)) (fun v9 w9 => v9 = none ∧ ∃ (W1 : Nat → Nat), (∀ i, i < m ∨ sN N ≤ i → W1 i = w i) ∧ (∀ i, i < 9 → W1 i ≤ 9) ∧ w9 = mdW g ad (stW N W1, K, b, z, le, rf, hd, ln, vl) (6, at1, tk, so, va, lm, ol, ah, (fo N (l, br) (rws (sA N) 7 m left w)).1, (fo N (l, br) (rws (sA N) 7 m left w)).2)) := by
  refine Ct.start (cc := cX4_draws) (nL := 5) (ret := none) (own := RX4) (by decide) rfl rfl rfl ?_
  intro Γ X E
  show Go Γ g 5 (rmC 14 329) 0 0 (mdW g ad (stW N w, K, b, z, le, rf, hd, ln, vl) (6, at1, tk, so, va, lm, ol, ah, l, br)) 0 [(0, .ref (ad 0)), (1, .int (nI m)), (2, .int (nI left))] []
  obtain ⟨o1, o2, o3, o4, o5, o6, o7, o8⟩ := id hN
  have o9 := p2_9 o2
  have o10 := sA_512 hN
  refine Go.iload_n X 1 dX4_draws_0 rfl ?_
  refine Go.aload_n X 0 dX4_draws_1 rfl ?_
  refine Go.get X f_X4_draws_66 0 (v := .int (nI (sN N))) rfl rfl dX4_draws_2 ?_
  refine Go.icmp_neN X 81 dX4_draws_5 (by decide) (by first | omega | (split <;> omega)) (by first | omega | (split <;> omega)) (fun h5 => ?_) (fun h5 => ?_)
  · --
    refine Go.aload_n X 0 dX4_draws_81 rfl ?_
    refine Go.get X f_X4_draws_111 0 (v := .int (nI (sA N))) rfl rfl dX4_draws_82 ?_
    refine Go.iload_n X 1 dX4_draws_85 rfl ?_
    refine Go.callSi X  (d_has g (sA N) m (by first | omega | (split <;> omega)) (by first | omega | (split <;> omega))) cal_X4_has [] rfl rfl gX4_draws_X4_has rfl rfl rfl dX4_draws_86 ?_
    refine Go.if_eqB X 96 dX4_draws_89 (by decide) (fun h89 => ?_) (fun h89 => ?_)
    · --
      refine Go.iconst X (nI 0) dX4_draws_96 k_ic_0 ?_
      obtain ⟨q, hq⟩ : ∃ q, q = (if (sA N).testBit m then left else 0) := ⟨_, rfl⟩
      have hql : q ≤ left := by rw [hq]; split <;> omega
      refine Go.top (w := .int (nI q)) (by rw [hq, if_neg (by rw [h89]; decide)]) ?_
      refine Go.istore_n_new X dX4_draws_97 (by decide) rfl ?_
      refine Go.iconst X (nI 0) dX4_draws_98 k_ic_0 ?_
      refine Go.istore_new X dX4_draws_99 (by decide) rfl ?_
      have L101 : ∀ (f101 : Nat) (v : Nat) (u : Nat → Nat) (hv : v ≤ q + 1) (hu : ∀ i, i < m ∨ sN N ≤ i → u i = w i) (hx : ∀ i, i < 9 → u i ≤ 9) (hf101 : q + 1 - v < f101), Go Γ g 5 (rmC 14 329) 0 0 (mdW g ad (stW N u, K, b, z, le, rf, hd, ln, vl) (6, at1, tk, so, va, lm, ol, ah, ((fo N (l, br) (sg (dF (sA N) 6 m left w) v))).1, ((fo N (l, br) (sg (dF (sA N) 6 m left w) v))).2)) 101 [(4, .int (nI v)), (3, .int (nI q)), (0, .ref (ad 0)), (1, .int (nI m)), (2, .int (nI left))] [] := by
        intro f101
        induction f101 with
        | zero => intro v u hv hu hx hf101; exact absurd hf101 (Nat.not_lt_zero _)
        | succ f101 ih101 =>
          intro v u hv hu hx hf101
          refine Go.iload X 0 dX4_draws_101 rfl ?_
          refine Go.iload_n X 1 dX4_draws_103 rfl ?_
          refine Go.icmp_gtN X 132 dX4_draws_104 (by decide) (by first | omega | (split <;> omega)) (by first | omega | (split <;> omega)) (fun h104 => ?_) (fun h104 => ?_)
          · --
            have e9 : fo N (l, br) (rws (sA N) 7 m left w) = fo N (l, br) (sg (dF (sA N) 6 m left w) v) := by rw [rws_dF, ← hq, show q + 1 = v by omega]
            exact Go.vret X E dX4_draws_132 ⟨rfl, u, hu, hx, by rw [e9]⟩ rfl
          · --
            refine Go.aload_n X 2 dX4_draws_107 rfl ?_
            refine Go.get X f_X4_draws_20 0 (v := .ref (ad 4)) rfl rfl dX4_draws_108 ?_
            refine Go.iload_n X 3 dX4_draws_111 rfl ?_
            refine Go.iload X 0 dX4_draws_112 rfl ?_
            refine Go.iastNM X 4 (mdW g ad ((sN N, sA N, updN u m v, sD N, sP N, sK N, sO N, sG N, sT N, sF N, sX N), K, b, z, le, rf, hd, ln, vl) (6, at1, tk, so, va, lm, ol, ah, ((fo N (l, br) (sg (dF (sA N) 6 m left w) v))).1, ((fo N (l, br) (sg (dF (sA N) 6 m left w) v))).2)) (w := u) rfl (by first | omega | (split <;> omega)) rfl dX4_draws_114 rfl ?_
            refine Go.conv (M1 := mdW g ad (stW N (updN u m v), K, b, z, le, rf, hd, ln, vl) (6, at1, tk, so, va, lm, ol, ah, ((fo N (l, br) (sg (dF (sA N) 6 m left w) v))).1, ((fo N (l, br) (sg (dF (sA N) 6 m left w) v))).2)) ?_ (by rfl) rfl rfl
            refine Go.aload_n X 2 dX4_draws_115 rfl ?_
            refine Go.iload_n X 3 dX4_draws_116 rfl ?_
            refine Go.iconst X (nI 1) dX4_draws_117 k_ic_1 ?_
            refine Go.iadd_e X (nI (m + 1)) dX4_draws_118 (nI_add _ _) ?_
            refine Go.iload_n X 4 dX4_draws_119 rfl ?_
            refine Go.iload X 0 dX4_draws_120 rfl ?_
            refine Go.isub_e X (nI (left - v)) dX4_draws_122 (pk_sub (by first | omega | (split <;> omega))) ?_
            refine Go.callV0 X (d_draws_6 g ad N K b z le rf hd ln vl at1 tk so va lm ol ah (updN u m v) (((fo N (l, br) (sg (dF (sA N) 6 m left w) v))).1) (((fo N (l, br) (sg (dF (sA N) 6 m left w) v))).2) (m + 1) (left - v) (by exact hN) (by omega) (by omega) (by exact up_le hx (by omega))) cal_X4_draws gX4_draws_X4_draws (ci := 4) (q0 := 0) rfl rfl rfl rfl rfl dX4_draws_123 (fun v9 w9 e9 => ?_)
            obtain ⟨rfl, W1_123, hw1_123, hw2_123, rfl⟩ := e9
            show Go Γ g 5 (rmC 14 329) 0 0 (mdW g ad (stW N W1_123, K, b, z, le, rf, hd, ln, vl) (6, at1, tk, so, va, lm, ol, ah, (fo N ((((fo N (l, br) (sg (dF (sA N) 6 m left w) v))).1), (((fo N (l, br) (sg (dF (sA N) 6 m left w) v))).2)) (rws (sA N) 6 (m + 1) (left - v) (updN u m v))).1, (fo N ((((fo N (l, br) (sg (dF (sA N) 6 m left w) v))).1), (((fo N (l, br) (sg (dF (sA N) 6 m left w) v))).2)) (rws (sA N) 6 (m + 1) (left - v) (updN u m v))).2)) 126 [(4, .int (nI v)), (3, .int (nI q)), (0, .ref (ad 0)), (1, .int (nI m)), (2, .int (nI left))] []
            have e126 : fo N ((fo N (l, br) (sg (dF (sA N) 6 m left w) v)).1, (fo N (l, br) (sg (dF (sA N) 6 m left w) v)).2) (rws (sA N) 6 (m + 1) (left - v) (updN u m v)) = (fo N (l, br) (sg (dF (sA N) 6 m left w) (v + 1))) := by rw [fo_sg, ← dF_ext (d := 6) (v := v) (fun i hi => hu i (by omega))]
            refine Go.conv (M1 := mdW g ad (stW N W1_123, K, b, z, le, rf, hd, ln, vl) (6, at1, tk, so, va, lm, ol, ah, ((fo N (l, br) (sg (dF (sA N) 6 m left w) (v + 1)))).1, (fo N ((((fo N (l, br) (sg (dF (sA N) 6 m left w) v))).1), (((fo N (l, br) (sg (dF (sA N) 6 m left w) v))).2)) (rws (sA N) 6 (m + 1) (left - v) (updN u m v))).2)) ?_ (by rw [e126]) rfl rfl
            refine Go.conv (M1 := mdW g ad (stW N W1_123, K, b, z, le, rf, hd, ln, vl) (6, at1, tk, so, va, lm, ol, ah, ((fo N (l, br) (sg (dF (sA N) 6 m left w) (v + 1)))).1, ((fo N (l, br) (sg (dF (sA N) 6 m left w) (v + 1)))).2)) ?_ (by rw [e126]) rfl rfl
            refine Go.iinc_0 X (nI (v + 1)) dX4_draws_126 (by decide) rfl (show nI v + Int32.ofInt 1 = nI (v + 1) from nI_add _ 1) ?_
            refine Go.goto X 101 dX4_draws_129 (by decide) ?_
            refine Go.conv (M1 := mdW g ad (stW N W1_123, K, b, z, le, rf, hd, ln, vl) (6, at1, tk, so, va, lm, ol, ah, ((fo N (l, br) (sg (dF (sA N) 6 m left w) (v + 1)))).1, ((fo N (l, br) (sg (dF (sA N) 6 m left w) (v + 1)))).2)) ?_ (by rfl) rfl rfl
            exact ih101 (v + 1) W1_123 (by first | omega | (split <;> omega)) (by exact up_keep hu (by omega) hw1_123) (by exact hw2_123) (by first | omega | (split <;> omega))
      refine Go.conv (M1 := mdW g ad (stW N w, K, b, z, le, rf, hd, ln, vl) (6, at1, tk, so, va, lm, ol, ah, ((fo N (l, br) (sg (dF (sA N) 6 m left w) 0))).1, ((fo N (l, br) (sg (dF (sA N) 6 m left w) 0))).2)) ?_ (by rfl) rfl rfl
      exact L101 (q + 1 - 0 + 1) 0 w (by first | omega | (split <;> omega)) (by intro i _; rfl) (by exact hw9) (Nat.lt_succ_self _)
    · --
      refine Go.iload_n X 2 dX4_draws_92 rfl ?_
      refine Go.goto X 97 dX4_draws_93 (by decide) ?_
      obtain ⟨q, hq⟩ : ∃ q, q = (if (sA N).testBit m then left else 0) := ⟨_, rfl⟩
      have hql : q ≤ left := by rw [hq]; split <;> omega
      refine Go.top (w := .int (nI q)) (by rw [hq, if_pos h89]) ?_
      refine Go.istore_n_new X dX4_draws_97 (by decide) rfl ?_
      refine Go.iconst X (nI 0) dX4_draws_98 k_ic_0 ?_
      refine Go.istore_new X dX4_draws_99 (by decide) rfl ?_
      have L101 : ∀ (f101 : Nat) (v : Nat) (u : Nat → Nat) (hv : v ≤ q + 1) (hu : ∀ i, i < m ∨ sN N ≤ i → u i = w i) (hx : ∀ i, i < 9 → u i ≤ 9) (hf101 : q + 1 - v < f101), Go Γ g 5 (rmC 14 329) 0 0 (mdW g ad (stW N u, K, b, z, le, rf, hd, ln, vl) (6, at1, tk, so, va, lm, ol, ah, ((fo N (l, br) (sg (dF (sA N) 6 m left w) v))).1, ((fo N (l, br) (sg (dF (sA N) 6 m left w) v))).2)) 101 [(4, .int (nI v)), (3, .int (nI q)), (0, .ref (ad 0)), (1, .int (nI m)), (2, .int (nI left))] [] := by
        intro f101
        induction f101 with
        | zero => intro v u hv hu hx hf101; exact absurd hf101 (Nat.not_lt_zero _)
        | succ f101 ih101 =>
          intro v u hv hu hx hf101
          refine Go.iload X 0 dX4_draws_101 rfl ?_
          refine Go.iload_n X 1 dX4_draws_103 rfl ?_
          refine Go.icmp_gtN X 132 dX4_draws_104 (by decide) (by first | omega | (split <;> omega)) (by first | omega | (split <;> omega)) (fun h104 => ?_) (fun h104 => ?_)
          · --
            have e9 : fo N (l, br) (rws (sA N) 7 m left w) = fo N (l, br) (sg (dF (sA N) 6 m left w) v) := by rw [rws_dF, ← hq, show q + 1 = v by omega]
            exact Go.vret X E dX4_draws_132 ⟨rfl, u, hu, hx, by rw [e9]⟩ rfl
          · --
            refine Go.aload_n X 2 dX4_draws_107 rfl ?_
            refine Go.get X f_X4_draws_20 0 (v := .ref (ad 4)) rfl rfl dX4_draws_108 ?_
            refine Go.iload_n X 3 dX4_draws_111 rfl ?_
            refine Go.iload X 0 dX4_draws_112 rfl ?_
            refine Go.iastNM X 4 (mdW g ad ((sN N, sA N, updN u m v, sD N, sP N, sK N, sO N, sG N, sT N, sF N, sX N), K, b, z, le, rf, hd, ln, vl) (6, at1, tk, so, va, lm, ol, ah, ((fo N (l, br) (sg (dF (sA N) 6 m left w) v))).1, ((fo N (l, br) (sg (dF (sA N) 6 m left w) v))).2)) (w := u) rfl (by first | omega | (split <;> omega)) rfl dX4_draws_114 rfl ?_
            refine Go.conv (M1 := mdW g ad (stW N (updN u m v), K, b, z, le, rf, hd, ln, vl) (6, at1, tk, so, va, lm, ol, ah, ((fo N (l, br) (sg (dF (sA N) 6 m left w) v))).1, ((fo N (l, br) (sg (dF (sA N) 6 m left w) v))).2)) ?_ (by rfl) rfl rfl
            refine Go.aload_n X 2 dX4_draws_115 rfl ?_
            refine Go.iload_n X 3 dX4_draws_116 rfl ?_
            refine Go.iconst X (nI 1) dX4_draws_117 k_ic_1 ?_
            refine Go.iadd_e X (nI (m + 1)) dX4_draws_118 (nI_add _ _) ?_
            refine Go.iload_n X 4 dX4_draws_119 rfl ?_
            refine Go.iload X 0 dX4_draws_120 rfl ?_
            refine Go.isub_e X (nI (left - v)) dX4_draws_122 (pk_sub (by first | omega | (split <;> omega))) ?_
            refine Go.callV0 X (d_draws_6 g ad N K b z le rf hd ln vl at1 tk so va lm ol ah (updN u m v) (((fo N (l, br) (sg (dF (sA N) 6 m left w) v))).1) (((fo N (l, br) (sg (dF (sA N) 6 m left w) v))).2) (m + 1) (left - v) (by exact hN) (by omega) (by omega) (by exact up_le hx (by omega))) cal_X4_draws gX4_draws_X4_draws (ci := 4) (q0 := 0) rfl rfl rfl rfl rfl dX4_draws_123 (fun v9 w9 e9 => ?_)
            obtain ⟨rfl, W1_123, hw1_123, hw2_123, rfl⟩ := e9
            show Go Γ g 5 (rmC 14 329) 0 0 (mdW g ad (stW N W1_123, K, b, z, le, rf, hd, ln, vl) (6, at1, tk, so, va, lm, ol, ah, (fo N ((((fo N (l, br) (sg (dF (sA N) 6 m left w) v))).1), (((fo N (l, br) (sg (dF (sA N) 6 m left w) v))).2)) (rws (sA N) 6 (m + 1) (left - v) (updN u m v))).1, (fo N ((((fo N (l, br) (sg (dF (sA N) 6 m left w) v))).1), (((fo N (l, br) (sg (dF (sA N) 6 m left w) v))).2)) (rws (sA N) 6 (m + 1) (left - v) (updN u m v))).2)) 126 [(4, .int (nI v)), (3, .int (nI q)), (0, .ref (ad 0)), (1, .int (nI m)), (2, .int (nI left))] []
            have e126 : fo N ((fo N (l, br) (sg (dF (sA N) 6 m left w) v)).1, (fo N (l, br) (sg (dF (sA N) 6 m left w) v)).2) (rws (sA N) 6 (m + 1) (left - v) (updN u m v)) = (fo N (l, br) (sg (dF (sA N) 6 m left w) (v + 1))) := by rw [fo_sg, ← dF_ext (d := 6) (v := v) (fun i hi => hu i (by omega))]
            refine Go.conv (M1 := mdW g ad (stW N W1_123, K, b, z, le, rf, hd, ln, vl) (6, at1, tk, so, va, lm, ol, ah, ((fo N (l, br) (sg (dF (sA N) 6 m left w) (v + 1)))).1, (fo N ((((fo N (l, br) (sg (dF (sA N) 6 m left w) v))).1), (((fo N (l, br) (sg (dF (sA N) 6 m left w) v))).2)) (rws (sA N) 6 (m + 1) (left - v) (updN u m v))).2)) ?_ (by rw [e126]) rfl rfl
            refine Go.conv (M1 := mdW g ad (stW N W1_123, K, b, z, le, rf, hd, ln, vl) (6, at1, tk, so, va, lm, ol, ah, ((fo N (l, br) (sg (dF (sA N) 6 m left w) (v + 1)))).1, ((fo N (l, br) (sg (dF (sA N) 6 m left w) (v + 1)))).2)) ?_ (by rw [e126]) rfl rfl
            refine Go.iinc_0 X (nI (v + 1)) dX4_draws_126 (by decide) rfl (show nI v + Int32.ofInt 1 = nI (v + 1) from nI_add _ 1) ?_
            refine Go.goto X 101 dX4_draws_129 (by decide) ?_
            refine Go.conv (M1 := mdW g ad (stW N W1_123, K, b, z, le, rf, hd, ln, vl) (6, at1, tk, so, va, lm, ol, ah, ((fo N (l, br) (sg (dF (sA N) 6 m left w) (v + 1)))).1, ((fo N (l, br) (sg (dF (sA N) 6 m left w) (v + 1)))).2)) ?_ (by rfl) rfl rfl
            exact ih101 (v + 1) W1_123 (by first | omega | (split <;> omega)) (by exact up_keep hu (by omega) hw1_123) (by exact hw2_123) (by first | omega | (split <;> omega))
      refine Go.conv (M1 := mdW g ad (stW N w, K, b, z, le, rf, hd, ln, vl) (6, at1, tk, so, va, lm, ol, ah, ((fo N (l, br) (sg (dF (sA N) 6 m left w) 0))).1, ((fo N (l, br) (sg (dF (sA N) 6 m left w) 0))).2)) ?_ (by rfl) rfl rfl
      exact L101 (q + 1 - 0 + 1) 0 w (by first | omega | (split <;> omega)) (by intro i _; rfl) (by exact hw9) (Nat.lt_succ_self _)
  · --
    exact absurd h5 (by omega)
set_option maxHeartbeats 4000000 in
set_option maxRecDepth 100000 in
theorem d_draws_8 (g : gT) (ad : Nat → Nat) (N : Sch) (K : Sch) (b : Bool) (z : Nat) (le : Nat → Nat) (rf : Nat → Int32) (hd : Nat → Int32) (ln : Nat → Nat) (vl : Nat → Nat → Int64) (at1 : Nat) (tk : Nat) (so : Int32) (va : Int32) (lm : Nat → Nat) (ol : Nat → Int32) (ah : Nat → Int32) (w : Nat → Nat) (l : Int32) (br : Nat → Int32) (m : Nat) (left : Nat) (hN : sOk N) (hmD : m + 8 = sN N) (hl9 : left ≤ 9) (hw9 : ∀ i, i < 9 → w i ≤ 9) : Ct g yX4_draws wsX4_draws 15 353 [.ref (ad 0), .int (nI m), .int (nI left)] (mdW g ad (stW N w, K, b, z, le, rf, hd, ln, vl) (6, at1, tk, so, va, lm, ol, ah, l, br)) (fun v9 w9 => v9 = none ∧ ∃ (W1 : Nat → Nat), (∀ i, i < m ∨ sN N ≤ i → W1 i = w i) ∧ (∀ i, i < 9 → W1 i ≤ 9) ∧ w9 = mdW g ad (stW N W1, K, b, z, le, rf, hd, ln, vl) (6, at1, tk, so, va, lm, ol, ah, (fo N (l, br) (rws (sA N) 8 m left w)).1, (fo N (l, br) (rws (sA N) 8 m left w)).2)) := by
  refine Ct.start (cc := cX4_draws) (nL := 5) (ret := none) (own := RX4) (by decide) rfl rfl rfl ?_
  intro Γ X E
  show Go Γ g 5 (rmC 15 353) 0 0 (mdW g ad (stW N w, K, b, z, le, rf, hd, ln, vl) (6, at1, tk, so, va, lm, ol, ah, l, br)) 0 [(0, .ref (ad 0)), (1, .int (nI m)), (2, .int (nI left))] []
  obtain ⟨o1, o2, o3, o4, o5, o6, o7, o8⟩ := id hN
  have o9 := p2_9 o2
  have o10 := sA_512 hN
  refine Go.iload_n X 1 dX4_draws_0 rfl ?_
  refine Go.aload_n X 0 dX4_draws_1 rfl ?_
  refine Go.get X f_X4_draws_66 0 (v := .int (nI (sN N))) rfl rfl dX4_draws_2 ?_
  refine Go.icmp_neN X 81 dX4_draws_5 (by decide) (by first | omega | (split <;> omega)) (by first | omega | (split <;> omega)) (fun h5 => ?_) (fun h5 => ?_)
  · --
    refine Go.aload_n X 0 dX4_draws_81 rfl ?_
    refine Go.get X f_X4_draws_111 0 (v := .int (nI (sA N))) rfl rfl dX4_draws_82 ?_
    refine Go.iload_n X 1 dX4_draws_85 rfl ?_
    refine Go.callSi X  (d_has g (sA N) m (by first | omega | (split <;> omega)) (by first | omega | (split <;> omega))) cal_X4_has [] rfl rfl gX4_draws_X4_has rfl rfl rfl dX4_draws_86 ?_
    refine Go.if_eqB X 96 dX4_draws_89 (by decide) (fun h89 => ?_) (fun h89 => ?_)
    · --
      refine Go.iconst X (nI 0) dX4_draws_96 k_ic_0 ?_
      obtain ⟨q, hq⟩ : ∃ q, q = (if (sA N).testBit m then left else 0) := ⟨_, rfl⟩
      have hql : q ≤ left := by rw [hq]; split <;> omega
      refine Go.top (w := .int (nI q)) (by rw [hq, if_neg (by rw [h89]; decide)]) ?_
      refine Go.istore_n_new X dX4_draws_97 (by decide) rfl ?_
      refine Go.iconst X (nI 0) dX4_draws_98 k_ic_0 ?_
      refine Go.istore_new X dX4_draws_99 (by decide) rfl ?_
      have L101 : ∀ (f101 : Nat) (v : Nat) (u : Nat → Nat) (hv : v ≤ q + 1) (hu : ∀ i, i < m ∨ sN N ≤ i → u i = w i) (hx : ∀ i, i < 9 → u i ≤ 9) (hf101 : q + 1 - v < f101), Go Γ g 5 (rmC 15 353) 0 0 (mdW g ad (stW N u, K, b, z, le, rf, hd, ln, vl) (6, at1, tk, so, va, lm, ol, ah, ((fo N (l, br) (sg (dF (sA N) 7 m left w) v))).1, ((fo N (l, br) (sg (dF (sA N) 7 m left w) v))).2)) 101 [(4, .int (nI v)), (3, .int (nI q)), (0, .ref (ad 0)), (1, .int (nI m)), (2, .int (nI left))] [] := by
        intro f101
        induction f101 with
        | zero => intro v u hv hu hx hf101; exact absurd hf101 (Nat.not_lt_zero _)
        | succ f101 ih101 =>
          intro v u hv hu hx hf101
          refine Go.iload X 0 dX4_draws_101 rfl ?_
          refine Go.iload_n X 1 dX4_draws_103 rfl ?_
          refine Go.icmp_gtN X 132 dX4_draws_104 (by decide) (by first | omega | (split <;> omega)) (by first | omega | (split <;> omega)) (fun h104 => ?_) (fun h104 => ?_)
          · --
            have e9 : fo N (l, br) (rws (sA N) 8 m left w) = fo N (l, br) (sg (dF (sA N) 7 m left w) v) := by rw [rws_dF, ← hq, show q + 1 = v by omega]
            exact Go.vret X E dX4_draws_132 ⟨rfl, u, hu, hx, by rw [e9]⟩ rfl
          · --
            refine Go.aload_n X 2 dX4_draws_107 rfl ?_
            refine Go.get X f_X4_draws_20 0 (v := .ref (ad 4)) rfl rfl dX4_draws_108 ?_
            refine Go.iload_n X 3 dX4_draws_111 rfl ?_
            refine Go.iload X 0 dX4_draws_112 rfl ?_
            refine Go.iastNM X 4 (mdW g ad ((sN N, sA N, updN u m v, sD N, sP N, sK N, sO N, sG N, sT N, sF N, sX N), K, b, z, le, rf, hd, ln, vl) (6, at1, tk, so, va, lm, ol, ah, ((fo N (l, br) (sg (dF (sA N) 7 m left w) v))).1, ((fo N (l, br) (sg (dF (sA N) 7 m left w) v))).2)) (w := u) rfl (by first | omega | (split <;> omega)) rfl dX4_draws_114 rfl ?_
            refine Go.conv (M1 := mdW g ad (stW N (updN u m v), K, b, z, le, rf, hd, ln, vl) (6, at1, tk, so, va, lm, ol, ah, ((fo N (l, br) (sg (dF (sA N) 7 m left w) v))).1, ((fo N (l, br) (sg (dF (sA N) 7 m left w) v))).2)) ?_ (by rfl) rfl rfl
            refine Go.aload_n X 2 dX4_draws_115 rfl ?_
            refine Go.iload_n X 3 dX4_draws_116 rfl ?_
            refine Go.iconst X (nI 1) dX4_draws_117 k_ic_1 ?_
            refine Go.iadd_e X (nI (m + 1)) dX4_draws_118 (nI_add _ _) ?_
            refine Go.iload_n X 4 dX4_draws_119 rfl ?_
            refine Go.iload X 0 dX4_draws_120 rfl ?_
            refine Go.isub_e X (nI (left - v)) dX4_draws_122 (pk_sub (by first | omega | (split <;> omega))) ?_
            refine Go.callV0 X (d_draws_7 g ad N K b z le rf hd ln vl at1 tk so va lm ol ah (updN u m v) (((fo N (l, br) (sg (dF (sA N) 7 m left w) v))).1) (((fo N (l, br) (sg (dF (sA N) 7 m left w) v))).2) (m + 1) (left - v) (by exact hN) (by omega) (by omega) (by exact up_le hx (by omega))) cal_X4_draws gX4_draws_X4_draws (ci := 4) (q0 := 0) rfl rfl rfl rfl rfl dX4_draws_123 (fun v9 w9 e9 => ?_)
            obtain ⟨rfl, W1_123, hw1_123, hw2_123, rfl⟩ := e9
            show Go Γ g 5 (rmC 15 353) 0 0 (mdW g ad (stW N W1_123, K, b, z, le, rf, hd, ln, vl) (6, at1, tk, so, va, lm, ol, ah, (fo N ((((fo N (l, br) (sg (dF (sA N) 7 m left w) v))).1), (((fo N (l, br) (sg (dF (sA N) 7 m left w) v))).2)) (rws (sA N) 7 (m + 1) (left - v) (updN u m v))).1, (fo N ((((fo N (l, br) (sg (dF (sA N) 7 m left w) v))).1), (((fo N (l, br) (sg (dF (sA N) 7 m left w) v))).2)) (rws (sA N) 7 (m + 1) (left - v) (updN u m v))).2)) 126 [(4, .int (nI v)), (3, .int (nI q)), (0, .ref (ad 0)), (1, .int (nI m)), (2, .int (nI left))] []
            have e126 : fo N ((fo N (l, br) (sg (dF (sA N) 7 m left w) v)).1, (fo N (l, br) (sg (dF (sA N) 7 m left w) v)).2) (rws (sA N) 7 (m + 1) (left - v) (updN u m v)) = (fo N (l, br) (sg (dF (sA N) 7 m left w) (v + 1))) := by rw [fo_sg, ← dF_ext (d := 7) (v := v) (fun i hi => hu i (by omega))]
            refine Go.conv (M1 := mdW g ad (stW N W1_123, K, b, z, le, rf, hd, ln, vl) (6, at1, tk, so, va, lm, ol, ah, ((fo N (l, br) (sg (dF (sA N) 7 m left w) (v + 1)))).1, (fo N ((((fo N (l, br) (sg (dF (sA N) 7 m left w) v))).1), (((fo N (l, br) (sg (dF (sA N) 7 m left w) v))).2)) (rws (sA N) 7 (m + 1) (left - v) (updN u m v))).2)) ?_ (by rw [e126]) rfl rfl
            refine Go.conv (M1 := mdW g ad (stW N W1_123, K, b, z, le, rf, hd, ln, vl) (6, at1, tk, so, va, lm, ol, ah, ((fo N (l, br) (sg (dF (sA N) 7 m left w) (v + 1)))).1, ((fo N (l, br) (sg (dF (sA N) 7 m left w) (v + 1)))).2)) ?_ (by rw [e126]) rfl rfl
            refine Go.iinc_0 X (nI (v + 1)) dX4_draws_126 (by decide) rfl (show nI v + Int32.ofInt 1 = nI (v + 1) from nI_add _ 1) ?_
            refine Go.goto X 101 dX4_draws_129 (by decide) ?_
            refine Go.conv (M1 := mdW g ad (stW N W1_123, K, b, z, le, rf, hd, ln, vl) (6, at1, tk, so, va, lm, ol, ah, ((fo N (l, br) (sg (dF (sA N) 7 m left w) (v + 1)))).1, ((fo N (l, br) (sg (dF (sA N) 7 m left w) (v + 1)))).2)) ?_ (by rfl) rfl rfl
            exact ih101 (v + 1) W1_123 (by first | omega | (split <;> omega)) (by exact up_keep hu (by omega) hw1_123) (by exact hw2_123) (by first | omega | (split <;> omega))
      refine Go.conv (M1 := mdW g ad (stW N w, K, b, z, le, rf, hd, ln, vl) (6, at1, tk, so, va, lm, ol, ah, ((fo N (l, br) (sg (dF (sA N) 7 m left w) 0))).1, ((fo N (l, br) (sg (dF (sA N) 7 m left w) 0))).2)) ?_ (by rfl) rfl rfl
      exact L101 (q + 1 - 0 + 1) 0 w (by first | omega | (split <;> omega)) (by intro i _; rfl) (by exact hw9) (Nat.lt_succ_self _)
    · --
      refine Go.iload_n X 2 dX4_draws_92 rfl ?_
      refine Go.goto X 97 dX4_draws_93 (by decide) ?_
      obtain ⟨q, hq⟩ : ∃ q, q = (if (sA N).testBit m then left else 0) := ⟨_, rfl⟩
      have hql : q ≤ left := by rw [hq]; split <;> omega
      refine Go.top (w := .int (nI q)) (by rw [hq, if_pos h89]) ?_
      refine Go.istore_n_new X dX4_draws_97 (by decide) rfl ?_
      refine Go.iconst X (nI 0) dX4_draws_98 k_ic_0 ?_
      refine Go.istore_new X dX4_draws_99 (by decide) rfl ?_
      have L101 : ∀ (f101 : Nat) (v : Nat) (u : Nat → Nat) (hv : v ≤ q + 1) (hu : ∀ i, i < m ∨ sN N ≤ i → u i = w i) (hx : ∀ i, i < 9 → u i ≤ 9) (hf101 : q + 1 - v < f101), Go Γ g 5 (rmC 15 353) 0 0 (mdW g ad (stW N u, K, b, z, le, rf, hd, ln, vl) (6, at1, tk, so, va, lm, ol, ah, ((fo N (l, br) (sg (dF (sA N) 7 m left w) v))).1, ((fo N (l, br) (sg (dF (sA N) 7 m left w) v))).2)) 101 [(4, .int (nI v)), (3, .int (nI q)), (0, .ref (ad 0)), (1, .int (nI m)), (2, .int (nI left))] [] := by
        intro f101
        induction f101 with
        | zero => intro v u hv hu hx hf101; exact absurd hf101 (Nat.not_lt_zero _)
        | succ f101 ih101 =>
          intro v u hv hu hx hf101
          refine Go.iload X 0 dX4_draws_101 rfl ?_
          refine Go.iload_n X 1 dX4_draws_103 rfl ?_
          refine Go.icmp_gtN X 132 dX4_draws_104 (by decide) (by first | omega | (split <;> omega)) (by first | omega | (split <;> omega)) (fun h104 => ?_) (fun h104 => ?_)
          · --
            have e9 : fo N (l, br) (rws (sA N) 8 m left w) = fo N (l, br) (sg (dF (sA N) 7 m left w) v) := by rw [rws_dF, ← hq, show q + 1 = v by omega]
            exact Go.vret X E dX4_draws_132 ⟨rfl, u, hu, hx, by rw [e9]⟩ rfl
          · --
            refine Go.aload_n X 2 dX4_draws_107 rfl ?_
            refine Go.get X f_X4_draws_20 0 (v := .ref (ad 4)) rfl rfl dX4_draws_108 ?_
            refine Go.iload_n X 3 dX4_draws_111 rfl ?_
            refine Go.iload X 0 dX4_draws_112 rfl ?_
            refine Go.iastNM X 4 (mdW g ad ((sN N, sA N, updN u m v, sD N, sP N, sK N, sO N, sG N, sT N, sF N, sX N), K, b, z, le, rf, hd, ln, vl) (6, at1, tk, so, va, lm, ol, ah, ((fo N (l, br) (sg (dF (sA N) 7 m left w) v))).1, ((fo N (l, br) (sg (dF (sA N) 7 m left w) v))).2)) (w := u) rfl (by first | omega | (split <;> omega)) rfl dX4_draws_114 rfl ?_
            refine Go.conv (M1 := mdW g ad (stW N (updN u m v), K, b, z, le, rf, hd, ln, vl) (6, at1, tk, so, va, lm, ol, ah, ((fo N (l, br) (sg (dF (sA N) 7 m left w) v))).1, ((fo N (l, br) (sg (dF (sA N) 7 m left w) v))).2)) ?_ (by rfl) rfl rfl
            refine Go.aload_n X 2 dX4_draws_115 rfl ?_
            refine Go.iload_n X 3 dX4_draws_116 rfl ?_
            refine Go.iconst X (nI 1) dX4_draws_117 k_ic_1 ?_
            refine Go.iadd_e X (nI (m + 1)) dX4_draws_118 (nI_add _ _) ?_
            refine Go.iload_n X 4 dX4_draws_119 rfl ?_
            refine Go.iload X 0 dX4_draws_120 rfl ?_
            refine Go.isub_e X (nI (left - v)) dX4_draws_122 (pk_sub (by first | omega | (split <;> omega))) ?_
            refine Go.callV0 X (d_draws_7 g ad N K b z le rf hd ln vl at1 tk so va lm ol ah (updN u m v) (((fo N (l, br) (sg (dF (sA N) 7 m left w) v))).1) (((fo N (l, br) (sg (dF (sA N) 7 m left w) v))).2) (m + 1) (left - v) (by exact hN) (by omega) (by omega) (by exact up_le hx (by omega))) cal_X4_draws gX4_draws_X4_draws (ci := 4) (q0 := 0) rfl rfl rfl rfl rfl dX4_draws_123 (fun v9 w9 e9 => ?_)
            obtain ⟨rfl, W1_123, hw1_123, hw2_123, rfl⟩ := e9
            show Go Γ g 5 (rmC 15 353) 0 0 (mdW g ad (stW N W1_123, K, b, z, le, rf, hd, ln, vl) (6, at1, tk, so, va, lm, ol, ah, (fo N ((((fo N (l, br) (sg (dF (sA N) 7 m left w) v))).1), (((fo N (l, br) (sg (dF (sA N) 7 m left w) v))).2)) (rws (sA N) 7 (m + 1) (left - v) (updN u m v))).1, (fo N ((((fo N (l, br) (sg (dF (sA N) 7 m left w) v))).1), (((fo N (l, br) (sg (dF (sA N) 7 m left w) v))).2)) (rws (sA N) 7 (m + 1) (left - v) (updN u m v))).2)) 126 [(4, .int (nI v)), (3, .int (nI q)), (0, .ref (ad 0)), (1, .int (nI m)), (2, .int (nI left))] []
            have e126 : fo N ((fo N (l, br) (sg (dF (sA N) 7 m left w) v)).1, (fo N (l, br) (sg (dF (sA N) 7 m left w) v)).2) (rws (sA N) 7 (m + 1) (left - v) (updN u m v)) = (fo N (l, br) (sg (dF (sA N) 7 m left w) (v + 1))) := by rw [fo_sg, ← dF_ext (d := 7) (v := v) (fun i hi => hu i (by omega))]
            refine Go.conv (M1 := mdW g ad (stW N W1_123, K, b, z, le, rf, hd, ln, vl) (6, at1, tk, so, va, lm, ol, ah, ((fo N (l, br) (sg (dF (sA N) 7 m left w) (v + 1)))).1, (fo N ((((fo N (l, br) (sg (dF (sA N) 7 m left w) v))).1), (((fo N (l, br) (sg (dF (sA N) 7 m left w) v))).2)) (rws (sA N) 7 (m + 1) (left - v) (updN u m v))).2)) ?_ (by rw [e126]) rfl rfl
            refine Go.conv (M1 := mdW g ad (stW N W1_123, K, b, z, le, rf, hd, ln, vl) (6, at1, tk, so, va, lm, ol, ah, ((fo N (l, br) (sg (dF (sA N) 7 m left w) (v + 1)))).1, ((fo N (l, br) (sg (dF (sA N) 7 m left w) (v + 1)))).2)) ?_ (by rw [e126]) rfl rfl
            refine Go.iinc_0 X (nI (v + 1)) dX4_draws_126 (by decide) rfl (show nI v + Int32.ofInt 1 = nI (v + 1) from nI_add _ 1) ?_
            refine Go.goto X 101 dX4_draws_129 (by decide) ?_
            refine Go.conv (M1 := mdW g ad (stW N W1_123, K, b, z, le, rf, hd, ln, vl) (6, at1, tk, so, va, lm, ol, ah, ((fo N (l, br) (sg (dF (sA N) 7 m left w) (v + 1)))).1, ((fo N (l, br) (sg (dF (sA N) 7 m left w) (v + 1)))).2)) ?_ (by rfl) rfl rfl
            exact ih101 (v + 1) W1_123 (by first | omega | (split <;> omega)) (by exact up_keep hu (by omega) hw1_123) (by exact hw2_123) (by first | omega | (split <;> omega))
      refine Go.conv (M1 := mdW g ad (stW N w, K, b, z, le, rf, hd, ln, vl) (6, at1, tk, so, va, lm, ol, ah, ((fo N (l, br) (sg (dF (sA N) 7 m left w) 0))).1, ((fo N (l, br) (sg (dF (sA N) 7 m left w) 0))).2)) ?_ (by rfl) rfl rfl
      exact L101 (q + 1 - 0 + 1) 0 w (by first | omega | (split <;> omega)) (by intro i _; rfl) (by exact hw9) (Nat.lt_succ_self _)
  · --
    exact absurd h5 (by omega)
set_option maxHeartbeats 4000000 in
set_option maxRecDepth 100000 in
theorem d_draws_9 (g : gT) (ad : Nat → Nat) (N : Sch) (K : Sch) (b : Bool) (z : Nat) (le : Nat → Nat) (rf : Nat → Int32) (hd : Nat → Int32) (ln : Nat → Nat) (vl : Nat → Nat → Int64) (at1 : Nat) (tk : Nat) (so : Int32) (va : Int32) (lm : Nat → Nat) (ol : Nat → Int32) (ah : Nat → Int32) (w : Nat → Nat) (l : Int32) (br : Nat → Int32) (m : Nat) (left : Nat) (hN : sOk N) (hmD : m + 9 = sN N) (hl9 : left ≤ 9) (hw9 : ∀ i, i < 9 → w i ≤ 9) : Ct g yX4_draws wsX4_draws 16 377 [.ref (ad 0), .int (nI m), .int (nI left)] (mdW g ad (stW N w, K, b, z, le, rf, hd, ln, vl) (6, at1, tk, so, va, lm, ol, ah, l, br)) (fun v9 w9 => v9 = none ∧ ∃ (W1 : Nat → Nat), (∀ i, i < m ∨ sN N ≤ i → W1 i = w i) ∧ (∀ i, i < 9 → W1 i ≤ 9) ∧ w9 = mdW g ad (stW N W1, K, b, z, le, rf, hd, ln, vl) (6, at1, tk, so, va, lm, ol, ah, (fo N (l, br) (rws (sA N) 9 m left w)).1, (fo N (l, br) (rws (sA N) 9 m left w)).2)) := by
  refine Ct.start (cc := cX4_draws) (nL := 5) (ret := none) (own := RX4) (by decide) rfl rfl rfl ?_
  intro Γ X E
  show Go Γ g 5 (rmC 16 377) 0 0 (mdW g ad (stW N w, K, b, z, le, rf, hd, ln, vl) (6, at1, tk, so, va, lm, ol, ah, l, br)) 0 [(0, .ref (ad 0)), (1, .int (nI m)), (2, .int (nI left))] []
  obtain ⟨o1, o2, o3, o4, o5, o6, o7, o8⟩ := id hN
  have o9 := p2_9 o2
  have o10 := sA_512 hN
  refine Go.iload_n X 1 dX4_draws_0 rfl ?_
  refine Go.aload_n X 0 dX4_draws_1 rfl ?_
  refine Go.get X f_X4_draws_66 0 (v := .int (nI (sN N))) rfl rfl dX4_draws_2 ?_
  refine Go.icmp_neN X 81 dX4_draws_5 (by decide) (by first | omega | (split <;> omega)) (by first | omega | (split <;> omega)) (fun h5 => ?_) (fun h5 => ?_)
  · --
    refine Go.aload_n X 0 dX4_draws_81 rfl ?_
    refine Go.get X f_X4_draws_111 0 (v := .int (nI (sA N))) rfl rfl dX4_draws_82 ?_
    refine Go.iload_n X 1 dX4_draws_85 rfl ?_
    refine Go.callSi X  (d_has g (sA N) m (by first | omega | (split <;> omega)) (by first | omega | (split <;> omega))) cal_X4_has [] rfl rfl gX4_draws_X4_has rfl rfl rfl dX4_draws_86 ?_
    refine Go.if_eqB X 96 dX4_draws_89 (by decide) (fun h89 => ?_) (fun h89 => ?_)
    · --
      refine Go.iconst X (nI 0) dX4_draws_96 k_ic_0 ?_
      obtain ⟨q, hq⟩ : ∃ q, q = (if (sA N).testBit m then left else 0) := ⟨_, rfl⟩
      have hql : q ≤ left := by rw [hq]; split <;> omega
      refine Go.top (w := .int (nI q)) (by rw [hq, if_neg (by rw [h89]; decide)]) ?_
      refine Go.istore_n_new X dX4_draws_97 (by decide) rfl ?_
      refine Go.iconst X (nI 0) dX4_draws_98 k_ic_0 ?_
      refine Go.istore_new X dX4_draws_99 (by decide) rfl ?_
      have L101 : ∀ (f101 : Nat) (v : Nat) (u : Nat → Nat) (hv : v ≤ q + 1) (hu : ∀ i, i < m ∨ sN N ≤ i → u i = w i) (hx : ∀ i, i < 9 → u i ≤ 9) (hf101 : q + 1 - v < f101), Go Γ g 5 (rmC 16 377) 0 0 (mdW g ad (stW N u, K, b, z, le, rf, hd, ln, vl) (6, at1, tk, so, va, lm, ol, ah, ((fo N (l, br) (sg (dF (sA N) 8 m left w) v))).1, ((fo N (l, br) (sg (dF (sA N) 8 m left w) v))).2)) 101 [(4, .int (nI v)), (3, .int (nI q)), (0, .ref (ad 0)), (1, .int (nI m)), (2, .int (nI left))] [] := by
        intro f101
        induction f101 with
        | zero => intro v u hv hu hx hf101; exact absurd hf101 (Nat.not_lt_zero _)
        | succ f101 ih101 =>
          intro v u hv hu hx hf101
          refine Go.iload X 0 dX4_draws_101 rfl ?_
          refine Go.iload_n X 1 dX4_draws_103 rfl ?_
          refine Go.icmp_gtN X 132 dX4_draws_104 (by decide) (by first | omega | (split <;> omega)) (by first | omega | (split <;> omega)) (fun h104 => ?_) (fun h104 => ?_)
          · --
            have e9 : fo N (l, br) (rws (sA N) 9 m left w) = fo N (l, br) (sg (dF (sA N) 8 m left w) v) := by rw [rws_dF, ← hq, show q + 1 = v by omega]
            exact Go.vret X E dX4_draws_132 ⟨rfl, u, hu, hx, by rw [e9]⟩ rfl
          · --
            refine Go.aload_n X 2 dX4_draws_107 rfl ?_
            refine Go.get X f_X4_draws_20 0 (v := .ref (ad 4)) rfl rfl dX4_draws_108 ?_
            refine Go.iload_n X 3 dX4_draws_111 rfl ?_
            refine Go.iload X 0 dX4_draws_112 rfl ?_
            refine Go.iastNM X 4 (mdW g ad ((sN N, sA N, updN u m v, sD N, sP N, sK N, sO N, sG N, sT N, sF N, sX N), K, b, z, le, rf, hd, ln, vl) (6, at1, tk, so, va, lm, ol, ah, ((fo N (l, br) (sg (dF (sA N) 8 m left w) v))).1, ((fo N (l, br) (sg (dF (sA N) 8 m left w) v))).2)) (w := u) rfl (by first | omega | (split <;> omega)) rfl dX4_draws_114 rfl ?_
            refine Go.conv (M1 := mdW g ad (stW N (updN u m v), K, b, z, le, rf, hd, ln, vl) (6, at1, tk, so, va, lm, ol, ah, ((fo N (l, br) (sg (dF (sA N) 8 m left w) v))).1, ((fo N (l, br) (sg (dF (sA N) 8 m left w) v))).2)) ?_ (by rfl) rfl rfl
            refine Go.aload_n X 2 dX4_draws_115 rfl ?_
            refine Go.iload_n X 3 dX4_draws_116 rfl ?_
            refine Go.iconst X (nI 1) dX4_draws_117 k_ic_1 ?_
            refine Go.iadd_e X (nI (m + 1)) dX4_draws_118 (nI_add _ _) ?_
            refine Go.iload_n X 4 dX4_draws_119 rfl ?_
            refine Go.iload X 0 dX4_draws_120 rfl ?_
            refine Go.isub_e X (nI (left - v)) dX4_draws_122 (pk_sub (by first | omega | (split <;> omega))) ?_
            refine Go.callV0 X (d_draws_8 g ad N K b z le rf hd ln vl at1 tk so va lm ol ah (updN u m v) (((fo N (l, br) (sg (dF (sA N) 8 m left w) v))).1) (((fo N (l, br) (sg (dF (sA N) 8 m left w) v))).2) (m + 1) (left - v) (by exact hN) (by omega) (by omega) (by exact up_le hx (by omega))) cal_X4_draws gX4_draws_X4_draws (ci := 4) (q0 := 0) rfl rfl rfl rfl rfl dX4_draws_123 (fun v9 w9 e9 => ?_)
            obtain ⟨rfl, W1_123, hw1_123, hw2_123, rfl⟩ := e9
            show Go Γ g 5 (rmC 16 377) 0 0 (mdW g ad (stW N W1_123, K, b, z, le, rf, hd, ln, vl) (6, at1, tk, so, va, lm, ol, ah, (fo N ((((fo N (l, br) (sg (dF (sA N) 8 m left w) v))).1), (((fo N (l, br) (sg (dF (sA N) 8 m left w) v))).2)) (rws (sA N) 8 (m + 1) (left - v) (updN u m v))).1, (fo N ((((fo N (l, br) (sg (dF (sA N) 8 m left w) v))).1), (((fo N (l, br) (sg (dF (sA N) 8 m left w) v))).2)) (rws (sA N) 8 (m + 1) (left - v) (updN u m v))).2)) 126 [(4, .int (nI v)), (3, .int (nI q)), (0, .ref (ad 0)), (1, .int (nI m)), (2, .int (nI left))] []
            have e126 : fo N ((fo N (l, br) (sg (dF (sA N) 8 m left w) v)).1, (fo N (l, br) (sg (dF (sA N) 8 m left w) v)).2) (rws (sA N) 8 (m + 1) (left - v) (updN u m v)) = (fo N (l, br) (sg (dF (sA N) 8 m left w) (v + 1))) := by rw [fo_sg, ← dF_ext (d := 8) (v := v) (fun i hi => hu i (by omega))]
            refine Go.conv (M1 := mdW g ad (stW N W1_123, K, b, z, le, rf, hd, ln, vl) (6, at1, tk, so, va, lm, ol, ah, ((fo N (l, br) (sg (dF (sA N) 8 m left w) (v + 1)))).1, (fo N ((((fo N (l, br) (sg (dF (sA N) 8 m left w) v))).1), (((fo N (l, br) (sg (dF (sA N) 8 m left w) v))).2)) (rws (sA N) 8 (m + 1) (left - v) (updN u m v))).2)) ?_ (by rw [e126]) rfl rfl
            refine Go.conv (M1 := mdW g ad (stW N W1_123, K, b, z, le, rf, hd, ln, vl) (6, at1, tk, so, va, lm, ol, ah, ((fo N (l, br) (sg (dF (sA N) 8 m left w) (v + 1)))).1, ((fo N (l, br) (sg (dF (sA N) 8 m left w) (v + 1)))).2)) ?_ (by rw [e126]) rfl rfl
            refine Go.iinc_0 X (nI (v + 1)) dX4_draws_126 (by decide) rfl (show nI v + Int32.ofInt 1 = nI (v + 1) from nI_add _ 1) ?_
            refine Go.goto X 101 dX4_draws_129 (by decide) ?_
            refine Go.conv (M1 := mdW g ad (stW N W1_123, K, b, z, le, rf, hd, ln, vl) (6, at1, tk, so, va, lm, ol, ah, ((fo N (l, br) (sg (dF (sA N) 8 m left w) (v + 1)))).1, ((fo N (l, br) (sg (dF (sA N) 8 m left w) (v + 1)))).2)) ?_ (by rfl) rfl rfl
            exact ih101 (v + 1) W1_123 (by first | omega | (split <;> omega)) (by exact up_keep hu (by omega) hw1_123) (by exact hw2_123) (by first | omega | (split <;> omega))
      refine Go.conv (M1 := mdW g ad (stW N w, K, b, z, le, rf, hd, ln, vl) (6, at1, tk, so, va, lm, ol, ah, ((fo N (l, br) (sg (dF (sA N) 8 m left w) 0))).1, ((fo N (l, br) (sg (dF (sA N) 8 m left w) 0))).2)) ?_ (by rfl) rfl rfl
      exact L101 (q + 1 - 0 + 1) 0 w (by first | omega | (split <;> omega)) (by intro i _; rfl) (by exact hw9) (Nat.lt_succ_self _)
    · --
      refine Go.iload_n X 2 dX4_draws_92 rfl ?_
      refine Go.goto X 97 dX4_draws_93 (by decide) ?_
      obtain ⟨q, hq⟩ : ∃ q, q = (if (sA N).testBit m then left else 0) := ⟨_, rfl⟩
      have hql : q ≤ left := by rw [hq]; split <;> omega
      refine Go.top (w := .int (nI q)) (by rw [hq, if_pos h89]) ?_
      refine Go.istore_n_new X dX4_draws_97 (by decide) rfl ?_
      refine Go.iconst X (nI 0) dX4_draws_98 k_ic_0 ?_
      refine Go.istore_new X dX4_draws_99 (by decide) rfl ?_
      have L101 : ∀ (f101 : Nat) (v : Nat) (u : Nat → Nat) (hv : v ≤ q + 1) (hu : ∀ i, i < m ∨ sN N ≤ i → u i = w i) (hx : ∀ i, i < 9 → u i ≤ 9) (hf101 : q + 1 - v < f101), Go Γ g 5 (rmC 16 377) 0 0 (mdW g ad (stW N u, K, b, z, le, rf, hd, ln, vl) (6, at1, tk, so, va, lm, ol, ah, ((fo N (l, br) (sg (dF (sA N) 8 m left w) v))).1, ((fo N (l, br) (sg (dF (sA N) 8 m left w) v))).2)) 101 [(4, .int (nI v)), (3, .int (nI q)), (0, .ref (ad 0)), (1, .int (nI m)), (2, .int (nI left))] [] := by
        intro f101
        induction f101 with
        | zero => intro v u hv hu hx hf101; exact absurd hf101 (Nat.not_lt_zero _)
        | succ f101 ih101 =>
          intro v u hv hu hx hf101
          refine Go.iload X 0 dX4_draws_101 rfl ?_
          refine Go.iload_n X 1 dX4_draws_103 rfl ?_
          refine Go.icmp_gtN X 132 dX4_draws_104 (by decide) (by first | omega | (split <;> omega)) (by first | omega | (split <;> omega)) (fun h104 => ?_) (fun h104 => ?_)
          · --
            have e9 : fo N (l, br) (rws (sA N) 9 m left w) = fo N (l, br) (sg (dF (sA N) 8 m left w) v) := by rw [rws_dF, ← hq, show q + 1 = v by omega]
            exact Go.vret X E dX4_draws_132 ⟨rfl, u, hu, hx, by rw [e9]⟩ rfl
          · --
            refine Go.aload_n X 2 dX4_draws_107 rfl ?_
            refine Go.get X f_X4_draws_20 0 (v := .ref (ad 4)) rfl rfl dX4_draws_108 ?_
            refine Go.iload_n X 3 dX4_draws_111 rfl ?_
            refine Go.iload X 0 dX4_draws_112 rfl ?_
            refine Go.iastNM X 4 (mdW g ad ((sN N, sA N, updN u m v, sD N, sP N, sK N, sO N, sG N, sT N, sF N, sX N), K, b, z, le, rf, hd, ln, vl) (6, at1, tk, so, va, lm, ol, ah, ((fo N (l, br) (sg (dF (sA N) 8 m left w) v))).1, ((fo N (l, br) (sg (dF (sA N) 8 m left w) v))).2)) (w := u) rfl (by first | omega | (split <;> omega)) rfl dX4_draws_114 rfl ?_
            refine Go.conv (M1 := mdW g ad (stW N (updN u m v), K, b, z, le, rf, hd, ln, vl) (6, at1, tk, so, va, lm, ol, ah, ((fo N (l, br) (sg (dF (sA N) 8 m left w) v))).1, ((fo N (l, br) (sg (dF (sA N) 8 m left w) v))).2)) ?_ (by rfl) rfl rfl
            refine Go.aload_n X 2 dX4_draws_115 rfl ?_
            refine Go.iload_n X 3 dX4_draws_116 rfl ?_
            refine Go.iconst X (nI 1) dX4_draws_117 k_ic_1 ?_
            refine Go.iadd_e X (nI (m + 1)) dX4_draws_118 (nI_add _ _) ?_
            refine Go.iload_n X 4 dX4_draws_119 rfl ?_
            refine Go.iload X 0 dX4_draws_120 rfl ?_
            refine Go.isub_e X (nI (left - v)) dX4_draws_122 (pk_sub (by first | omega | (split <;> omega))) ?_
            refine Go.callV0 X (d_draws_8 g ad N K b z le rf hd ln vl at1 tk so va lm ol ah (updN u m v) (((fo N (l, br) (sg (dF (sA N) 8 m left w) v))).1) (((fo N (l, br) (sg (dF (sA N) 8 m left w) v))).2) (m + 1) (left - v) (by exact hN) (by omega) (by omega) (by exact up_le hx (by omega))) cal_X4_draws gX4_draws_X4_draws (ci := 4) (q0 := 0) rfl rfl rfl rfl rfl dX4_draws_123 (fun v9 w9 e9 => ?_)
            obtain ⟨rfl, W1_123, hw1_123, hw2_123, rfl⟩ := e9
            show Go Γ g 5 (rmC 16 377) 0 0 (mdW g ad (stW N W1_123, K, b, z, le, rf, hd, ln, vl) (6, at1, tk, so, va, lm, ol, ah, (fo N ((((fo N (l, br) (sg (dF (sA N) 8 m left w) v))).1), (((fo N (l, br) (sg (dF (sA N) 8 m left w) v))).2)) (rws (sA N) 8 (m + 1) (left - v) (updN u m v))).1, (fo N ((((fo N (l, br) (sg (dF (sA N) 8 m left w) v))).1), (((fo N (l, br) (sg (dF (sA N) 8 m left w) v))).2)) (rws (sA N) 8 (m + 1) (left - v) (updN u m v))).2)) 126 [(4, .int (nI v)), (3, .int (nI q)), (0, .ref (ad 0)), (1, .int (nI m)), (2, .int (nI left))] []
            have e126 : fo N ((fo N (l, br) (sg (dF (sA N) 8 m left w) v)).1, (fo N (l, br) (sg (dF (sA N) 8 m left w) v)).2) (rws (sA N) 8 (m + 1) (left - v) (updN u m v)) = (fo N (l, br) (sg (dF (sA N) 8 m left w) (v + 1))) := by rw [fo_sg, ← dF_ext (d := 8) (v := v) (fun i hi => hu i (by omega))]
            refine Go.conv (M1 := mdW g ad (stW N W1_123, K, b, z, le, rf, hd, ln, vl) (6, at1, tk, so, va, lm, ol, ah, ((fo N (l, br) (sg (dF (sA N) 8 m left w) (v + 1)))).1, (fo N ((((fo N (l, br) (sg (dF (sA N) 8 m left w) v))).1), (((fo N (l, br) (sg (dF (sA N) 8 m left w) v))).2)) (rws (sA N) 8 (m + 1) (left - v) (updN u m v))).2)) ?_ (by rw [e126]) rfl rfl
            refine Go.conv (M1 := mdW g ad (stW N W1_123, K, b, z, le, rf, hd, ln, vl) (6, at1, tk, so, va, lm, ol, ah, ((fo N (l, br) (sg (dF (sA N) 8 m left w) (v + 1)))).1, ((fo N (l, br) (sg (dF (sA N) 8 m left w) (v + 1)))).2)) ?_ (by rw [e126]) rfl rfl
            refine Go.iinc_0 X (nI (v + 1)) dX4_draws_126 (by decide) rfl (show nI v + Int32.ofInt 1 = nI (v + 1) from nI_add _ 1) ?_
            refine Go.goto X 101 dX4_draws_129 (by decide) ?_
            refine Go.conv (M1 := mdW g ad (stW N W1_123, K, b, z, le, rf, hd, ln, vl) (6, at1, tk, so, va, lm, ol, ah, ((fo N (l, br) (sg (dF (sA N) 8 m left w) (v + 1)))).1, ((fo N (l, br) (sg (dF (sA N) 8 m left w) (v + 1)))).2)) ?_ (by rfl) rfl rfl
            exact ih101 (v + 1) W1_123 (by first | omega | (split <;> omega)) (by exact up_keep hu (by omega) hw1_123) (by exact hw2_123) (by first | omega | (split <;> omega))
      refine Go.conv (M1 := mdW g ad (stW N w, K, b, z, le, rf, hd, ln, vl) (6, at1, tk, so, va, lm, ol, ah, ((fo N (l, br) (sg (dF (sA N) 8 m left w) 0))).1, ((fo N (l, br) (sg (dF (sA N) 8 m left w) 0))).2)) ?_ (by rfl) rfl rfl
      exact L101 (q + 1 - 0 + 1) 0 w (by first | omega | (split <;> omega)) (by intro i _; rfl) (by exact hw9) (Nat.lt_succ_self _)
  · --
    exact absurd h5 (by omega)
set_option maxHeartbeats 4000000 in
set_option maxRecDepth 100000 in
theorem e_best (g : gT) (ad : Nat → Nat) (N : Sch) (K : Sch) (b : Bool) (z : Nat) (le : Nat → Nat) (rf : Nat → Int32) (hd : Nat → Int32) (ln : Nat → Nat) (vl : Nat → Nat → Int64) (at1 : Nat) (tk : Nat) (so : Int32) (va : Int32) (lm : Nat → Nat) (ol : Nat → Int32) (ah : Nat → Int32) (lt : Int32) (lo : Nat → Int32) (x : Int32) (m : Int32) (hN : sOk N) (hH : hOk (sP N) hd) (hm : mOk (N, K, b, z, le, rf, hd, ln, vl) (6, at1, tk, so, va, lm, ol, ah, lt, lo)) : Ct g yX4_best wsX4_best 17 401 [.ref (ad 0), .int x, .int m] (mdW g ad (N, K, b, z, le, rf, hd, ln, vl) (6, at1, tk, so, va, lm, ol, ah, lt, lo)) (fun v9 w9 => v9 = (some (.int (x_best (N, K, b, z, le, rf, hd, ln, vl) x m).2)) ∧ ∃ J9, mOk (x_best (N, K, b, z, le, rf, hd, ln, vl) x m).1 J9 ∧ w9 = mdW g ad (x_best (N, K, b, z, le, rf, hd, ln, vl) x m).1 J9) := by
  refine Ct.start (cc := cX4_best) (nL := 3) (ret := (some .int)) (own := RX4) (by decide) rfl rfl rfl ?_
  intro Γ X E
  show Go Γ g 3 (rmC 17 401) 0 0 (mdW g ad (N, K, b, z, le, rf, hd, ln, vl) (6, at1, tk, so, va, lm, ol, ah, lt, lo)) 0 [(0, .ref (ad 0)), (1, .int x), (2, .int m)] []
  obtain ⟨o1, o2, o3, o4, o5, o6, o7, o8⟩ := id hN
  have o9 := p2_9 o2
  have o10 := sA_512 hN
  refine Go.iload_n X 1 dX4_best_0 rfl ?_
  refine Go.iconst X (nI 1) dX4_best_1 k_ic_1 ?_
  refine Go.bipush X (nI 6) dX4_best_2 k_bp_6 ?_
  refine Go.callSi X  (d_within g x (nI 1) (nI 6)) cal_X4_within [] rfl rfl gX4_best_X4_within rfl rfl rfl dX4_best_4 ?_
  refine Go.if_eqB X 23 dX4_best_7 (by decide) (fun h7 => ?_) (fun h7 => ?_)
  · --
    refine Go.aload_n X 0 dX4_best_23 rfl ?_
    refine Go.bipush X ((-2 : Int32)) dX4_best_24 k_bp_m2 ?_
    refine Go.callV0i X (d_no_0 g ad N K b z le rf hd ln vl 6 at1 tk so va lm ol ah lt lo) cal_X4_no gX4_best_X4_no (ci := 4) (q0 := 0) rfl rfl rfl rfl rfl dX4_best_26 ?_
    have e9 : x_best (N, K, b, z, le, rf, hd, ln, vl) x m = ((N, K, b, z, le, inc rf 0, hd, ln, vl), (-2)) := by simp (decide := true) [x_best, rfS, h7]
    have m9 : mOk (N, K, b, z, le, inc rf 0, hd, ln, vl) (6, at1, tk, so, va, lm, ol, ah, lt, lo) := ⟨rfl, hm.2.1, hm.2.2⟩
    exact Go.iret X E dX4_best_29 ⟨by rw [e9], _, by rw [e9]; exact m9, by rw [e9]⟩ rfl
  · --
    obtain ⟨xk, hxk, rfl⟩ := wi_at (by first | omega | (split <;> omega)) (by first | omega | (split <;> omega)) h7
    refine Go.iload_n X 2 dX4_best_10 rfl ?_
    refine Go.iconst X ((-1 : Int32)) dX4_best_11 k_ic_m1 ?_
    refine Go.icmp_eq X 30 dX4_best_12 (by decide) (fun h12 => ?_) (fun h12 => ?_)
    · --
      refine Go.lv_2 (w := .int (-1)) (by rw [h12]) ?_
      refine Go.aload_n X 0 dX4_best_30 rfl ?_
      refine Go.get X f_X4_best_111 0 (v := .int (nI (sA N))) rfl rfl dX4_best_31 ?_
      refine Go.if_neN X 44 dX4_best_34 (by decide) (by first | omega | (split <;> omega)) (fun h34 => ?_) (fun h34 => ?_)
      · --
        have xk1 : 1 ≤ xk := by omega
        have xk2 : xk ≤ 6 := by omega
        refine Go.aload_n X 0 dX4_best_44 rfl ?_
        refine Go.aload_n X 0 dX4_best_45 rfl ?_
        refine Go.get X f_X4_best_38 0 (v := .ref (ad 10)) rfl rfl dX4_best_46 ?_
        refine Go.callV0v X (d_keep_ahead g ad N K b z le rf hd ln vl 6 at1 tk so va lm ol ah lt lo (by exact hN)) cal_X4_keep gX4_best_X4_keep (ci := 4) (q0 := 0) rfl rfl rfl rfl rfl dX4_best_49 ?_
        refine Go.aload_n X 0 dX4_best_52 rfl ?_
        refine Go.iconst X ((-1 : Int32)) dX4_best_53 k_ic_m1 ?_
        refine Go.putM X f_X4_best_224 fp_4_25 0 (mdW g ad (N, K, b, z, le, rf, hd, ln, vl) (6, at1, tk, so, va, lm, ol, encK N, (-1), lo)) rfl rfl rfl rfl dX4_best_54 rfl ?_
        rcases (show sN N = 1 ∨ sN N = 2 ∨ sN N = 3 ∨ sN N = 4 ∨ sN N = 5 ∨ sN N = 6 ∨ sN N = 7 ∨ sN N = 8 ∨ sN N = 9 by omega) with hnD | hnD | hnD | hnD | hnD | hnD | hnD | hnD | hnD
        · --
          refine Go.conv (M1 := mdW g ad (stW N (sW N), K, b, z, le, rf, hd, ln, vl) (6, at1, tk, so, va, lm, ol, encK N, (-1), lo)) ?_ (by rfl) rfl rfl
          have b9 := best_eq hN h34 xk1 xk2 (sW N) lo
          rw [hnD] at b9
          refine Go.aload_n X 0 dX4_best_57 rfl ?_
          refine Go.iconst X (nI 0) dX4_best_58 k_ic_0 ?_
          refine Go.iload_n X 1 dX4_best_59 rfl ?_
          refine Go.callV0 X (d_draws_1 g ad N K b z le rf hd ln vl at1 tk so va lm ol (encK N) (sW N) (-1) lo 0 xk (by exact hN) (by omega) (by omega) (by exact o4)) cal_X4_draws gX4_best_X4_draws (ci := 4) (q0 := 0) rfl rfl rfl rfl rfl dX4_best_60 (fun v9 w9 e9 => ?_)
          obtain ⟨rfl, W1_60, hw1_60, hw2_60, rfl⟩ := e9
          show Go Γ g 3 (rmC 17 401) 0 0 (mdW g ad (stW N W1_60, K, b, z, le, rf, hd, ln, vl) (6, at1, tk, so, va, lm, ol, encK N, (fo N ((-1), lo) (rws (sA N) 1 0 xk (sW N))).1, (fo N ((-1), lo) (rws (sA N) 1 0 xk (sW N))).2)) 63 [(0, .ref (ad 0)), (1, .int (nI xk)), (2, .int (-1))] []
          refine Go.aload_n X 0 dX4_best_63 rfl ?_
          refine Go.aload_n X 0 dX4_best_64 rfl ?_
          refine Go.get X f_X4_best_38 0 (v := .ref (ad 10)) rfl rfl dX4_best_65 ?_
          refine Go.callV0v X (d_again_ahead g ad (stW N W1_60) K b z le rf hd ln vl 6 at1 tk so va lm ol (encK N) ((fo N ((-1), lo) (rws (sA N) 1 0 xk (sW N))).1) ((fo N ((-1), lo) (rws (sA N) 1 0 xk (sW N))).2) N (by exact hN) (by exact fun j _ => rfl)) cal_X4_again gX4_best_X4_again (ci := 4) (q0 := 0) rfl rfl rfl rfl rfl dX4_best_68 ?_
          refine Go.iload_n X 2 dX4_best_71 rfl ?_
          refine Go.iconst X ((-1 : Int32)) dX4_best_72 k_ic_m1 ?_
          refine Go.icmp_ne X 83 dX4_best_73 (by decide) (fun h => absurd h (by decide)) (fun _ => ?_)
          refine Go.aload_n X 0 dX4_best_76 rfl ?_
          refine Go.get X f_X4_best_224 0 (v := .int ((fo N ((-1), lo) (rws (sA N) 1 0 xk (sW N))).1)) rfl rfl dX4_best_77 ?_
          refine Go.top (w := .int ((sbT N xk).1)) (by exact congrArg Value.int b9.1) ?_
          refine Go.goto X 89 dX4_best_80 (by decide) ?_
          have e9 : x_best (N, K, b, z, le, rf, hd, ln, vl) (nI xk) m = ((N, K, b, z, le, rf, hd, ln, vl), ((sbT N xk).1)) := by simp (decide := true) [x_best, rfS, h7, h12, h34, nI_clamp (show xk < 2 ^ 31 by omega)]
          have m9 : mOk (N, K, b, z, le, rf, hd, ln, vl) (6, at1, tk, so, va, lm, ol, encK N, (fo N ((-1), lo) (rws (sA N) 1 0 xk (sW N))).1, (fo N ((-1), lo) (rws (sA N) 1 0 xk (sW N))).2) := ⟨rfl, hm.2.1, hm.2.2⟩
          exact Go.iret X E dX4_best_89 ⟨by rw [e9], _, by rw [e9]; exact m9, by rw [e9]⟩ rfl
        · --
          refine Go.conv (M1 := mdW g ad (stW N (sW N), K, b, z, le, rf, hd, ln, vl) (6, at1, tk, so, va, lm, ol, encK N, (-1), lo)) ?_ (by rfl) rfl rfl
          have b9 := best_eq hN h34 xk1 xk2 (sW N) lo
          rw [hnD] at b9
          refine Go.aload_n X 0 dX4_best_57 rfl ?_
          refine Go.iconst X (nI 0) dX4_best_58 k_ic_0 ?_
          refine Go.iload_n X 1 dX4_best_59 rfl ?_
          refine Go.callV0 X (d_draws_2 g ad N K b z le rf hd ln vl at1 tk so va lm ol (encK N) (sW N) (-1) lo 0 xk (by exact hN) (by omega) (by omega) (by exact o4)) cal_X4_draws gX4_best_X4_draws (ci := 4) (q0 := 0) rfl rfl rfl rfl rfl dX4_best_60 (fun v9 w9 e9 => ?_)
          obtain ⟨rfl, W1_60, hw1_60, hw2_60, rfl⟩ := e9
          show Go Γ g 3 (rmC 17 401) 0 0 (mdW g ad (stW N W1_60, K, b, z, le, rf, hd, ln, vl) (6, at1, tk, so, va, lm, ol, encK N, (fo N ((-1), lo) (rws (sA N) 2 0 xk (sW N))).1, (fo N ((-1), lo) (rws (sA N) 2 0 xk (sW N))).2)) 63 [(0, .ref (ad 0)), (1, .int (nI xk)), (2, .int (-1))] []
          refine Go.aload_n X 0 dX4_best_63 rfl ?_
          refine Go.aload_n X 0 dX4_best_64 rfl ?_
          refine Go.get X f_X4_best_38 0 (v := .ref (ad 10)) rfl rfl dX4_best_65 ?_
          refine Go.callV0v X (d_again_ahead g ad (stW N W1_60) K b z le rf hd ln vl 6 at1 tk so va lm ol (encK N) ((fo N ((-1), lo) (rws (sA N) 2 0 xk (sW N))).1) ((fo N ((-1), lo) (rws (sA N) 2 0 xk (sW N))).2) N (by exact hN) (by exact fun j _ => rfl)) cal_X4_again gX4_best_X4_again (ci := 4) (q0 := 0) rfl rfl rfl rfl rfl dX4_best_68 ?_
          refine Go.iload_n X 2 dX4_best_71 rfl ?_
          refine Go.iconst X ((-1 : Int32)) dX4_best_72 k_ic_m1 ?_
          refine Go.icmp_ne X 83 dX4_best_73 (by decide) (fun h => absurd h (by decide)) (fun _ => ?_)
          refine Go.aload_n X 0 dX4_best_76 rfl ?_
          refine Go.get X f_X4_best_224 0 (v := .int ((fo N ((-1), lo) (rws (sA N) 2 0 xk (sW N))).1)) rfl rfl dX4_best_77 ?_
          refine Go.top (w := .int ((sbT N xk).1)) (by exact congrArg Value.int b9.1) ?_
          refine Go.goto X 89 dX4_best_80 (by decide) ?_
          have e9 : x_best (N, K, b, z, le, rf, hd, ln, vl) (nI xk) m = ((N, K, b, z, le, rf, hd, ln, vl), ((sbT N xk).1)) := by simp (decide := true) [x_best, rfS, h7, h12, h34, nI_clamp (show xk < 2 ^ 31 by omega)]
          have m9 : mOk (N, K, b, z, le, rf, hd, ln, vl) (6, at1, tk, so, va, lm, ol, encK N, (fo N ((-1), lo) (rws (sA N) 2 0 xk (sW N))).1, (fo N ((-1), lo) (rws (sA N) 2 0 xk (sW N))).2) := ⟨rfl, hm.2.1, hm.2.2⟩
          exact Go.iret X E dX4_best_89 ⟨by rw [e9], _, by rw [e9]; exact m9, by rw [e9]⟩ rfl
        · --
          refine Go.conv (M1 := mdW g ad (stW N (sW N), K, b, z, le, rf, hd, ln, vl) (6, at1, tk, so, va, lm, ol, encK N, (-1), lo)) ?_ (by rfl) rfl rfl
          have b9 := best_eq hN h34 xk1 xk2 (sW N) lo
          rw [hnD] at b9
          refine Go.aload_n X 0 dX4_best_57 rfl ?_
          refine Go.iconst X (nI 0) dX4_best_58 k_ic_0 ?_
          refine Go.iload_n X 1 dX4_best_59 rfl ?_
          refine Go.callV0 X (d_draws_3 g ad N K b z le rf hd ln vl at1 tk so va lm ol (encK N) (sW N) (-1) lo 0 xk (by exact hN) (by omega) (by omega) (by exact o4)) cal_X4_draws gX4_best_X4_draws (ci := 4) (q0 := 0) rfl rfl rfl rfl rfl dX4_best_60 (fun v9 w9 e9 => ?_)
          obtain ⟨rfl, W1_60, hw1_60, hw2_60, rfl⟩ := e9
          show Go Γ g 3 (rmC 17 401) 0 0 (mdW g ad (stW N W1_60, K, b, z, le, rf, hd, ln, vl) (6, at1, tk, so, va, lm, ol, encK N, (fo N ((-1), lo) (rws (sA N) 3 0 xk (sW N))).1, (fo N ((-1), lo) (rws (sA N) 3 0 xk (sW N))).2)) 63 [(0, .ref (ad 0)), (1, .int (nI xk)), (2, .int (-1))] []
          refine Go.aload_n X 0 dX4_best_63 rfl ?_
          refine Go.aload_n X 0 dX4_best_64 rfl ?_
          refine Go.get X f_X4_best_38 0 (v := .ref (ad 10)) rfl rfl dX4_best_65 ?_
          refine Go.callV0v X (d_again_ahead g ad (stW N W1_60) K b z le rf hd ln vl 6 at1 tk so va lm ol (encK N) ((fo N ((-1), lo) (rws (sA N) 3 0 xk (sW N))).1) ((fo N ((-1), lo) (rws (sA N) 3 0 xk (sW N))).2) N (by exact hN) (by exact fun j _ => rfl)) cal_X4_again gX4_best_X4_again (ci := 4) (q0 := 0) rfl rfl rfl rfl rfl dX4_best_68 ?_
          refine Go.iload_n X 2 dX4_best_71 rfl ?_
          refine Go.iconst X ((-1 : Int32)) dX4_best_72 k_ic_m1 ?_
          refine Go.icmp_ne X 83 dX4_best_73 (by decide) (fun h => absurd h (by decide)) (fun _ => ?_)
          refine Go.aload_n X 0 dX4_best_76 rfl ?_
          refine Go.get X f_X4_best_224 0 (v := .int ((fo N ((-1), lo) (rws (sA N) 3 0 xk (sW N))).1)) rfl rfl dX4_best_77 ?_
          refine Go.top (w := .int ((sbT N xk).1)) (by exact congrArg Value.int b9.1) ?_
          refine Go.goto X 89 dX4_best_80 (by decide) ?_
          have e9 : x_best (N, K, b, z, le, rf, hd, ln, vl) (nI xk) m = ((N, K, b, z, le, rf, hd, ln, vl), ((sbT N xk).1)) := by simp (decide := true) [x_best, rfS, h7, h12, h34, nI_clamp (show xk < 2 ^ 31 by omega)]
          have m9 : mOk (N, K, b, z, le, rf, hd, ln, vl) (6, at1, tk, so, va, lm, ol, encK N, (fo N ((-1), lo) (rws (sA N) 3 0 xk (sW N))).1, (fo N ((-1), lo) (rws (sA N) 3 0 xk (sW N))).2) := ⟨rfl, hm.2.1, hm.2.2⟩
          exact Go.iret X E dX4_best_89 ⟨by rw [e9], _, by rw [e9]; exact m9, by rw [e9]⟩ rfl
        · --
          refine Go.conv (M1 := mdW g ad (stW N (sW N), K, b, z, le, rf, hd, ln, vl) (6, at1, tk, so, va, lm, ol, encK N, (-1), lo)) ?_ (by rfl) rfl rfl
          have b9 := best_eq hN h34 xk1 xk2 (sW N) lo
          rw [hnD] at b9
          refine Go.aload_n X 0 dX4_best_57 rfl ?_
          refine Go.iconst X (nI 0) dX4_best_58 k_ic_0 ?_
          refine Go.iload_n X 1 dX4_best_59 rfl ?_
          refine Go.callV0 X (d_draws_4 g ad N K b z le rf hd ln vl at1 tk so va lm ol (encK N) (sW N) (-1) lo 0 xk (by exact hN) (by omega) (by omega) (by exact o4)) cal_X4_draws gX4_best_X4_draws (ci := 4) (q0 := 0) rfl rfl rfl rfl rfl dX4_best_60 (fun v9 w9 e9 => ?_)
          obtain ⟨rfl, W1_60, hw1_60, hw2_60, rfl⟩ := e9
          show Go Γ g 3 (rmC 17 401) 0 0 (mdW g ad (stW N W1_60, K, b, z, le, rf, hd, ln, vl) (6, at1, tk, so, va, lm, ol, encK N, (fo N ((-1), lo) (rws (sA N) 4 0 xk (sW N))).1, (fo N ((-1), lo) (rws (sA N) 4 0 xk (sW N))).2)) 63 [(0, .ref (ad 0)), (1, .int (nI xk)), (2, .int (-1))] []
          refine Go.aload_n X 0 dX4_best_63 rfl ?_
          refine Go.aload_n X 0 dX4_best_64 rfl ?_
          refine Go.get X f_X4_best_38 0 (v := .ref (ad 10)) rfl rfl dX4_best_65 ?_
          refine Go.callV0v X (d_again_ahead g ad (stW N W1_60) K b z le rf hd ln vl 6 at1 tk so va lm ol (encK N) ((fo N ((-1), lo) (rws (sA N) 4 0 xk (sW N))).1) ((fo N ((-1), lo) (rws (sA N) 4 0 xk (sW N))).2) N (by exact hN) (by exact fun j _ => rfl)) cal_X4_again gX4_best_X4_again (ci := 4) (q0 := 0) rfl rfl rfl rfl rfl dX4_best_68 ?_
          refine Go.iload_n X 2 dX4_best_71 rfl ?_
          refine Go.iconst X ((-1 : Int32)) dX4_best_72 k_ic_m1 ?_
          refine Go.icmp_ne X 83 dX4_best_73 (by decide) (fun h => absurd h (by decide)) (fun _ => ?_)
          refine Go.aload_n X 0 dX4_best_76 rfl ?_
          refine Go.get X f_X4_best_224 0 (v := .int ((fo N ((-1), lo) (rws (sA N) 4 0 xk (sW N))).1)) rfl rfl dX4_best_77 ?_
          refine Go.top (w := .int ((sbT N xk).1)) (by exact congrArg Value.int b9.1) ?_
          refine Go.goto X 89 dX4_best_80 (by decide) ?_
          have e9 : x_best (N, K, b, z, le, rf, hd, ln, vl) (nI xk) m = ((N, K, b, z, le, rf, hd, ln, vl), ((sbT N xk).1)) := by simp (decide := true) [x_best, rfS, h7, h12, h34, nI_clamp (show xk < 2 ^ 31 by omega)]
          have m9 : mOk (N, K, b, z, le, rf, hd, ln, vl) (6, at1, tk, so, va, lm, ol, encK N, (fo N ((-1), lo) (rws (sA N) 4 0 xk (sW N))).1, (fo N ((-1), lo) (rws (sA N) 4 0 xk (sW N))).2) := ⟨rfl, hm.2.1, hm.2.2⟩
          exact Go.iret X E dX4_best_89 ⟨by rw [e9], _, by rw [e9]; exact m9, by rw [e9]⟩ rfl
        · --
          refine Go.conv (M1 := mdW g ad (stW N (sW N), K, b, z, le, rf, hd, ln, vl) (6, at1, tk, so, va, lm, ol, encK N, (-1), lo)) ?_ (by rfl) rfl rfl
          have b9 := best_eq hN h34 xk1 xk2 (sW N) lo
          rw [hnD] at b9
          refine Go.aload_n X 0 dX4_best_57 rfl ?_
          refine Go.iconst X (nI 0) dX4_best_58 k_ic_0 ?_
          refine Go.iload_n X 1 dX4_best_59 rfl ?_
          refine Go.callV0 X (d_draws_5 g ad N K b z le rf hd ln vl at1 tk so va lm ol (encK N) (sW N) (-1) lo 0 xk (by exact hN) (by omega) (by omega) (by exact o4)) cal_X4_draws gX4_best_X4_draws (ci := 4) (q0 := 0) rfl rfl rfl rfl rfl dX4_best_60 (fun v9 w9 e9 => ?_)
          obtain ⟨rfl, W1_60, hw1_60, hw2_60, rfl⟩ := e9
          show Go Γ g 3 (rmC 17 401) 0 0 (mdW g ad (stW N W1_60, K, b, z, le, rf, hd, ln, vl) (6, at1, tk, so, va, lm, ol, encK N, (fo N ((-1), lo) (rws (sA N) 5 0 xk (sW N))).1, (fo N ((-1), lo) (rws (sA N) 5 0 xk (sW N))).2)) 63 [(0, .ref (ad 0)), (1, .int (nI xk)), (2, .int (-1))] []
          refine Go.aload_n X 0 dX4_best_63 rfl ?_
          refine Go.aload_n X 0 dX4_best_64 rfl ?_
          refine Go.get X f_X4_best_38 0 (v := .ref (ad 10)) rfl rfl dX4_best_65 ?_
          refine Go.callV0v X (d_again_ahead g ad (stW N W1_60) K b z le rf hd ln vl 6 at1 tk so va lm ol (encK N) ((fo N ((-1), lo) (rws (sA N) 5 0 xk (sW N))).1) ((fo N ((-1), lo) (rws (sA N) 5 0 xk (sW N))).2) N (by exact hN) (by exact fun j _ => rfl)) cal_X4_again gX4_best_X4_again (ci := 4) (q0 := 0) rfl rfl rfl rfl rfl dX4_best_68 ?_
          refine Go.iload_n X 2 dX4_best_71 rfl ?_
          refine Go.iconst X ((-1 : Int32)) dX4_best_72 k_ic_m1 ?_
          refine Go.icmp_ne X 83 dX4_best_73 (by decide) (fun h => absurd h (by decide)) (fun _ => ?_)
          refine Go.aload_n X 0 dX4_best_76 rfl ?_
          refine Go.get X f_X4_best_224 0 (v := .int ((fo N ((-1), lo) (rws (sA N) 5 0 xk (sW N))).1)) rfl rfl dX4_best_77 ?_
          refine Go.top (w := .int ((sbT N xk).1)) (by exact congrArg Value.int b9.1) ?_
          refine Go.goto X 89 dX4_best_80 (by decide) ?_
          have e9 : x_best (N, K, b, z, le, rf, hd, ln, vl) (nI xk) m = ((N, K, b, z, le, rf, hd, ln, vl), ((sbT N xk).1)) := by simp (decide := true) [x_best, rfS, h7, h12, h34, nI_clamp (show xk < 2 ^ 31 by omega)]
          have m9 : mOk (N, K, b, z, le, rf, hd, ln, vl) (6, at1, tk, so, va, lm, ol, encK N, (fo N ((-1), lo) (rws (sA N) 5 0 xk (sW N))).1, (fo N ((-1), lo) (rws (sA N) 5 0 xk (sW N))).2) := ⟨rfl, hm.2.1, hm.2.2⟩
          exact Go.iret X E dX4_best_89 ⟨by rw [e9], _, by rw [e9]; exact m9, by rw [e9]⟩ rfl
        · --
          refine Go.conv (M1 := mdW g ad (stW N (sW N), K, b, z, le, rf, hd, ln, vl) (6, at1, tk, so, va, lm, ol, encK N, (-1), lo)) ?_ (by rfl) rfl rfl
          have b9 := best_eq hN h34 xk1 xk2 (sW N) lo
          rw [hnD] at b9
          refine Go.aload_n X 0 dX4_best_57 rfl ?_
          refine Go.iconst X (nI 0) dX4_best_58 k_ic_0 ?_
          refine Go.iload_n X 1 dX4_best_59 rfl ?_
          refine Go.callV0 X (d_draws_6 g ad N K b z le rf hd ln vl at1 tk so va lm ol (encK N) (sW N) (-1) lo 0 xk (by exact hN) (by omega) (by omega) (by exact o4)) cal_X4_draws gX4_best_X4_draws (ci := 4) (q0 := 0) rfl rfl rfl rfl rfl dX4_best_60 (fun v9 w9 e9 => ?_)
          obtain ⟨rfl, W1_60, hw1_60, hw2_60, rfl⟩ := e9
          show Go Γ g 3 (rmC 17 401) 0 0 (mdW g ad (stW N W1_60, K, b, z, le, rf, hd, ln, vl) (6, at1, tk, so, va, lm, ol, encK N, (fo N ((-1), lo) (rws (sA N) 6 0 xk (sW N))).1, (fo N ((-1), lo) (rws (sA N) 6 0 xk (sW N))).2)) 63 [(0, .ref (ad 0)), (1, .int (nI xk)), (2, .int (-1))] []
          refine Go.aload_n X 0 dX4_best_63 rfl ?_
          refine Go.aload_n X 0 dX4_best_64 rfl ?_
          refine Go.get X f_X4_best_38 0 (v := .ref (ad 10)) rfl rfl dX4_best_65 ?_
          refine Go.callV0v X (d_again_ahead g ad (stW N W1_60) K b z le rf hd ln vl 6 at1 tk so va lm ol (encK N) ((fo N ((-1), lo) (rws (sA N) 6 0 xk (sW N))).1) ((fo N ((-1), lo) (rws (sA N) 6 0 xk (sW N))).2) N (by exact hN) (by exact fun j _ => rfl)) cal_X4_again gX4_best_X4_again (ci := 4) (q0 := 0) rfl rfl rfl rfl rfl dX4_best_68 ?_
          refine Go.iload_n X 2 dX4_best_71 rfl ?_
          refine Go.iconst X ((-1 : Int32)) dX4_best_72 k_ic_m1 ?_
          refine Go.icmp_ne X 83 dX4_best_73 (by decide) (fun h => absurd h (by decide)) (fun _ => ?_)
          refine Go.aload_n X 0 dX4_best_76 rfl ?_
          refine Go.get X f_X4_best_224 0 (v := .int ((fo N ((-1), lo) (rws (sA N) 6 0 xk (sW N))).1)) rfl rfl dX4_best_77 ?_
          refine Go.top (w := .int ((sbT N xk).1)) (by exact congrArg Value.int b9.1) ?_
          refine Go.goto X 89 dX4_best_80 (by decide) ?_
          have e9 : x_best (N, K, b, z, le, rf, hd, ln, vl) (nI xk) m = ((N, K, b, z, le, rf, hd, ln, vl), ((sbT N xk).1)) := by simp (decide := true) [x_best, rfS, h7, h12, h34, nI_clamp (show xk < 2 ^ 31 by omega)]
          have m9 : mOk (N, K, b, z, le, rf, hd, ln, vl) (6, at1, tk, so, va, lm, ol, encK N, (fo N ((-1), lo) (rws (sA N) 6 0 xk (sW N))).1, (fo N ((-1), lo) (rws (sA N) 6 0 xk (sW N))).2) := ⟨rfl, hm.2.1, hm.2.2⟩
          exact Go.iret X E dX4_best_89 ⟨by rw [e9], _, by rw [e9]; exact m9, by rw [e9]⟩ rfl
        · --
          refine Go.conv (M1 := mdW g ad (stW N (sW N), K, b, z, le, rf, hd, ln, vl) (6, at1, tk, so, va, lm, ol, encK N, (-1), lo)) ?_ (by rfl) rfl rfl
          have b9 := best_eq hN h34 xk1 xk2 (sW N) lo
          rw [hnD] at b9
          refine Go.aload_n X 0 dX4_best_57 rfl ?_
          refine Go.iconst X (nI 0) dX4_best_58 k_ic_0 ?_
          refine Go.iload_n X 1 dX4_best_59 rfl ?_
          refine Go.callV0 X (d_draws_7 g ad N K b z le rf hd ln vl at1 tk so va lm ol (encK N) (sW N) (-1) lo 0 xk (by exact hN) (by omega) (by omega) (by exact o4)) cal_X4_draws gX4_best_X4_draws (ci := 4) (q0 := 0) rfl rfl rfl rfl rfl dX4_best_60 (fun v9 w9 e9 => ?_)
          obtain ⟨rfl, W1_60, hw1_60, hw2_60, rfl⟩ := e9
          show Go Γ g 3 (rmC 17 401) 0 0 (mdW g ad (stW N W1_60, K, b, z, le, rf, hd, ln, vl) (6, at1, tk, so, va, lm, ol, encK N, (fo N ((-1), lo) (rws (sA N) 7 0 xk (sW N))).1, (fo N ((-1), lo) (rws (sA N) 7 0 xk (sW N))).2)) 63 [(0, .ref (ad 0)), (1, .int (nI xk)), (2, .int (-1))] []
          refine Go.aload_n X 0 dX4_best_63 rfl ?_
          refine Go.aload_n X 0 dX4_best_64 rfl ?_
          refine Go.get X f_X4_best_38 0 (v := .ref (ad 10)) rfl rfl dX4_best_65 ?_
          refine Go.callV0v X (d_again_ahead g ad (stW N W1_60) K b z le rf hd ln vl 6 at1 tk so va lm ol (encK N) ((fo N ((-1), lo) (rws (sA N) 7 0 xk (sW N))).1) ((fo N ((-1), lo) (rws (sA N) 7 0 xk (sW N))).2) N (by exact hN) (by exact fun j _ => rfl)) cal_X4_again gX4_best_X4_again (ci := 4) (q0 := 0) rfl rfl rfl rfl rfl dX4_best_68 ?_
          refine Go.iload_n X 2 dX4_best_71 rfl ?_
          refine Go.iconst X ((-1 : Int32)) dX4_best_72 k_ic_m1 ?_
          refine Go.icmp_ne X 83 dX4_best_73 (by decide) (fun h => absurd h (by decide)) (fun _ => ?_)
          refine Go.aload_n X 0 dX4_best_76 rfl ?_
          refine Go.get X f_X4_best_224 0 (v := .int ((fo N ((-1), lo) (rws (sA N) 7 0 xk (sW N))).1)) rfl rfl dX4_best_77 ?_
          refine Go.top (w := .int ((sbT N xk).1)) (by exact congrArg Value.int b9.1) ?_
          refine Go.goto X 89 dX4_best_80 (by decide) ?_
          have e9 : x_best (N, K, b, z, le, rf, hd, ln, vl) (nI xk) m = ((N, K, b, z, le, rf, hd, ln, vl), ((sbT N xk).1)) := by simp (decide := true) [x_best, rfS, h7, h12, h34, nI_clamp (show xk < 2 ^ 31 by omega)]
          have m9 : mOk (N, K, b, z, le, rf, hd, ln, vl) (6, at1, tk, so, va, lm, ol, encK N, (fo N ((-1), lo) (rws (sA N) 7 0 xk (sW N))).1, (fo N ((-1), lo) (rws (sA N) 7 0 xk (sW N))).2) := ⟨rfl, hm.2.1, hm.2.2⟩
          exact Go.iret X E dX4_best_89 ⟨by rw [e9], _, by rw [e9]; exact m9, by rw [e9]⟩ rfl
        · --
          refine Go.conv (M1 := mdW g ad (stW N (sW N), K, b, z, le, rf, hd, ln, vl) (6, at1, tk, so, va, lm, ol, encK N, (-1), lo)) ?_ (by rfl) rfl rfl
          have b9 := best_eq hN h34 xk1 xk2 (sW N) lo
          rw [hnD] at b9
          refine Go.aload_n X 0 dX4_best_57 rfl ?_
          refine Go.iconst X (nI 0) dX4_best_58 k_ic_0 ?_
          refine Go.iload_n X 1 dX4_best_59 rfl ?_
          refine Go.callV0 X (d_draws_8 g ad N K b z le rf hd ln vl at1 tk so va lm ol (encK N) (sW N) (-1) lo 0 xk (by exact hN) (by omega) (by omega) (by exact o4)) cal_X4_draws gX4_best_X4_draws (ci := 4) (q0 := 0) rfl rfl rfl rfl rfl dX4_best_60 (fun v9 w9 e9 => ?_)
          obtain ⟨rfl, W1_60, hw1_60, hw2_60, rfl⟩ := e9
          show Go Γ g 3 (rmC 17 401) 0 0 (mdW g ad (stW N W1_60, K, b, z, le, rf, hd, ln, vl) (6, at1, tk, so, va, lm, ol, encK N, (fo N ((-1), lo) (rws (sA N) 8 0 xk (sW N))).1, (fo N ((-1), lo) (rws (sA N) 8 0 xk (sW N))).2)) 63 [(0, .ref (ad 0)), (1, .int (nI xk)), (2, .int (-1))] []
          refine Go.aload_n X 0 dX4_best_63 rfl ?_
          refine Go.aload_n X 0 dX4_best_64 rfl ?_
          refine Go.get X f_X4_best_38 0 (v := .ref (ad 10)) rfl rfl dX4_best_65 ?_
          refine Go.callV0v X (d_again_ahead g ad (stW N W1_60) K b z le rf hd ln vl 6 at1 tk so va lm ol (encK N) ((fo N ((-1), lo) (rws (sA N) 8 0 xk (sW N))).1) ((fo N ((-1), lo) (rws (sA N) 8 0 xk (sW N))).2) N (by exact hN) (by exact fun j _ => rfl)) cal_X4_again gX4_best_X4_again (ci := 4) (q0 := 0) rfl rfl rfl rfl rfl dX4_best_68 ?_
          refine Go.iload_n X 2 dX4_best_71 rfl ?_
          refine Go.iconst X ((-1 : Int32)) dX4_best_72 k_ic_m1 ?_
          refine Go.icmp_ne X 83 dX4_best_73 (by decide) (fun h => absurd h (by decide)) (fun _ => ?_)
          refine Go.aload_n X 0 dX4_best_76 rfl ?_
          refine Go.get X f_X4_best_224 0 (v := .int ((fo N ((-1), lo) (rws (sA N) 8 0 xk (sW N))).1)) rfl rfl dX4_best_77 ?_
          refine Go.top (w := .int ((sbT N xk).1)) (by exact congrArg Value.int b9.1) ?_
          refine Go.goto X 89 dX4_best_80 (by decide) ?_
          have e9 : x_best (N, K, b, z, le, rf, hd, ln, vl) (nI xk) m = ((N, K, b, z, le, rf, hd, ln, vl), ((sbT N xk).1)) := by simp (decide := true) [x_best, rfS, h7, h12, h34, nI_clamp (show xk < 2 ^ 31 by omega)]
          have m9 : mOk (N, K, b, z, le, rf, hd, ln, vl) (6, at1, tk, so, va, lm, ol, encK N, (fo N ((-1), lo) (rws (sA N) 8 0 xk (sW N))).1, (fo N ((-1), lo) (rws (sA N) 8 0 xk (sW N))).2) := ⟨rfl, hm.2.1, hm.2.2⟩
          exact Go.iret X E dX4_best_89 ⟨by rw [e9], _, by rw [e9]; exact m9, by rw [e9]⟩ rfl
        · --
          refine Go.conv (M1 := mdW g ad (stW N (sW N), K, b, z, le, rf, hd, ln, vl) (6, at1, tk, so, va, lm, ol, encK N, (-1), lo)) ?_ (by rfl) rfl rfl
          have b9 := best_eq hN h34 xk1 xk2 (sW N) lo
          rw [hnD] at b9
          refine Go.aload_n X 0 dX4_best_57 rfl ?_
          refine Go.iconst X (nI 0) dX4_best_58 k_ic_0 ?_
          refine Go.iload_n X 1 dX4_best_59 rfl ?_
          refine Go.callV0 X (d_draws_9 g ad N K b z le rf hd ln vl at1 tk so va lm ol (encK N) (sW N) (-1) lo 0 xk (by exact hN) (by omega) (by omega) (by exact o4)) cal_X4_draws gX4_best_X4_draws (ci := 4) (q0 := 0) rfl rfl rfl rfl rfl dX4_best_60 (fun v9 w9 e9 => ?_)
          obtain ⟨rfl, W1_60, hw1_60, hw2_60, rfl⟩ := e9
          show Go Γ g 3 (rmC 17 401) 0 0 (mdW g ad (stW N W1_60, K, b, z, le, rf, hd, ln, vl) (6, at1, tk, so, va, lm, ol, encK N, (fo N ((-1), lo) (rws (sA N) 9 0 xk (sW N))).1, (fo N ((-1), lo) (rws (sA N) 9 0 xk (sW N))).2)) 63 [(0, .ref (ad 0)), (1, .int (nI xk)), (2, .int (-1))] []
          refine Go.aload_n X 0 dX4_best_63 rfl ?_
          refine Go.aload_n X 0 dX4_best_64 rfl ?_
          refine Go.get X f_X4_best_38 0 (v := .ref (ad 10)) rfl rfl dX4_best_65 ?_
          refine Go.callV0v X (d_again_ahead g ad (stW N W1_60) K b z le rf hd ln vl 6 at1 tk so va lm ol (encK N) ((fo N ((-1), lo) (rws (sA N) 9 0 xk (sW N))).1) ((fo N ((-1), lo) (rws (sA N) 9 0 xk (sW N))).2) N (by exact hN) (by exact fun j _ => rfl)) cal_X4_again gX4_best_X4_again (ci := 4) (q0 := 0) rfl rfl rfl rfl rfl dX4_best_68 ?_
          refine Go.iload_n X 2 dX4_best_71 rfl ?_
          refine Go.iconst X ((-1 : Int32)) dX4_best_72 k_ic_m1 ?_
          refine Go.icmp_ne X 83 dX4_best_73 (by decide) (fun h => absurd h (by decide)) (fun _ => ?_)
          refine Go.aload_n X 0 dX4_best_76 rfl ?_
          refine Go.get X f_X4_best_224 0 (v := .int ((fo N ((-1), lo) (rws (sA N) 9 0 xk (sW N))).1)) rfl rfl dX4_best_77 ?_
          refine Go.top (w := .int ((sbT N xk).1)) (by exact congrArg Value.int b9.1) ?_
          refine Go.goto X 89 dX4_best_80 (by decide) ?_
          have e9 : x_best (N, K, b, z, le, rf, hd, ln, vl) (nI xk) m = ((N, K, b, z, le, rf, hd, ln, vl), ((sbT N xk).1)) := by simp (decide := true) [x_best, rfS, h7, h12, h34, nI_clamp (show xk < 2 ^ 31 by omega)]
          have m9 : mOk (N, K, b, z, le, rf, hd, ln, vl) (6, at1, tk, so, va, lm, ol, encK N, (fo N ((-1), lo) (rws (sA N) 9 0 xk (sW N))).1, (fo N ((-1), lo) (rws (sA N) 9 0 xk (sW N))).2) := ⟨rfl, hm.2.1, hm.2.2⟩
          exact Go.iret X E dX4_best_89 ⟨by rw [e9], _, by rw [e9]; exact m9, by rw [e9]⟩ rfl
      · --
        refine Go.aload_n X 0 dX4_best_37 rfl ?_
        refine Go.bipush X ((-5 : Int32)) dX4_best_38 k_bp_m5 ?_
        refine Go.callV0i X (d_no_3 g ad N K b z le rf hd ln vl 6 at1 tk so va lm ol ah lt lo) cal_X4_no gX4_best_X4_no (ci := 4) (q0 := 0) rfl rfl rfl rfl rfl dX4_best_40 ?_
        have e9 : x_best (N, K, b, z, le, rf, hd, ln, vl) (nI xk) m = ((N, K, b, z, le, inc rf 3, hd, ln, vl), (-5)) := by simp (decide := true) [x_best, rfS, h7, h12, h34, nI_clamp (show xk < 2 ^ 31 by omega)]
        have m9 : mOk (N, K, b, z, le, inc rf 3, hd, ln, vl) (6, at1, tk, so, va, lm, ol, ah, lt, lo) := ⟨rfl, hm.2.1, hm.2.2⟩
        exact Go.iret X E dX4_best_43 ⟨by rw [e9], _, by rw [e9]; exact m9, by rw [e9]⟩ rfl
    · --
      refine Go.aload_n X 0 dX4_best_15 rfl ?_
      refine Go.iload_n X 2 dX4_best_16 rfl ?_
      refine Go.callV0i X (d_isMorning g ad N K b z le rf hd ln vl 6 at1 tk so va lm ol ah lt lo m (by exact hN)) cal_X4_isMorning gX4_best_X4_isMorning (ci := 4) (q0 := 0) rfl rfl rfl rfl rfl dX4_best_17 ?_
      refine Go.if_neB X 30 dX4_best_20 (by decide) (fun h20 => ?_) (fun h20 => ?_)
      · --
        obtain ⟨mk, hmk, rfl⟩ := inb_at (by first | omega | (split <;> omega)) h20
        refine Go.aload_n X 0 dX4_best_30 rfl ?_
        refine Go.get X f_X4_best_111 0 (v := .int (nI (sA N))) rfl rfl dX4_best_31 ?_
        refine Go.if_neN X 44 dX4_best_34 (by decide) (by first | omega | (split <;> omega)) (fun h34 => ?_) (fun h34 => ?_)
        · --
          have xk1 : 1 ≤ xk := by omega
          have xk2 : xk ≤ 6 := by omega
          refine Go.aload_n X 0 dX4_best_44 rfl ?_
          refine Go.aload_n X 0 dX4_best_45 rfl ?_
          refine Go.get X f_X4_best_38 0 (v := .ref (ad 10)) rfl rfl dX4_best_46 ?_
          refine Go.callV0v X (d_keep_ahead g ad N K b z le rf hd ln vl 6 at1 tk so va lm ol ah lt lo (by exact hN)) cal_X4_keep gX4_best_X4_keep (ci := 4) (q0 := 0) rfl rfl rfl rfl rfl dX4_best_49 ?_
          refine Go.aload_n X 0 dX4_best_52 rfl ?_
          refine Go.iconst X ((-1 : Int32)) dX4_best_53 k_ic_m1 ?_
          refine Go.putM X f_X4_best_224 fp_4_25 0 (mdW g ad (N, K, b, z, le, rf, hd, ln, vl) (6, at1, tk, so, va, lm, ol, encK N, (-1), lo)) rfl rfl rfl rfl dX4_best_54 rfl ?_
          rcases (show sN N = 1 ∨ sN N = 2 ∨ sN N = 3 ∨ sN N = 4 ∨ sN N = 5 ∨ sN N = 6 ∨ sN N = 7 ∨ sN N = 8 ∨ sN N = 9 by omega) with hnD | hnD | hnD | hnD | hnD | hnD | hnD | hnD | hnD
          · --
            refine Go.conv (M1 := mdW g ad (stW N (sW N), K, b, z, le, rf, hd, ln, vl) (6, at1, tk, so, va, lm, ol, encK N, (-1), lo)) ?_ (by rfl) rfl rfl
            have b9 := best_eq hN h34 xk1 xk2 (sW N) lo
            rw [hnD] at b9
            refine Go.aload_n X 0 dX4_best_57 rfl ?_
            refine Go.iconst X (nI 0) dX4_best_58 k_ic_0 ?_
            refine Go.iload_n X 1 dX4_best_59 rfl ?_
            refine Go.callV0 X (d_draws_1 g ad N K b z le rf hd ln vl at1 tk so va lm ol (encK N) (sW N) (-1) lo 0 xk (by exact hN) (by omega) (by omega) (by exact o4)) cal_X4_draws gX4_best_X4_draws (ci := 4) (q0 := 0) rfl rfl rfl rfl rfl dX4_best_60 (fun v9 w9 e9 => ?_)
            obtain ⟨rfl, W1_60, hw1_60, hw2_60, rfl⟩ := e9
            show Go Γ g 3 (rmC 17 401) 0 0 (mdW g ad (stW N W1_60, K, b, z, le, rf, hd, ln, vl) (6, at1, tk, so, va, lm, ol, encK N, (fo N ((-1), lo) (rws (sA N) 1 0 xk (sW N))).1, (fo N ((-1), lo) (rws (sA N) 1 0 xk (sW N))).2)) 63 [(0, .ref (ad 0)), (1, .int (nI xk)), (2, .int (nI mk))] []
            refine Go.aload_n X 0 dX4_best_63 rfl ?_
            refine Go.aload_n X 0 dX4_best_64 rfl ?_
            refine Go.get X f_X4_best_38 0 (v := .ref (ad 10)) rfl rfl dX4_best_65 ?_
            refine Go.callV0v X (d_again_ahead g ad (stW N W1_60) K b z le rf hd ln vl 6 at1 tk so va lm ol (encK N) ((fo N ((-1), lo) (rws (sA N) 1 0 xk (sW N))).1) ((fo N ((-1), lo) (rws (sA N) 1 0 xk (sW N))).2) N (by exact hN) (by exact fun j _ => rfl)) cal_X4_again gX4_best_X4_again (ci := 4) (q0 := 0) rfl rfl rfl rfl rfl dX4_best_68 ?_
            refine Go.iload_n X 2 dX4_best_71 rfl ?_
            refine Go.iconst X ((-1 : Int32)) dX4_best_72 k_ic_m1 ?_
            refine Go.icmp_ne X 83 dX4_best_73 (by decide) (fun h73 => ?_) (fun h73 => ?_)
            · --
              refine Go.aload_n X 0 dX4_best_83 rfl ?_
              refine Go.get X f_X4_best_41 0 (v := .ref (ad 11)) rfl rfl dX4_best_84 ?_
              refine Go.iload_n X 2 dX4_best_87 rfl ?_
              refine Go.ialdF X 11 (f := (fo N ((-1), lo) (rws (sA N) 1 0 xk (sW N))).2) rfl (by first | omega | (split <;> omega)) rfl dX4_best_88 ?_
              refine Go.top (w := .int (nI ((sbT N xk).2 mk))) (by exact congrArg Value.int (b9.2 mk (by omega))) ?_
              have e9 : x_best (N, K, b, z, le, rf, hd, ln, vl) (nI xk) (nI mk) = ((N, K, b, z, le, rf, hd, ln, vl), (nI ((sbT N xk).2 mk))) := by simp (decide := true) [x_best, rfS, h7, h12, h20, h34, nI_clamp (show xk < 2 ^ 31 by omega), nI_clamp (show mk < 2 ^ 31 by omega)]
              have m9 : mOk (N, K, b, z, le, rf, hd, ln, vl) (6, at1, tk, so, va, lm, ol, encK N, (fo N ((-1), lo) (rws (sA N) 1 0 xk (sW N))).1, (fo N ((-1), lo) (rws (sA N) 1 0 xk (sW N))).2) := ⟨rfl, hm.2.1, hm.2.2⟩
              exact Go.iret X E dX4_best_89 ⟨by rw [e9], _, by rw [e9]; exact m9, by rw [e9]⟩ rfl
            · --
              exact absurd h73.symm (m1_ne (by omega))
          · --
            refine Go.conv (M1 := mdW g ad (stW N (sW N), K, b, z, le, rf, hd, ln, vl) (6, at1, tk, so, va, lm, ol, encK N, (-1), lo)) ?_ (by rfl) rfl rfl
            have b9 := best_eq hN h34 xk1 xk2 (sW N) lo
            rw [hnD] at b9
            refine Go.aload_n X 0 dX4_best_57 rfl ?_
            refine Go.iconst X (nI 0) dX4_best_58 k_ic_0 ?_
            refine Go.iload_n X 1 dX4_best_59 rfl ?_
            refine Go.callV0 X (d_draws_2 g ad N K b z le rf hd ln vl at1 tk so va lm ol (encK N) (sW N) (-1) lo 0 xk (by exact hN) (by omega) (by omega) (by exact o4)) cal_X4_draws gX4_best_X4_draws (ci := 4) (q0 := 0) rfl rfl rfl rfl rfl dX4_best_60 (fun v9 w9 e9 => ?_)
            obtain ⟨rfl, W1_60, hw1_60, hw2_60, rfl⟩ := e9
            show Go Γ g 3 (rmC 17 401) 0 0 (mdW g ad (stW N W1_60, K, b, z, le, rf, hd, ln, vl) (6, at1, tk, so, va, lm, ol, encK N, (fo N ((-1), lo) (rws (sA N) 2 0 xk (sW N))).1, (fo N ((-1), lo) (rws (sA N) 2 0 xk (sW N))).2)) 63 [(0, .ref (ad 0)), (1, .int (nI xk)), (2, .int (nI mk))] []
            refine Go.aload_n X 0 dX4_best_63 rfl ?_
            refine Go.aload_n X 0 dX4_best_64 rfl ?_
            refine Go.get X f_X4_best_38 0 (v := .ref (ad 10)) rfl rfl dX4_best_65 ?_
            refine Go.callV0v X (d_again_ahead g ad (stW N W1_60) K b z le rf hd ln vl 6 at1 tk so va lm ol (encK N) ((fo N ((-1), lo) (rws (sA N) 2 0 xk (sW N))).1) ((fo N ((-1), lo) (rws (sA N) 2 0 xk (sW N))).2) N (by exact hN) (by exact fun j _ => rfl)) cal_X4_again gX4_best_X4_again (ci := 4) (q0 := 0) rfl rfl rfl rfl rfl dX4_best_68 ?_
            refine Go.iload_n X 2 dX4_best_71 rfl ?_
            refine Go.iconst X ((-1 : Int32)) dX4_best_72 k_ic_m1 ?_
            refine Go.icmp_ne X 83 dX4_best_73 (by decide) (fun h73 => ?_) (fun h73 => ?_)
            · --
              refine Go.aload_n X 0 dX4_best_83 rfl ?_
              refine Go.get X f_X4_best_41 0 (v := .ref (ad 11)) rfl rfl dX4_best_84 ?_
              refine Go.iload_n X 2 dX4_best_87 rfl ?_
              refine Go.ialdF X 11 (f := (fo N ((-1), lo) (rws (sA N) 2 0 xk (sW N))).2) rfl (by first | omega | (split <;> omega)) rfl dX4_best_88 ?_
              refine Go.top (w := .int (nI ((sbT N xk).2 mk))) (by exact congrArg Value.int (b9.2 mk (by omega))) ?_
              have e9 : x_best (N, K, b, z, le, rf, hd, ln, vl) (nI xk) (nI mk) = ((N, K, b, z, le, rf, hd, ln, vl), (nI ((sbT N xk).2 mk))) := by simp (decide := true) [x_best, rfS, h7, h12, h20, h34, nI_clamp (show xk < 2 ^ 31 by omega), nI_clamp (show mk < 2 ^ 31 by omega)]
              have m9 : mOk (N, K, b, z, le, rf, hd, ln, vl) (6, at1, tk, so, va, lm, ol, encK N, (fo N ((-1), lo) (rws (sA N) 2 0 xk (sW N))).1, (fo N ((-1), lo) (rws (sA N) 2 0 xk (sW N))).2) := ⟨rfl, hm.2.1, hm.2.2⟩
              exact Go.iret X E dX4_best_89 ⟨by rw [e9], _, by rw [e9]; exact m9, by rw [e9]⟩ rfl
            · --
              exact absurd h73.symm (m1_ne (by omega))
          · --
            refine Go.conv (M1 := mdW g ad (stW N (sW N), K, b, z, le, rf, hd, ln, vl) (6, at1, tk, so, va, lm, ol, encK N, (-1), lo)) ?_ (by rfl) rfl rfl
            have b9 := best_eq hN h34 xk1 xk2 (sW N) lo
            rw [hnD] at b9
            refine Go.aload_n X 0 dX4_best_57 rfl ?_
            refine Go.iconst X (nI 0) dX4_best_58 k_ic_0 ?_
            refine Go.iload_n X 1 dX4_best_59 rfl ?_
            refine Go.callV0 X (d_draws_3 g ad N K b z le rf hd ln vl at1 tk so va lm ol (encK N) (sW N) (-1) lo 0 xk (by exact hN) (by omega) (by omega) (by exact o4)) cal_X4_draws gX4_best_X4_draws (ci := 4) (q0 := 0) rfl rfl rfl rfl rfl dX4_best_60 (fun v9 w9 e9 => ?_)
            obtain ⟨rfl, W1_60, hw1_60, hw2_60, rfl⟩ := e9
            show Go Γ g 3 (rmC 17 401) 0 0 (mdW g ad (stW N W1_60, K, b, z, le, rf, hd, ln, vl) (6, at1, tk, so, va, lm, ol, encK N, (fo N ((-1), lo) (rws (sA N) 3 0 xk (sW N))).1, (fo N ((-1), lo) (rws (sA N) 3 0 xk (sW N))).2)) 63 [(0, .ref (ad 0)), (1, .int (nI xk)), (2, .int (nI mk))] []
            refine Go.aload_n X 0 dX4_best_63 rfl ?_
            refine Go.aload_n X 0 dX4_best_64 rfl ?_
            refine Go.get X f_X4_best_38 0 (v := .ref (ad 10)) rfl rfl dX4_best_65 ?_
            refine Go.callV0v X (d_again_ahead g ad (stW N W1_60) K b z le rf hd ln vl 6 at1 tk so va lm ol (encK N) ((fo N ((-1), lo) (rws (sA N) 3 0 xk (sW N))).1) ((fo N ((-1), lo) (rws (sA N) 3 0 xk (sW N))).2) N (by exact hN) (by exact fun j _ => rfl)) cal_X4_again gX4_best_X4_again (ci := 4) (q0 := 0) rfl rfl rfl rfl rfl dX4_best_68 ?_
            refine Go.iload_n X 2 dX4_best_71 rfl ?_
            refine Go.iconst X ((-1 : Int32)) dX4_best_72 k_ic_m1 ?_
            refine Go.icmp_ne X 83 dX4_best_73 (by decide) (fun h73 => ?_) (fun h73 => ?_)
            · --
              refine Go.aload_n X 0 dX4_best_83 rfl ?_
              refine Go.get X f_X4_best_41 0 (v := .ref (ad 11)) rfl rfl dX4_best_84 ?_
              refine Go.iload_n X 2 dX4_best_87 rfl ?_
              refine Go.ialdF X 11 (f := (fo N ((-1), lo) (rws (sA N) 3 0 xk (sW N))).2) rfl (by first | omega | (split <;> omega)) rfl dX4_best_88 ?_
              refine Go.top (w := .int (nI ((sbT N xk).2 mk))) (by exact congrArg Value.int (b9.2 mk (by omega))) ?_
              have e9 : x_best (N, K, b, z, le, rf, hd, ln, vl) (nI xk) (nI mk) = ((N, K, b, z, le, rf, hd, ln, vl), (nI ((sbT N xk).2 mk))) := by simp (decide := true) [x_best, rfS, h7, h12, h20, h34, nI_clamp (show xk < 2 ^ 31 by omega), nI_clamp (show mk < 2 ^ 31 by omega)]
              have m9 : mOk (N, K, b, z, le, rf, hd, ln, vl) (6, at1, tk, so, va, lm, ol, encK N, (fo N ((-1), lo) (rws (sA N) 3 0 xk (sW N))).1, (fo N ((-1), lo) (rws (sA N) 3 0 xk (sW N))).2) := ⟨rfl, hm.2.1, hm.2.2⟩
              exact Go.iret X E dX4_best_89 ⟨by rw [e9], _, by rw [e9]; exact m9, by rw [e9]⟩ rfl
            · --
              exact absurd h73.symm (m1_ne (by omega))
          · --
            refine Go.conv (M1 := mdW g ad (stW N (sW N), K, b, z, le, rf, hd, ln, vl) (6, at1, tk, so, va, lm, ol, encK N, (-1), lo)) ?_ (by rfl) rfl rfl
            have b9 := best_eq hN h34 xk1 xk2 (sW N) lo
            rw [hnD] at b9
            refine Go.aload_n X 0 dX4_best_57 rfl ?_
            refine Go.iconst X (nI 0) dX4_best_58 k_ic_0 ?_
            refine Go.iload_n X 1 dX4_best_59 rfl ?_
            refine Go.callV0 X (d_draws_4 g ad N K b z le rf hd ln vl at1 tk so va lm ol (encK N) (sW N) (-1) lo 0 xk (by exact hN) (by omega) (by omega) (by exact o4)) cal_X4_draws gX4_best_X4_draws (ci := 4) (q0 := 0) rfl rfl rfl rfl rfl dX4_best_60 (fun v9 w9 e9 => ?_)
            obtain ⟨rfl, W1_60, hw1_60, hw2_60, rfl⟩ := e9
            show Go Γ g 3 (rmC 17 401) 0 0 (mdW g ad (stW N W1_60, K, b, z, le, rf, hd, ln, vl) (6, at1, tk, so, va, lm, ol, encK N, (fo N ((-1), lo) (rws (sA N) 4 0 xk (sW N))).1, (fo N ((-1), lo) (rws (sA N) 4 0 xk (sW N))).2)) 63 [(0, .ref (ad 0)), (1, .int (nI xk)), (2, .int (nI mk))] []
            refine Go.aload_n X 0 dX4_best_63 rfl ?_
            refine Go.aload_n X 0 dX4_best_64 rfl ?_
            refine Go.get X f_X4_best_38 0 (v := .ref (ad 10)) rfl rfl dX4_best_65 ?_
            refine Go.callV0v X (d_again_ahead g ad (stW N W1_60) K b z le rf hd ln vl 6 at1 tk so va lm ol (encK N) ((fo N ((-1), lo) (rws (sA N) 4 0 xk (sW N))).1) ((fo N ((-1), lo) (rws (sA N) 4 0 xk (sW N))).2) N (by exact hN) (by exact fun j _ => rfl)) cal_X4_again gX4_best_X4_again (ci := 4) (q0 := 0) rfl rfl rfl rfl rfl dX4_best_68 ?_
            refine Go.iload_n X 2 dX4_best_71 rfl ?_
            refine Go.iconst X ((-1 : Int32)) dX4_best_72 k_ic_m1 ?_
            refine Go.icmp_ne X 83 dX4_best_73 (by decide) (fun h73 => ?_) (fun h73 => ?_)
            · --
              refine Go.aload_n X 0 dX4_best_83 rfl ?_
              refine Go.get X f_X4_best_41 0 (v := .ref (ad 11)) rfl rfl dX4_best_84 ?_
              refine Go.iload_n X 2 dX4_best_87 rfl ?_
              refine Go.ialdF X 11 (f := (fo N ((-1), lo) (rws (sA N) 4 0 xk (sW N))).2) rfl (by first | omega | (split <;> omega)) rfl dX4_best_88 ?_
              refine Go.top (w := .int (nI ((sbT N xk).2 mk))) (by exact congrArg Value.int (b9.2 mk (by omega))) ?_
              have e9 : x_best (N, K, b, z, le, rf, hd, ln, vl) (nI xk) (nI mk) = ((N, K, b, z, le, rf, hd, ln, vl), (nI ((sbT N xk).2 mk))) := by simp (decide := true) [x_best, rfS, h7, h12, h20, h34, nI_clamp (show xk < 2 ^ 31 by omega), nI_clamp (show mk < 2 ^ 31 by omega)]
              have m9 : mOk (N, K, b, z, le, rf, hd, ln, vl) (6, at1, tk, so, va, lm, ol, encK N, (fo N ((-1), lo) (rws (sA N) 4 0 xk (sW N))).1, (fo N ((-1), lo) (rws (sA N) 4 0 xk (sW N))).2) := ⟨rfl, hm.2.1, hm.2.2⟩
              exact Go.iret X E dX4_best_89 ⟨by rw [e9], _, by rw [e9]; exact m9, by rw [e9]⟩ rfl
            · --
              exact absurd h73.symm (m1_ne (by omega))
          · --
            refine Go.conv (M1 := mdW g ad (stW N (sW N), K, b, z, le, rf, hd, ln, vl) (6, at1, tk, so, va, lm, ol, encK N, (-1), lo)) ?_ (by rfl) rfl rfl
            have b9 := best_eq hN h34 xk1 xk2 (sW N) lo
            rw [hnD] at b9
            refine Go.aload_n X 0 dX4_best_57 rfl ?_
            refine Go.iconst X (nI 0) dX4_best_58 k_ic_0 ?_
            refine Go.iload_n X 1 dX4_best_59 rfl ?_
            refine Go.callV0 X (d_draws_5 g ad N K b z le rf hd ln vl at1 tk so va lm ol (encK N) (sW N) (-1) lo 0 xk (by exact hN) (by omega) (by omega) (by exact o4)) cal_X4_draws gX4_best_X4_draws (ci := 4) (q0 := 0) rfl rfl rfl rfl rfl dX4_best_60 (fun v9 w9 e9 => ?_)
            obtain ⟨rfl, W1_60, hw1_60, hw2_60, rfl⟩ := e9
            show Go Γ g 3 (rmC 17 401) 0 0 (mdW g ad (stW N W1_60, K, b, z, le, rf, hd, ln, vl) (6, at1, tk, so, va, lm, ol, encK N, (fo N ((-1), lo) (rws (sA N) 5 0 xk (sW N))).1, (fo N ((-1), lo) (rws (sA N) 5 0 xk (sW N))).2)) 63 [(0, .ref (ad 0)), (1, .int (nI xk)), (2, .int (nI mk))] []
            refine Go.aload_n X 0 dX4_best_63 rfl ?_
            refine Go.aload_n X 0 dX4_best_64 rfl ?_
            refine Go.get X f_X4_best_38 0 (v := .ref (ad 10)) rfl rfl dX4_best_65 ?_
            refine Go.callV0v X (d_again_ahead g ad (stW N W1_60) K b z le rf hd ln vl 6 at1 tk so va lm ol (encK N) ((fo N ((-1), lo) (rws (sA N) 5 0 xk (sW N))).1) ((fo N ((-1), lo) (rws (sA N) 5 0 xk (sW N))).2) N (by exact hN) (by exact fun j _ => rfl)) cal_X4_again gX4_best_X4_again (ci := 4) (q0 := 0) rfl rfl rfl rfl rfl dX4_best_68 ?_
            refine Go.iload_n X 2 dX4_best_71 rfl ?_
            refine Go.iconst X ((-1 : Int32)) dX4_best_72 k_ic_m1 ?_
            refine Go.icmp_ne X 83 dX4_best_73 (by decide) (fun h73 => ?_) (fun h73 => ?_)
            · --
              refine Go.aload_n X 0 dX4_best_83 rfl ?_
              refine Go.get X f_X4_best_41 0 (v := .ref (ad 11)) rfl rfl dX4_best_84 ?_
              refine Go.iload_n X 2 dX4_best_87 rfl ?_
              refine Go.ialdF X 11 (f := (fo N ((-1), lo) (rws (sA N) 5 0 xk (sW N))).2) rfl (by first | omega | (split <;> omega)) rfl dX4_best_88 ?_
              refine Go.top (w := .int (nI ((sbT N xk).2 mk))) (by exact congrArg Value.int (b9.2 mk (by omega))) ?_
              have e9 : x_best (N, K, b, z, le, rf, hd, ln, vl) (nI xk) (nI mk) = ((N, K, b, z, le, rf, hd, ln, vl), (nI ((sbT N xk).2 mk))) := by simp (decide := true) [x_best, rfS, h7, h12, h20, h34, nI_clamp (show xk < 2 ^ 31 by omega), nI_clamp (show mk < 2 ^ 31 by omega)]
              have m9 : mOk (N, K, b, z, le, rf, hd, ln, vl) (6, at1, tk, so, va, lm, ol, encK N, (fo N ((-1), lo) (rws (sA N) 5 0 xk (sW N))).1, (fo N ((-1), lo) (rws (sA N) 5 0 xk (sW N))).2) := ⟨rfl, hm.2.1, hm.2.2⟩
              exact Go.iret X E dX4_best_89 ⟨by rw [e9], _, by rw [e9]; exact m9, by rw [e9]⟩ rfl
            · --
              exact absurd h73.symm (m1_ne (by omega))
          · --
            refine Go.conv (M1 := mdW g ad (stW N (sW N), K, b, z, le, rf, hd, ln, vl) (6, at1, tk, so, va, lm, ol, encK N, (-1), lo)) ?_ (by rfl) rfl rfl
            have b9 := best_eq hN h34 xk1 xk2 (sW N) lo
            rw [hnD] at b9
            refine Go.aload_n X 0 dX4_best_57 rfl ?_
            refine Go.iconst X (nI 0) dX4_best_58 k_ic_0 ?_
            refine Go.iload_n X 1 dX4_best_59 rfl ?_
            refine Go.callV0 X (d_draws_6 g ad N K b z le rf hd ln vl at1 tk so va lm ol (encK N) (sW N) (-1) lo 0 xk (by exact hN) (by omega) (by omega) (by exact o4)) cal_X4_draws gX4_best_X4_draws (ci := 4) (q0 := 0) rfl rfl rfl rfl rfl dX4_best_60 (fun v9 w9 e9 => ?_)
            obtain ⟨rfl, W1_60, hw1_60, hw2_60, rfl⟩ := e9
            show Go Γ g 3 (rmC 17 401) 0 0 (mdW g ad (stW N W1_60, K, b, z, le, rf, hd, ln, vl) (6, at1, tk, so, va, lm, ol, encK N, (fo N ((-1), lo) (rws (sA N) 6 0 xk (sW N))).1, (fo N ((-1), lo) (rws (sA N) 6 0 xk (sW N))).2)) 63 [(0, .ref (ad 0)), (1, .int (nI xk)), (2, .int (nI mk))] []
            refine Go.aload_n X 0 dX4_best_63 rfl ?_
            refine Go.aload_n X 0 dX4_best_64 rfl ?_
            refine Go.get X f_X4_best_38 0 (v := .ref (ad 10)) rfl rfl dX4_best_65 ?_
            refine Go.callV0v X (d_again_ahead g ad (stW N W1_60) K b z le rf hd ln vl 6 at1 tk so va lm ol (encK N) ((fo N ((-1), lo) (rws (sA N) 6 0 xk (sW N))).1) ((fo N ((-1), lo) (rws (sA N) 6 0 xk (sW N))).2) N (by exact hN) (by exact fun j _ => rfl)) cal_X4_again gX4_best_X4_again (ci := 4) (q0 := 0) rfl rfl rfl rfl rfl dX4_best_68 ?_
            refine Go.iload_n X 2 dX4_best_71 rfl ?_
            refine Go.iconst X ((-1 : Int32)) dX4_best_72 k_ic_m1 ?_
            refine Go.icmp_ne X 83 dX4_best_73 (by decide) (fun h73 => ?_) (fun h73 => ?_)
            · --
              refine Go.aload_n X 0 dX4_best_83 rfl ?_
              refine Go.get X f_X4_best_41 0 (v := .ref (ad 11)) rfl rfl dX4_best_84 ?_
              refine Go.iload_n X 2 dX4_best_87 rfl ?_
              refine Go.ialdF X 11 (f := (fo N ((-1), lo) (rws (sA N) 6 0 xk (sW N))).2) rfl (by first | omega | (split <;> omega)) rfl dX4_best_88 ?_
              refine Go.top (w := .int (nI ((sbT N xk).2 mk))) (by exact congrArg Value.int (b9.2 mk (by omega))) ?_
              have e9 : x_best (N, K, b, z, le, rf, hd, ln, vl) (nI xk) (nI mk) = ((N, K, b, z, le, rf, hd, ln, vl), (nI ((sbT N xk).2 mk))) := by simp (decide := true) [x_best, rfS, h7, h12, h20, h34, nI_clamp (show xk < 2 ^ 31 by omega), nI_clamp (show mk < 2 ^ 31 by omega)]
              have m9 : mOk (N, K, b, z, le, rf, hd, ln, vl) (6, at1, tk, so, va, lm, ol, encK N, (fo N ((-1), lo) (rws (sA N) 6 0 xk (sW N))).1, (fo N ((-1), lo) (rws (sA N) 6 0 xk (sW N))).2) := ⟨rfl, hm.2.1, hm.2.2⟩
              exact Go.iret X E dX4_best_89 ⟨by rw [e9], _, by rw [e9]; exact m9, by rw [e9]⟩ rfl
            · --
              exact absurd h73.symm (m1_ne (by omega))
          · --
            refine Go.conv (M1 := mdW g ad (stW N (sW N), K, b, z, le, rf, hd, ln, vl) (6, at1, tk, so, va, lm, ol, encK N, (-1), lo)) ?_ (by rfl) rfl rfl
            have b9 := best_eq hN h34 xk1 xk2 (sW N) lo
            rw [hnD] at b9
            refine Go.aload_n X 0 dX4_best_57 rfl ?_
            refine Go.iconst X (nI 0) dX4_best_58 k_ic_0 ?_
            refine Go.iload_n X 1 dX4_best_59 rfl ?_
            refine Go.callV0 X (d_draws_7 g ad N K b z le rf hd ln vl at1 tk so va lm ol (encK N) (sW N) (-1) lo 0 xk (by exact hN) (by omega) (by omega) (by exact o4)) cal_X4_draws gX4_best_X4_draws (ci := 4) (q0 := 0) rfl rfl rfl rfl rfl dX4_best_60 (fun v9 w9 e9 => ?_)
            obtain ⟨rfl, W1_60, hw1_60, hw2_60, rfl⟩ := e9
            show Go Γ g 3 (rmC 17 401) 0 0 (mdW g ad (stW N W1_60, K, b, z, le, rf, hd, ln, vl) (6, at1, tk, so, va, lm, ol, encK N, (fo N ((-1), lo) (rws (sA N) 7 0 xk (sW N))).1, (fo N ((-1), lo) (rws (sA N) 7 0 xk (sW N))).2)) 63 [(0, .ref (ad 0)), (1, .int (nI xk)), (2, .int (nI mk))] []
            refine Go.aload_n X 0 dX4_best_63 rfl ?_
            refine Go.aload_n X 0 dX4_best_64 rfl ?_
            refine Go.get X f_X4_best_38 0 (v := .ref (ad 10)) rfl rfl dX4_best_65 ?_
            refine Go.callV0v X (d_again_ahead g ad (stW N W1_60) K b z le rf hd ln vl 6 at1 tk so va lm ol (encK N) ((fo N ((-1), lo) (rws (sA N) 7 0 xk (sW N))).1) ((fo N ((-1), lo) (rws (sA N) 7 0 xk (sW N))).2) N (by exact hN) (by exact fun j _ => rfl)) cal_X4_again gX4_best_X4_again (ci := 4) (q0 := 0) rfl rfl rfl rfl rfl dX4_best_68 ?_
            refine Go.iload_n X 2 dX4_best_71 rfl ?_
            refine Go.iconst X ((-1 : Int32)) dX4_best_72 k_ic_m1 ?_
            refine Go.icmp_ne X 83 dX4_best_73 (by decide) (fun h73 => ?_) (fun h73 => ?_)
            · --
              refine Go.aload_n X 0 dX4_best_83 rfl ?_
              refine Go.get X f_X4_best_41 0 (v := .ref (ad 11)) rfl rfl dX4_best_84 ?_
              refine Go.iload_n X 2 dX4_best_87 rfl ?_
              refine Go.ialdF X 11 (f := (fo N ((-1), lo) (rws (sA N) 7 0 xk (sW N))).2) rfl (by first | omega | (split <;> omega)) rfl dX4_best_88 ?_
              refine Go.top (w := .int (nI ((sbT N xk).2 mk))) (by exact congrArg Value.int (b9.2 mk (by omega))) ?_
              have e9 : x_best (N, K, b, z, le, rf, hd, ln, vl) (nI xk) (nI mk) = ((N, K, b, z, le, rf, hd, ln, vl), (nI ((sbT N xk).2 mk))) := by simp (decide := true) [x_best, rfS, h7, h12, h20, h34, nI_clamp (show xk < 2 ^ 31 by omega), nI_clamp (show mk < 2 ^ 31 by omega)]
              have m9 : mOk (N, K, b, z, le, rf, hd, ln, vl) (6, at1, tk, so, va, lm, ol, encK N, (fo N ((-1), lo) (rws (sA N) 7 0 xk (sW N))).1, (fo N ((-1), lo) (rws (sA N) 7 0 xk (sW N))).2) := ⟨rfl, hm.2.1, hm.2.2⟩
              exact Go.iret X E dX4_best_89 ⟨by rw [e9], _, by rw [e9]; exact m9, by rw [e9]⟩ rfl
            · --
              exact absurd h73.symm (m1_ne (by omega))
          · --
            refine Go.conv (M1 := mdW g ad (stW N (sW N), K, b, z, le, rf, hd, ln, vl) (6, at1, tk, so, va, lm, ol, encK N, (-1), lo)) ?_ (by rfl) rfl rfl
            have b9 := best_eq hN h34 xk1 xk2 (sW N) lo
            rw [hnD] at b9
            refine Go.aload_n X 0 dX4_best_57 rfl ?_
            refine Go.iconst X (nI 0) dX4_best_58 k_ic_0 ?_
            refine Go.iload_n X 1 dX4_best_59 rfl ?_
            refine Go.callV0 X (d_draws_8 g ad N K b z le rf hd ln vl at1 tk so va lm ol (encK N) (sW N) (-1) lo 0 xk (by exact hN) (by omega) (by omega) (by exact o4)) cal_X4_draws gX4_best_X4_draws (ci := 4) (q0 := 0) rfl rfl rfl rfl rfl dX4_best_60 (fun v9 w9 e9 => ?_)
            obtain ⟨rfl, W1_60, hw1_60, hw2_60, rfl⟩ := e9
            show Go Γ g 3 (rmC 17 401) 0 0 (mdW g ad (stW N W1_60, K, b, z, le, rf, hd, ln, vl) (6, at1, tk, so, va, lm, ol, encK N, (fo N ((-1), lo) (rws (sA N) 8 0 xk (sW N))).1, (fo N ((-1), lo) (rws (sA N) 8 0 xk (sW N))).2)) 63 [(0, .ref (ad 0)), (1, .int (nI xk)), (2, .int (nI mk))] []
            refine Go.aload_n X 0 dX4_best_63 rfl ?_
            refine Go.aload_n X 0 dX4_best_64 rfl ?_
            refine Go.get X f_X4_best_38 0 (v := .ref (ad 10)) rfl rfl dX4_best_65 ?_
            refine Go.callV0v X (d_again_ahead g ad (stW N W1_60) K b z le rf hd ln vl 6 at1 tk so va lm ol (encK N) ((fo N ((-1), lo) (rws (sA N) 8 0 xk (sW N))).1) ((fo N ((-1), lo) (rws (sA N) 8 0 xk (sW N))).2) N (by exact hN) (by exact fun j _ => rfl)) cal_X4_again gX4_best_X4_again (ci := 4) (q0 := 0) rfl rfl rfl rfl rfl dX4_best_68 ?_
            refine Go.iload_n X 2 dX4_best_71 rfl ?_
            refine Go.iconst X ((-1 : Int32)) dX4_best_72 k_ic_m1 ?_
            refine Go.icmp_ne X 83 dX4_best_73 (by decide) (fun h73 => ?_) (fun h73 => ?_)
            · --
              refine Go.aload_n X 0 dX4_best_83 rfl ?_
              refine Go.get X f_X4_best_41 0 (v := .ref (ad 11)) rfl rfl dX4_best_84 ?_
              refine Go.iload_n X 2 dX4_best_87 rfl ?_
              refine Go.ialdF X 11 (f := (fo N ((-1), lo) (rws (sA N) 8 0 xk (sW N))).2) rfl (by first | omega | (split <;> omega)) rfl dX4_best_88 ?_
              refine Go.top (w := .int (nI ((sbT N xk).2 mk))) (by exact congrArg Value.int (b9.2 mk (by omega))) ?_
              have e9 : x_best (N, K, b, z, le, rf, hd, ln, vl) (nI xk) (nI mk) = ((N, K, b, z, le, rf, hd, ln, vl), (nI ((sbT N xk).2 mk))) := by simp (decide := true) [x_best, rfS, h7, h12, h20, h34, nI_clamp (show xk < 2 ^ 31 by omega), nI_clamp (show mk < 2 ^ 31 by omega)]
              have m9 : mOk (N, K, b, z, le, rf, hd, ln, vl) (6, at1, tk, so, va, lm, ol, encK N, (fo N ((-1), lo) (rws (sA N) 8 0 xk (sW N))).1, (fo N ((-1), lo) (rws (sA N) 8 0 xk (sW N))).2) := ⟨rfl, hm.2.1, hm.2.2⟩
              exact Go.iret X E dX4_best_89 ⟨by rw [e9], _, by rw [e9]; exact m9, by rw [e9]⟩ rfl
            · --
              exact absurd h73.symm (m1_ne (by omega))
          · --
            refine Go.conv (M1 := mdW g ad (stW N (sW N), K, b, z, le, rf, hd, ln, vl) (6, at1, tk, so, va, lm, ol, encK N, (-1), lo)) ?_ (by rfl) rfl rfl
            have b9 := best_eq hN h34 xk1 xk2 (sW N) lo
            rw [hnD] at b9
            refine Go.aload_n X 0 dX4_best_57 rfl ?_
            refine Go.iconst X (nI 0) dX4_best_58 k_ic_0 ?_
            refine Go.iload_n X 1 dX4_best_59 rfl ?_
            refine Go.callV0 X (d_draws_9 g ad N K b z le rf hd ln vl at1 tk so va lm ol (encK N) (sW N) (-1) lo 0 xk (by exact hN) (by omega) (by omega) (by exact o4)) cal_X4_draws gX4_best_X4_draws (ci := 4) (q0 := 0) rfl rfl rfl rfl rfl dX4_best_60 (fun v9 w9 e9 => ?_)
            obtain ⟨rfl, W1_60, hw1_60, hw2_60, rfl⟩ := e9
            show Go Γ g 3 (rmC 17 401) 0 0 (mdW g ad (stW N W1_60, K, b, z, le, rf, hd, ln, vl) (6, at1, tk, so, va, lm, ol, encK N, (fo N ((-1), lo) (rws (sA N) 9 0 xk (sW N))).1, (fo N ((-1), lo) (rws (sA N) 9 0 xk (sW N))).2)) 63 [(0, .ref (ad 0)), (1, .int (nI xk)), (2, .int (nI mk))] []
            refine Go.aload_n X 0 dX4_best_63 rfl ?_
            refine Go.aload_n X 0 dX4_best_64 rfl ?_
            refine Go.get X f_X4_best_38 0 (v := .ref (ad 10)) rfl rfl dX4_best_65 ?_
            refine Go.callV0v X (d_again_ahead g ad (stW N W1_60) K b z le rf hd ln vl 6 at1 tk so va lm ol (encK N) ((fo N ((-1), lo) (rws (sA N) 9 0 xk (sW N))).1) ((fo N ((-1), lo) (rws (sA N) 9 0 xk (sW N))).2) N (by exact hN) (by exact fun j _ => rfl)) cal_X4_again gX4_best_X4_again (ci := 4) (q0 := 0) rfl rfl rfl rfl rfl dX4_best_68 ?_
            refine Go.iload_n X 2 dX4_best_71 rfl ?_
            refine Go.iconst X ((-1 : Int32)) dX4_best_72 k_ic_m1 ?_
            refine Go.icmp_ne X 83 dX4_best_73 (by decide) (fun h73 => ?_) (fun h73 => ?_)
            · --
              refine Go.aload_n X 0 dX4_best_83 rfl ?_
              refine Go.get X f_X4_best_41 0 (v := .ref (ad 11)) rfl rfl dX4_best_84 ?_
              refine Go.iload_n X 2 dX4_best_87 rfl ?_
              refine Go.ialdF X 11 (f := (fo N ((-1), lo) (rws (sA N) 9 0 xk (sW N))).2) rfl (by first | omega | (split <;> omega)) rfl dX4_best_88 ?_
              refine Go.top (w := .int (nI ((sbT N xk).2 mk))) (by exact congrArg Value.int (b9.2 mk (by omega))) ?_
              have e9 : x_best (N, K, b, z, le, rf, hd, ln, vl) (nI xk) (nI mk) = ((N, K, b, z, le, rf, hd, ln, vl), (nI ((sbT N xk).2 mk))) := by simp (decide := true) [x_best, rfS, h7, h12, h20, h34, nI_clamp (show xk < 2 ^ 31 by omega), nI_clamp (show mk < 2 ^ 31 by omega)]
              have m9 : mOk (N, K, b, z, le, rf, hd, ln, vl) (6, at1, tk, so, va, lm, ol, encK N, (fo N ((-1), lo) (rws (sA N) 9 0 xk (sW N))).1, (fo N ((-1), lo) (rws (sA N) 9 0 xk (sW N))).2) := ⟨rfl, hm.2.1, hm.2.2⟩
              exact Go.iret X E dX4_best_89 ⟨by rw [e9], _, by rw [e9]; exact m9, by rw [e9]⟩ rfl
            · --
              exact absurd h73.symm (m1_ne (by omega))
        · --
          refine Go.aload_n X 0 dX4_best_37 rfl ?_
          refine Go.bipush X ((-5 : Int32)) dX4_best_38 k_bp_m5 ?_
          refine Go.callV0i X (d_no_3 g ad N K b z le rf hd ln vl 6 at1 tk so va lm ol ah lt lo) cal_X4_no gX4_best_X4_no (ci := 4) (q0 := 0) rfl rfl rfl rfl rfl dX4_best_40 ?_
          have e9 : x_best (N, K, b, z, le, rf, hd, ln, vl) (nI xk) (nI mk) = ((N, K, b, z, le, inc rf 3, hd, ln, vl), (-5)) := by simp (decide := true) [x_best, rfS, h7, h12, h20, h34, nI_clamp (show xk < 2 ^ 31 by omega), nI_clamp (show mk < 2 ^ 31 by omega)]
          have m9 : mOk (N, K, b, z, le, inc rf 3, hd, ln, vl) (6, at1, tk, so, va, lm, ol, ah, lt, lo) := ⟨rfl, hm.2.1, hm.2.2⟩
          exact Go.iret X E dX4_best_43 ⟨by rw [e9], _, by rw [e9]; exact m9, by rw [e9]⟩ rfl
      · --
        refine Go.aload_n X 0 dX4_best_23 rfl ?_
        refine Go.bipush X ((-2 : Int32)) dX4_best_24 k_bp_m2 ?_
        refine Go.callV0i X (d_no_0 g ad N K b z le rf hd ln vl 6 at1 tk so va lm ol ah lt lo) cal_X4_no gX4_best_X4_no (ci := 4) (q0 := 0) rfl rfl rfl rfl rfl dX4_best_26 ?_
        have e9 : x_best (N, K, b, z, le, rf, hd, ln, vl) (nI xk) m = ((N, K, b, z, le, inc rf 0, hd, ln, vl), (-2)) := by simp (decide := true) [x_best, rfS, h7, h12, h20, nI_clamp (show xk < 2 ^ 31 by omega)]
        have m9 : mOk (N, K, b, z, le, inc rf 0, hd, ln, vl) (6, at1, tk, so, va, lm, ol, ah, lt, lo) := ⟨rfl, hm.2.1, hm.2.2⟩
        exact Go.iret X E dX4_best_29 ⟨by rw [e9], _, by rw [e9]; exact m9, by rw [e9]⟩ rfl
