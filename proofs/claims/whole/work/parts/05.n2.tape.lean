/-! 05.n2.tape -/
theorem f_X2_readHint_76 : FL wsX2_readHint RX2 76 0 0 := ⟨RX0, TX0, 11, rfl, fun _ h => List.mem_cons_of_mem _ (List.mem_append_left _ (List.mem_append_right _ h)), by decide, List.mem_of_getElem? (i := 1) (by decide +kernel)⟩
theorem f_X2_readHint_79 : FL wsX2_readHint RX2 79 0 1 := ⟨RX0, TX0, 11, rfl, fun _ h => List.mem_cons_of_mem _ (List.mem_append_left _ (List.mem_append_right _ h)), by decide, List.mem_of_getElem? (i := 3) (by decide +kernel)⟩
theorem f_X2_readHint_29 : FL wsX2_readHint RX2 29 2 4 := ⟨RX2, TX2, 5, rfl, fun _ h => List.mem_cons_of_mem _ (List.mem_append_right _ h), by decide, List.mem_of_getElem? (i := 2) (by decide +kernel)⟩
theorem cal_X2_isWord : Cal yX2_isWord wsX2_isWord cX2_isWord 3 (some .boolean) RX2 1 := ⟨⟨_, rfl⟩, by decide +kernel⟩
theorem cal_X2_readHint : Cal yX2_readHint wsX2_readHint cX2_readHint 5 (some .boolean) RX2 1 := ⟨⟨_, rfl⟩, by decide +kernel⟩
theorem cal_X2_readPerson : Cal yX2_readPerson wsX2_readPerson cX2_readPerson 4 (some .boolean) RX2 1 := ⟨⟨_, rfl⟩, by decide +kernel⟩
theorem cal_X2_readSaid : Cal yX2_readSaid wsX2_readSaid cX2_readSaid 3 (some .boolean) RX2 1 := ⟨⟨_, rfl⟩, by decide +kernel⟩
theorem cal_X2_readWeight : Cal yX2_readWeight wsX2_readWeight cX2_readWeight 4 (some .boolean) RX2 1 := ⟨⟨_, rfl⟩, by decide +kernel⟩
theorem cal_X2_readNever : Cal yX2_readNever wsX2_readNever cX2_readNever 3 (some .boolean) RX2 1 := ⟨⟨_, rfl⟩, by decide +kernel⟩
theorem cal_X2_readTerm : Cal yX2_readTerm wsX2_readTerm cX2_readTerm 3 (some .boolean) RX2 1 := ⟨⟨_, rfl⟩, by decide +kernel⟩
set_option maxHeartbeats 4000000 in
set_option maxRecDepth 100000 in
theorem c_readHint (g : gT) (a : Nat) (q : Nat) (z : Nat) (le : Nat → Nat) (ts : Nat) (te : Nat) (tk : Nat) (b : Nat) (rw : Nat) (rk : Nat) (rr : Nat) (S : Sch) (hz : z ≤ 250) (hl : ∀ i, i < 250 → le i < 256) (ht : ts ≤ te) (he : te ≤ z) (hk : tk ≤ 4) (hS : sOk S) : Cw g yX2_readHint wsX2_readHint 2 46 [.ref a, .ref b] (tsW g a q z le b rw rk rr (S, ts, te, tk)) (some (.int (b2i (rdH le z S te).1))) (tsW g a q z le b rw rk rr (rdH le z S te).2) := by
  refine Ct.start (cc := cX2_readHint) (nL := 5) (ret := (some .boolean)) (own := RX2) (by decide) rfl rfl rfl ?_
  intro Γ X E
  show Go Γ g 5 (rmC 2 46) 0 0 (tsW g a q z le b rw rk rr (S, ts, te, tk)) 0 [(0, .ref a), (1, .ref b)] []
  obtain ⟨o1, o2, o3, o4, o5, o6, o7, o8⟩ := id hS
  have o9 := p2_9 o2
  have o10 := sA_512 hS
  refine Go.aload_n X 0 dX2_readHint_0 rfl ?_
  refine Go.callVvw X (c_step g a q z le ts te tk (by first | omega | (split <;> omega)) (by first | omega | (split <;> omega)) (by first | omega | (split <;> omega))) cal_X2_step [0, 1] rfl rfl gX2_readHint_X2_step (ci := 2) (q0 := 0) rfl rfl rfl rfl rfl dX2_readHint_1 (M9 := tsW g a q z le b rw rk rr (S, skp le z te, tkE le z te, tkK le z te)) rfl ?_
  have f1_1 := st_le (le := le) (z := z) (e := te) (by omega)
  have f1_2 := tkK_le le z te
  refine Go.iconst X (nI 0) dX2_readHint_4 k_ic_0 ?_
  refine Go.istore_n_new X dX2_readHint_5 (by decide) rfl ?_
  refine Go.iconst X (nI 0) dX2_readHint_6 k_ic_0 ?_
  refine Go.istore_n_new X dX2_readHint_7 (by decide) rfl ?_
  have L8 : ∀ (f8 : Nat) (i : Nat) (s : Nat) (x : Nat) (y : Nat) (w : Nat) (hi : i ≤ sN S + 1) (hs : s < 512) (hp : x ≤ y ∧ y ≤ z ∧ w ≤ 4) (hh : hnF le z (sN S) (sN S + 2 - i) i s (x, y, w) = hnR le z S te) (hf8 : sN S + 2 - i < f8), Go Γ g 5 (rmC 2 46) 0 0 (tsW g a q z le b rw rk rr (S, x, y, w)) 8 [(3, .int (nI i)), (2, .int (nI s)), (0, .ref a), (1, .ref b)] [] := by
    intro f8
    induction f8 with
    | zero => intro i s x y w hi hs hp hh hf8; exact absurd hf8 (Nat.not_lt_zero _)
    | succ f8 ih8 =>
      intro i s x y w hi hs hp hh hf8
      refine Go.iload_n X 0 dX2_readHint_8 rfl ?_
      refine Go.aload_n X 3 dX2_readHint_9 rfl ?_
      refine Go.get X f_X2_readHint_76 2 (v := .int (nI (sN S))) rfl rfl dX2_readHint_10 ?_
      refine Go.icmp_gtN X 75 dX2_readHint_13 (by decide) (by first | omega | (split <;> omega)) (by first | omega | (split <;> omega)) (fun h13 => ?_) (fun h13 => ?_)
      · --
        refine Go.aload_n X 3 dX2_readHint_75 rfl ?_
        refine Go.aload_n X 3 dX2_readHint_76 rfl ?_
        refine Go.get X f_X2_readHint_79 2 (v := .int (nI (sA S))) rfl rfl dX2_readHint_77 ?_
        refine Go.iload_n X 1 dX2_readHint_80 rfl ?_
        refine Go.iand_e X (nI ((sA S) &&& s)) dX2_readHint_81 (nI_and _ _) ?_
        refine Go.putM X f_X2_readHint_79 fp_0_1 2 (tsW g a q z le b rw rk rr ((sN S, (sA S) &&& s, sW S, sD S, sP S, sK S, sO S, sG S, sT S, sF S, sX S), x, y, w)) rfl rfl rfl rfl dX2_readHint_82 rfl ?_
        refine Go.iconst X (nI 1) dX2_readHint_85 k_ic_1 ?_
        have e9 : rdH le z S te = (true, ((sN S, (sA S) &&& s, sW S, sD S, sP S, sK S, sO S, sG S, sT S, sF S, sX S), x, y, w)) := by exact rdH_t (hh.symm.trans (hnF_0 (p := (x, y, w)) (show sN S < i ∨ (¬ i = 0 ∧ ¬ w = 2) by omega)))
        exact Go.nret X E rfl dX2_readHint_86 ⟨by rw [e9]; rfl, by rw [e9]⟩ rfl
      · --
        refine Go.iload_n X 0 dX2_readHint_16 rfl ?_
        refine Go.if_eqN X 28 dX2_readHint_17 (by decide) (by first | omega | (split <;> omega)) (fun h17 => ?_) (fun h17 => ?_)
        · --
          refine Go.aload_n X 2 dX2_readHint_28 rfl ?_
          refine Go.iconst X (nI 0) dX2_readHint_29 k_ic_0 ?_
          refine Go.aload_n X 3 dX2_readHint_30 rfl ?_
          refine Go.get X f_X2_readHint_76 2 (v := .int (nI (sN S))) rfl rfl dX2_readHint_31 ?_
          refine Go.iconst X (nI 1) dX2_readHint_34 k_ic_1 ?_
          refine Go.isub_e X (nI (sN S - 1)) dX2_readHint_35 (pk_sub (by first | omega | (split <;> omega))) ?_
          refine Go.callVi X  (c_numberAtHand g a q z le x y w (nI 0) (nI (sN S - 1)) (by first | omega | (split <;> omega)) (by first | omega | (split <;> omega)) (by first | omega | (split <;> omega)) (by first | omega | (split <;> omega)) (by first | omega | (split <;> omega))) cal_X2_numberAtHand [0, 1] rfl rfl gX2_readHint_X2_numberAtHand (ci := 2) (q0 := 0) rfl rfl rfl rfl rfl dX2_readHint_36 ?_
          refine Go.istore_new X dX2_readHint_39 (by decide) rfl ?_
          refine Go.iload X 0 dX2_readHint_41 rfl ?_
          refine Go.iconst X ((-1 : Int32)) dX2_readHint_43 k_ic_m1 ?_
          refine Go.icmp_eq X 56 dX2_readHint_44 (by decide) (fun h44 => ?_) (fun h44 => ?_)
          · --
            refine Go.iconst X (nI 0) dX2_readHint_56 k_ic_0 ?_
            have e9 : rdH le z S te = (false, (S, x, y, w)) := by exact rdH_f (hh.symm.trans (hnF_n (p := (x, y, w)) (by omega) (show ¬ (sN S < i ∨ (¬ i = 0 ∧ ¬ w = 2)) by omega) h44))
            exact Go.nret X E rfl dX2_readHint_57 ⟨by rw [e9]; rfl, by rw [e9]⟩ rfl
          · --
            obtain ⟨j, hj, ej⟩ := numH_at (a := 0) (b := sN S - 1) (by omega) (by omega) h44
            refine Go.lv_0 (w := .int (nI j)) (by rw [ej]) ?_
            refine Go.iload_n X 2 dX2_readHint_47 rfl ?_
            refine Go.iload X 0 dX2_readHint_48 rfl ?_
            refine Go.callSNi X  (c_isIn g s j (by first | omega | (split <;> omega)) (by first | omega | (split <;> omega))) cal_X3_isIn [] rfl rfl gX2_readHint_X3_isIn_n97 (by decide) (List.mem_of_getElem? (i := 24) (by decide +kernel)) (List.mem_of_getElem? (i := 26) (by decide +kernel)) rfl rfl rfl dX2_readHint_50 ?_
            refine Go.if_eqB X 58 dX2_readHint_53 (by decide) (fun h53 => ?_) (fun h53 => ?_)
            · --
              refine Go.iload_n X 2 dX2_readHint_58 rfl ?_
              refine Go.iconst X (nI 1) dX2_readHint_59 k_ic_1 ?_
              refine Go.iload X 0 dX2_readHint_60 rfl ?_
              refine Go.ishl_e X (nI (2 ^ j)) dX2_readHint_62 (nI_shl1 (by first | omega | (split <;> omega))) ?_
              refine Go.ior_e X (nI (s ||| (2 ^ j))) dX2_readHint_63 (nI_or _ _) ?_
              refine Go.istore_n_2 X dX2_readHint_64 (by decide) rfl ?_
              have q8 := hp.2.1
              refine Go.aload_n X 3 dX2_readHint_65 rfl ?_
              refine Go.callVvw X (c_step g a q z le x y w (by first | omega | (split <;> omega)) (by first | omega | (split <;> omega)) (by first | omega | (split <;> omega))) cal_X2_step [0, 1] rfl rfl gX2_readHint_X2_step (ci := 2) (q0 := 0) rfl rfl rfl rfl rfl dX2_readHint_66 (M9 := tsW g a q z le b rw rk rr (S, skp le z y, tkE le z y, tkK le z y)) rfl ?_
              have f66_3 := st_le (le := le) (z := z) (e := y) (by omega)
              have f66_4 := tkK_le le z y
              refine Go.iinc_1 X (nI (i + 1)) dX2_readHint_69 (by decide) rfl (show nI i + Int32.ofInt 1 = nI (i + 1) from nI_add _ 1) ?_
              refine Go.goto X 8 dX2_readHint_72 (by decide) ?_
              refine Go.lv_2 (congrArg (fun z => Value.int (nI z)) (show s ||| (2 ^ j) = (s ||| 2 ^ j) from by rfl)) ?_
              refine Go.conv (M1 := tsW g a q z le b rw rk rr (S, (skp le z y), (tkE le z y), (tkK le z y))) ?_ (by rfl) rfl rfl
              refine Go.sub [1, 2, 3, 4] rfl ?_
              exact ih8 (i + 1) (s ||| 2 ^ j) (skp le z y) (tkE le z y) (tkK le z y) (by first | omega | (split <;> omega)) (by exact Nat.or_lt_two_pow (n := 9) hs (Nat.pow_lt_pow_right (by decide) (by omega))) (by omega) (by rw [← hh, hnF_s (p := (x, y, w)) (by omega) (show ¬ (sN S < i ∨ (¬ i = 0 ∧ ¬ w = 2)) by omega) ej (by omega) h53]; rfl) (by first | omega | (split <;> omega))
            · --
              refine Go.iconst X (nI 0) dX2_readHint_56 k_ic_0 ?_
              have e9 : rdH le z S te = (false, (S, x, y, w)) := by exact rdH_f (hh.symm.trans (hnF_b (p := (x, y, w)) (by omega) (show ¬ (sN S < i ∨ (¬ i = 0 ∧ ¬ w = 2)) by omega) ej (by omega) h53))
              exact Go.nret X E rfl dX2_readHint_57 ⟨by rw [e9]; rfl, by rw [e9]⟩ rfl
        · --
          refine Go.aload_n X 2 dX2_readHint_20 rfl ?_
          refine Go.get X f_X2_readHint_29 0 (v := .int (nI w)) rfl rfl dX2_readHint_21 ?_
          refine Go.iconst X (nI 2) dX2_readHint_24 k_ic_2 ?_
          refine Go.icmp_neN X 75 dX2_readHint_25 (by decide) (by first | omega | (split <;> omega)) (by decide) (fun h25 => ?_) (fun h25 => ?_)
          · --
            refine Go.aload_n X 3 dX2_readHint_75 rfl ?_
            refine Go.aload_n X 3 dX2_readHint_76 rfl ?_
            refine Go.get X f_X2_readHint_79 2 (v := .int (nI (sA S))) rfl rfl dX2_readHint_77 ?_
            refine Go.iload_n X 1 dX2_readHint_80 rfl ?_
            refine Go.iand_e X (nI ((sA S) &&& s)) dX2_readHint_81 (nI_and _ _) ?_
            refine Go.putM X f_X2_readHint_79 fp_0_1 2 (tsW g a q z le b rw rk rr ((sN S, (sA S) &&& s, sW S, sD S, sP S, sK S, sO S, sG S, sT S, sF S, sX S), x, y, w)) rfl rfl rfl rfl dX2_readHint_82 rfl ?_
            refine Go.iconst X (nI 1) dX2_readHint_85 k_ic_1 ?_
            have e9 : rdH le z S te = (true, ((sN S, (sA S) &&& s, sW S, sD S, sP S, sK S, sO S, sG S, sT S, sF S, sX S), x, y, w)) := by exact rdH_t (hh.symm.trans (hnF_0 (p := (x, y, w)) (show sN S < i ∨ (¬ i = 0 ∧ ¬ w = 2) by omega)))
            exact Go.nret X E rfl dX2_readHint_86 ⟨by rw [e9]; rfl, by rw [e9]⟩ rfl
          · --
            refine Go.aload_n X 2 dX2_readHint_28 rfl ?_
            refine Go.iconst X (nI 0) dX2_readHint_29 k_ic_0 ?_
            refine Go.aload_n X 3 dX2_readHint_30 rfl ?_
            refine Go.get X f_X2_readHint_76 2 (v := .int (nI (sN S))) rfl rfl dX2_readHint_31 ?_
            refine Go.iconst X (nI 1) dX2_readHint_34 k_ic_1 ?_
            refine Go.isub_e X (nI (sN S - 1)) dX2_readHint_35 (pk_sub (by first | omega | (split <;> omega))) ?_
            refine Go.callVi X  (c_numberAtHand g a q z le x y w (nI 0) (nI (sN S - 1)) (by first | omega | (split <;> omega)) (by first | omega | (split <;> omega)) (by first | omega | (split <;> omega)) (by first | omega | (split <;> omega)) (by first | omega | (split <;> omega))) cal_X2_numberAtHand [0, 1] rfl rfl gX2_readHint_X2_numberAtHand (ci := 2) (q0 := 0) rfl rfl rfl rfl rfl dX2_readHint_36 ?_
            refine Go.istore_new X dX2_readHint_39 (by decide) rfl ?_
            refine Go.iload X 0 dX2_readHint_41 rfl ?_
            refine Go.iconst X ((-1 : Int32)) dX2_readHint_43 k_ic_m1 ?_
            refine Go.icmp_eq X 56 dX2_readHint_44 (by decide) (fun h44 => ?_) (fun h44 => ?_)
            · --
              refine Go.iconst X (nI 0) dX2_readHint_56 k_ic_0 ?_
              have e9 : rdH le z S te = (false, (S, x, y, w)) := by exact rdH_f (hh.symm.trans (hnF_n (p := (x, y, w)) (by omega) (show ¬ (sN S < i ∨ (¬ i = 0 ∧ ¬ w = 2)) by omega) h44))
              exact Go.nret X E rfl dX2_readHint_57 ⟨by rw [e9]; rfl, by rw [e9]⟩ rfl
            · --
              obtain ⟨j, hj, ej⟩ := numH_at (a := 0) (b := sN S - 1) (by omega) (by omega) h44
              refine Go.lv_0 (w := .int (nI j)) (by rw [ej]) ?_
              refine Go.iload_n X 2 dX2_readHint_47 rfl ?_
              refine Go.iload X 0 dX2_readHint_48 rfl ?_
              refine Go.callSNi X  (c_isIn g s j (by first | omega | (split <;> omega)) (by first | omega | (split <;> omega))) cal_X3_isIn [] rfl rfl gX2_readHint_X3_isIn_n97 (by decide) (List.mem_of_getElem? (i := 24) (by decide +kernel)) (List.mem_of_getElem? (i := 26) (by decide +kernel)) rfl rfl rfl dX2_readHint_50 ?_
              refine Go.if_eqB X 58 dX2_readHint_53 (by decide) (fun h53 => ?_) (fun h53 => ?_)
              · --
                refine Go.iload_n X 2 dX2_readHint_58 rfl ?_
                refine Go.iconst X (nI 1) dX2_readHint_59 k_ic_1 ?_
                refine Go.iload X 0 dX2_readHint_60 rfl ?_
                refine Go.ishl_e X (nI (2 ^ j)) dX2_readHint_62 (nI_shl1 (by first | omega | (split <;> omega))) ?_
                refine Go.ior_e X (nI (s ||| (2 ^ j))) dX2_readHint_63 (nI_or _ _) ?_
                refine Go.istore_n_2 X dX2_readHint_64 (by decide) rfl ?_
                have q8 := hp.2.1
                refine Go.aload_n X 3 dX2_readHint_65 rfl ?_
                refine Go.callVvw X (c_step g a q z le x y w (by first | omega | (split <;> omega)) (by first | omega | (split <;> omega)) (by first | omega | (split <;> omega))) cal_X2_step [0, 1] rfl rfl gX2_readHint_X2_step (ci := 2) (q0 := 0) rfl rfl rfl rfl rfl dX2_readHint_66 (M9 := tsW g a q z le b rw rk rr (S, skp le z y, tkE le z y, tkK le z y)) rfl ?_
                have f66_5 := st_le (le := le) (z := z) (e := y) (by omega)
                have f66_6 := tkK_le le z y
                refine Go.iinc_1 X (nI (i + 1)) dX2_readHint_69 (by decide) rfl (show nI i + Int32.ofInt 1 = nI (i + 1) from nI_add _ 1) ?_
                refine Go.goto X 8 dX2_readHint_72 (by decide) ?_
                refine Go.lv_2 (congrArg (fun z => Value.int (nI z)) (show s ||| (2 ^ j) = (s ||| 2 ^ j) from by rfl)) ?_
                refine Go.conv (M1 := tsW g a q z le b rw rk rr (S, (skp le z y), (tkE le z y), (tkK le z y))) ?_ (by rfl) rfl rfl
                refine Go.sub [1, 2, 3, 4] rfl ?_
                exact ih8 (i + 1) (s ||| 2 ^ j) (skp le z y) (tkE le z y) (tkK le z y) (by first | omega | (split <;> omega)) (by exact Nat.or_lt_two_pow (n := 9) hs (Nat.pow_lt_pow_right (by decide) (by omega))) (by omega) (by rw [← hh, hnF_s (p := (x, y, w)) (by omega) (show ¬ (sN S < i ∨ (¬ i = 0 ∧ ¬ w = 2)) by omega) ej (by omega) h53]; rfl) (by first | omega | (split <;> omega))
              · --
                refine Go.iconst X (nI 0) dX2_readHint_56 k_ic_0 ?_
                have e9 : rdH le z S te = (false, (S, x, y, w)) := by exact rdH_f (hh.symm.trans (hnF_b (p := (x, y, w)) (by omega) (show ¬ (sN S < i ∨ (¬ i = 0 ∧ ¬ w = 2)) by omega) ej (by omega) h53))
                exact Go.nret X E rfl dX2_readHint_57 ⟨by rw [e9]; rfl, by rw [e9]⟩ rfl
  refine Go.conv (M1 := tsW g a q z le b rw rk rr (S, (skp le z te), (tkE le z te), (tkK le z te))) ?_ (by rfl) rfl rfl
  exact L8 (sN S + 2 - 0 + 1) 0 0 (skp le z te) (tkE le z te) (tkK le z te) (by first | omega | (split <;> omega)) (by decide) (by omega) (by rfl) (Nat.lt_succ_self _)
set_option maxHeartbeats 4000000 in
set_option maxRecDepth 100000 in
theorem c_readStatement (g : gT) (a : Nat) (q : Nat) (z : Nat) (le : Nat → Nat) (ts : Nat) (te : Nat) (tk : Nat) (b : Nat) (rw : Nat) (rk : Nat) (rr : Nat) (S : Sch) (hz : z ≤ 250) (hl : ∀ i, i < 250 → le i < 256) (ht : ts ≤ te) (he : te ≤ z) (hk : tk ≤ 4) (hS : sOk S) : Cw g yX2_readStatement wsX2_readStatement 5 107 [.ref a, .ref b] (tsW g a q z le b rw rk rr (S, ts, te, tk)) (some (.int (b2i (rdX le z S (ts, te, tk)).1))) (tsW g a q z le b rw rk rr (rdX le z S (ts, te, tk)).2) := by
  refine Ct.start (cc := cX2_readStatement) (nL := 2) (ret := (some .boolean)) (own := RX2) (by decide) rfl rfl rfl ?_
  intro Γ X E
  show Go Γ g 2 (rmC 5 107) 0 0 (tsW g a q z le b rw rk rr (S, ts, te, tk)) 0 [(0, .ref a), (1, .ref b)] []
  obtain ⟨o1, o2, o3, o4, o5, o6, o7, o8⟩ := id hS
  have o9 := p2_9 o2
  have o10 := sA_512 hS
  refine Go.aload_n X 0 dX2_readStatement_0 rfl ?_
  refine Go.ldcS X "term" (i := 0) (by decide) dX2_readStatement_1 ?_
  refine Go.callVi X  (c_isWord g a q z le ts te tk 0 (by first | omega | (split <;> omega)) (by first | omega | (split <;> omega)) (by first | omega | (split <;> omega)) (by first | omega | (split <;> omega)) (by first | omega | (split <;> omega)) (by first | omega | (split <;> omega))) cal_X2_isWord [0, 1] rfl rfl gX2_readStatement_X2_isWord (ci := 2) (q0 := 0) rfl rfl rfl rfl rfl dX2_readStatement_3 ?_
  refine Go.if_eqB X 15 dX2_readStatement_6 (by decide) (fun h6 => ?_) (fun h6 => ?_)
  · --
    refine Go.aload_n X 0 dX2_readStatement_15 rfl ?_
    refine Go.ldcS X "never" (i := 1) (by decide) dX2_readStatement_16 ?_
    refine Go.callVi X  (c_isWord g a q z le ts te tk 1 (by first | omega | (split <;> omega)) (by first | omega | (split <;> omega)) (by first | omega | (split <;> omega)) (by first | omega | (split <;> omega)) (by first | omega | (split <;> omega)) (by first | omega | (split <;> omega))) cal_X2_isWord [0, 1] rfl rfl gX2_readStatement_X2_isWord (ci := 2) (q0 := 0) rfl rfl rfl rfl rfl dX2_readStatement_18 ?_
    refine Go.if_eqB X 30 dX2_readStatement_21 (by decide) (fun h21 => ?_) (fun h21 => ?_)
    · --
      refine Go.aload_n X 0 dX2_readStatement_30 rfl ?_
      refine Go.ldcS X "weight" (i := 2) (by decide) dX2_readStatement_31 ?_
      refine Go.callVi X  (c_isWord g a q z le ts te tk 2 (by first | omega | (split <;> omega)) (by first | omega | (split <;> omega)) (by first | omega | (split <;> omega)) (by first | omega | (split <;> omega)) (by first | omega | (split <;> omega)) (by first | omega | (split <;> omega))) cal_X2_isWord [0, 1] rfl rfl gX2_readStatement_X2_isWord (ci := 2) (q0 := 0) rfl rfl rfl rfl rfl dX2_readStatement_33 ?_
      refine Go.if_eqB X 45 dX2_readStatement_36 (by decide) (fun h36 => ?_) (fun h36 => ?_)
      · --
        refine Go.aload_n X 0 dX2_readStatement_45 rfl ?_
        refine Go.ldcS X "said" (i := 3) (by decide) dX2_readStatement_46 ?_
        refine Go.callVi X  (c_isWord g a q z le ts te tk 3 (by first | omega | (split <;> omega)) (by first | omega | (split <;> omega)) (by first | omega | (split <;> omega)) (by first | omega | (split <;> omega)) (by first | omega | (split <;> omega)) (by first | omega | (split <;> omega))) cal_X2_isWord [0, 1] rfl rfl gX2_readStatement_X2_isWord (ci := 2) (q0 := 0) rfl rfl rfl rfl rfl dX2_readStatement_48 ?_
        refine Go.if_eqB X 60 dX2_readStatement_51 (by decide) (fun h51 => ?_) (fun h51 => ?_)
        · --
          refine Go.aload_n X 0 dX2_readStatement_60 rfl ?_
          refine Go.ldcS X "person" (i := 4) (by decide) dX2_readStatement_61 ?_
          refine Go.callVi X  (c_isWord g a q z le ts te tk 4 (by first | omega | (split <;> omega)) (by first | omega | (split <;> omega)) (by first | omega | (split <;> omega)) (by first | omega | (split <;> omega)) (by first | omega | (split <;> omega)) (by first | omega | (split <;> omega))) cal_X2_isWord [0, 1] rfl rfl gX2_readStatement_X2_isWord (ci := 2) (q0 := 0) rfl rfl rfl rfl rfl dX2_readStatement_63 ?_
          refine Go.if_eqB X 75 dX2_readStatement_66 (by decide) (fun h66 => ?_) (fun h66 => ?_)
          · --
            refine Go.aload_n X 0 dX2_readStatement_75 rfl ?_
            refine Go.ldcS X "hint" (i := 5) (by decide) dX2_readStatement_76 ?_
            refine Go.callVi X  (c_isWord g a q z le ts te tk 5 (by first | omega | (split <;> omega)) (by first | omega | (split <;> omega)) (by first | omega | (split <;> omega)) (by first | omega | (split <;> omega)) (by first | omega | (split <;> omega)) (by first | omega | (split <;> omega))) cal_X2_isWord [0, 1] rfl rfl gX2_readStatement_X2_isWord (ci := 2) (q0 := 0) rfl rfl rfl rfl rfl dX2_readStatement_78 ?_
            refine Go.if_eqB X 96 dX2_readStatement_81 (by decide) (fun h81 => ?_) (fun h81 => ?_)
            · --
              refine Go.iconst X (nI 0) dX2_readStatement_96 k_ic_0 ?_
              have e9 : rdX le z S (ts, te, tk) = (false, (S, ts, te, tk)) := by unfold rdX; rw [if_neg (show ¬ wrd le ts te tk 0 = true by rw [h6]; decide), if_neg (show ¬ wrd le ts te tk 1 = true by rw [h21]; decide), if_neg (show ¬ wrd le ts te tk 2 = true by rw [h36]; decide), if_neg (show ¬ wrd le ts te tk 3 = true by rw [h51]; decide), if_neg (show ¬ wrd le ts te tk 4 = true by rw [h66]; decide), if_neg (show ¬ wrd le ts te tk 5 = true by rw [h81]; decide)]
              exact Go.nret X E rfl dX2_readStatement_97 ⟨by rw [e9]; rfl, by rw [e9]⟩ rfl
            · --
              refine Go.aload_n X 0 dX2_readStatement_84 rfl ?_
              refine Go.aload_n X 1 dX2_readStatement_85 rfl ?_
              refine Go.callV0i X (c_readHint g _ _ z le ts te tk _ _ _ _ S (by first | omega | (split <;> omega)) (by first | omega | (split <;> omega)) (by first | omega | (split <;> omega)) (by first | omega | (split <;> omega)) (by first | omega | (split <;> omega)) (by exact hS)) cal_X2_readHint gX2_readStatement_X2_readHint (ci := 2) (q0 := 0) rfl rfl rfl rfl rfl dX2_readStatement_86 ?_
              refine Go.if_eqB X 96 dX2_readStatement_89 (by decide) (fun h89 => ?_) (fun h89 => ?_)
              · --
                refine Go.iconst X (nI 0) dX2_readStatement_96 k_ic_0 ?_
                have e9 : rdX le z S (ts, te, tk) = (false, ((rdH le z S te).2.1, (rdH le z S te).2.2.1, (rdH le z S te).2.2.2.1, (rdH le z S te).2.2.2.2)) := by exact (show rdX le z S (ts, te, tk) = rdH le z S te from by unfold rdX; rw [if_neg (show ¬ wrd le ts te tk 0 = true by rw [h6]; decide), if_neg (show ¬ wrd le ts te tk 1 = true by rw [h21]; decide), if_neg (show ¬ wrd le ts te tk 2 = true by rw [h36]; decide), if_neg (show ¬ wrd le ts te tk 3 = true by rw [h51]; decide), if_neg (show ¬ wrd le ts te tk 4 = true by rw [h66]; decide), if_pos (show wrd le ts te tk 5 = true from h81)]).trans (Prod.ext h89 rfl)
                exact Go.nret X E rfl dX2_readStatement_97 ⟨by rw [e9]; rfl, by rw [e9]⟩ rfl
              · --
                refine Go.iconst X (nI 1) dX2_readStatement_92 k_ic_1 ?_
                refine Go.goto X 97 dX2_readStatement_93 (by decide) ?_
                have e9 : rdX le z S (ts, te, tk) = (true, ((rdH le z S te).2.1, (rdH le z S te).2.2.1, (rdH le z S te).2.2.2.1, (rdH le z S te).2.2.2.2)) := by exact (show rdX le z S (ts, te, tk) = rdH le z S te from by unfold rdX; rw [if_neg (show ¬ wrd le ts te tk 0 = true by rw [h6]; decide), if_neg (show ¬ wrd le ts te tk 1 = true by rw [h21]; decide), if_neg (show ¬ wrd le ts te tk 2 = true by rw [h36]; decide), if_neg (show ¬ wrd le ts te tk 3 = true by rw [h51]; decide), if_neg (show ¬ wrd le ts te tk 4 = true by rw [h66]; decide), if_pos (show wrd le ts te tk 5 = true from h81)]).trans (Prod.ext h89 rfl)
                exact Go.nret X E rfl dX2_readStatement_97 ⟨by rw [e9]; rfl, by rw [e9]⟩ rfl
          · --
            refine Go.aload_n X 0 dX2_readStatement_69 rfl ?_
            refine Go.aload_n X 1 dX2_readStatement_70 rfl ?_
            refine Go.callV0i X (c_readPerson g _ _ z le ts te tk _ _ _ _ S (by first | omega | (split <;> omega)) (by first | omega | (split <;> omega)) (by first | omega | (split <;> omega)) (by first | omega | (split <;> omega)) (by first | omega | (split <;> omega)) (by exact hS)) cal_X2_readPerson gX2_readStatement_X2_readPerson (ci := 2) (q0 := 0) rfl rfl rfl rfl rfl dX2_readStatement_71 ?_
            have e9 : rdX le z S (ts, te, tk) = ((rdP le z S (ts, te, tk)).1, ((rdP le z S (ts, te, tk)).2.1, (rdP le z S (ts, te, tk)).2.2.1, (rdP le z S (ts, te, tk)).2.2.2.1, (rdP le z S (ts, te, tk)).2.2.2.2)) := by exact (show rdX le z S (ts, te, tk) = rdP le z S (ts, te, tk) from by unfold rdX; rw [if_neg (show ¬ wrd le ts te tk 0 = true by rw [h6]; decide), if_neg (show ¬ wrd le ts te tk 1 = true by rw [h21]; decide), if_neg (show ¬ wrd le ts te tk 2 = true by rw [h36]; decide), if_neg (show ¬ wrd le ts te tk 3 = true by rw [h51]; decide), if_pos (show wrd le ts te tk 4 = true from h66)])
            exact Go.nret X E (b2i_nar _) dX2_readStatement_74 ⟨by rw [e9], by rw [e9]⟩ rfl
        · --
          refine Go.aload_n X 0 dX2_readStatement_54 rfl ?_
          refine Go.aload_n X 1 dX2_readStatement_55 rfl ?_
          refine Go.callV0i X (c_readSaid g _ _ z le ts te tk _ _ _ _ S (by first | omega | (split <;> omega)) (by first | omega | (split <;> omega)) (by first | omega | (split <;> omega)) (by first | omega | (split <;> omega)) (by first | omega | (split <;> omega)) (by exact hS)) cal_X2_readSaid gX2_readStatement_X2_readSaid (ci := 2) (q0 := 0) rfl rfl rfl rfl rfl dX2_readStatement_56 ?_
          have e9 : rdX le z S (ts, te, tk) = ((rdS le z S te).1, ((rdS le z S te).2.1, (rdS le z S te).2.2.1, (rdS le z S te).2.2.2.1, (rdS le z S te).2.2.2.2)) := by exact (show rdX le z S (ts, te, tk) = rdS le z S te from by unfold rdX; rw [if_neg (show ¬ wrd le ts te tk 0 = true by rw [h6]; decide), if_neg (show ¬ wrd le ts te tk 1 = true by rw [h21]; decide), if_neg (show ¬ wrd le ts te tk 2 = true by rw [h36]; decide), if_pos (show wrd le ts te tk 3 = true from h51)])
          exact Go.nret X E (b2i_nar _) dX2_readStatement_59 ⟨by rw [e9], by rw [e9]⟩ rfl
      · --
        refine Go.aload_n X 0 dX2_readStatement_39 rfl ?_
        refine Go.aload_n X 1 dX2_readStatement_40 rfl ?_
        refine Go.callV0i X (c_readWeight g _ _ z le ts te tk _ _ _ _ S (by first | omega | (split <;> omega)) (by first | omega | (split <;> omega)) (by first | omega | (split <;> omega)) (by first | omega | (split <;> omega)) (by first | omega | (split <;> omega)) (by exact hS)) cal_X2_readWeight gX2_readStatement_X2_readWeight (ci := 2) (q0 := 0) rfl rfl rfl rfl rfl dX2_readStatement_41 ?_
        have e9 : rdX le z S (ts, te, tk) = ((rdW le z S te).1, ((rdW le z S te).2.1, (rdW le z S te).2.2.1, (rdW le z S te).2.2.2.1, (rdW le z S te).2.2.2.2)) := by exact (show rdX le z S (ts, te, tk) = rdW le z S te from by unfold rdX; rw [if_neg (show ¬ wrd le ts te tk 0 = true by rw [h6]; decide), if_neg (show ¬ wrd le ts te tk 1 = true by rw [h21]; decide), if_pos (show wrd le ts te tk 2 = true from h36)])
        exact Go.nret X E (b2i_nar _) dX2_readStatement_44 ⟨by rw [e9], by rw [e9]⟩ rfl
    · --
      refine Go.aload_n X 0 dX2_readStatement_24 rfl ?_
      refine Go.aload_n X 1 dX2_readStatement_25 rfl ?_
      refine Go.callV0i X (c_readNever g _ _ z le ts te tk _ _ _ _ S (by first | omega | (split <;> omega)) (by first | omega | (split <;> omega)) (by first | omega | (split <;> omega)) (by first | omega | (split <;> omega)) (by first | omega | (split <;> omega)) (by exact hS)) cal_X2_readNever gX2_readStatement_X2_readNever (ci := 2) (q0 := 0) rfl rfl rfl rfl rfl dX2_readStatement_26 ?_
      have e9 : rdX le z S (ts, te, tk) = ((rdN le z S te).1, ((rdN le z S te).2.1, (rdN le z S te).2.2.1, (rdN le z S te).2.2.2.1, (rdN le z S te).2.2.2.2)) := by exact (show rdX le z S (ts, te, tk) = rdN le z S te from by unfold rdX; rw [if_neg (show ¬ wrd le ts te tk 0 = true by rw [h6]; decide), if_pos (show wrd le ts te tk 1 = true from h21)])
      exact Go.nret X E (b2i_nar _) dX2_readStatement_29 ⟨by rw [e9], by rw [e9]⟩ rfl
  · --
    refine Go.aload_n X 0 dX2_readStatement_9 rfl ?_
    refine Go.aload_n X 1 dX2_readStatement_10 rfl ?_
    refine Go.callV0i X (c_readTerm g _ _ z le ts te tk _ _ _ _ S (by first | omega | (split <;> omega)) (by first | omega | (split <;> omega)) (by first | omega | (split <;> omega)) (by first | omega | (split <;> omega)) (by first | omega | (split <;> omega)) (by exact hS)) cal_X2_readTerm gX2_readStatement_X2_readTerm (ci := 2) (q0 := 0) rfl rfl rfl rfl rfl dX2_readStatement_11 ?_
    have e9 : rdX le z S (ts, te, tk) = ((rdT le z S te).1, ((rdT le z S te).2.1, (rdT le z S te).2.2.1, (rdT le z S te).2.2.2.1, (rdT le z S te).2.2.2.2)) := by exact (show rdX le z S (ts, te, tk) = rdT le z S te from by unfold rdX; rw [if_pos (show wrd le ts te tk 0 = true from h6)])
    exact Go.nret X E (b2i_nar _) dX2_readStatement_14 ⟨by rw [e9], by rw [e9]⟩ rfl
