/-! 06.m9.model -/
theorem f_X4_draw_52 : FL wsX4_draw RX4 52 4 13 := ⟨RX4, TX4, 27, rfl, fun _ h => List.mem_cons_of_mem _ (List.mem_append_right _ h), by decide, List.mem_of_getElem? (i := 1) (by decide +kernel)⟩
theorem f_X4_ring_111 : FL wsX4_ring RX4 111 4 4 := ⟨RX4, TX4, 27, rfl, fun _ h => List.mem_cons_of_mem _ (List.mem_append_right _ h), by decide, List.mem_of_getElem? (i := 1) (by decide +kernel)⟩
theorem cal_X4_draw : Cal yX4_draw wsX4_draw cX4_draw 2 (some .int) RX4 1 := ⟨⟨_, rfl⟩, by decide +kernel⟩
theorem f_X4_ring_20 : FL wsX4_ring RX4 20 4 5 := ⟨RX4, TX4, 27, rfl, fun _ h => List.mem_cons_of_mem _ (List.mem_append_right _ h), by decide, List.mem_of_getElem? (i := 2) (by decide +kernel)⟩
theorem f_X4_ring_262 : FL wsX4_ring RX4 262 4 11 := ⟨RX4, TX4, 27, rfl, fun _ h => List.mem_cons_of_mem _ (List.mem_append_right _ h), by decide, List.mem_of_getElem? (i := 3) (by decide +kernel)⟩
theorem f_X4_ring_59 : FL wsX4_ring RX4 59 4 7 := ⟨RX4, TX4, 27, rfl, fun _ h => List.mem_cons_of_mem _ (List.mem_append_right _ h), by decide, List.mem_of_getElem? (i := 4) (by decide +kernel)⟩
theorem f_X4_ring_268 : FL wsX4_ring RX4 268 4 10 := ⟨RX4, TX4, 27, rfl, fun _ h => List.mem_cons_of_mem _ (List.mem_append_right _ h), by decide, List.mem_of_getElem? (i := 6) (by decide +kernel)⟩
theorem f_X4_ring_265 : FL wsX4_ring RX4 265 4 12 := ⟨RX4, TX4, 27, rfl, fun _ h => List.mem_cons_of_mem _ (List.mem_append_right _ h), by decide, List.mem_of_getElem? (i := 5) (by decide +kernel)⟩
theorem f_X4_rings_111 : FL wsX4_rings RX4 111 4 4 := ⟨RX4, TX4, 27, rfl, fun _ h => List.mem_cons_of_mem _ (List.mem_append_right _ h), by decide, List.mem_of_getElem? (i := 1) (by decide +kernel)⟩
theorem f_X4_rings_265 : FL wsX4_rings RX4 265 4 12 := ⟨RX4, TX4, 27, rfl, fun _ h => List.mem_cons_of_mem _ (List.mem_append_right _ h), by decide, List.mem_of_getElem? (i := 2) (by decide +kernel)⟩
theorem cal_X4_ring : Cal yX4_ring wsX4_ring cX4_ring 5 (some .int) RX4 0 := ⟨⟨_, rfl⟩, by decide +kernel⟩
set_option maxHeartbeats 4000000 in
set_option maxRecDepth 100000 in
theorem d_draw (g : gT) (ad : Nat → Nat) (N : Sch) (K : Sch) (b : Bool) (z : Nat) (le : Nat → Nat) (rf : Nat → Int32) (hd : Nat → Int32) (ln : Nat → Nat) (vl : Nat → Nat → Int64) (at1 : Nat) (tk : Nat) (so : Int32) (va : Int32) (lm : Nat → Nat) (ol : Nat → Int32) (ah : Nat → Int32) (lt : Int32) (lo : Nat → Int32) (n : Nat) (h0 : 0 < n) (hn : n < 2 ^ 31) : Cw g yX4_draw wsX4_draw 0 0 [.ref (ad 0), .int (nI n)] (mdW g ad (N, K, b, z, le, rf, hd, ln, vl) (6, at1, tk, so, va, lm, ol, ah, lt, lo)) (some (.int (nI ((ush (nxt (sG N))) % n)))) (mdW g ad ((sN N, sA N, sW N, sD N, sP N, sK N, sO N, nxt (sG N), sT N, sF N, sX N), K, b, z, le, rf, hd, ln, vl) (6, at1, tk, so, va, lm, ol, ah, lt, lo)) := by
  refine Ct.start (cc := cX4_draw) (nL := 2) (ret := (some .int)) (own := RX4) (by decide) rfl rfl rfl ?_
  intro Γ X E
  show Go Γ g 2 (rmC 0 0) 0 0 (mdW g ad (N, K, b, z, le, rf, hd, ln, vl) (6, at1, tk, so, va, lm, ol, ah, lt, lo)) 0 [(0, .ref (ad 0)), (1, .int (nI n))] []
  refine Go.aload_n X 0 dX4_draw_0 rfl ?_
  refine Go.aload_n X 0 dX4_draw_1 rfl ?_
  refine Go.get X f_X4_draw_52 0 (v := .int (sG N)) rfl rfl dX4_draw_2 ?_
  refine Go.ldcw X (nI 1103515245) dX4_draw_5 (List.mem_of_getElem? (i := 2) (by decide +kernel)) ?_
  refine Go.imul_e X ((sG N) * (nI 1103515245)) dX4_draw_8 rfl ?_
  refine Go.sipush X (nI 12345) dX4_draw_9 k_sp_12345 ?_
  refine Go.iadd_e X (((sG N) * (nI 1103515245)) + (nI 12345)) dX4_draw_12 rfl ?_
  refine Go.top (w := .int (nxt (sG N))) (by exact congrArg Value.int (nxt_eq _).symm) ?_
  refine Go.putM X f_X4_draw_52 fp_4_13 0 (mdW g ad ((sN N, sA N, sW N, sD N, sP N, sK N, sO N, nxt (sG N), sT N, sF N, sX N), K, b, z, le, rf, hd, ln, vl) (6, at1, tk, so, va, lm, ol, ah, lt, lo)) rfl rfl rfl rfl dX4_draw_13 rfl ?_
  refine Go.aload_n X 0 dX4_draw_16 rfl ?_
  refine Go.get X f_X4_draw_52 0 (v := .int (nxt (sG N))) rfl rfl dX4_draw_17 ?_
  refine Go.bipush X (nI 16) dX4_draw_20 k_bp_16 ?_
  refine Go.iushr X (nI (ush (nxt (sG N)))) dX4_draw_22 (by exact ush_at _) ?_
  have o11 := ush_lt (nxt (sG N))
  refine Go.iload_n X 1 dX4_draw_23 rfl ?_
  refine Go.irem_e X (nI ((ush (nxt (sG N))) % n)) dX4_draw_24 (nI_ne0 (by first | omega | (split <;> omega)) (by first | omega | (split <;> omega))) (pk_rem (by first | omega | (split <;> omega)) (by first | omega | (split <;> omega)) (by first | omega | (split <;> omega))) ?_
  exact Go.iret X E dX4_draw_25 ⟨rfl, rfl⟩ rfl
set_option maxHeartbeats 4000000 in
set_option maxRecDepth 100000 in
theorem d_ring (g : gT) (ad : Nat → Nat) (N : Sch) (K : Sch) (b : Bool) (z : Nat) (le : Nat → Nat) (rf : Nat → Int32) (hd : Nat → Int32) (ln : Nat → Nat) (vl : Nat → Nat → Int64) (at1 : Nat) (tk : Nat) (so : Int32) (va : Int32) (lm : Nat → Nat) (ol : Nat → Int32) (ah : Nat → Int32) (lt : Int32) (lo : Nat → Int32) (hN : sOk N) (h0 : 0 < wal N) : Cw g yX4_ring wsX4_ring 6 139 [.ref (ad 0)] (mdW g ad (N, K, b, z, le, rf, hd, ln, vl) (6, at1, tk, so, va, lm, ol, ah, lt, lo)) (some (.int (nI (pkS N)))) (mdW g ad (trmS N, K, b, z, le, rf, hd, ln, vl) (6, at1, tk, so, va, lm, ol, ah, lt, lo)) := by
  refine Ct.start (cc := cX4_ring) (nL := 5) (ret := (some .int)) (own := RX4) (by decide) rfl rfl rfl ?_
  intro Γ X E
  show Go Γ g 5 (rmC 6 139) 0 0 (mdW g ad (N, K, b, z, le, rf, hd, ln, vl) (6, at1, tk, so, va, lm, ol, ah, lt, lo)) 0 [(0, .ref (ad 0))] []
  obtain ⟨o1, o2, o3, o4, o5, o6, o7, o8⟩ := id hN
  have o9 := p2_9 o2
  have o10 := sA_512 hN
  refine Go.aload_n X 0 dX4_ring_0 rfl ?_
  refine Go.aload_n X 0 dX4_ring_1 rfl ?_
  refine Go.get X f_X4_ring_111 0 (v := .int (nI (sA N))) rfl rfl dX4_ring_2 ?_
  refine Go.callV0i X (d_weights g ad N K b z le rf hd ln vl 6 at1 tk so va lm ol ah lt lo (sA N) (by exact hN) (by first | omega | (split <;> omega))) cal_X4_weights gX4_ring_X4_weights (ci := 4) (q0 := 0) rfl rfl rfl rfl rfl dX4_ring_5 ?_
  have f5_1 := wsum_81 hN (sA N)
  refine Go.istore_n_new X dX4_ring_8 (by decide) rfl ?_
  have o11 : 0 < wsum (sW N) (sA N) (sN N) := h0
  refine Go.iload_n X 0 dX4_ring_9 rfl ?_
  refine Go.if_neN X 20 dX4_ring_10 (by decide) (by first | omega | (split <;> omega)) (fun h10 => ?_) (fun h10 => ?_)
  · --
    refine Go.aload_n X 1 dX4_ring_20 rfl ?_
    refine Go.iload_n X 0 dX4_ring_21 rfl ?_
    refine Go.callV0i X (d_draw g ad N K b z le rf hd ln vl at1 tk so va lm ol ah lt lo (wsum (sW N) (sA N) (sN N)) (by first | omega | (split <;> omega)) (by first | omega | (split <;> omega))) cal_X4_draw gX4_ring_X4_draw (ci := 4) (q0 := 0) rfl rfl rfl rfl rfl dX4_ring_22 ?_
    obtain ⟨r, hr⟩ : ∃ r, r = drawR N := ⟨_, rfl⟩
    have hrl : r < wsum (sW N) (sA N) (sN N) := by rw [hr]; exact Nat.mod_lt _ (by omega)
    refine Go.top (w := .int (nI r)) (by rw [hr]; rfl) ?_
    have o12 := wsum_81 hN (sA N)
    refine Go.istore_n_new X dX4_ring_25 (by decide) rfl ?_
    refine Go.iconst X (nI 0) dX4_ring_26 k_ic_0 ?_
    refine Go.istore_n_new X dX4_ring_27 (by decide) rfl ?_
    have L28 : ∀ (f28 : Nat) (k : Nat) (hk : k ≤ sN N) (hq : wsum (sW N) (sA N) k ≤ r) (hf28 : sN N - k < f28), Go Γ g 5 (rmC 6 139) 0 0 (mdW g ad ((sN N, sA N, sW N, sD N, sP N, sK N, sO N, nxt (sG N), sT N, sF N, sX N), K, b, z, le, rf, hd, ln, vl) (6, at1, tk, so, va, lm, ol, ah, lt, lo)) 28 [(3, .int (nI k)), (2, .int (nI (r - wsum (sW N) (sA N) k))), (1, .int (nI (wsum (sW N) (sA N) (sN N)))), (0, .ref (ad 0))] [] := by
      intro f28
      induction f28 with
      | zero => intro k hk hq hf28; exact absurd hf28 (Nat.not_lt_zero _)
      | succ f28 ih28 =>
        intro k hk hq hf28
        refine Go.aload_n X 3 dX4_ring_28 rfl ?_
        have hk2 : k < sN N := pick_in hk hq hrl
        have o13 := o4 k (by omega)
        refine Go.get X f_X4_ring_111 0 (v := .int (nI (sA N))) rfl rfl dX4_ring_29 ?_
        refine Go.iload_n X 0 dX4_ring_32 rfl ?_
        refine Go.callSi X  (d_has g (sA N) k (by first | omega | (split <;> omega)) (by first | omega | (split <;> omega))) cal_X4_has [] rfl rfl gX4_ring_X4_has rfl rfl rfl dX4_ring_33 ?_
        refine Go.if_eqB X 49 dX4_ring_36 (by decide) (fun h36 => ?_) (fun h36 => ?_)
        · --
          refine Go.aload_n X 3 dX4_ring_49 rfl ?_
          refine Go.get X f_X4_ring_111 0 (v := .int (nI (sA N))) rfl rfl dX4_ring_50 ?_
          refine Go.iload_n X 0 dX4_ring_53 rfl ?_
          refine Go.callSi X  (d_has g (sA N) k (by first | omega | (split <;> omega)) (by first | omega | (split <;> omega))) cal_X4_has [] rfl rfl gX4_ring_X4_has rfl rfl rfl dX4_ring_54 ?_
          refine Go.if_eqB X 69 dX4_ring_57 (by decide) (fun h57 => ?_) (fun h57 => ?_)
          · --
            refine Go.iinc_0 X (nI (k + 1)) dX4_ring_69 (by decide) rfl (show nI k + Int32.ofInt 1 = nI (k + 1) from nI_add _ 1) ?_
            refine Go.goto X 28 dX4_ring_72 (by decide) ?_
            refine Go.lv_1 (congrArg (fun z => Value.int (nI z)) (show r - wsum (sW N) (sA N) k = r - wsum (sW N) (sA N) (k + 1) from by rw [wsum, if_neg (by rw [h36]; decide), Nat.add_zero])) ?_
            exact ih28 (k + 1) (by first | omega | (split <;> omega)) (by rw [wsum, if_neg (by rw [h36]; decide), Nat.add_zero]; exact hq) (by first | omega | (split <;> omega))
          · --
            rw [h36] at h57; exact absurd h57 (by decide)
        · --
          refine Go.iload_n X 1 dX4_ring_39 rfl ?_
          refine Go.aload_n X 3 dX4_ring_40 rfl ?_
          refine Go.get X f_X4_ring_20 0 (v := .ref (ad 4)) rfl rfl dX4_ring_41 ?_
          refine Go.iload_n X 0 dX4_ring_44 rfl ?_
          refine Go.ialdN X 4 (w := sW N) rfl (by first | omega | (split <;> omega)) rfl dX4_ring_45 ?_
          refine Go.icmp_ltN X 75 dX4_ring_46 (by decide) (by first | omega | (split <;> omega)) (by first | omega | (split <;> omega)) (fun h46 => ?_) (fun h46 => ?_)
          · --
            have ek : k = pkS N := by rw [pkS, ← hr]; exact pick_at hk2 hq (by rw [wsum, if_pos h36]; omega)
            have ek2 : pkS N < sN N := by rw [← ek]; exact hk2
            refine Go.lv_0 (w := .int (nI (pkS N))) (by rw [← ek]) ?_
            refine Go.aload_n X 3 dX4_ring_75 rfl ?_
            refine Go.iload_n X 0 dX4_ring_76 rfl ?_
            have z77 : sOk (sN N, sA N, sW N, sD N, sP N, sK N, sO N, nxt (sG N), sT N, sF N, sX N) := by exact hN
            refine Go.callV0i X (d_whoExpects g ad (sN N, sA N, sW N, sD N, sP N, sK N, sO N, nxt (sG N), sT N, sF N, sX N) K b z le rf hd ln vl 6 at1 tk so va lm ol ah lt lo (pkS N) (by exact z77) (by first | omega | (split <;> omega)) (by first | omega | (split <;> omega))) cal_X4_whoExpects gX4_ring_X4_whoExpects (ci := 4) (q0 := 0) rfl rfl rfl rfl rfl dX4_ring_77 ?_
            have f77_2 := whoE_64 z77 6 (pkS N)
            refine Go.top (w := .int (nI (whoE N 6 (pkS N)))) (by exact congrArg (fun z => Value.int (nI z)) (whoE_sg N _ _ _ _ 6 _)) ?_
            have o14 := whoE_64 hN 6 (pkS N)
            refine Go.istore_new X dX4_ring_80 (by decide) rfl ?_
            refine Go.aload_n X 4 dX4_ring_82 rfl ?_
            refine Go.dup X dX4_ring_83 rfl ?_
            refine Go.get X f_X4_ring_262 0 (v := .int (sF N)) rfl rfl dX4_ring_84 ?_
            refine Go.aload_n X 4 dX4_ring_87 rfl ?_
            refine Go.get X f_X4_ring_59 0 (v := .int (nI (sP N))) rfl rfl dX4_ring_88 ?_
            refine Go.iload X 0 dX4_ring_91 rfl ?_
            refine Go.callSi X  (c_bitCount g (whoE N 6 (pkS N)) (by first | omega | (split <;> omega))) cal_J6_bitCount_0f7a4 [] rfl rfl gX4_ring_J6_bitCount_0f7a4 rfl rfl rfl dX4_ring_93 ?_
            refine Go.isub_e X ((nI (sP N)) - (nI (bcn (whoE N 6 (pkS N))))) dX4_ring_96 rfl ?_
            refine Go.iadd_e X ((sF N) + ((nI (sP N)) - (nI (bcn (whoE N 6 (pkS N)))))) dX4_ring_97 rfl ?_
            refine Go.putM X f_X4_ring_262 fp_4_11 0 (mdW g ad ((sN N, sA N, sW N, sD N, sP N, sK N, sO N, nxt (sG N), sT N, (sF N) + ((nI (sP N)) - (nI (bcn (whoE N 6 (pkS N))))), sX N), K, b, z, le, rf, hd, ln, vl) (6, at1, tk, so, va, lm, ol, ah, lt, lo)) rfl rfl rfl rfl dX4_ring_98 rfl ?_
            refine Go.iload X 0 dX4_ring_101 rfl ?_
            refine Go.if_eqN X 116 dX4_ring_103 (by decide) (by first | omega | (split <;> omega)) (fun h103 => ?_) (fun h103 => ?_)
            · --
              refine Go.aload_n X 4 dX4_ring_116 rfl ?_
              refine Go.dup X dX4_ring_117 rfl ?_
              refine Go.get X f_X4_ring_268 0 (v := .int (sT N)) rfl rfl dX4_ring_118 ?_
              refine Go.iconst X (nI 1) dX4_ring_121 k_ic_1 ?_
              refine Go.iadd_e X ((sT N) + (nI 1)) dX4_ring_122 rfl ?_
              refine Go.putM X f_X4_ring_268 fp_4_10 0 (mdW g ad ((sN N, sA N, sW N, sD N, sP N, sK N, sO N, nxt (sG N), (sT N) + (nI 1), (sF N) + ((nI (sP N)) - (nI (bcn (whoE N 6 (pkS N))))), sX N), K, b, z, le, rf, hd, ln, vl) (6, at1, tk, so, va, lm, ol, ah, lt, lo)) rfl rfl rfl rfl dX4_ring_123 rfl ?_
              refine Go.conv (M1 := mdW g ad (trmS N, K, b, z, le, rf, hd, ln, vl) (6, at1, tk, so, va, lm, ol, ah, lt, lo)) ?_ (by rw [trm_0 h103]) rfl rfl
              refine Go.iload_n X 1 dX4_ring_126 rfl ?_
              exact Go.iret X E dX4_ring_127 ⟨rfl, rfl⟩ rfl
            · --
              refine Go.aload_n X 4 dX4_ring_106 rfl ?_
              refine Go.dup X dX4_ring_107 rfl ?_
              refine Go.get X f_X4_ring_265 0 (v := .int (sX N)) rfl rfl dX4_ring_108 ?_
              refine Go.iconst X (nI 1) dX4_ring_111 k_ic_1 ?_
              refine Go.iadd_e X ((sX N) + (nI 1)) dX4_ring_112 rfl ?_
              refine Go.putM X f_X4_ring_265 fp_4_12 0 (mdW g ad ((sN N, sA N, sW N, sD N, sP N, sK N, sO N, nxt (sG N), sT N, (sF N) + ((nI (sP N)) - (nI (bcn (whoE N 6 (pkS N))))), (sX N) + (nI 1)), K, b, z, le, rf, hd, ln, vl) (6, at1, tk, so, va, lm, ol, ah, lt, lo)) rfl rfl rfl rfl dX4_ring_113 rfl ?_
              refine Go.aload_n X 4 dX4_ring_116 rfl ?_
              refine Go.dup X dX4_ring_117 rfl ?_
              refine Go.get X f_X4_ring_268 0 (v := .int (sT N)) rfl rfl dX4_ring_118 ?_
              refine Go.iconst X (nI 1) dX4_ring_121 k_ic_1 ?_
              refine Go.iadd_e X ((sT N) + (nI 1)) dX4_ring_122 rfl ?_
              refine Go.putM X f_X4_ring_268 fp_4_10 0 (mdW g ad ((sN N, sA N, sW N, sD N, sP N, sK N, sO N, nxt (sG N), (sT N) + (nI 1), (sF N) + ((nI (sP N)) - (nI (bcn (whoE N 6 (pkS N))))), (sX N) + (nI 1)), K, b, z, le, rf, hd, ln, vl) (6, at1, tk, so, va, lm, ol, ah, lt, lo)) rfl rfl rfl rfl dX4_ring_123 rfl ?_
              refine Go.conv (M1 := mdW g ad (trmS N, K, b, z, le, rf, hd, ln, vl) (6, at1, tk, so, va, lm, ol, ah, lt, lo)) ?_ (by rw [trm_1 hN h103]) rfl rfl
              refine Go.iload_n X 1 dX4_ring_126 rfl ?_
              exact Go.iret X E dX4_ring_127 ⟨rfl, rfl⟩ rfl
          · --
            refine Go.aload_n X 3 dX4_ring_49 rfl ?_
            refine Go.get X f_X4_ring_111 0 (v := .int (nI (sA N))) rfl rfl dX4_ring_50 ?_
            refine Go.iload_n X 0 dX4_ring_53 rfl ?_
            refine Go.callSi X  (d_has g (sA N) k (by first | omega | (split <;> omega)) (by first | omega | (split <;> omega))) cal_X4_has [] rfl rfl gX4_ring_X4_has rfl rfl rfl dX4_ring_54 ?_
            refine Go.if_eqB X 69 dX4_ring_57 (by decide) (fun h57 => ?_) (fun h57 => ?_)
            · --
              rw [h36] at h57; exact absurd h57 (by decide)
            · --
              refine Go.iload_n X 1 dX4_ring_60 rfl ?_
              refine Go.aload_n X 3 dX4_ring_61 rfl ?_
              refine Go.get X f_X4_ring_20 0 (v := .ref (ad 4)) rfl rfl dX4_ring_62 ?_
              refine Go.iload_n X 0 dX4_ring_65 rfl ?_
              refine Go.ialdN X 4 (w := sW N) rfl (by first | omega | (split <;> omega)) rfl dX4_ring_66 ?_
              refine Go.isub_e X (nI (r - wsum (sW N) (sA N) k - ((sW N) k))) dX4_ring_67 (pk_sub (by first | omega | (split <;> omega))) ?_
              refine Go.istore_n_1 X dX4_ring_68 (by decide) rfl ?_
              refine Go.iinc_0 X (nI (k + 1)) dX4_ring_69 (by decide) rfl (show nI k + Int32.ofInt 1 = nI (k + 1) from nI_add _ 1) ?_
              refine Go.goto X 28 dX4_ring_72 (by decide) ?_
              refine Go.lv_1 (congrArg (fun z => Value.int (nI z)) (show r - wsum (sW N) (sA N) k - ((sW N) k) = r - wsum (sW N) (sA N) (k + 1) from by rw [wsum, if_pos h36, Nat.sub_sub])) ?_
              exact ih28 (k + 1) (by first | omega | (split <;> omega)) (by rw [wsum, if_pos h36]; omega) (by first | omega | (split <;> omega))
    refine Go.lv_1 (congrArg (fun z => Value.int (nI z)) (show r = r - wsum (sW N) (sA N) 0 from by rfl)) ?_
    exact L28 (sN N - 0 + 1) 0 (by first | omega | (split <;> omega)) (by exact Nat.zero_le _) (Nat.lt_succ_self _)
  · --
    exact absurd h0 (by show ¬ 0 < wsum (sW N) (sA N) (sN N); omega)
set_option maxHeartbeats 4000000 in
set_option maxRecDepth 100000 in
theorem e_ring (g : gT) (ad : Nat → Nat) (N : Sch) (K : Sch) (b : Bool) (z : Nat) (le : Nat → Nat) (rf : Nat → Int32) (hd : Nat → Int32) (ln : Nat → Nat) (vl : Nat → Nat → Int64) (at1 : Nat) (tk : Nat) (so : Int32) (va : Int32) (lm : Nat → Nat) (ol : Nat → Int32) (ah : Nat → Int32) (lt : Int32) (lo : Nat → Int32) (hN : sOk N) (hH : hOk (sP N) hd) (hm : mOk (N, K, b, z, le, rf, hd, ln, vl) (6, at1, tk, so, va, lm, ol, ah, lt, lo)) : Ct g yX4_ring wsX4_ring 6 139 [.ref (ad 0)] (mdW g ad (N, K, b, z, le, rf, hd, ln, vl) (6, at1, tk, so, va, lm, ol, ah, lt, lo)) (fun v9 w9 => v9 = (some (.int (x_ring (N, K, b, z, le, rf, hd, ln, vl)).2)) ∧ ∃ J9, mOk (x_ring (N, K, b, z, le, rf, hd, ln, vl)).1 J9 ∧ w9 = mdW g ad (x_ring (N, K, b, z, le, rf, hd, ln, vl)).1 J9) := by
  refine Ct.start (cc := cX4_ring) (nL := 5) (ret := (some .int)) (own := RX4) (by decide) rfl rfl rfl ?_
  intro Γ X E
  show Go Γ g 5 (rmC 6 139) 0 0 (mdW g ad (N, K, b, z, le, rf, hd, ln, vl) (6, at1, tk, so, va, lm, ol, ah, lt, lo)) 0 [(0, .ref (ad 0))] []
  obtain ⟨o1, o2, o3, o4, o5, o6, o7, o8⟩ := id hN
  have o9 := p2_9 o2
  have o10 := sA_512 hN
  refine Go.aload_n X 0 dX4_ring_0 rfl ?_
  refine Go.aload_n X 0 dX4_ring_1 rfl ?_
  refine Go.get X f_X4_ring_111 0 (v := .int (nI (sA N))) rfl rfl dX4_ring_2 ?_
  refine Go.callV0i X (d_weights g ad N K b z le rf hd ln vl 6 at1 tk so va lm ol ah lt lo (sA N) (by exact hN) (by first | omega | (split <;> omega))) cal_X4_weights gX4_ring_X4_weights (ci := 4) (q0 := 0) rfl rfl rfl rfl rfl dX4_ring_5 ?_
  have f5_1 := wsum_81 hN (sA N)
  refine Go.istore_n_new X dX4_ring_8 (by decide) rfl ?_
  refine Go.iload_n X 0 dX4_ring_9 rfl ?_
  refine Go.if_neN X 20 dX4_ring_10 (by decide) (by first | omega | (split <;> omega)) (fun h10 => ?_) (fun h10 => ?_)
  · --
    refine Go.aload_n X 1 dX4_ring_20 rfl ?_
    refine Go.iload_n X 0 dX4_ring_21 rfl ?_
    refine Go.callV0i X (d_draw g ad N K b z le rf hd ln vl at1 tk so va lm ol ah lt lo (wsum (sW N) (sA N) (sN N)) (by first | omega | (split <;> omega)) (by first | omega | (split <;> omega))) cal_X4_draw gX4_ring_X4_draw (ci := 4) (q0 := 0) rfl rfl rfl rfl rfl dX4_ring_22 ?_
    obtain ⟨r, hr⟩ : ∃ r, r = drawR N := ⟨_, rfl⟩
    have hrl : r < wsum (sW N) (sA N) (sN N) := by rw [hr]; exact Nat.mod_lt _ (by omega)
    refine Go.top (w := .int (nI r)) (by rw [hr]; rfl) ?_
    have o12 := wsum_81 hN (sA N)
    refine Go.istore_n_new X dX4_ring_25 (by decide) rfl ?_
    refine Go.iconst X (nI 0) dX4_ring_26 k_ic_0 ?_
    refine Go.istore_n_new X dX4_ring_27 (by decide) rfl ?_
    have L28 : ∀ (f28 : Nat) (k : Nat) (hk : k ≤ sN N) (hq : wsum (sW N) (sA N) k ≤ r) (hf28 : sN N - k < f28), Go Γ g 5 (rmC 6 139) 0 0 (mdW g ad ((sN N, sA N, sW N, sD N, sP N, sK N, sO N, nxt (sG N), sT N, sF N, sX N), K, b, z, le, rf, hd, ln, vl) (6, at1, tk, so, va, lm, ol, ah, lt, lo)) 28 [(3, .int (nI k)), (2, .int (nI (r - wsum (sW N) (sA N) k))), (1, .int (nI (wsum (sW N) (sA N) (sN N)))), (0, .ref (ad 0))] [] := by
      intro f28
      induction f28 with
      | zero => intro k hk hq hf28; exact absurd hf28 (Nat.not_lt_zero _)
      | succ f28 ih28 =>
        intro k hk hq hf28
        refine Go.aload_n X 3 dX4_ring_28 rfl ?_
        have hk2 : k < sN N := pick_in hk hq hrl
        have o13 := o4 k (by omega)
        refine Go.get X f_X4_ring_111 0 (v := .int (nI (sA N))) rfl rfl dX4_ring_29 ?_
        refine Go.iload_n X 0 dX4_ring_32 rfl ?_
        refine Go.callSi X  (d_has g (sA N) k (by first | omega | (split <;> omega)) (by first | omega | (split <;> omega))) cal_X4_has [] rfl rfl gX4_ring_X4_has rfl rfl rfl dX4_ring_33 ?_
        refine Go.if_eqB X 49 dX4_ring_36 (by decide) (fun h36 => ?_) (fun h36 => ?_)
        · --
          refine Go.aload_n X 3 dX4_ring_49 rfl ?_
          refine Go.get X f_X4_ring_111 0 (v := .int (nI (sA N))) rfl rfl dX4_ring_50 ?_
          refine Go.iload_n X 0 dX4_ring_53 rfl ?_
          refine Go.callSi X  (d_has g (sA N) k (by first | omega | (split <;> omega)) (by first | omega | (split <;> omega))) cal_X4_has [] rfl rfl gX4_ring_X4_has rfl rfl rfl dX4_ring_54 ?_
          refine Go.if_eqB X 69 dX4_ring_57 (by decide) (fun h57 => ?_) (fun h57 => ?_)
          · --
            refine Go.iinc_0 X (nI (k + 1)) dX4_ring_69 (by decide) rfl (show nI k + Int32.ofInt 1 = nI (k + 1) from nI_add _ 1) ?_
            refine Go.goto X 28 dX4_ring_72 (by decide) ?_
            refine Go.lv_1 (congrArg (fun z => Value.int (nI z)) (show r - wsum (sW N) (sA N) k = r - wsum (sW N) (sA N) (k + 1) from by rw [wsum, if_neg (by rw [h36]; decide), Nat.add_zero])) ?_
            exact ih28 (k + 1) (by first | omega | (split <;> omega)) (by rw [wsum, if_neg (by rw [h36]; decide), Nat.add_zero]; exact hq) (by first | omega | (split <;> omega))
          · --
            rw [h36] at h57; exact absurd h57 (by decide)
        · --
          refine Go.iload_n X 1 dX4_ring_39 rfl ?_
          refine Go.aload_n X 3 dX4_ring_40 rfl ?_
          refine Go.get X f_X4_ring_20 0 (v := .ref (ad 4)) rfl rfl dX4_ring_41 ?_
          refine Go.iload_n X 0 dX4_ring_44 rfl ?_
          refine Go.ialdN X 4 (w := sW N) rfl (by first | omega | (split <;> omega)) rfl dX4_ring_45 ?_
          refine Go.icmp_ltN X 75 dX4_ring_46 (by decide) (by first | omega | (split <;> omega)) (by first | omega | (split <;> omega)) (fun h46 => ?_) (fun h46 => ?_)
          · --
            have ek : k = pkS N := by rw [pkS, ← hr]; exact pick_at hk2 hq (by rw [wsum, if_pos h36]; omega)
            have ek2 : pkS N < sN N := by rw [← ek]; exact hk2
            refine Go.lv_0 (w := .int (nI (pkS N))) (by rw [← ek]) ?_
            refine Go.aload_n X 3 dX4_ring_75 rfl ?_
            refine Go.iload_n X 0 dX4_ring_76 rfl ?_
            have z77 : sOk (sN N, sA N, sW N, sD N, sP N, sK N, sO N, nxt (sG N), sT N, sF N, sX N) := by exact hN
            refine Go.callV0i X (d_whoExpects g ad (sN N, sA N, sW N, sD N, sP N, sK N, sO N, nxt (sG N), sT N, sF N, sX N) K b z le rf hd ln vl 6 at1 tk so va lm ol ah lt lo (pkS N) (by exact z77) (by first | omega | (split <;> omega)) (by first | omega | (split <;> omega))) cal_X4_whoExpects gX4_ring_X4_whoExpects (ci := 4) (q0 := 0) rfl rfl rfl rfl rfl dX4_ring_77 ?_
            have f77_2 := whoE_64 z77 6 (pkS N)
            refine Go.top (w := .int (nI (whoE N 6 (pkS N)))) (by exact congrArg (fun z => Value.int (nI z)) (whoE_sg N _ _ _ _ 6 _)) ?_
            have o14 := whoE_64 hN 6 (pkS N)
            refine Go.istore_new X dX4_ring_80 (by decide) rfl ?_
            refine Go.aload_n X 4 dX4_ring_82 rfl ?_
            refine Go.dup X dX4_ring_83 rfl ?_
            refine Go.get X f_X4_ring_262 0 (v := .int (sF N)) rfl rfl dX4_ring_84 ?_
            refine Go.aload_n X 4 dX4_ring_87 rfl ?_
            refine Go.get X f_X4_ring_59 0 (v := .int (nI (sP N))) rfl rfl dX4_ring_88 ?_
            refine Go.iload X 0 dX4_ring_91 rfl ?_
            refine Go.callSi X  (c_bitCount g (whoE N 6 (pkS N)) (by first | omega | (split <;> omega))) cal_J6_bitCount_0f7a4 [] rfl rfl gX4_ring_J6_bitCount_0f7a4 rfl rfl rfl dX4_ring_93 ?_
            refine Go.isub_e X ((nI (sP N)) - (nI (bcn (whoE N 6 (pkS N))))) dX4_ring_96 rfl ?_
            refine Go.iadd_e X ((sF N) + ((nI (sP N)) - (nI (bcn (whoE N 6 (pkS N)))))) dX4_ring_97 rfl ?_
            refine Go.putM X f_X4_ring_262 fp_4_11 0 (mdW g ad ((sN N, sA N, sW N, sD N, sP N, sK N, sO N, nxt (sG N), sT N, (sF N) + ((nI (sP N)) - (nI (bcn (whoE N 6 (pkS N))))), sX N), K, b, z, le, rf, hd, ln, vl) (6, at1, tk, so, va, lm, ol, ah, lt, lo)) rfl rfl rfl rfl dX4_ring_98 rfl ?_
            refine Go.iload X 0 dX4_ring_101 rfl ?_
            refine Go.if_eqN X 116 dX4_ring_103 (by decide) (by first | omega | (split <;> omega)) (fun h103 => ?_) (fun h103 => ?_)
            · --
              refine Go.aload_n X 4 dX4_ring_116 rfl ?_
              refine Go.dup X dX4_ring_117 rfl ?_
              refine Go.get X f_X4_ring_268 0 (v := .int (sT N)) rfl rfl dX4_ring_118 ?_
              refine Go.iconst X (nI 1) dX4_ring_121 k_ic_1 ?_
              refine Go.iadd_e X ((sT N) + (nI 1)) dX4_ring_122 rfl ?_
              refine Go.putM X f_X4_ring_268 fp_4_10 0 (mdW g ad ((sN N, sA N, sW N, sD N, sP N, sK N, sO N, nxt (sG N), (sT N) + (nI 1), (sF N) + ((nI (sP N)) - (nI (bcn (whoE N 6 (pkS N))))), sX N), K, b, z, le, rf, hd, ln, vl) (6, at1, tk, so, va, lm, ol, ah, lt, lo)) rfl rfl rfl rfl dX4_ring_123 rfl ?_
              refine Go.conv (M1 := mdW g ad (trmS N, K, b, z, le, rf, hd, ln, vl) (6, at1, tk, so, va, lm, ol, ah, lt, lo)) ?_ (by rw [trm_0 h103]) rfl rfl
              refine Go.iload_n X 1 dX4_ring_126 rfl ?_
              have e9 : x_ring (N, K, b, z, le, rf, hd, ln, vl) = ((trmS N, K, b, z, le, rf, hd, ln, vl), (nI (pkS N))) := by simp [x_ring, wal, rfS, h10]
              have m9 : mOk (trmS N, K, b, z, le, rf, hd, ln, vl) (6, at1, tk, so, va, lm, ol, ah, lt, lo) := ⟨rfl, hm.2.1, hm.2.2⟩
              exact Go.iret X E dX4_ring_127 ⟨by rw [e9], _, by rw [e9]; exact m9, by rw [e9]⟩ rfl
            · --
              refine Go.aload_n X 4 dX4_ring_106 rfl ?_
              refine Go.dup X dX4_ring_107 rfl ?_
              refine Go.get X f_X4_ring_265 0 (v := .int (sX N)) rfl rfl dX4_ring_108 ?_
              refine Go.iconst X (nI 1) dX4_ring_111 k_ic_1 ?_
              refine Go.iadd_e X ((sX N) + (nI 1)) dX4_ring_112 rfl ?_
              refine Go.putM X f_X4_ring_265 fp_4_12 0 (mdW g ad ((sN N, sA N, sW N, sD N, sP N, sK N, sO N, nxt (sG N), sT N, (sF N) + ((nI (sP N)) - (nI (bcn (whoE N 6 (pkS N))))), (sX N) + (nI 1)), K, b, z, le, rf, hd, ln, vl) (6, at1, tk, so, va, lm, ol, ah, lt, lo)) rfl rfl rfl rfl dX4_ring_113 rfl ?_
              refine Go.aload_n X 4 dX4_ring_116 rfl ?_
              refine Go.dup X dX4_ring_117 rfl ?_
              refine Go.get X f_X4_ring_268 0 (v := .int (sT N)) rfl rfl dX4_ring_118 ?_
              refine Go.iconst X (nI 1) dX4_ring_121 k_ic_1 ?_
              refine Go.iadd_e X ((sT N) + (nI 1)) dX4_ring_122 rfl ?_
              refine Go.putM X f_X4_ring_268 fp_4_10 0 (mdW g ad ((sN N, sA N, sW N, sD N, sP N, sK N, sO N, nxt (sG N), (sT N) + (nI 1), (sF N) + ((nI (sP N)) - (nI (bcn (whoE N 6 (pkS N))))), (sX N) + (nI 1)), K, b, z, le, rf, hd, ln, vl) (6, at1, tk, so, va, lm, ol, ah, lt, lo)) rfl rfl rfl rfl dX4_ring_123 rfl ?_
              refine Go.conv (M1 := mdW g ad (trmS N, K, b, z, le, rf, hd, ln, vl) (6, at1, tk, so, va, lm, ol, ah, lt, lo)) ?_ (by rw [trm_1 hN h103]) rfl rfl
              refine Go.iload_n X 1 dX4_ring_126 rfl ?_
              have e9 : x_ring (N, K, b, z, le, rf, hd, ln, vl) = ((trmS N, K, b, z, le, rf, hd, ln, vl), (nI (pkS N))) := by simp [x_ring, wal, rfS, h10]
              have m9 : mOk (trmS N, K, b, z, le, rf, hd, ln, vl) (6, at1, tk, so, va, lm, ol, ah, lt, lo) := ⟨rfl, hm.2.1, hm.2.2⟩
              exact Go.iret X E dX4_ring_127 ⟨by rw [e9], _, by rw [e9]; exact m9, by rw [e9]⟩ rfl
          · --
            refine Go.aload_n X 3 dX4_ring_49 rfl ?_
            refine Go.get X f_X4_ring_111 0 (v := .int (nI (sA N))) rfl rfl dX4_ring_50 ?_
            refine Go.iload_n X 0 dX4_ring_53 rfl ?_
            refine Go.callSi X  (d_has g (sA N) k (by first | omega | (split <;> omega)) (by first | omega | (split <;> omega))) cal_X4_has [] rfl rfl gX4_ring_X4_has rfl rfl rfl dX4_ring_54 ?_
            refine Go.if_eqB X 69 dX4_ring_57 (by decide) (fun h57 => ?_) (fun h57 => ?_)
            · --
              rw [h36] at h57; exact absurd h57 (by decide)
            · --
              refine Go.iload_n X 1 dX4_ring_60 rfl ?_
              refine Go.aload_n X 3 dX4_ring_61 rfl ?_
              refine Go.get X f_X4_ring_20 0 (v := .ref (ad 4)) rfl rfl dX4_ring_62 ?_
              refine Go.iload_n X 0 dX4_ring_65 rfl ?_
              refine Go.ialdN X 4 (w := sW N) rfl (by first | omega | (split <;> omega)) rfl dX4_ring_66 ?_
              refine Go.isub_e X (nI (r - wsum (sW N) (sA N) k - ((sW N) k))) dX4_ring_67 (pk_sub (by first | omega | (split <;> omega))) ?_
              refine Go.istore_n_1 X dX4_ring_68 (by decide) rfl ?_
              refine Go.iinc_0 X (nI (k + 1)) dX4_ring_69 (by decide) rfl (show nI k + Int32.ofInt 1 = nI (k + 1) from nI_add _ 1) ?_
              refine Go.goto X 28 dX4_ring_72 (by decide) ?_
              refine Go.lv_1 (congrArg (fun z => Value.int (nI z)) (show r - wsum (sW N) (sA N) k - ((sW N) k) = r - wsum (sW N) (sA N) (k + 1) from by rw [wsum, if_pos h36, Nat.sub_sub])) ?_
              exact ih28 (k + 1) (by first | omega | (split <;> omega)) (by rw [wsum, if_pos h36]; omega) (by first | omega | (split <;> omega))
    refine Go.lv_1 (congrArg (fun z => Value.int (nI z)) (show r = r - wsum (sW N) (sA N) 0 from by rfl)) ?_
    exact L28 (sN N - 0 + 1) 0 (by first | omega | (split <;> omega)) (by exact Nat.zero_le _) (Nat.lt_succ_self _)
  · --
    refine Go.aload_n X 1 dX4_ring_13 rfl ?_
    refine Go.bipush X ((-5 : Int32)) dX4_ring_14 k_bp_m5 ?_
    refine Go.callV0i X (d_no_3 g ad N K b z le rf hd ln vl 6 at1 tk so va lm ol ah lt lo) cal_X4_no gX4_ring_X4_no (ci := 4) (q0 := 0) rfl rfl rfl rfl rfl dX4_ring_16 ?_
    have e9 : x_ring (N, K, b, z, le, rf, hd, ln, vl) = ((N, K, b, z, le, inc rf 3, hd, ln, vl), (-5)) := by simp [x_ring, wal, rfS, h10]
    have m9 : mOk (N, K, b, z, le, inc rf 3, hd, ln, vl) (6, at1, tk, so, va, lm, ol, ah, lt, lo) := ⟨rfl, hm.2.1, hm.2.2⟩
    exact Go.iret X E dX4_ring_19 ⟨by rw [e9], _, by rw [e9]; exact m9, by rw [e9]⟩ rfl
set_option maxHeartbeats 4000000 in
set_option maxRecDepth 100000 in
theorem e_rings (g : gT) (ad : Nat → Nat) (N : Sch) (K : Sch) (b : Bool) (z : Nat) (le : Nat → Nat) (rf : Nat → Int32) (hd : Nat → Int32) (ln : Nat → Nat) (vl : Nat → Nat → Int64) (at1 : Nat) (tk : Nat) (so : Int32) (va : Int32) (lm : Nat → Nat) (ol : Nat → Int32) (ah : Nat → Int32) (lt : Int32) (lo : Nat → Int32) (n : Int32) (hN : sOk N) (hH : hOk (sP N) hd) (hm : mOk (N, K, b, z, le, rf, hd, ln, vl) (6, at1, tk, so, va, lm, ol, ah, lt, lo)) : Ct g yX4_rings wsX4_rings 7 163 [.ref (ad 0), .int n] (mdW g ad (N, K, b, z, le, rf, hd, ln, vl) (6, at1, tk, so, va, lm, ol, ah, lt, lo)) (fun v9 w9 => v9 = (some (.int (x_rings (N, K, b, z, le, rf, hd, ln, vl) n).2)) ∧ ∃ J9, mOk (x_rings (N, K, b, z, le, rf, hd, ln, vl) n).1 J9 ∧ w9 = mdW g ad (x_rings (N, K, b, z, le, rf, hd, ln, vl) n).1 J9) := by
  refine Ct.start (cc := cX4_rings) (nL := 4) (ret := (some .int)) (own := RX4) (by decide) rfl rfl rfl ?_
  intro Γ X E
  show Go Γ g 4 (rmC 7 163) 0 0 (mdW g ad (N, K, b, z, le, rf, hd, ln, vl) (6, at1, tk, so, va, lm, ol, ah, lt, lo)) 0 [(0, .ref (ad 0)), (1, .int n)] []
  obtain ⟨o1, o2, o3, o4, o5, o6, o7, o8⟩ := id hN
  have o9 := p2_9 o2
  have o10 := sA_512 hN
  refine Go.iload_n X 1 dX4_rings_0 rfl ?_
  refine Go.iconst X (nI 1) dX4_rings_1 k_ic_1 ?_
  refine Go.bipush X (nI 40) dX4_rings_2 k_bp_40 ?_
  refine Go.callSi X  (d_within g n (nI 1) (nI 40)) cal_X4_within [] rfl rfl gX4_rings_X4_within rfl rfl rfl dX4_rings_4 ?_
  refine Go.if_neB X 17 dX4_rings_7 (by decide) (fun h7 => ?_) (fun h7 => ?_)
  · --
    obtain ⟨nk, hnk, rfl⟩ := wi_at (by first | omega | (split <;> omega)) (by first | omega | (split <;> omega)) h7
    refine Go.aload_n X 0 dX4_rings_17 rfl ?_
    refine Go.aload_n X 0 dX4_rings_18 rfl ?_
    refine Go.get X f_X4_rings_111 0 (v := .int (nI (sA N))) rfl rfl dX4_rings_19 ?_
    refine Go.callV0i X (d_weights g ad N K b z le rf hd ln vl 6 at1 tk so va lm ol ah lt lo (sA N) (by exact hN) (by first | omega | (split <;> omega))) cal_X4_weights gX4_rings_X4_weights (ci := 4) (q0 := 0) rfl rfl rfl rfl rfl dX4_rings_22 ?_
    have f22_1 := wsum_81 hN (sA N)
    refine Go.if_neN X 35 dX4_rings_25 (by decide) (by first | omega | (split <;> omega)) (fun h25 => ?_) (fun h25 => ?_)
    · --
      refine Go.aload_n X 0 dX4_rings_35 rfl ?_
      refine Go.get X f_X4_rings_265 0 (v := .int (sX N)) rfl rfl dX4_rings_36 ?_
      refine Go.istore_n_new X dX4_rings_39 (by decide) rfl ?_
      refine Go.iconst X (nI 0) dX4_rings_40 k_ic_0 ?_
      refine Go.istore_n_new X dX4_rings_41 (by decide) rfl ?_
      have L42 : ∀ (f42 : Nat) (k : Nat) (hk : k ≤ nk) (hf42 : nk - k < f42), Go Γ g 4 (rmC 7 163) 0 0 (mdW g ad (trmN N k, K, b, z, le, rf, hd, ln, vl) (6, at1, tk, so, va, lm, ol, ah, lt, lo)) 42 [(3, .int (nI k)), (2, .int (sX N)), (0, .ref (ad 0)), (1, .int (nI nk))] [] := by
        intro f42
        induction f42 with
        | zero => intro k hk hf42; exact absurd hf42 (Nat.not_lt_zero _)
        | succ f42 ih42 =>
          intro k hk hf42
          refine Go.iload_n X 0 dX4_rings_42 rfl ?_
          refine Go.iload_n X 3 dX4_rings_43 rfl ?_
          refine Go.icmp_geN X 58 dX4_rings_44 (by decide) (by first | omega | (split <;> omega)) (by first | omega | (split <;> omega)) (fun h44 => ?_) (fun h44 => ?_)
          · --
            have e58 : k = nk := by omega
            refine Go.conv (M1 := mdW g ad (trmN N nk, K, b, z, le, rf, hd, ln, vl) (6, at1, tk, so, va, lm, ol, ah, lt, lo)) ?_ (by rw [e58]) rfl rfl
            refine Go.aload_n X 2 dX4_rings_58 rfl ?_
            refine Go.get X f_X4_rings_265 0 (v := .int (sX (trmN N nk))) rfl rfl dX4_rings_59 ?_
            refine Go.iload_n X 1 dX4_rings_62 rfl ?_
            refine Go.isub_e X ((sX (trmN N nk)) - (sX N)) dX4_rings_63 rfl ?_
            have e9 : x_rings (N, K, b, z, le, rf, hd, ln, vl) (nI nk) = ((trmN N nk, K, b, z, le, rf, hd, ln, vl), ((sX (trmN N nk)) - (sX N))) := by simp (decide := true) [x_rings, rfS, h7, h25, h44, Nat.not_lt.mpr h44, wal, nI_clamp (show nk < 2 ^ 31 by omega)]
            have m9 : mOk (trmN N nk, K, b, z, le, rf, hd, ln, vl) (6, at1, tk, so, va, lm, ol, ah, lt, lo) := ⟨rfl, hm.2.1, hm.2.2⟩
            exact Go.iret X E dX4_rings_64 ⟨by rw [e9], _, by rw [e9]; exact m9, by rw [e9]⟩ rfl
          · --
            have t1 := trmN_ok hN k
            have t2 : 0 < wal (trmN N k) := by have t := trmN_w N k; rw [t]; exact Nat.pos_of_ne_zero h25
            refine Go.aload_n X 2 dX4_rings_47 rfl ?_
            have z48 : sOk (trmN N k) := by exact t1
            refine Go.callV0i X (d_ring g ad (trmN N k) K b z le rf hd ln vl at1 tk so va lm ol ah lt lo (by exact z48) (by exact t2)) cal_X4_ring gX4_rings_X4_ring (ci := 4) (q0 := 0) rfl rfl rfl rfl rfl dX4_rings_48 ?_
            refine Go.pop X dX4_rings_51 rfl ?_
            refine Go.iinc_0 X (nI (k + 1)) dX4_rings_52 (by decide) rfl (show nI k + Int32.ofInt 1 = nI (k + 1) from nI_add _ 1) ?_
            refine Go.goto X 42 dX4_rings_55 (by decide) ?_
            refine Go.conv (M1 := mdW g ad (trmN N (k + 1), K, b, z, le, rf, hd, ln, vl) (6, at1, tk, so, va, lm, ol, ah, lt, lo)) ?_ (by rfl) rfl rfl
            exact ih42 (k + 1) (by first | omega | (split <;> omega)) (by first | omega | (split <;> omega))
      refine Go.conv (M1 := mdW g ad (trmN N 0, K, b, z, le, rf, hd, ln, vl) (6, at1, tk, so, va, lm, ol, ah, lt, lo)) ?_ (by rfl) rfl rfl
      exact L42 (nk - 0 + 1) 0 (by first | omega | (split <;> omega)) (Nat.lt_succ_self _)
    · --
      refine Go.aload_n X 0 dX4_rings_28 rfl ?_
      refine Go.bipush X ((-5 : Int32)) dX4_rings_29 k_bp_m5 ?_
      refine Go.callV0i X (d_no_3 g ad N K b z le rf hd ln vl 6 at1 tk so va lm ol ah lt lo) cal_X4_no gX4_rings_X4_no (ci := 4) (q0 := 0) rfl rfl rfl rfl rfl dX4_rings_31 ?_
      have e9 : x_rings (N, K, b, z, le, rf, hd, ln, vl) (nI nk) = ((N, K, b, z, le, inc rf 3, hd, ln, vl), (-5)) := by simp (decide := true) [x_rings, rfS, h7, h25, wal, nI_clamp (show nk < 2 ^ 31 by omega)]
      have m9 : mOk (N, K, b, z, le, inc rf 3, hd, ln, vl) (6, at1, tk, so, va, lm, ol, ah, lt, lo) := ⟨rfl, hm.2.1, hm.2.2⟩
      exact Go.iret X E dX4_rings_34 ⟨by rw [e9], _, by rw [e9]; exact m9, by rw [e9]⟩ rfl
  · --
    refine Go.aload_n X 0 dX4_rings_10 rfl ?_
    refine Go.bipush X ((-2 : Int32)) dX4_rings_11 k_bp_m2 ?_
    refine Go.callV0i X (d_no_0 g ad N K b z le rf hd ln vl 6 at1 tk so va lm ol ah lt lo) cal_X4_no gX4_rings_X4_no (ci := 4) (q0 := 0) rfl rfl rfl rfl rfl dX4_rings_13 ?_
    have e9 : x_rings (N, K, b, z, le, rf, hd, ln, vl) n = ((N, K, b, z, le, inc rf 0, hd, ln, vl), (-2)) := by simp (decide := true) [x_rings, rfS, upS_id, h7]
    have m9 : mOk (N, K, b, z, le, inc rf 0, hd, ln, vl) (6, at1, tk, so, va, lm, ol, ah, lt, lo) := ⟨rfl, hm.2.1, hm.2.2⟩
    exact Go.iret X E dX4_rings_16 ⟨by rw [e9], _, by rw [e9]; exact m9, by rw [e9]⟩ rfl
