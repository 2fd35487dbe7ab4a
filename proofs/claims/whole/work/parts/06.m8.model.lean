/-! 06.m8.model -/
theorem f_X4_copy_7 : FL wsX4_copy RX4 7 4 0 := ⟨RX4, TX4, 27, rfl, fun _ h => List.mem_cons_of_mem _ (List.mem_append_right _ h), by decide, List.mem_of_getElem? (i := 1) (by decide +kernel)⟩
theorem f_X4_copy_13 : FL wsX4_copy RX4 13 4 1 := ⟨RX4, TX4, 27, rfl, fun _ h => List.mem_cons_of_mem _ (List.mem_append_right _ h), by decide, List.mem_of_getElem? (i := 2) (by decide +kernel)⟩
theorem f_X4_copy_16 : FL wsX4_copy RX4 16 4 2 := ⟨RX4, TX4, 27, rfl, fun _ h => List.mem_cons_of_mem _ (List.mem_append_right _ h), by decide, List.mem_of_getElem? (i := 3) (by decide +kernel)⟩
set_option maxHeartbeats 4000000 in
set_option maxRecDepth 100000 in
theorem e_copy (g : gT) (ad : Nat → Nat) (N : Sch) (K : Sch) (b : Bool) (z : Nat) (le : Nat → Nat) (rf : Nat → Int32) (hd : Nat → Int32) (ln : Nat → Nat) (vl : Nat → Nat → Int64) (at1 : Nat) (tk : Nat) (so : Int32) (va : Int32) (lm : Nat → Nat) (ol : Nat → Int32) (ah : Nat → Int32) (lt : Int32) (lo : Nat → Int32) (p : Int32) (q : Int32) (i : Int32) (j : Int32) (n : Int32) (hN : sOk N) (hH : hOk (sP N) hd) (hl : ∀ s, s < 8 → ln s ≤ 40) (hm : mOk (N, K, b, z, le, rf, hd, ln, vl) (6, at1, tk, so, va, lm, ol, ah, lt, lo)) : Ct g yX4_copy wsX4_copy 2 43 [.ref (ad 0), .int p, .int q, .int i, .int j, .int n] (mdW g ad (N, K, b, z, le, rf, hd, ln, vl) (6, at1, tk, so, va, lm, ol, ah, lt, lo)) (fun v9 w9 => v9 = (some (.int (x_copy (N, K, b, z, le, rf, hd, ln, vl) p q i j n).2)) ∧ ∃ J9, mOk (x_copy (N, K, b, z, le, rf, hd, ln, vl) p q i j n).1 J9 ∧ w9 = mdW g ad (x_copy (N, K, b, z, le, rf, hd, ln, vl) p q i j n).1 J9) := by
  refine Ct.start (cc := cX4_copy) (nL := 7) (ret := (some .int)) (own := RX4) (by decide) rfl rfl rfl ?_
  intro Γ X E
  show Go Γ g 7 (rmC 2 43) 0 0 (mdW g ad (N, K, b, z, le, rf, hd, ln, vl) (6, at1, tk, so, va, lm, ol, ah, lt, lo)) 0 [(0, .ref (ad 0)), (1, .int p), (2, .int q), (3, .int i), (4, .int j), (5, .int n)] []
  obtain ⟨o1, o2, o3, o4, o5, o6, o7, o8⟩ := id hN
  have o9 := p2_9 o2
  have o10 := sA_512 hN
  refine Go.iload_n X 1 dX4_copy_0 rfl ?_
  refine Go.iconst X (nI 0) dX4_copy_1 k_ic_0 ?_
  refine Go.bipush X (nI 7) dX4_copy_2 k_bp_7 ?_
  refine Go.callSi X  (d_within_7 g p) cal_X4_within [] rfl rfl gX4_copy_X4_within rfl rfl rfl dX4_copy_4 ?_
  refine Go.if_eqB X 20 dX4_copy_7 (by decide) (fun h7 => ?_) (fun h7 => ?_)
  · --
    refine Go.aload_n X 0 dX4_copy_20 rfl ?_
    refine Go.bipush X ((-2 : Int32)) dX4_copy_21 k_bp_m2 ?_
    refine Go.callV0i X (d_no_0 g ad N K b z le rf hd ln vl 6 at1 tk so va lm ol ah lt lo) cal_X4_no gX4_copy_X4_no (ci := 4) (q0 := 0) rfl rfl rfl rfl rfl dX4_copy_23 ?_
    have e9 : x_copy (N, K, b, z, le, rf, hd, ln, vl) p q i j n = ((N, K, b, z, le, inc rf 0, hd, ln, vl), (-2)) := by simp (decide := true) [x_copy, rfS, upS_id, h7]
    have m9 : mOk (N, K, b, z, le, inc rf 0, hd, ln, vl) (6, at1, tk, so, va, lm, ol, ah, lt, lo) := ⟨rfl, hm.2.1, hm.2.2⟩
    exact Go.iret X E dX4_copy_26 ⟨by rw [e9], _, by rw [e9]; exact m9, by rw [e9]⟩ rfl
  · --
    obtain ⟨pk, hpk, rfl⟩ := inb_at (by first | omega | (split <;> omega)) h7
    refine Go.iload_n X 2 dX4_copy_10 rfl ?_
    refine Go.iconst X (nI 0) dX4_copy_11 k_ic_0 ?_
    refine Go.bipush X (nI 7) dX4_copy_12 k_bp_7 ?_
    refine Go.callSi X  (d_within_7 g q) cal_X4_within [] rfl rfl gX4_copy_X4_within rfl rfl rfl dX4_copy_14 ?_
    refine Go.if_neB X 27 dX4_copy_17 (by decide) (fun h17 => ?_) (fun h17 => ?_)
    · --
      obtain ⟨qk, hqk, rfl⟩ := inb_at (by first | omega | (split <;> omega)) h17
      rcases hH pk hpk with ep | ⟨a, ha, ep⟩ | ⟨j0, hj0, ep⟩
      · --
        refine Go.aload_n X 0 dX4_copy_27 rfl ?_
        rcases hH qk hqk with eq | ⟨c, hc, eq⟩ | ⟨j1, hj1, eq⟩
        · --
          refine Go.get X f_X4_copy_7 0 (v := .ref (ad 1)) rfl rfl dX4_copy_28 ?_
          refine Go.iload_n X 1 dX4_copy_31 rfl ?_
          refine Go.ialdF X 1 (f := hd) rfl (by first | omega | (split <;> omega)) rfl dX4_copy_32 ?_
          refine Go.top (w := .int (-1)) (by rw [ep]) ?_
          refine Go.iconst X (nI 4) dX4_copy_33 k_ic_4 ?_
          refine Go.icmp_gt X 78 dX4_copy_34 (by decide) (fun h => absurd h (by decide)) (fun _ => ?_)
          refine Go.aload_n X 0 dX4_copy_37 rfl ?_
          refine Go.get X f_X4_copy_7 0 (v := .ref (ad 1)) rfl rfl dX4_copy_38 ?_
          refine Go.iload_n X 2 dX4_copy_41 rfl ?_
          refine Go.ialdF X 1 (f := hd) rfl (by first | omega | (split <;> omega)) rfl dX4_copy_42 ?_
          refine Go.top (w := .int (-1)) (by rw [eq]) ?_
          refine Go.iconst X (nI 4) dX4_copy_43 k_ic_4 ?_
          refine Go.icmp_gt X 78 dX4_copy_44 (by decide) (fun h => absurd h (by decide)) (fun _ => ?_)
          refine Go.aload_n X 0 dX4_copy_47 rfl ?_
          refine Go.iload_n X 1 dX4_copy_48 rfl ?_
          refine Go.callV0i X (d_isRow g ad N K b z le rf hd ln vl 6 at1 tk so va lm ol ah lt lo pk (by first | omega | (split <;> omega))) cal_X4_isRow gX4_copy_X4_isRow (ci := 4) (q0 := 0) rfl rfl rfl rfl rfl dX4_copy_49 ?_
          refine Go.top (w := .int (nI 0)) (by rw [ep]; decide) ?_
          refine Go.if_eq X 85 dX4_copy_52 (by decide) (fun _ => ?_) (fun h => absurd (by decide) h)
          refine Go.aload_n X 0 dX4_copy_85 rfl ?_
          refine Go.get X f_X4_copy_7 0 (v := .ref (ad 1)) rfl rfl dX4_copy_86 ?_
          refine Go.iload_n X 1 dX4_copy_89 rfl ?_
          refine Go.ialdF X 1 (f := hd) rfl (by first | omega | (split <;> omega)) rfl dX4_copy_90 ?_
          refine Go.top (w := .int (-1)) (by rw [ep]) ?_
          refine Go.if_lt X 103 dX4_copy_91 (by decide) (fun _ => ?_) (fun h => absurd (by decide) h)
          refine Go.aload_n X 0 dX4_copy_103 rfl ?_
          refine Go.bipush X ((-4 : Int32)) dX4_copy_104 k_bp_m4 ?_
          refine Go.callV0i X (d_no_2 g ad N K b z le rf hd ln vl 6 at1 tk so va lm ol ah lt lo) cal_X4_no gX4_copy_X4_no (ci := 4) (q0 := 0) rfl rfl rfl rfl rfl dX4_copy_106 ?_
          have e9 : x_copy (N, K, b, z, le, rf, hd, ln, vl) (nI pk) (nI qk) i j n = ((N, K, b, z, le, inc rf 2, hd, ln, vl), (-4)) := by simp (decide := true) [x_copy, rfS, h7, h17, nI_clamp (show pk < 2 ^ 31 by omega), nI_clamp (show qk < 2 ^ 31 by omega), ep, eq, inb_m1 5, inb_m1 5, (show ¬ nI 10 ≤ (-1 : Int32) by decide), (show ¬ nI 10 ≤ (-1 : Int32) by decide)]
          have m9 : mOk (N, K, b, z, le, inc rf 2, hd, ln, vl) (6, at1, tk, so, va, lm, ol, ah, lt, lo) := ⟨rfl, hm.2.1, hm.2.2⟩
          exact Go.iret X E dX4_copy_109 ⟨by rw [e9], _, by rw [e9]; exact m9, by rw [e9]⟩ rfl
        · --
          refine Go.get X f_X4_copy_7 0 (v := .ref (ad 1)) rfl rfl dX4_copy_28 ?_
          refine Go.iload_n X 1 dX4_copy_31 rfl ?_
          refine Go.ialdF X 1 (f := hd) rfl (by first | omega | (split <;> omega)) rfl dX4_copy_32 ?_
          refine Go.top (w := .int (-1)) (by rw [ep]) ?_
          refine Go.iconst X (nI 4) dX4_copy_33 k_ic_4 ?_
          refine Go.icmp_gt X 78 dX4_copy_34 (by decide) (fun h => absurd h (by decide)) (fun _ => ?_)
          refine Go.aload_n X 0 dX4_copy_37 rfl ?_
          refine Go.get X f_X4_copy_7 0 (v := .ref (ad 1)) rfl rfl dX4_copy_38 ?_
          refine Go.iload_n X 2 dX4_copy_41 rfl ?_
          refine Go.ialdF X 1 (f := hd) rfl (by first | omega | (split <;> omega)) rfl dX4_copy_42 ?_
          refine Go.top (w := .int (nI c)) (by rw [eq]) ?_
          refine Go.iconst X (nI 4) dX4_copy_43 k_ic_4 ?_
          refine Go.icmp_gtN X 78 dX4_copy_44 (by decide) (by first | omega | (split <;> omega)) (by decide) (fun h44 => ?_) (fun h44 => ?_)
          · --
            exact absurd h44 (by omega)
          · --
            refine Go.aload_n X 0 dX4_copy_47 rfl ?_
            refine Go.iload_n X 1 dX4_copy_48 rfl ?_
            refine Go.callV0i X (d_isRow g ad N K b z le rf hd ln vl 6 at1 tk so va lm ol ah lt lo pk (by first | omega | (split <;> omega))) cal_X4_isRow gX4_copy_X4_isRow (ci := 4) (q0 := 0) rfl rfl rfl rfl rfl dX4_copy_49 ?_
            refine Go.top (w := .int (nI 0)) (by rw [ep]; decide) ?_
            refine Go.if_eq X 85 dX4_copy_52 (by decide) (fun _ => ?_) (fun h => absurd (by decide) h)
            refine Go.aload_n X 0 dX4_copy_85 rfl ?_
            refine Go.get X f_X4_copy_7 0 (v := .ref (ad 1)) rfl rfl dX4_copy_86 ?_
            refine Go.iload_n X 1 dX4_copy_89 rfl ?_
            refine Go.ialdF X 1 (f := hd) rfl (by first | omega | (split <;> omega)) rfl dX4_copy_90 ?_
            refine Go.top (w := .int (-1)) (by rw [ep]) ?_
            refine Go.if_lt X 103 dX4_copy_91 (by decide) (fun _ => ?_) (fun h => absurd (by decide) h)
            refine Go.aload_n X 0 dX4_copy_103 rfl ?_
            refine Go.bipush X ((-4 : Int32)) dX4_copy_104 k_bp_m4 ?_
            refine Go.callV0i X (d_no_2 g ad N K b z le rf hd ln vl 6 at1 tk so va lm ol ah lt lo) cal_X4_no gX4_copy_X4_no (ci := 4) (q0 := 0) rfl rfl rfl rfl rfl dX4_copy_106 ?_
            have e9 : x_copy (N, K, b, z, le, rf, hd, ln, vl) (nI pk) (nI qk) i j n = ((N, K, b, z, le, inc rf 2, hd, ln, vl), (-4)) := by simp (decide := true) [x_copy, rfS, h7, h17, nI_clamp (show pk < 2 ^ 31 by omega), nI_clamp (show qk < 2 ^ 31 by omega), ep, eq, inb_m1 5, (show inb (nI c) 5 = true by rw [inb_nI (by omega) (by decide), decide_eq_true hc]), (show ¬ nI 10 ≤ (-1 : Int32) by decide), (show ¬ nI 10 ≤ nI c from fun q => absurd ((nI_leI (by decide) (by omega)).mp q) (by omega))]
            have m9 : mOk (N, K, b, z, le, inc rf 2, hd, ln, vl) (6, at1, tk, so, va, lm, ol, ah, lt, lo) := ⟨rfl, hm.2.1, hm.2.2⟩
            exact Go.iret X E dX4_copy_109 ⟨by rw [e9], _, by rw [e9]; exact m9, by rw [e9]⟩ rfl
        · --
          refine Go.get X f_X4_copy_7 0 (v := .ref (ad 1)) rfl rfl dX4_copy_28 ?_
          refine Go.iload_n X 1 dX4_copy_31 rfl ?_
          refine Go.ialdF X 1 (f := hd) rfl (by first | omega | (split <;> omega)) rfl dX4_copy_32 ?_
          refine Go.top (w := .int (-1)) (by rw [ep]) ?_
          refine Go.iconst X (nI 4) dX4_copy_33 k_ic_4 ?_
          refine Go.icmp_gt X 78 dX4_copy_34 (by decide) (fun h => absurd h (by decide)) (fun _ => ?_)
          refine Go.aload_n X 0 dX4_copy_37 rfl ?_
          refine Go.get X f_X4_copy_7 0 (v := .ref (ad 1)) rfl rfl dX4_copy_38 ?_
          refine Go.iload_n X 2 dX4_copy_41 rfl ?_
          refine Go.ialdF X 1 (f := hd) rfl (by first | omega | (split <;> omega)) rfl dX4_copy_42 ?_
          refine Go.top (w := .int (nI (10 + j1))) (by rw [eq]) ?_
          refine Go.iconst X (nI 4) dX4_copy_43 k_ic_4 ?_
          refine Go.icmp_gtN X 78 dX4_copy_44 (by decide) (by first | omega | (split <;> omega)) (by decide) (fun h44 => ?_) (fun h44 => ?_)
          · --
            refine Go.aload_n X 0 dX4_copy_78 rfl ?_
            refine Go.bipush X ((-3 : Int32)) dX4_copy_79 k_bp_m3 ?_
            refine Go.callV0i X (d_no_1 g ad N K b z le rf hd ln vl 6 at1 tk so va lm ol ah lt lo) cal_X4_no gX4_copy_X4_no (ci := 4) (q0 := 0) rfl rfl rfl rfl rfl dX4_copy_81 ?_
            have e9 : x_copy (N, K, b, z, le, rf, hd, ln, vl) (nI pk) (nI qk) i j n = ((N, K, b, z, le, inc rf 1, hd, ln, vl), (-3)) := by simp (decide := true) [x_copy, rfS, h7, h17, nI_clamp (show pk < 2 ^ 31 by omega), nI_clamp (show qk < 2 ^ 31 by omega), ep, eq, inb_m1 5, inb_10 (show j1 < 1000 by omega), (show ¬ nI 10 ≤ (-1 : Int32) by decide), (show nI 10 ≤ nI (10 + j1) from (nI_leI (by decide) (by omega)).mpr (by omega))]
            have m9 : mOk (N, K, b, z, le, inc rf 1, hd, ln, vl) (6, at1, tk, so, va, lm, ol, ah, lt, lo) := ⟨rfl, hm.2.1, hm.2.2⟩
            exact Go.iret X E dX4_copy_84 ⟨by rw [e9], _, by rw [e9]; exact m9, by rw [e9]⟩ rfl
          · --
            exact absurd h44 (by omega)
      · --
        refine Go.aload_n X 0 dX4_copy_27 rfl ?_
        rcases hH qk hqk with eq | ⟨c, hc, eq⟩ | ⟨j1, hj1, eq⟩
        · --
          refine Go.get X f_X4_copy_7 0 (v := .ref (ad 1)) rfl rfl dX4_copy_28 ?_
          refine Go.iload_n X 1 dX4_copy_31 rfl ?_
          refine Go.ialdF X 1 (f := hd) rfl (by first | omega | (split <;> omega)) rfl dX4_copy_32 ?_
          refine Go.top (w := .int (nI a)) (by rw [ep]) ?_
          refine Go.iconst X (nI 4) dX4_copy_33 k_ic_4 ?_
          refine Go.icmp_gtN X 78 dX4_copy_34 (by decide) (by first | omega | (split <;> omega)) (by decide) (fun h34 => ?_) (fun h34 => ?_)
          · --
            exact absurd h34 (by omega)
          · --
            refine Go.aload_n X 0 dX4_copy_37 rfl ?_
            refine Go.get X f_X4_copy_7 0 (v := .ref (ad 1)) rfl rfl dX4_copy_38 ?_
            refine Go.iload_n X 2 dX4_copy_41 rfl ?_
            refine Go.ialdF X 1 (f := hd) rfl (by first | omega | (split <;> omega)) rfl dX4_copy_42 ?_
            refine Go.top (w := .int (-1)) (by rw [eq]) ?_
            refine Go.iconst X (nI 4) dX4_copy_43 k_ic_4 ?_
            refine Go.icmp_gt X 78 dX4_copy_44 (by decide) (fun h => absurd h (by decide)) (fun _ => ?_)
            refine Go.aload_n X 0 dX4_copy_47 rfl ?_
            refine Go.iload_n X 1 dX4_copy_48 rfl ?_
            refine Go.callV0i X (d_isRow g ad N K b z le rf hd ln vl 6 at1 tk so va lm ol ah lt lo pk (by first | omega | (split <;> omega))) cal_X4_isRow gX4_copy_X4_isRow (ci := 4) (q0 := 0) rfl rfl rfl rfl rfl dX4_copy_49 ?_
            refine Go.top (w := .int (nI 1)) (by rw [ep, inb_nI (by omega) (by decide), decide_eq_true ha]; rfl) ?_
            refine Go.if_eq X 85 dX4_copy_52 (by decide) (fun h => absurd h (by decide)) (fun _ => ?_)
            refine Go.aload_n X 0 dX4_copy_55 rfl ?_
            refine Go.iload_n X 2 dX4_copy_56 rfl ?_
            refine Go.callV0i X (d_isRow g ad N K b z le rf hd ln vl 6 at1 tk so va lm ol ah lt lo qk (by first | omega | (split <;> omega))) cal_X4_isRow gX4_copy_X4_isRow (ci := 4) (q0 := 0) rfl rfl rfl rfl rfl dX4_copy_57 ?_
            refine Go.top (w := .int (nI 0)) (by rw [eq]; decide) ?_
            refine Go.if_eq X 85 dX4_copy_60 (by decide) (fun _ => ?_) (fun h => absurd (by decide) h)
            refine Go.aload_n X 0 dX4_copy_85 rfl ?_
            refine Go.get X f_X4_copy_7 0 (v := .ref (ad 1)) rfl rfl dX4_copy_86 ?_
            refine Go.iload_n X 1 dX4_copy_89 rfl ?_
            refine Go.ialdF X 1 (f := hd) rfl (by first | omega | (split <;> omega)) rfl dX4_copy_90 ?_
            refine Go.top (w := .int (nI a)) (by rw [ep]) ?_
            refine Go.if_ltN X 103 dX4_copy_91 (by decide) (by first | omega | (split <;> omega)) ?_
            refine Go.aload_n X 0 dX4_copy_94 rfl ?_
            refine Go.get X f_X4_copy_7 0 (v := .ref (ad 1)) rfl rfl dX4_copy_95 ?_
            refine Go.iload_n X 2 dX4_copy_98 rfl ?_
            refine Go.ialdF X 1 (f := hd) rfl (by first | omega | (split <;> omega)) rfl dX4_copy_99 ?_
            refine Go.top (w := .int (-1)) (by rw [eq]) ?_
            refine Go.if_ge X 110 dX4_copy_100 (by decide) (fun h => absurd h (by decide)) (fun _ => ?_)
            refine Go.aload_n X 0 dX4_copy_103 rfl ?_
            refine Go.bipush X ((-4 : Int32)) dX4_copy_104 k_bp_m4 ?_
            refine Go.callV0i X (d_no_2 g ad N K b z le rf hd ln vl 6 at1 tk so va lm ol ah lt lo) cal_X4_no gX4_copy_X4_no (ci := 4) (q0 := 0) rfl rfl rfl rfl rfl dX4_copy_106 ?_
            have e9 : x_copy (N, K, b, z, le, rf, hd, ln, vl) (nI pk) (nI qk) i j n = ((N, K, b, z, le, inc rf 2, hd, ln, vl), (-4)) := by simp (decide := true) [x_copy, rfS, h7, h17, nI_clamp (show pk < 2 ^ 31 by omega), nI_clamp (show qk < 2 ^ 31 by omega), ep, eq, (show inb (nI a) 5 = true by rw [inb_nI (by omega) (by decide), decide_eq_true ha]), inb_m1 5, (show ¬ nI 10 ≤ nI a from fun q => absurd ((nI_leI (by decide) (by omega)).mp q) (by omega)), (show ¬ nI 10 ≤ (-1 : Int32) by decide)]
            have m9 : mOk (N, K, b, z, le, inc rf 2, hd, ln, vl) (6, at1, tk, so, va, lm, ol, ah, lt, lo) := ⟨rfl, hm.2.1, hm.2.2⟩
            exact Go.iret X E dX4_copy_109 ⟨by rw [e9], _, by rw [e9]; exact m9, by rw [e9]⟩ rfl
        · --
          refine Go.get X f_X4_copy_7 0 (v := .ref (ad 1)) rfl rfl dX4_copy_28 ?_
          refine Go.iload_n X 1 dX4_copy_31 rfl ?_
          refine Go.ialdF X 1 (f := hd) rfl (by first | omega | (split <;> omega)) rfl dX4_copy_32 ?_
          refine Go.top (w := .int (nI a)) (by rw [ep]) ?_
          refine Go.iconst X (nI 4) dX4_copy_33 k_ic_4 ?_
          refine Go.icmp_gtN X 78 dX4_copy_34 (by decide) (by first | omega | (split <;> omega)) (by decide) (fun h34 => ?_) (fun h34 => ?_)
          · --
            exact absurd h34 (by omega)
          · --
            refine Go.aload_n X 0 dX4_copy_37 rfl ?_
            refine Go.get X f_X4_copy_7 0 (v := .ref (ad 1)) rfl rfl dX4_copy_38 ?_
            refine Go.iload_n X 2 dX4_copy_41 rfl ?_
            refine Go.ialdF X 1 (f := hd) rfl (by first | omega | (split <;> omega)) rfl dX4_copy_42 ?_
            refine Go.top (w := .int (nI c)) (by rw [eq]) ?_
            refine Go.iconst X (nI 4) dX4_copy_43 k_ic_4 ?_
            refine Go.icmp_gtN X 78 dX4_copy_44 (by decide) (by first | omega | (split <;> omega)) (by decide) (fun h44 => ?_) (fun h44 => ?_)
            · --
              exact absurd h44 (by omega)
            · --
              refine Go.aload_n X 0 dX4_copy_47 rfl ?_
              refine Go.iload_n X 1 dX4_copy_48 rfl ?_
              refine Go.callV0i X (d_isRow g ad N K b z le rf hd ln vl 6 at1 tk so va lm ol ah lt lo pk (by first | omega | (split <;> omega))) cal_X4_isRow gX4_copy_X4_isRow (ci := 4) (q0 := 0) rfl rfl rfl rfl rfl dX4_copy_49 ?_
              refine Go.top (w := .int (nI 1)) (by rw [ep, inb_nI (by omega) (by decide), decide_eq_true ha]; rfl) ?_
              refine Go.if_eq X 85 dX4_copy_52 (by decide) (fun h => absurd h (by decide)) (fun _ => ?_)
              refine Go.aload_n X 0 dX4_copy_55 rfl ?_
              refine Go.iload_n X 2 dX4_copy_56 rfl ?_
              refine Go.callV0i X (d_isRow g ad N K b z le rf hd ln vl 6 at1 tk so va lm ol ah lt lo qk (by first | omega | (split <;> omega))) cal_X4_isRow gX4_copy_X4_isRow (ci := 4) (q0 := 0) rfl rfl rfl rfl rfl dX4_copy_57 ?_
              refine Go.top (w := .int (nI 1)) (by rw [eq, inb_nI (by omega) (by decide), decide_eq_true hc]; rfl) ?_
              refine Go.if_eq X 85 dX4_copy_60 (by decide) (fun h => absurd h (by decide)) (fun _ => ?_)
              refine Go.aload_n X 0 dX4_copy_63 rfl ?_
              refine Go.get X f_X4_copy_7 0 (v := .ref (ad 1)) rfl rfl dX4_copy_64 ?_
              refine Go.iload_n X 1 dX4_copy_67 rfl ?_
              refine Go.ialdF X 1 (f := hd) rfl (by first | omega | (split <;> omega)) rfl dX4_copy_68 ?_
              refine Go.top (w := .int (nI a)) (by rw [ep]) ?_
              refine Go.aload_n X 0 dX4_copy_69 rfl ?_
              refine Go.get X f_X4_copy_7 0 (v := .ref (ad 1)) rfl rfl dX4_copy_70 ?_
              refine Go.iload_n X 2 dX4_copy_73 rfl ?_
              refine Go.ialdF X 1 (f := hd) rfl (by first | omega | (split <;> omega)) rfl dX4_copy_74 ?_
              refine Go.top (w := .int (nI c)) (by rw [eq]) ?_
              refine Go.icmp_eqN X 85 dX4_copy_75 (by decide) (by first | omega | (split <;> omega)) (by first | omega | (split <;> omega)) (fun h75 => ?_) (fun h75 => ?_)
              · --
                refine Go.aload_n X 0 dX4_copy_85 rfl ?_
                refine Go.get X f_X4_copy_7 0 (v := .ref (ad 1)) rfl rfl dX4_copy_86 ?_
                refine Go.iload_n X 1 dX4_copy_89 rfl ?_
                refine Go.ialdF X 1 (f := hd) rfl (by first | omega | (split <;> omega)) rfl dX4_copy_90 ?_
                refine Go.top (w := .int (nI a)) (by rw [ep]) ?_
                refine Go.if_ltN X 103 dX4_copy_91 (by decide) (by first | omega | (split <;> omega)) ?_
                refine Go.aload_n X 0 dX4_copy_94 rfl ?_
                refine Go.get X f_X4_copy_7 0 (v := .ref (ad 1)) rfl rfl dX4_copy_95 ?_
                refine Go.iload_n X 2 dX4_copy_98 rfl ?_
                refine Go.ialdF X 1 (f := hd) rfl (by first | omega | (split <;> omega)) rfl dX4_copy_99 ?_
                refine Go.top (w := .int (nI c)) (by rw [eq]) ?_
                refine Go.if_geN X 110 dX4_copy_100 (by decide) (by first | omega | (split <;> omega)) ?_
                refine Go.iload X 5 dX4_copy_110 rfl ?_
                refine Go.if_lt X 159 dX4_copy_112 (by decide) (fun h112 => ?_) (fun h112 => ?_)
                · --
                  refine Go.aload_n X 0 dX4_copy_159 rfl ?_
                  refine Go.bipush X ((-2 : Int32)) dX4_copy_160 k_bp_m2 ?_
                  refine Go.callV0i X (d_no_0 g ad N K b z le rf hd ln vl 6 at1 tk so va lm ol ah lt lo) cal_X4_no gX4_copy_X4_no (ci := 4) (q0 := 0) rfl rfl rfl rfl rfl dX4_copy_162 ?_
                  have e9 : x_copy (N, K, b, z, le, rf, hd, ln, vl) (nI pk) (nI qk) i j n = ((N, K, b, z, le, inc rf 0, hd, ln, vl), (-2)) := by subst h75; simp (decide := true) [x_copy, rfS, h7, h17, nI_clamp (show pk < 2 ^ 31 by omega), nI_clamp (show qk < 2 ^ 31 by omega), ep, eq, (show inb (nI a) 5 = true by rw [inb_nI (by omega) (by decide), decide_eq_true ha]), (show inb (nI a) 5 = true by rw [inb_nI (by omega) (by decide), decide_eq_true hc]), (show ¬ nI 10 ≤ nI a from fun q => absurd ((nI_leI (by decide) (by omega)).mp q) (by omega)), (show ¬ nI 10 ≤ nI a from fun q => absurd ((nI_leI (by decide) (by omega)).mp q) (by omega)), hasR_2' (i := i) (l := ln pk) h112]
                  have m9 : mOk (N, K, b, z, le, inc rf 0, hd, ln, vl) (6, at1, tk, so, va, lm, ol, ah, lt, lo) := ⟨rfl, hm.2.1, hm.2.2⟩
                  exact Go.iret X E dX4_copy_165 ⟨by rw [e9], _, by rw [e9]; exact m9, by rw [e9]⟩ rfl
                · --
                  refine Go.iload_n X 3 dX4_copy_115 rfl ?_
                  refine Go.if_lt X 159 dX4_copy_116 (by decide) (fun h116 => ?_) (fun h116 => ?_)
                  · --
                    refine Go.aload_n X 0 dX4_copy_159 rfl ?_
                    refine Go.bipush X ((-2 : Int32)) dX4_copy_160 k_bp_m2 ?_
                    refine Go.callV0i X (d_no_0 g ad N K b z le rf hd ln vl 6 at1 tk so va lm ol ah lt lo) cal_X4_no gX4_copy_X4_no (ci := 4) (q0 := 0) rfl rfl rfl rfl rfl dX4_copy_162 ?_
                    have e9 : x_copy (N, K, b, z, le, rf, hd, ln, vl) (nI pk) (nI qk) i j n = ((N, K, b, z, le, inc rf 0, hd, ln, vl), (-2)) := by subst h75; simp (decide := true) [x_copy, rfS, h7, h17, nI_clamp (show pk < 2 ^ 31 by omega), nI_clamp (show qk < 2 ^ 31 by omega), ep, eq, (show inb (nI a) 5 = true by rw [inb_nI (by omega) (by decide), decide_eq_true ha]), (show inb (nI a) 5 = true by rw [inb_nI (by omega) (by decide), decide_eq_true hc]), (show ¬ nI 10 ≤ nI a from fun q => absurd ((nI_leI (by decide) (by omega)).mp q) (by omega)), (show ¬ nI 10 ≤ nI a from fun q => absurd ((nI_leI (by decide) (by omega)).mp q) (by omega)), hasR_1' (n := n) (l := ln pk) h116]
                    have m9 : mOk (N, K, b, z, le, inc rf 0, hd, ln, vl) (6, at1, tk, so, va, lm, ol, ah, lt, lo) := ⟨rfl, hm.2.1, hm.2.2⟩
                    exact Go.iret X E dX4_copy_165 ⟨by rw [e9], _, by rw [e9]; exact m9, by rw [e9]⟩ rfl
                  · --
                    refine Go.iload X 4 dX4_copy_119 rfl ?_
                    refine Go.if_lt X 159 dX4_copy_121 (by decide) (fun h121 => ?_) (fun h121 => ?_)
                    · --
                      refine Go.aload_n X 0 dX4_copy_159 rfl ?_
                      refine Go.bipush X ((-2 : Int32)) dX4_copy_160 k_bp_m2 ?_
                      refine Go.callV0i X (d_no_0 g ad N K b z le rf hd ln vl 6 at1 tk so va lm ol ah lt lo) cal_X4_no gX4_copy_X4_no (ci := 4) (q0 := 0) rfl rfl rfl rfl rfl dX4_copy_162 ?_
                      have e9 : x_copy (N, K, b, z, le, rf, hd, ln, vl) (nI pk) (nI qk) i j n = ((N, K, b, z, le, inc rf 0, hd, ln, vl), (-2)) := by subst h75; simp (decide := true) [x_copy, rfS, h7, h17, nI_clamp (show pk < 2 ^ 31 by omega), nI_clamp (show qk < 2 ^ 31 by omega), ep, eq, (show inb (nI a) 5 = true by rw [inb_nI (by omega) (by decide), decide_eq_true ha]), (show inb (nI a) 5 = true by rw [inb_nI (by omega) (by decide), decide_eq_true hc]), (show ¬ nI 10 ≤ nI a from fun q => absurd ((nI_leI (by decide) (by omega)).mp q) (by omega)), (show ¬ nI 10 ≤ nI a from fun q => absurd ((nI_leI (by decide) (by omega)).mp q) (by omega)), hasR_1' (n := n) (l := ln qk) h121]
                      have m9 : mOk (N, K, b, z, le, inc rf 0, hd, ln, vl) (6, at1, tk, so, va, lm, ol, ah, lt, lo) := ⟨rfl, hm.2.1, hm.2.2⟩
                      exact Go.iret X E dX4_copy_165 ⟨by rw [e9], _, by rw [e9]; exact m9, by rw [e9]⟩ rfl
                    · --
                      refine Go.iload_n X 3 dX4_copy_124 rfl ?_
                      refine Go.i2l X ((i : Int32).toInt64) dX4_copy_125 rfl ?_
                      refine Go.iload X 5 dX4_copy_126 rfl ?_
                      refine Go.i2l X ((n : Int32).toInt64) dX4_copy_128 rfl ?_
                      refine Go.ladd X (((i : Int32).toInt64) + ((n : Int32).toInt64)) dX4_copy_129 rfl ?_
                      have hlp := hl pk hpk
                      have hlq := hl qk hqk
                      refine Go.aload_n X 0 dX4_copy_130 rfl ?_
                      refine Go.get X f_X4_copy_13 0 (v := .ref (ad 2)) rfl rfl dX4_copy_131 ?_
                      refine Go.iload_n X 1 dX4_copy_134 rfl ?_
                      refine Go.ialdN X 2 (w := lm) rfl (by first | omega | (split <;> omega)) rfl dX4_copy_135 ?_
                      refine Go.top (w := .int (nI (ln pk))) (by exact congrArg (fun z => Value.int (nI z)) (hm.2.1 pk hpk (by show inb (hd pk) 5 = true; rw [ep, inb_nI (by omega) (by decide), decide_eq_true ha]))) ?_
                      refine Go.i2l X (((nI (ln pk)) : Int32).toInt64) dX4_copy_136 rfl ?_
                      refine Go.lcmp X dX4_copy_137 ?_
                      refine Go.if_gt X 159 dX4_copy_138 (by decide) (fun h138 => ?_) (fun h138 => ?_)
                      · --
                        refine Go.aload_n X 0 dX4_copy_159 rfl ?_
                        refine Go.bipush X ((-2 : Int32)) dX4_copy_160 k_bp_m2 ?_
                        refine Go.callV0i X (d_no_0 g ad N K b z le rf hd ln vl 6 at1 tk so va lm ol ah lt lo) cal_X4_no gX4_copy_X4_no (ci := 4) (q0 := 0) rfl rfl rfl rfl rfl dX4_copy_162 ?_
                        have e9 : x_copy (N, K, b, z, le, rf, hd, ln, vl) (nI pk) (nI qk) i j n = ((N, K, b, z, le, inc rf 0, hd, ln, vl), (-2)) := by subst h75; simp (decide := true) [x_copy, rfS, h7, h17, nI_clamp (show pk < 2 ^ 31 by omega), nI_clamp (show qk < 2 ^ 31 by omega), ep, eq, (show inb (nI a) 5 = true by rw [inb_nI (by omega) (by decide), decide_eq_true ha]), (show inb (nI a) 5 = true by rw [inb_nI (by omega) (by decide), decide_eq_true hc]), (show ¬ nI 10 ≤ nI a from fun q => absurd ((nI_leI (by decide) (by omega)).mp q) (by omega)), (show ¬ nI 10 ≤ nI a from fun q => absurd ((nI_leI (by decide) (by omega)).mp q) (by omega)), cp_n hlp h116 h112 h138]
                        have m9 : mOk (N, K, b, z, le, inc rf 0, hd, ln, vl) (6, at1, tk, so, va, lm, ol, ah, lt, lo) := ⟨rfl, hm.2.1, hm.2.2⟩
                        exact Go.iret X E dX4_copy_165 ⟨by rw [e9], _, by rw [e9]; exact m9, by rw [e9]⟩ rfl
                      · --
                        refine Go.iload X 4 dX4_copy_141 rfl ?_
                        refine Go.i2l X ((j : Int32).toInt64) dX4_copy_143 rfl ?_
                        refine Go.iload X 5 dX4_copy_144 rfl ?_
                        refine Go.i2l X ((n : Int32).toInt64) dX4_copy_146 rfl ?_
                        refine Go.ladd X (((j : Int32).toInt64) + ((n : Int32).toInt64)) dX4_copy_147 rfl ?_
                        refine Go.aload_n X 0 dX4_copy_148 rfl ?_
                        refine Go.get X f_X4_copy_13 0 (v := .ref (ad 2)) rfl rfl dX4_copy_149 ?_
                        refine Go.iload_n X 2 dX4_copy_152 rfl ?_
                        refine Go.ialdN X 2 (w := lm) rfl (by first | omega | (split <;> omega)) rfl dX4_copy_153 ?_
                        refine Go.top (w := .int (nI (ln qk))) (by exact congrArg (fun z => Value.int (nI z)) (hm.2.1 qk hqk (by show inb (hd qk) 5 = true; rw [eq, inb_nI (by omega) (by decide), decide_eq_true hc]))) ?_
                        refine Go.i2l X (((nI (ln qk)) : Int32).toInt64) dX4_copy_154 rfl ?_
                        refine Go.lcmp X dX4_copy_155 ?_
                        refine Go.if_le X 166 dX4_copy_156 (by decide) (fun h156 => ?_) (fun h156 => ?_)
                        · --
                          have y1 := cp_y hlp h116 h112 h138
                          have y2 := cp_y hlq h121 h112 (le_ng h156)
                          obtain ⟨i1, n1, rfl, rfl, e1⟩ := hasR_at hlp y1
                          obtain ⟨d1, n2, rfl, e3, e2⟩ := hasR_at hlq y2
                          obtain rfl : n1 = n2 := by have q := congrArg Int32.toNatClampNeg e3; rw [nI_clamp (by omega), nI_clamp (by omega)] at q; exact q
                          refine Go.iload_n X 1 dX4_copy_166 rfl ?_
                          refine Go.iload_n X 2 dX4_copy_167 rfl ?_
                          refine Go.icmp_neN X 226 dX4_copy_168 (by decide) (by first | omega | (split <;> omega)) (by first | omega | (split <;> omega)) (fun h168 => ?_) (fun h168 => ?_)
                          · --
                            refine Go.iconst X (nI 0) dX4_copy_226 k_ic_0 ?_
                            refine Go.istore_new X dX4_copy_227 (by decide) rfl ?_
                            have L229 : ∀ (f229 : Nat) (k : Nat) (hk : k ≤ n1) (hf229 : n1 - k < f229), Go Γ g 7 (rmC 2 43) 0 0 (mdW g ad (N, K, b, z, le, rf, hd, ln, upS vl qk (va_cpy (vl pk) (vl qk) i1 d1 k)) (6, at1, tk, so, va, lm, ol, ah, lt, lo)) 229 [(6, .int (nI k)), (0, .ref (ad 0)), (1, .int (nI pk)), (2, .int (nI qk)), (3, .int (nI i1)), (4, .int (nI d1)), (5, .int (nI n1))] [] := by
                              intro f229
                              induction f229 with
                              | zero => intro k hk hf229; exact absurd hf229 (Nat.not_lt_zero _)
                              | succ f229 ih229 =>
                                intro k hk hf229
                                refine Go.iload X 0 dX4_copy_229 rfl ?_
                                refine Go.iload X 6 dX4_copy_231 rfl ?_
                                refine Go.icmp_geN X 271 dX4_copy_233 (by decide) (by first | omega | (split <;> omega)) (by first | omega | (split <;> omega)) (fun h233 => ?_) (fun h233 => ?_)
                                · --
                                  refine Go.conv (M1 := mdW g ad (N, K, b, z, le, rf, hd, ln, upS vl qk (va_cpy (vl pk) (vl qk) i1 d1 n1)) (6, at1, tk, so, va, lm, ol, ah, lt, lo)) ?_ (by rw [show k = n1 by omega]) rfl rfl
                                  refine Go.iload X 6 dX4_copy_271 rfl ?_
                                  have e9 : x_copy (N, K, b, z, le, rf, hd, ln, vl) (nI pk) (nI qk) (nI i1) (nI d1) (nI n1) = ((N, K, b, z, le, rf, hd, ln, upS vl qk (va_cpy (vl pk) (vl qk) i1 d1 n1)), (nI n1)) := by subst h75; simp (decide := true) [x_copy, rfS, h7, h17, nI_clamp (show pk < 2 ^ 31 by omega), nI_clamp (show qk < 2 ^ 31 by omega), ep, eq, (show inb (nI a) 5 = true by rw [inb_nI (by omega) (by decide), decide_eq_true ha]), (show inb (nI a) 5 = true by rw [inb_nI (by omega) (by decide), decide_eq_true hc]), (show ¬ nI 10 ≤ nI a from fun q => absurd ((nI_leI (by decide) (by omega)).mp q) (by omega)), (show ¬ nI 10 ≤ nI a from fun q => absurd ((nI_leI (by decide) (by omega)).mp q) (by omega)), y1, y2, nI_clamp (show i1 < 2 ^ 31 by omega), nI_clamp (show d1 < 2 ^ 31 by omega), nI_clamp (show n1 < 2 ^ 31 by omega)]
                                  have m9 : mOk (N, K, b, z, le, rf, hd, ln, upS vl qk (va_cpy (vl pk) (vl qk) i1 d1 n1)) (6, at1, tk, so, va, lm, ol, ah, lt, lo) := ⟨rfl, hm.2.1, hm.2.2⟩
                                  exact Go.iret X E dX4_copy_273 ⟨by rw [e9], _, by rw [e9]; exact m9, by rw [e9]⟩ rfl
                                · --
                                  refine Go.aload_n X 1 dX4_copy_236 rfl ?_
                                  refine Go.get X f_X4_copy_16 0 (v := .ref (ad 3)) rfl rfl dX4_copy_237 ?_
                                  refine Go.bipush X (nI 40) dX4_copy_240 k_bp_40 ?_
                                  refine Go.iload_n X 3 dX4_copy_242 rfl ?_
                                  refine Go.imul_e X (nI (40 * qk)) dX4_copy_243 (pk_mul _ _) ?_
                                  refine Go.iload X 5 dX4_copy_244 rfl ?_
                                  refine Go.iadd_e X (nI (40 * qk + d1)) dX4_copy_246 (nI_add _ _) ?_
                                  refine Go.iload X 0 dX4_copy_247 rfl ?_
                                  refine Go.iadd_e X (nI (40 * qk + d1 + k)) dX4_copy_249 (nI_add _ _) ?_
                                  refine Go.top (w := .int (nI (40 * qk + (d1 + k)))) (by rw [Nat.add_assoc]) ?_
                                  refine Go.aload_n X 1 dX4_copy_250 rfl ?_
                                  refine Go.get X f_X4_copy_16 0 (v := .ref (ad 3)) rfl rfl dX4_copy_251 ?_
                                  refine Go.bipush X (nI 40) dX4_copy_254 k_bp_40 ?_
                                  refine Go.iload_n X 2 dX4_copy_256 rfl ?_
                                  refine Go.imul_e X (nI (40 * pk)) dX4_copy_257 (pk_mul _ _) ?_
                                  refine Go.iload_n X 4 dX4_copy_258 rfl ?_
                                  refine Go.iadd_e X (nI (40 * pk + i1)) dX4_copy_259 (nI_add _ _) ?_
                                  refine Go.iload X 0 dX4_copy_260 rfl ?_
                                  refine Go.iadd_e X (nI (40 * pk + i1 + k)) dX4_copy_262 (nI_add _ _) ?_
                                  refine Go.top (w := .int (nI (40 * pk + (i1 + k)))) (by rw [Nat.add_assoc]) ?_
                                  refine Go.laldF X 3 (f := row3 (upS vl qk (va_cpy (vl pk) (vl qk) i1 d1 k))) rfl (by first | omega | (split <;> omega)) rfl dX4_copy_263 ?_
                                  refine Go.top (w := .long ((upS vl qk (va_cpy (vl pk) (vl qk) i1 d1 k)) pk (i1 + k))) (congrArg Value.long (row3_at _ (by first | omega | (split <;> omega)))) ?_
                                  refine Go.top (w := .long (vl pk (i1 + k))) (by rw [cpF_v (.inl h168)]) ?_
                                  refine Go.lastFM X 3 (mdW g ad (N, K, b, z, le, rf, hd, ln, upS (upS vl qk (va_cpy (vl pk) (vl qk) i1 d1 k)) qk (vp_updL ((upS vl qk (va_cpy (vl pk) (vl qk) i1 d1 k)) qk) (d1 + k) (vl pk (i1 + k)))) (6, at1, tk, so, va, lm, ol, ah, lt, lo)) (f := row3 (upS vl qk (va_cpy (vl pk) (vl qk) i1 d1 k))) rfl (by first | omega | (split <;> omega)) rfl dX4_copy_264 (mdW_row g ad _ _ _ _ _ _ _ _ _ _ _ (by first | omega | (split <;> omega))) ?_
                                  refine Go.iinc_0 X (nI (k + 1)) dX4_copy_265 (by decide) rfl (show nI k + Int32.ofInt 1 = nI (k + 1) from nI_add _ 1) ?_
                                  refine Go.goto X 229 dX4_copy_268 (by decide) ?_
                                  refine Go.conv (M1 := mdW g ad (N, K, b, z, le, rf, hd, ln, upS vl qk (va_cpy (vl pk) (vl qk) i1 d1 (k + 1))) (6, at1, tk, so, va, lm, ol, ah, lt, lo)) ?_ (by simp only [upS_up, upS_at]; rw [cpF_s]) rfl rfl
                                  exact ih229 (k + 1) (by first | omega | (split <;> omega)) (by first | omega | (split <;> omega))
                            refine Go.conv (M1 := mdW g ad (N, K, b, z, le, rf, hd, ln, upS vl qk (va_cpy (vl pk) (vl qk) i1 d1 0)) (6, at1, tk, so, va, lm, ol, ah, lt, lo)) ?_ (by rw [cpF_0, upS_id]) rfl rfl
                            exact L229 (n1 - 0 + 1) 0 (by first | omega | (split <;> omega)) (Nat.lt_succ_self _)
                          · --
                            refine Go.iload_n X 3 dX4_copy_171 rfl ?_
                            refine Go.iload X 4 dX4_copy_172 rfl ?_
                            refine Go.icmp_geN X 226 dX4_copy_174 (by decide) (by first | omega | (split <;> omega)) (by first | omega | (split <;> omega)) (fun h174 => ?_) (fun h174 => ?_)
                            · --
                              refine Go.iconst X (nI 0) dX4_copy_226 k_ic_0 ?_
                              refine Go.istore_new X dX4_copy_227 (by decide) rfl ?_
                              have L229 : ∀ (f229 : Nat) (k : Nat) (hk : k ≤ n1) (hf229 : n1 - k < f229), Go Γ g 7 (rmC 2 43) 0 0 (mdW g ad (N, K, b, z, le, rf, hd, ln, upS vl qk (va_cpy (vl pk) (vl qk) i1 d1 k)) (6, at1, tk, so, va, lm, ol, ah, lt, lo)) 229 [(6, .int (nI k)), (0, .ref (ad 0)), (1, .int (nI pk)), (2, .int (nI qk)), (3, .int (nI i1)), (4, .int (nI d1)), (5, .int (nI n1))] [] := by
                                intro f229
                                induction f229 with
                                | zero => intro k hk hf229; exact absurd hf229 (Nat.not_lt_zero _)
                                | succ f229 ih229 =>
                                  intro k hk hf229
                                  refine Go.iload X 0 dX4_copy_229 rfl ?_
                                  refine Go.iload X 6 dX4_copy_231 rfl ?_
                                  refine Go.icmp_geN X 271 dX4_copy_233 (by decide) (by first | omega | (split <;> omega)) (by first | omega | (split <;> omega)) (fun h233 => ?_) (fun h233 => ?_)
                                  · --
                                    refine Go.conv (M1 := mdW g ad (N, K, b, z, le, rf, hd, ln, upS vl qk (va_cpy (vl pk) (vl qk) i1 d1 n1)) (6, at1, tk, so, va, lm, ol, ah, lt, lo)) ?_ (by rw [show k = n1 by omega]) rfl rfl
                                    refine Go.iload X 6 dX4_copy_271 rfl ?_
                                    have e9 : x_copy (N, K, b, z, le, rf, hd, ln, vl) (nI pk) (nI qk) (nI i1) (nI d1) (nI n1) = ((N, K, b, z, le, rf, hd, ln, upS vl qk (va_cpy (vl pk) (vl qk) i1 d1 n1)), (nI n1)) := by subst h75; simp (decide := true) [x_copy, rfS, h7, h17, nI_clamp (show pk < 2 ^ 31 by omega), nI_clamp (show qk < 2 ^ 31 by omega), ep, eq, (show inb (nI a) 5 = true by rw [inb_nI (by omega) (by decide), decide_eq_true ha]), (show inb (nI a) 5 = true by rw [inb_nI (by omega) (by decide), decide_eq_true hc]), (show ¬ nI 10 ≤ nI a from fun q => absurd ((nI_leI (by decide) (by omega)).mp q) (by omega)), (show ¬ nI 10 ≤ nI a from fun q => absurd ((nI_leI (by decide) (by omega)).mp q) (by omega)), y1, y2, nI_clamp (show i1 < 2 ^ 31 by omega), nI_clamp (show d1 < 2 ^ 31 by omega), nI_clamp (show n1 < 2 ^ 31 by omega)]
                                    have m9 : mOk (N, K, b, z, le, rf, hd, ln, upS vl qk (va_cpy (vl pk) (vl qk) i1 d1 n1)) (6, at1, tk, so, va, lm, ol, ah, lt, lo) := ⟨rfl, hm.2.1, hm.2.2⟩
                                    exact Go.iret X E dX4_copy_273 ⟨by rw [e9], _, by rw [e9]; exact m9, by rw [e9]⟩ rfl
                                  · --
                                    refine Go.aload_n X 1 dX4_copy_236 rfl ?_
                                    refine Go.get X f_X4_copy_16 0 (v := .ref (ad 3)) rfl rfl dX4_copy_237 ?_
                                    refine Go.bipush X (nI 40) dX4_copy_240 k_bp_40 ?_
                                    refine Go.iload_n X 3 dX4_copy_242 rfl ?_
                                    refine Go.imul_e X (nI (40 * qk)) dX4_copy_243 (pk_mul _ _) ?_
                                    refine Go.iload X 5 dX4_copy_244 rfl ?_
                                    refine Go.iadd_e X (nI (40 * qk + d1)) dX4_copy_246 (nI_add _ _) ?_
                                    refine Go.iload X 0 dX4_copy_247 rfl ?_
                                    refine Go.iadd_e X (nI (40 * qk + d1 + k)) dX4_copy_249 (nI_add _ _) ?_
                                    refine Go.top (w := .int (nI (40 * qk + (d1 + k)))) (by rw [Nat.add_assoc]) ?_
                                    refine Go.aload_n X 1 dX4_copy_250 rfl ?_
                                    refine Go.get X f_X4_copy_16 0 (v := .ref (ad 3)) rfl rfl dX4_copy_251 ?_
                                    refine Go.bipush X (nI 40) dX4_copy_254 k_bp_40 ?_
                                    refine Go.iload_n X 2 dX4_copy_256 rfl ?_
                                    refine Go.imul_e X (nI (40 * pk)) dX4_copy_257 (pk_mul _ _) ?_
                                    refine Go.iload_n X 4 dX4_copy_258 rfl ?_
                                    refine Go.iadd_e X (nI (40 * pk + i1)) dX4_copy_259 (nI_add _ _) ?_
                                    refine Go.iload X 0 dX4_copy_260 rfl ?_
                                    refine Go.iadd_e X (nI (40 * pk + i1 + k)) dX4_copy_262 (nI_add _ _) ?_
                                    refine Go.top (w := .int (nI (40 * pk + (i1 + k)))) (by rw [Nat.add_assoc]) ?_
                                    refine Go.laldF X 3 (f := row3 (upS vl qk (va_cpy (vl pk) (vl qk) i1 d1 k))) rfl (by first | omega | (split <;> omega)) rfl dX4_copy_263 ?_
                                    refine Go.top (w := .long ((upS vl qk (va_cpy (vl pk) (vl qk) i1 d1 k)) pk (i1 + k))) (congrArg Value.long (row3_at _ (by first | omega | (split <;> omega)))) ?_
                                    refine Go.top (w := .long (vl pk (i1 + k))) (by rw [cpF_v (.inr h174)]) ?_
                                    refine Go.lastFM X 3 (mdW g ad (N, K, b, z, le, rf, hd, ln, upS (upS vl qk (va_cpy (vl pk) (vl qk) i1 d1 k)) qk (vp_updL ((upS vl qk (va_cpy (vl pk) (vl qk) i1 d1 k)) qk) (d1 + k) (vl pk (i1 + k)))) (6, at1, tk, so, va, lm, ol, ah, lt, lo)) (f := row3 (upS vl qk (va_cpy (vl pk) (vl qk) i1 d1 k))) rfl (by first | omega | (split <;> omega)) rfl dX4_copy_264 (mdW_row g ad _ _ _ _ _ _ _ _ _ _ _ (by first | omega | (split <;> omega))) ?_
                                    refine Go.iinc_0 X (nI (k + 1)) dX4_copy_265 (by decide) rfl (show nI k + Int32.ofInt 1 = nI (k + 1) from nI_add _ 1) ?_
                                    refine Go.goto X 229 dX4_copy_268 (by decide) ?_
                                    refine Go.conv (M1 := mdW g ad (N, K, b, z, le, rf, hd, ln, upS vl qk (va_cpy (vl pk) (vl qk) i1 d1 (k + 1))) (6, at1, tk, so, va, lm, ol, ah, lt, lo)) ?_ (by simp only [upS_up, upS_at]; rw [cpF_s]) rfl rfl
                                    exact ih229 (k + 1) (by first | omega | (split <;> omega)) (by first | omega | (split <;> omega))
                              refine Go.conv (M1 := mdW g ad (N, K, b, z, le, rf, hd, ln, upS vl qk (va_cpy (vl pk) (vl qk) i1 d1 0)) (6, at1, tk, so, va, lm, ol, ah, lt, lo)) ?_ (by rw [cpF_0, upS_id]) rfl rfl
                              exact L229 (n1 - 0 + 1) 0 (by first | omega | (split <;> omega)) (Nat.lt_succ_self _)
                            · --
                              refine Go.iload X 5 dX4_copy_177 rfl ?_
                              refine Go.iconst X (nI 1) dX4_copy_179 k_ic_1 ?_
                              refine Go.isub_e X ((nI n1) - (nI 1)) dX4_copy_180 rfl ?_
                              refine Go.istore_new X dX4_copy_181 (by decide) rfl ?_
                              have L183 : ∀ (f183 : Nat) (k : Nat) (hk : k ≤ n1) (hf183 : k < f183), Go Γ g 7 (rmC 2 43) 0 0 (mdW g ad (N, K, b, z, le, rf, hd, ln, upS vl qk (cpB (vl pk) (vl qk) i1 d1 n1 k)) (6, at1, tk, so, va, lm, ol, ah, lt, lo)) 183 [(6, .int (pI k)), (0, .ref (ad 0)), (1, .int (nI pk)), (2, .int (nI qk)), (3, .int (nI i1)), (4, .int (nI d1)), (5, .int (nI n1))] [] := by
                                intro f183
                                induction f183 with
                                | zero => intro k hk hf183; exact absurd hf183 (Nat.not_lt_zero _)
                                | succ f183 ih183 =>
                                  intro k hk hf183
                                  by_cases hk0 : k = 0
                                  · --
                                    refine Go.lv_0 (w := .int (-1)) (by rw [hk0]; exact congrArg Value.int (by decide)) ?_
                                    refine Go.iload X 0 dX4_copy_183 rfl ?_
                                    refine Go.if_lt X 223 dX4_copy_185 (by decide) (fun _ => ?_) (fun h => absurd (by decide) h)
                                    refine Go.conv (M1 := mdW g ad (N, K, b, z, le, rf, hd, ln, upS vl qk (va_cpy (vl pk) (vl qk) i1 d1 n1)) (6, at1, tk, so, va, lm, ol, ah, lt, lo)) ?_ (by rw [hk0, cpB_0]) rfl rfl
                                    refine Go.goto X 271 dX4_copy_223 (by decide) ?_
                                    refine Go.iload X 6 dX4_copy_271 rfl ?_
                                    have e9 : x_copy (N, K, b, z, le, rf, hd, ln, vl) (nI pk) (nI qk) (nI i1) (nI d1) (nI n1) = ((N, K, b, z, le, rf, hd, ln, upS vl qk (va_cpy (vl pk) (vl qk) i1 d1 n1)), (nI n1)) := by subst h75; simp (decide := true) [x_copy, rfS, h7, h17, nI_clamp (show pk < 2 ^ 31 by omega), nI_clamp (show qk < 2 ^ 31 by omega), ep, eq, (show inb (nI a) 5 = true by rw [inb_nI (by omega) (by decide), decide_eq_true ha]), (show inb (nI a) 5 = true by rw [inb_nI (by omega) (by decide), decide_eq_true hc]), (show ¬ nI 10 ≤ nI a from fun q => absurd ((nI_leI (by decide) (by omega)).mp q) (by omega)), (show ¬ nI 10 ≤ nI a from fun q => absurd ((nI_leI (by decide) (by omega)).mp q) (by omega)), y1, y2, nI_clamp (show i1 < 2 ^ 31 by omega), nI_clamp (show d1 < 2 ^ 31 by omega), nI_clamp (show n1 < 2 ^ 31 by omega)]
                                    have m9 : mOk (N, K, b, z, le, rf, hd, ln, upS vl qk (va_cpy (vl pk) (vl qk) i1 d1 n1)) (6, at1, tk, so, va, lm, ol, ah, lt, lo) := ⟨rfl, hm.2.1, hm.2.2⟩
                                    exact Go.iret X E dX4_copy_273 ⟨by rw [e9], _, by rw [e9]; exact m9, by rw [e9]⟩ rfl
                                  · --
                                    refine Go.lv_0 (w := .int (nI (k - 1))) (by rw [pI_at hk0]) ?_
                                    refine Go.iload X 0 dX4_copy_183 rfl ?_
                                    refine Go.if_ltN X 223 dX4_copy_185 (by decide) (by first | omega | (split <;> omega)) ?_
                                    refine Go.aload_n X 1 dX4_copy_188 rfl ?_
                                    refine Go.get X f_X4_copy_16 0 (v := .ref (ad 3)) rfl rfl dX4_copy_189 ?_
                                    refine Go.bipush X (nI 40) dX4_copy_192 k_bp_40 ?_
                                    refine Go.iload_n X 3 dX4_copy_194 rfl ?_
                                    refine Go.imul_e X (nI (40 * qk)) dX4_copy_195 (pk_mul _ _) ?_
                                    refine Go.iload X 5 dX4_copy_196 rfl ?_
                                    refine Go.iadd_e X (nI (40 * qk + d1)) dX4_copy_198 (nI_add _ _) ?_
                                    refine Go.iload X 0 dX4_copy_199 rfl ?_
                                    refine Go.iadd_e X (nI (40 * qk + d1 + (k - 1))) dX4_copy_201 (nI_add _ _) ?_
                                    refine Go.top (w := .int (nI (40 * qk + (d1 + (k - 1))))) (by rw [Nat.add_assoc]) ?_
                                    refine Go.aload_n X 1 dX4_copy_202 rfl ?_
                                    refine Go.get X f_X4_copy_16 0 (v := .ref (ad 3)) rfl rfl dX4_copy_203 ?_
                                    refine Go.bipush X (nI 40) dX4_copy_206 k_bp_40 ?_
                                    refine Go.iload_n X 2 dX4_copy_208 rfl ?_
                                    refine Go.imul_e X (nI (40 * pk)) dX4_copy_209 (pk_mul _ _) ?_
                                    refine Go.iload_n X 4 dX4_copy_210 rfl ?_
                                    refine Go.iadd_e X (nI (40 * pk + i1)) dX4_copy_211 (nI_add _ _) ?_
                                    refine Go.iload X 0 dX4_copy_212 rfl ?_
                                    refine Go.iadd_e X (nI (40 * pk + i1 + (k - 1))) dX4_copy_214 (nI_add _ _) ?_
                                    refine Go.top (w := .int (nI (40 * pk + (i1 + (k - 1))))) (by rw [Nat.add_assoc]) ?_
                                    refine Go.laldF X 3 (f := row3 (upS vl qk (cpB (vl pk) (vl qk) i1 d1 n1 k))) rfl (by first | omega | (split <;> omega)) rfl dX4_copy_215 ?_
                                    refine Go.top (w := .long ((upS vl qk (cpB (vl pk) (vl qk) i1 d1 n1 k)) pk (i1 + (k - 1)))) (congrArg Value.long (row3_at _ (by first | omega | (split <;> omega)))) ?_
                                    refine Go.top (w := .long (vl pk (i1 + (k - 1)))) (by rw [cpB_v h168 h174 hk0]) ?_
                                    refine Go.lastFM X 3 (mdW g ad (N, K, b, z, le, rf, hd, ln, upS (upS vl qk (cpB (vl pk) (vl qk) i1 d1 n1 k)) qk (vp_updL ((upS vl qk (cpB (vl pk) (vl qk) i1 d1 n1 k)) qk) (d1 + (k - 1)) (vl pk (i1 + (k - 1))))) (6, at1, tk, so, va, lm, ol, ah, lt, lo)) (f := row3 (upS vl qk (cpB (vl pk) (vl qk) i1 d1 n1 k))) rfl (by first | omega | (split <;> omega)) rfl dX4_copy_216 (mdW_row g ad _ _ _ _ _ _ _ _ _ _ _ (by first | omega | (split <;> omega))) ?_
                                    refine Go.iinc_0 X (pI (k - 1)) dX4_copy_217 (by decide) rfl rfl ?_
                                    refine Go.goto X 183 dX4_copy_220 (by decide) ?_
                                    refine Go.conv (M1 := mdW g ad (N, K, b, z, le, rf, hd, ln, upS vl qk (cpB (vl pk) (vl qk) i1 d1 n1 (k - 1))) (6, at1, tk, so, va, lm, ol, ah, lt, lo)) ?_ (by simp only [upS_up, upS_at]; rw [cpB_s _ _ _ _ hk0 hk]) rfl rfl
                                    exact ih183 (k - 1) (by first | omega | (split <;> omega)) (by first | omega | (split <;> omega))
                              refine Go.lv_0 (congrArg Value.int (show (nI n1) - (nI 1) = pI n1 from by exact pI_sub n1)) ?_
                              refine Go.conv (M1 := mdW g ad (N, K, b, z, le, rf, hd, ln, upS vl qk (cpB (vl pk) (vl qk) i1 d1 n1 n1)) (6, at1, tk, so, va, lm, ol, ah, lt, lo)) ?_ (by rw [cpB_n, upS_id]) rfl rfl
                              exact L183 (n1 + 1) n1 (by first | omega | (split <;> omega)) (Nat.lt_succ_self _)
                        · --
                          refine Go.aload_n X 0 dX4_copy_159 rfl ?_
                          refine Go.bipush X ((-2 : Int32)) dX4_copy_160 k_bp_m2 ?_
                          refine Go.callV0i X (d_no_0 g ad N K b z le rf hd ln vl 6 at1 tk so va lm ol ah lt lo) cal_X4_no gX4_copy_X4_no (ci := 4) (q0 := 0) rfl rfl rfl rfl rfl dX4_copy_162 ?_
                          have e9 : x_copy (N, K, b, z, le, rf, hd, ln, vl) (nI pk) (nI qk) i j n = ((N, K, b, z, le, inc rf 0, hd, ln, vl), (-2)) := by subst h75; simp (decide := true) [x_copy, rfS, h7, h17, nI_clamp (show pk < 2 ^ 31 by omega), nI_clamp (show qk < 2 ^ 31 by omega), ep, eq, (show inb (nI a) 5 = true by rw [inb_nI (by omega) (by decide), decide_eq_true ha]), (show inb (nI a) 5 = true by rw [inb_nI (by omega) (by decide), decide_eq_true hc]), (show ¬ nI 10 ≤ nI a from fun q => absurd ((nI_leI (by decide) (by omega)).mp q) (by omega)), (show ¬ nI 10 ≤ nI a from fun q => absurd ((nI_leI (by decide) (by omega)).mp q) (by omega)), cp_n hlq h121 h112 (nle_g h156)]
                          have m9 : mOk (N, K, b, z, le, inc rf 0, hd, ln, vl) (6, at1, tk, so, va, lm, ol, ah, lt, lo) := ⟨rfl, hm.2.1, hm.2.2⟩
                          exact Go.iret X E dX4_copy_165 ⟨by rw [e9], _, by rw [e9]; exact m9, by rw [e9]⟩ rfl
              · --
                refine Go.aload_n X 0 dX4_copy_78 rfl ?_
                refine Go.bipush X ((-3 : Int32)) dX4_copy_79 k_bp_m3 ?_
                refine Go.callV0i X (d_no_1 g ad N K b z le rf hd ln vl 6 at1 tk so va lm ol ah lt lo) cal_X4_no gX4_copy_X4_no (ci := 4) (q0 := 0) rfl rfl rfl rfl rfl dX4_copy_81 ?_
                have e9 : x_copy (N, K, b, z, le, rf, hd, ln, vl) (nI pk) (nI qk) i j n = ((N, K, b, z, le, inc rf 1, hd, ln, vl), (-3)) := by simp (decide := true) [x_copy, rfS, h7, h17, nI_clamp (show pk < 2 ^ 31 by omega), nI_clamp (show qk < 2 ^ 31 by omega), ep, eq, (show inb (nI a) 5 = true by rw [inb_nI (by omega) (by decide), decide_eq_true ha]), (show inb (nI c) 5 = true by rw [inb_nI (by omega) (by decide), decide_eq_true hc]), (show ¬ nI 10 ≤ nI a from fun q => absurd ((nI_leI (by decide) (by omega)).mp q) (by omega)), (show ¬ nI 10 ≤ nI c from fun q => absurd ((nI_leI (by decide) (by omega)).mp q) (by omega)), (show ¬ nI a = nI c from fun q => h75 ((nI_eq (by omega) (by omega)).mp q))]
                have m9 : mOk (N, K, b, z, le, inc rf 1, hd, ln, vl) (6, at1, tk, so, va, lm, ol, ah, lt, lo) := ⟨rfl, hm.2.1, hm.2.2⟩
                exact Go.iret X E dX4_copy_84 ⟨by rw [e9], _, by rw [e9]; exact m9, by rw [e9]⟩ rfl
        · --
          refine Go.get X f_X4_copy_7 0 (v := .ref (ad 1)) rfl rfl dX4_copy_28 ?_
          refine Go.iload_n X 1 dX4_copy_31 rfl ?_
          refine Go.ialdF X 1 (f := hd) rfl (by first | omega | (split <;> omega)) rfl dX4_copy_32 ?_
          refine Go.top (w := .int (nI a)) (by rw [ep]) ?_
          refine Go.iconst X (nI 4) dX4_copy_33 k_ic_4 ?_
          refine Go.icmp_gtN X 78 dX4_copy_34 (by decide) (by first | omega | (split <;> omega)) (by decide) (fun h34 => ?_) (fun h34 => ?_)
          · --
            exact absurd h34 (by omega)
          · --
            refine Go.aload_n X 0 dX4_copy_37 rfl ?_
            refine Go.get X f_X4_copy_7 0 (v := .ref (ad 1)) rfl rfl dX4_copy_38 ?_
            refine Go.iload_n X 2 dX4_copy_41 rfl ?_
            refine Go.ialdF X 1 (f := hd) rfl (by first | omega | (split <;> omega)) rfl dX4_copy_42 ?_
            refine Go.top (w := .int (nI (10 + j1))) (by rw [eq]) ?_
            refine Go.iconst X (nI 4) dX4_copy_43 k_ic_4 ?_
            refine Go.icmp_gtN X 78 dX4_copy_44 (by decide) (by first | omega | (split <;> omega)) (by decide) (fun h44 => ?_) (fun h44 => ?_)
            · --
              refine Go.aload_n X 0 dX4_copy_78 rfl ?_
              refine Go.bipush X ((-3 : Int32)) dX4_copy_79 k_bp_m3 ?_
              refine Go.callV0i X (d_no_1 g ad N K b z le rf hd ln vl 6 at1 tk so va lm ol ah lt lo) cal_X4_no gX4_copy_X4_no (ci := 4) (q0 := 0) rfl rfl rfl rfl rfl dX4_copy_81 ?_
              have e9 : x_copy (N, K, b, z, le, rf, hd, ln, vl) (nI pk) (nI qk) i j n = ((N, K, b, z, le, inc rf 1, hd, ln, vl), (-3)) := by simp (decide := true) [x_copy, rfS, h7, h17, nI_clamp (show pk < 2 ^ 31 by omega), nI_clamp (show qk < 2 ^ 31 by omega), ep, eq, (show inb (nI a) 5 = true by rw [inb_nI (by omega) (by decide), decide_eq_true ha]), inb_10 (show j1 < 1000 by omega), (show ¬ nI 10 ≤ nI a from fun q => absurd ((nI_leI (by decide) (by omega)).mp q) (by omega)), (show nI 10 ≤ nI (10 + j1) from (nI_leI (by decide) (by omega)).mpr (by omega))]
              have m9 : mOk (N, K, b, z, le, inc rf 1, hd, ln, vl) (6, at1, tk, so, va, lm, ol, ah, lt, lo) := ⟨rfl, hm.2.1, hm.2.2⟩
              exact Go.iret X E dX4_copy_84 ⟨by rw [e9], _, by rw [e9]; exact m9, by rw [e9]⟩ rfl
            · --
              exact absurd h44 (by omega)
      · --
        refine Go.aload_n X 0 dX4_copy_27 rfl ?_
        rcases hH qk hqk with eq | ⟨c, hc, eq⟩ | ⟨j1, hj1, eq⟩
        · --
          refine Go.get X f_X4_copy_7 0 (v := .ref (ad 1)) rfl rfl dX4_copy_28 ?_
          refine Go.iload_n X 1 dX4_copy_31 rfl ?_
          refine Go.ialdF X 1 (f := hd) rfl (by first | omega | (split <;> omega)) rfl dX4_copy_32 ?_
          refine Go.top (w := .int (nI (10 + j0))) (by rw [ep]) ?_
          refine Go.iconst X (nI 4) dX4_copy_33 k_ic_4 ?_
          refine Go.icmp_gtN X 78 dX4_copy_34 (by decide) (by first | omega | (split <;> omega)) (by decide) (fun h34 => ?_) (fun h34 => ?_)
          · --
            refine Go.aload_n X 0 dX4_copy_78 rfl ?_
            refine Go.bipush X ((-3 : Int32)) dX4_copy_79 k_bp_m3 ?_
            refine Go.callV0i X (d_no_1 g ad N K b z le rf hd ln vl 6 at1 tk so va lm ol ah lt lo) cal_X4_no gX4_copy_X4_no (ci := 4) (q0 := 0) rfl rfl rfl rfl rfl dX4_copy_81 ?_
            have e9 : x_copy (N, K, b, z, le, rf, hd, ln, vl) (nI pk) (nI qk) i j n = ((N, K, b, z, le, inc rf 1, hd, ln, vl), (-3)) := by simp (decide := true) [x_copy, rfS, h7, h17, nI_clamp (show pk < 2 ^ 31 by omega), nI_clamp (show qk < 2 ^ 31 by omega), ep, eq, inb_10 (show j0 < 1000 by omega), inb_m1 5, (show nI 10 ≤ nI (10 + j0) from (nI_leI (by decide) (by omega)).mpr (by omega)), (show ¬ nI 10 ≤ (-1 : Int32) by decide)]
            have m9 : mOk (N, K, b, z, le, inc rf 1, hd, ln, vl) (6, at1, tk, so, va, lm, ol, ah, lt, lo) := ⟨rfl, hm.2.1, hm.2.2⟩
            exact Go.iret X E dX4_copy_84 ⟨by rw [e9], _, by rw [e9]; exact m9, by rw [e9]⟩ rfl
          · --
            exact absurd h34 (by omega)
        · --
          refine Go.get X f_X4_copy_7 0 (v := .ref (ad 1)) rfl rfl dX4_copy_28 ?_
          refine Go.iload_n X 1 dX4_copy_31 rfl ?_
          refine Go.ialdF X 1 (f := hd) rfl (by first | omega | (split <;> omega)) rfl dX4_copy_32 ?_
          refine Go.top (w := .int (nI (10 + j0))) (by rw [ep]) ?_
          refine Go.iconst X (nI 4) dX4_copy_33 k_ic_4 ?_
          refine Go.icmp_gtN X 78 dX4_copy_34 (by decide) (by first | omega | (split <;> omega)) (by decide) (fun h34 => ?_) (fun h34 => ?_)
          · --
            refine Go.aload_n X 0 dX4_copy_78 rfl ?_
            refine Go.bipush X ((-3 : Int32)) dX4_copy_79 k_bp_m3 ?_
            refine Go.callV0i X (d_no_1 g ad N K b z le rf hd ln vl 6 at1 tk so va lm ol ah lt lo) cal_X4_no gX4_copy_X4_no (ci := 4) (q0 := 0) rfl rfl rfl rfl rfl dX4_copy_81 ?_
            have e9 : x_copy (N, K, b, z, le, rf, hd, ln, vl) (nI pk) (nI qk) i j n = ((N, K, b, z, le, inc rf 1, hd, ln, vl), (-3)) := by simp (decide := true) [x_copy, rfS, h7, h17, nI_clamp (show pk < 2 ^ 31 by omega), nI_clamp (show qk < 2 ^ 31 by omega), ep, eq, inb_10 (show j0 < 1000 by omega), (show inb (nI c) 5 = true by rw [inb_nI (by omega) (by decide), decide_eq_true hc]), (show nI 10 ≤ nI (10 + j0) from (nI_leI (by decide) (by omega)).mpr (by omega)), (show ¬ nI 10 ≤ nI c from fun q => absurd ((nI_leI (by decide) (by omega)).mp q) (by omega))]
            have m9 : mOk (N, K, b, z, le, inc rf 1, hd, ln, vl) (6, at1, tk, so, va, lm, ol, ah, lt, lo) := ⟨rfl, hm.2.1, hm.2.2⟩
            exact Go.iret X E dX4_copy_84 ⟨by rw [e9], _, by rw [e9]; exact m9, by rw [e9]⟩ rfl
          · --
            exact absurd h34 (by omega)
        · --
          refine Go.get X f_X4_copy_7 0 (v := .ref (ad 1)) rfl rfl dX4_copy_28 ?_
          refine Go.iload_n X 1 dX4_copy_31 rfl ?_
          refine Go.ialdF X 1 (f := hd) rfl (by first | omega | (split <;> omega)) rfl dX4_copy_32 ?_
          refine Go.top (w := .int (nI (10 + j0))) (by rw [ep]) ?_
          refine Go.iconst X (nI 4) dX4_copy_33 k_ic_4 ?_
          refine Go.icmp_gtN X 78 dX4_copy_34 (by decide) (by first | omega | (split <;> omega)) (by decide) (fun h34 => ?_) (fun h34 => ?_)
          · --
            refine Go.aload_n X 0 dX4_copy_78 rfl ?_
            refine Go.bipush X ((-3 : Int32)) dX4_copy_79 k_bp_m3 ?_
            refine Go.callV0i X (d_no_1 g ad N K b z le rf hd ln vl 6 at1 tk so va lm ol ah lt lo) cal_X4_no gX4_copy_X4_no (ci := 4) (q0 := 0) rfl rfl rfl rfl rfl dX4_copy_81 ?_
            have e9 : x_copy (N, K, b, z, le, rf, hd, ln, vl) (nI pk) (nI qk) i j n = ((N, K, b, z, le, inc rf 1, hd, ln, vl), (-3)) := by simp (decide := true) [x_copy, rfS, h7, h17, nI_clamp (show pk < 2 ^ 31 by omega), nI_clamp (show qk < 2 ^ 31 by omega), ep, eq, inb_10 (show j0 < 1000 by omega), inb_10 (show j1 < 1000 by omega), (show nI 10 ≤ nI (10 + j0) from (nI_leI (by decide) (by omega)).mpr (by omega)), (show nI 10 ≤ nI (10 + j1) from (nI_leI (by decide) (by omega)).mpr (by omega))]
            have m9 : mOk (N, K, b, z, le, inc rf 1, hd, ln, vl) (6, at1, tk, so, va, lm, ol, ah, lt, lo) := ⟨rfl, hm.2.1, hm.2.2⟩
            exact Go.iret X E dX4_copy_84 ⟨by rw [e9], _, by rw [e9]; exact m9, by rw [e9]⟩ rfl
          · --
            exact absurd h34 (by omega)
    · --
      refine Go.aload_n X 0 dX4_copy_20 rfl ?_
      refine Go.bipush X ((-2 : Int32)) dX4_copy_21 k_bp_m2 ?_
      refine Go.callV0i X (d_no_0 g ad N K b z le rf hd ln vl 6 at1 tk so va lm ol ah lt lo) cal_X4_no gX4_copy_X4_no (ci := 4) (q0 := 0) rfl rfl rfl rfl rfl dX4_copy_23 ?_
      have e9 : x_copy (N, K, b, z, le, rf, hd, ln, vl) (nI pk) q i j n = ((N, K, b, z, le, inc rf 0, hd, ln, vl), (-2)) := by simp (decide := true) [x_copy, rfS, upS_id, h7, h17, nI_clamp (show pk < 2 ^ 31 by omega)]
      have m9 : mOk (N, K, b, z, le, inc rf 0, hd, ln, vl) (6, at1, tk, so, va, lm, ol, ah, lt, lo) := ⟨rfl, hm.2.1, hm.2.2⟩
      exact Go.iret X E dX4_copy_26 ⟨by rw [e9], _, by rw [e9]; exact m9, by rw [e9]⟩ rfl
