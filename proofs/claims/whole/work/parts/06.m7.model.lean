/-! 06.m7.model -/
theorem f_X4_says_7 : FL wsX4_says RX4 7 4 0 := ⟨RX4, TX4, 27, rfl, fun _ h => List.mem_cons_of_mem _ (List.mem_append_right _ h), by decide, List.mem_of_getElem? (i := 1) (by decide +kernel)⟩
theorem f_X4_says_23 : FL wsX4_says RX4 23 4 8 := ⟨RX4, TX4, 27, rfl, fun _ h => List.mem_cons_of_mem _ (List.mem_append_right _ h), by decide, List.mem_of_getElem? (i := 2) (by decide +kernel)⟩
theorem cal_X4_isUnder : Cal yX4_isUnder wsX4_isUnder cX4_isUnder 2 (some .boolean) RX4 2 := ⟨⟨_, rfl⟩, by decide +kernel⟩
theorem f_X4_says_66 : FL wsX4_says RX4 66 4 3 := ⟨RX4, TX4, 27, rfl, fun _ h => List.mem_cons_of_mem _ (List.mem_append_right _ h), by decide, List.mem_of_getElem? (i := 3) (by decide +kernel)⟩
theorem f_X4_noList_13 : FL wsX4_noList RX4 13 4 1 := ⟨RX4, TX4, 27, rfl, fun _ h => List.mem_cons_of_mem _ (List.mem_append_right _ h), by decide, List.mem_of_getElem? (i := 1) (by decide +kernel)⟩
theorem f_X4_noList_66 : FL wsX4_noList RX4 66 4 3 := ⟨RX4, TX4, 27, rfl, fun _ h => List.mem_cons_of_mem _ (List.mem_append_right _ h), by decide, List.mem_of_getElem? (i := 2) (by decide +kernel)⟩
theorem f_X4_listed_16 : FL wsX4_listed RX4 16 4 2 := ⟨RX4, TX4, 27, rfl, fun _ h => List.mem_cons_of_mem _ (List.mem_append_right _ h), by decide, List.mem_of_getElem? (i := 1) (by decide +kernel)⟩
theorem f_X4_listed_59 : FL wsX4_listed RX4 59 4 7 := ⟨RX4, TX4, 27, rfl, fun _ h => List.mem_cons_of_mem _ (List.mem_append_right _ h), by decide, List.mem_of_getElem? (i := 2) (by decide +kernel)⟩
theorem cal_X4_noList : Cal yX4_noList wsX4_noList cX4_noList 3 (some .int) RX4 1 := ⟨⟨_, rfl⟩, by decide +kernel⟩
theorem f_X4_judge_66 : FL wsX4_judge RX4 66 4 3 := ⟨RX4, TX4, 27, rfl, fun _ h => List.mem_cons_of_mem _ (List.mem_append_right _ h), by decide, List.mem_of_getElem? (i := 1) (by decide +kernel)⟩
theorem cal_X4_listed : Cal yX4_listed wsX4_listed cX4_listed 3 (some .int) RX4 2 := ⟨⟨_, rfl⟩, by decide +kernel⟩
theorem f_X4_unlike_66 : FL wsX4_unlike RX4 66 4 3 := ⟨RX4, TX4, 27, rfl, fun _ h => List.mem_cons_of_mem _ (List.mem_append_right _ h), by decide, List.mem_of_getElem? (i := 1) (by decide +kernel)⟩
theorem f_X4_book_13 : FL wsX4_book RX4 13 4 1 := ⟨RX4, TX4, 27, rfl, fun _ h => List.mem_cons_of_mem _ (List.mem_append_right _ h), by decide, List.mem_of_getElem? (i := 1) (by decide +kernel)⟩
theorem f_X4_book_111 : FL wsX4_book RX4 111 4 4 := ⟨RX4, TX4, 27, rfl, fun _ h => List.mem_cons_of_mem _ (List.mem_append_right _ h), by decide, List.mem_of_getElem? (i := 6) (by decide +kernel)⟩
theorem f_X4_book_16 : FL wsX4_book RX4 16 4 2 := ⟨RX4, TX4, 27, rfl, fun _ h => List.mem_cons_of_mem _ (List.mem_append_right _ h), by decide, List.mem_of_getElem? (i := 2) (by decide +kernel)⟩
theorem f_X4_book_20 : FL wsX4_book RX4 20 4 5 := ⟨RX4, TX4, 27, rfl, fun _ h => List.mem_cons_of_mem _ (List.mem_append_right _ h), by decide, List.mem_of_getElem? (i := 8) (by decide +kernel)⟩
theorem f_X4_book_66 : FL wsX4_book RX4 66 4 3 := ⟨RX4, TX4, 27, rfl, fun _ h => List.mem_cons_of_mem _ (List.mem_append_right _ h), by decide, List.mem_of_getElem? (i := 4) (by decide +kernel)⟩
theorem f_X4_rules_13 : FL wsX4_rules RX4 13 4 1 := ⟨RX4, TX4, 27, rfl, fun _ h => List.mem_cons_of_mem _ (List.mem_append_right _ h), by decide, List.mem_of_getElem? (i := 1) (by decide +kernel)⟩
theorem f_X4_rules_66 : FL wsX4_rules RX4 66 4 3 := ⟨RX4, TX4, 27, rfl, fun _ h => List.mem_cons_of_mem _ (List.mem_append_right _ h), by decide, List.mem_of_getElem? (i := 3) (by decide +kernel)⟩
theorem f_X4_rules_16 : FL wsX4_rules RX4 16 4 2 := ⟨RX4, TX4, 27, rfl, fun _ h => List.mem_cons_of_mem _ (List.mem_append_right _ h), by decide, List.mem_of_getElem? (i := 2) (by decide +kernel)⟩
set_option maxHeartbeats 4000000 in
set_option maxRecDepth 100000 in
theorem e_says (g : gT) (ad : Nat → Nat) (N : Sch) (K : Sch) (b : Bool) (z : Nat) (le : Nat → Nat) (rf : Nat → Int32) (hd : Nat → Int32) (ln : Nat → Nat) (vl : Nat → Nat → Int64) (at1 : Nat) (tk : Nat) (so : Int32) (va : Int32) (lm : Nat → Nat) (ol : Nat → Int32) (ah : Nat → Int32) (lt : Int32) (lo : Nat → Int32) (s : Int32) (k : Int32) (hN : sOk N) (hH : hOk (sP N) hd) (hm : mOk (N, K, b, z, le, rf, hd, ln, vl) (6, at1, tk, so, va, lm, ol, ah, lt, lo)) : Ct g yX4_says wsX4_says 7 161 [.ref (ad 0), .int s, .int k] (mdW g ad (N, K, b, z, le, rf, hd, ln, vl) (6, at1, tk, so, va, lm, ol, ah, lt, lo)) (fun v9 w9 => v9 = (some (.int (x_says (N, K, b, z, le, rf, hd, ln, vl) s k).2)) ∧ ∃ J9, mOk (x_says (N, K, b, z, le, rf, hd, ln, vl) s k).1 J9 ∧ w9 = mdW g ad (x_says (N, K, b, z, le, rf, hd, ln, vl) s k).1 J9) := by
  refine Ct.start (cc := cX4_says) (nL := 6) (ret := (some .int)) (own := RX4) (by decide) rfl rfl rfl ?_
  intro Γ X E
  show Go Γ g 6 (rmC 7 161) 0 0 (mdW g ad (N, K, b, z, le, rf, hd, ln, vl) (6, at1, tk, so, va, lm, ol, ah, lt, lo)) 0 [(0, .ref (ad 0)), (1, .int s), (2, .int k)] []
  obtain ⟨o1, o2, o3, o4, o5, o6, o7, o8⟩ := id hN
  have o9 := p2_9 o2
  have o10 := sA_512 hN
  refine Go.iload_n X 1 dX4_says_0 rfl ?_
  refine Go.iconst X (nI 0) dX4_says_1 k_ic_0 ?_
  refine Go.bipush X (nI 7) dX4_says_2 k_bp_7 ?_
  refine Go.callSi X  (d_within_7 g s) cal_X4_within [] rfl rfl gX4_says_X4_within rfl rfl rfl dX4_says_4 ?_
  refine Go.if_eqB X 19 dX4_says_7 (by decide) (fun h7 => ?_) (fun h7 => ?_)
  · --
    refine Go.aload_n X 0 dX4_says_19 rfl ?_
    refine Go.bipush X ((-2 : Int32)) dX4_says_20 k_bp_m2 ?_
    refine Go.callV0i X (d_no_0 g ad N K b z le rf hd ln vl 6 at1 tk so va lm ol ah lt lo) cal_X4_no gX4_says_X4_no (ci := 4) (q0 := 0) rfl rfl rfl rfl rfl dX4_says_22 ?_
    have e9 : x_says (N, K, b, z, le, rf, hd, ln, vl) s k = ((N, K, b, z, le, inc rf 0, hd, ln, vl), (-2)) := by simp (decide := true) [x_says, rfS, upS_id, h7]
    have m9 : mOk (N, K, b, z, le, inc rf 0, hd, ln, vl) (6, at1, tk, so, va, lm, ol, ah, lt, lo) := ⟨rfl, hm.2.1, hm.2.2⟩
    exact Go.iret X E dX4_says_25 ⟨by rw [e9], _, by rw [e9]; exact m9, by rw [e9]⟩ rfl
  · --
    obtain ⟨sk, hsk, rfl⟩ := inb_at (by first | omega | (split <;> omega)) h7
    refine Go.iload_n X 2 dX4_says_10 rfl ?_
    refine Go.iconst X (nI 0) dX4_says_11 k_ic_0 ?_
    refine Go.iconst X (nI 5) dX4_says_12 k_ic_5 ?_
    refine Go.callSi X  (d_within_5 g k) cal_X4_within [] rfl rfl gX4_says_X4_within rfl rfl rfl dX4_says_13 ?_
    refine Go.if_neB X 26 dX4_says_16 (by decide) (fun h16 => ?_) (fun h16 => ?_)
    · --
      obtain ⟨kk, hkk, rfl⟩ := inb_at (by first | omega | (split <;> omega)) h16
      rcases hH sk hsk with e | ⟨a, ha, e⟩ | ⟨j, hj, e⟩
      · --
        refine Go.aload_n X 0 dX4_says_26 rfl ?_
        refine Go.get X f_X4_says_7 0 (v := .ref (ad 1)) rfl rfl dX4_says_27 ?_
        refine Go.iload_n X 1 dX4_says_30 rfl ?_
        refine Go.ialdF X 1 (f := hd) rfl (by first | omega | (split <;> omega)) rfl dX4_says_31 ?_
        refine Go.top (w := .int (-1)) (by rw [e]) ?_
        refine Go.bipush X (nI 10) dX4_says_32 k_bp_10 ?_
        refine Go.isub_e X (-11) dX4_says_34 (by decide) ?_
        refine Go.istore_n_new X dX4_says_35 (by decide) rfl ?_
        refine Go.aload_n X 1 dX4_says_36 rfl ?_
        refine Go.iload_n X 2 dX4_says_37 rfl ?_
        refine Go.callV0i X (d_isRow g ad N K b z le rf hd ln vl 6 at1 tk so va lm ol ah lt lo sk (by first | omega | (split <;> omega))) cal_X4_isRow gX4_says_X4_isRow (ci := 4) (q0 := 0) rfl rfl rfl rfl rfl dX4_says_38 ?_
        refine Go.top (w := .int (nI 0)) (by rw [e]; decide) ?_
        refine Go.if_ne X 61 dX4_says_41 (by decide) (fun h => absurd h (by decide)) (fun _ => ?_)
        refine Go.iload_n X 0 dX4_says_44 rfl ?_
        refine Go.if_lt X 68 dX4_says_45 (by decide) (fun _ => ?_) (fun h => absurd (by decide) h)
        refine Go.iload_n X 0 dX4_says_68 rfl ?_
        refine Go.if_ge X 79 dX4_says_69 (by decide) (fun h => absurd h (by decide)) (fun _ => ?_)
        refine Go.aload_n X 1 dX4_says_72 rfl ?_
        refine Go.bipush X ((-4 : Int32)) dX4_says_73 k_bp_m4 ?_
        refine Go.callV0i X (d_no_2 g ad N K b z le rf hd ln vl 6 at1 tk so va lm ol ah lt lo) cal_X4_no gX4_says_X4_no (ci := 4) (q0 := 0) rfl rfl rfl rfl rfl dX4_says_75 ?_
        have e9 : x_says (N, K, b, z, le, rf, hd, ln, vl) (nI sk) (nI kk) = ((N, K, b, z, le, inc rf 2, hd, ln, vl), (-4)) := by simp (decide := true) [x_says, rfS, h7, h16, nI_clamp (show sk < 2 ^ 31 by omega), nI_clamp (show kk < 2 ^ 31 by omega), e, inb_m1]
        have m9 : mOk (N, K, b, z, le, inc rf 2, hd, ln, vl) (6, at1, tk, so, va, lm, ol, ah, lt, lo) := ⟨rfl, hm.2.1, hm.2.2⟩
        exact Go.iret X E dX4_says_78 ⟨by rw [e9], _, by rw [e9]; exact m9, by rw [e9]⟩ rfl
      · --
        refine Go.aload_n X 0 dX4_says_26 rfl ?_
        refine Go.get X f_X4_says_7 0 (v := .ref (ad 1)) rfl rfl dX4_says_27 ?_
        refine Go.iload_n X 1 dX4_says_30 rfl ?_
        refine Go.ialdF X 1 (f := hd) rfl (by first | omega | (split <;> omega)) rfl dX4_says_31 ?_
        refine Go.top (w := .int (nI a)) (by rw [e]) ?_
        refine Go.bipush X (nI 10) dX4_says_32 k_bp_10 ?_
        refine Go.isub_e X ((nI a) - (nI 10)) dX4_says_34 rfl ?_
        refine Go.istore_n_new X dX4_says_35 (by decide) rfl ?_
        refine Go.aload_n X 1 dX4_says_36 rfl ?_
        refine Go.iload_n X 2 dX4_says_37 rfl ?_
        refine Go.callV0i X (d_isRow g ad N K b z le rf hd ln vl 6 at1 tk so va lm ol ah lt lo sk (by first | omega | (split <;> omega))) cal_X4_isRow gX4_says_X4_isRow (ci := 4) (q0 := 0) rfl rfl rfl rfl rfl dX4_says_38 ?_
        refine Go.top (w := .int (nI 1)) (by rw [e, inb_nI (by omega) (by decide), decide_eq_true ha]; rfl) ?_
        refine Go.if_ne X 61 dX4_says_41 (by decide) (fun _ => ?_) (fun h => absurd h (by decide))
        refine Go.aload_n X 1 dX4_says_61 rfl ?_
        refine Go.bipush X ((-3 : Int32)) dX4_says_62 k_bp_m3 ?_
        refine Go.callV0i X (d_no_1 g ad N K b z le rf hd ln vl 6 at1 tk so va lm ol ah lt lo) cal_X4_no gX4_says_X4_no (ci := 4) (q0 := 0) rfl rfl rfl rfl rfl dX4_says_64 ?_
        have e9 : x_says (N, K, b, z, le, rf, hd, ln, vl) (nI sk) (nI kk) = ((N, K, b, z, le, inc rf 1, hd, ln, vl), (-3)) := by simp (decide := true) [x_says, rfS, h7, h16, nI_clamp (show sk < 2 ^ 31 by omega), nI_clamp (show kk < 2 ^ 31 by omega), e, show inb (nI a) 5 = true by rw [inb_nI (by omega) (by decide), decide_eq_true ha]]
        have m9 : mOk (N, K, b, z, le, inc rf 1, hd, ln, vl) (6, at1, tk, so, va, lm, ol, ah, lt, lo) := ⟨rfl, hm.2.1, hm.2.2⟩
        exact Go.iret X E dX4_says_67 ⟨by rw [e9], _, by rw [e9]; exact m9, by rw [e9]⟩ rfl
      · --
        refine Go.aload_n X 0 dX4_says_26 rfl ?_
        refine Go.get X f_X4_says_7 0 (v := .ref (ad 1)) rfl rfl dX4_says_27 ?_
        refine Go.iload_n X 1 dX4_says_30 rfl ?_
        refine Go.ialdF X 1 (f := hd) rfl (by first | omega | (split <;> omega)) rfl dX4_says_31 ?_
        refine Go.top (w := .int (nI (10 + j))) (by rw [e]) ?_
        refine Go.bipush X (nI 10) dX4_says_32 k_bp_10 ?_
        refine Go.isub_e X ((nI (10 + j)) - (nI 10)) dX4_says_34 rfl ?_
        refine Go.top (w := .int (nI j)) (by rw [pk_sub (by omega), show 10 + j - 10 = j by omega]) ?_
        refine Go.istore_n_new X dX4_says_35 (by decide) rfl ?_
        refine Go.aload_n X 1 dX4_says_36 rfl ?_
        refine Go.iload_n X 2 dX4_says_37 rfl ?_
        refine Go.callV0i X (d_isRow g ad N K b z le rf hd ln vl 6 at1 tk so va lm ol ah lt lo sk (by first | omega | (split <;> omega))) cal_X4_isRow gX4_says_X4_isRow (ci := 4) (q0 := 0) rfl rfl rfl rfl rfl dX4_says_38 ?_
        refine Go.top (w := .int (nI 0)) (by rw [e, inb_10 (by omega)]; rfl) ?_
        refine Go.if_ne X 61 dX4_says_41 (by decide) (fun h => absurd h (by decide)) (fun _ => ?_)
        refine Go.iload_n X 0 dX4_says_44 rfl ?_
        refine Go.if_ltN X 68 dX4_says_45 (by decide) (by first | omega | (split <;> omega)) ?_
        refine Go.aload_n X 1 dX4_says_48 rfl ?_
        refine Go.get X f_X4_says_23 0 (v := .ref (ad 5)) rfl rfl dX4_says_49 ?_
        have o11 := o7 j (by omega)
        refine Go.iload_n X 0 dX4_says_52 rfl ?_
        refine Go.ialdN X 5 (w := sK N) rfl (by first | omega | (split <;> omega)) rfl dX4_says_53 ?_
        refine Go.iload_n X 3 dX4_says_54 rfl ?_
        refine Go.callSi X  (d_isUnder g ((sK N) j) kk (by first | omega | (split <;> omega)) (by first | omega | (split <;> omega))) cal_X4_isUnder [] rfl rfl gX4_says_X4_isUnder rfl rfl rfl dX4_says_55 ?_
        refine Go.if_neB X 68 dX4_says_58 (by decide) (fun h58 => ?_) (fun h58 => ?_)
        · --
          refine Go.iload_n X 0 dX4_says_68 rfl ?_
          refine Go.if_geN X 79 dX4_says_69 (by decide) (by first | omega | (split <;> omega)) ?_
          rcases (show kk = 0 ∨ kk = 1 ∨ kk = 2 ∨ kk = 3 ∨ kk = 4 ∨ kk = 5 by omega) with e5 | e5 | e5 | e5 | e5 | e5
          · --
            refine Go.lv_3 (w := .int (nI 0)) (by rw [e5]) ?_
            refine Go.iload_n X 3 dX4_says_79 rfl ?_
            refine Go.tableIn X 120 dX4_says_80 (by decide) (by decide) rfl (by decide) ?_
            refine Go.aload_n X 1 dX4_says_120 rfl ?_
            refine Go.iload_n X 0 dX4_says_121 rfl ?_
            refine Go.callV0i X (d_firstOf g ad N K b z le rf hd ln vl 6 at1 tk so va lm ol ah lt lo j (by exact hN) (by first | omega | (split <;> omega)) (by first | omega | (split <;> omega))) cal_X4_firstOf gX4_says_X4_firstOf (ci := 4) (q0 := 0) rfl rfl rfl rfl rfl dX4_says_122 ?_
            have e9 : x_says (N, K, b, z, le, rf, hd, ln, vl) (nI sk) (nI kk) = ((N, K, b, z, le, rf, hd, ln, vl), (fstI (expd N 6 j))) := by subst e5; simp (decide := true) [x_says, rfS, h7, h16, nI_clamp (show sk < 2 ^ 31 by omega), nI_clamp (show 0 < 2 ^ 31 by decide), e, inb_10 (show j < 1000 by omega), show nI 10 ≤ nI (10 + j) from (nI_leI (by decide) (by omega)).mpr (by omega), show nI (10 + j) - nI 10 = nI j from by rw [pk_sub (by omega), show 10 + j - 10 = j by omega], show inb (nI j) (sP N) = true by rw [inb_nI (by omega) (by omega), decide_eq_true hj], nI_clamp (show j < 2 ^ 31 by omega), h58, saiI]
            have m9 : mOk (N, K, b, z, le, rf, hd, ln, vl) (6, at1, tk, so, va, lm, ol, ah, lt, lo) := ⟨rfl, hm.2.1, hm.2.2⟩
            exact Go.iret X E dX4_says_125 ⟨by rw [e9], _, by rw [e9]; exact m9, by rw [e9]⟩ rfl
          · --
            refine Go.lv_3 (w := .int (nI 1)) (by rw [e5]) ?_
            refine Go.iload_n X 3 dX4_says_79 rfl ?_
            refine Go.tableIn X 126 dX4_says_80 (by decide) (by decide) rfl (by decide) ?_
            refine Go.iconst X (nI 0) dX4_says_126 k_ic_0 ?_
            refine Go.istore_new X dX4_says_127 (by decide) rfl ?_
            refine Go.iconst X (nI 0) dX4_says_129 k_ic_0 ?_
            refine Go.istore_new X dX4_says_130 (by decide) rfl ?_
            have L132 : ∀ (f132 : Nat) (m : Nat) (hk : m ≤ sN N) (hf132 : sN N - m < f132), Go Γ g 6 (rmC 7 161) 0 0 (mdW g ad (N, K, b, z, le, rf, hd, ln, vl) (6, at1, tk, so, va, lm, ol, ah, lt, lo)) 132 [(5, .int (nI m)), (4, .int (nI (cnt (slp N j) m))), (3, .int (nI j)), (0, .ref (ad 0)), (1, .int (nI sk)), (2, .int (nI 1))] [] := by
              intro f132
              induction f132 with
              | zero => intro m hk hf132; exact absurd hf132 (Nat.not_lt_zero _)
              | succ f132 ih132 =>
                intro m hk hf132
                refine Go.iload X 0 dX4_says_132 rfl ?_
                refine Go.aload_n X 3 dX4_says_134 rfl ?_
                refine Go.get X f_X4_says_66 0 (v := .int (nI (sN N))) rfl rfl dX4_says_135 ?_
                refine Go.icmp_geN X 160 dX4_says_138 (by decide) (by first | omega | (split <;> omega)) (by first | omega | (split <;> omega)) (fun h138 => ?_) (fun h138 => ?_)
                · --
                  refine Go.lv_1 (w := .int (nI (cnt (slp N j) (sN N)))) (by rw [show m = sN N by omega]) ?_
                  refine Go.iload X 1 dX4_says_160 rfl ?_
                  have o13 := cnt_le (slp N j) (sN N)
                  have e9 : x_says (N, K, b, z, le, rf, hd, ln, vl) (nI sk) (nI kk) = ((N, K, b, z, le, rf, hd, ln, vl), (nI (cnt (slp N j) (sN N)))) := by subst e5; simp (decide := true) [x_says, rfS, h7, h16, nI_clamp (show sk < 2 ^ 31 by omega), nI_clamp (show 1 < 2 ^ 31 by decide), e, inb_10 (show j < 1000 by omega), show nI 10 ≤ nI (10 + j) from (nI_leI (by decide) (by omega)).mpr (by omega), show nI (10 + j) - nI 10 = nI j from by rw [pk_sub (by omega), show 10 + j - 10 = j by omega], show inb (nI j) (sP N) = true by rw [inb_nI (by omega) (by omega), decide_eq_true hj], nI_clamp (show j < 2 ^ 31 by omega), h58, saiI]
                  have m9 : mOk (N, K, b, z, le, rf, hd, ln, vl) (6, at1, tk, so, va, lm, ol, ah, lt, lo) := ⟨rfl, hm.2.1, hm.2.2⟩
                  exact Go.iret X E dX4_says_162 ⟨by rw [e9], _, by rw [e9]; exact m9, by rw [e9]⟩ rfl
                · --
                  refine Go.aload_n X 3 dX4_says_141 rfl ?_
                  refine Go.iload_n X 2 dX4_says_142 rfl ?_
                  refine Go.iload X 0 dX4_says_143 rfl ?_
                  refine Go.callV0i X (d_sleeps g ad N K b z le rf hd ln vl 6 at1 tk so va lm ol ah lt lo j m (by exact hN) (by first | omega | (split <;> omega)) (by first | omega | (split <;> omega))) cal_X4_sleeps gX4_says_X4_sleeps (ci := 4) (q0 := 0) rfl rfl rfl rfl rfl dX4_says_145 ?_
                  refine Go.if_eqB X 154 dX4_says_148 (by decide) (fun h148 => ?_) (fun h148 => ?_)
                  · --
                    refine Go.iinc_0 X (nI (m + 1)) dX4_says_154 (by decide) rfl (show nI m + Int32.ofInt 1 = nI (m + 1) from nI_add _ 1) ?_
                    refine Go.goto X 132 dX4_says_157 (by decide) ?_
                    refine Go.lv_1 (congrArg (fun z => Value.int (nI z)) (show cnt (slp N j) m = cnt (slp N j) (m + 1) from by simp [cnt, h148])) ?_
                    exact ih132 (m + 1) (by first | omega | (split <;> omega)) (by first | omega | (split <;> omega))
                  · --
                    refine Go.iinc_1 X (nI (cnt (slp N j) m + 1)) dX4_says_151 (by decide) rfl (show nI (cnt (slp N j) m) + Int32.ofInt 1 = nI (cnt (slp N j) m + 1) from nI_add _ 1) ?_
                    refine Go.iinc_0 X (nI (m + 1)) dX4_says_154 (by decide) rfl (show nI m + Int32.ofInt 1 = nI (m + 1) from nI_add _ 1) ?_
                    refine Go.goto X 132 dX4_says_157 (by decide) ?_
                    refine Go.lv_1 (congrArg (fun z => Value.int (nI z)) (show cnt (slp N j) m + 1 = cnt (slp N j) (m + 1) from by simp [cnt, h148])) ?_
                    exact ih132 (m + 1) (by first | omega | (split <;> omega)) (by first | omega | (split <;> omega))
            refine Go.lv_1 (congrArg (fun z => Value.int (nI z)) (show 0 = cnt (slp N j) 0 from by rfl)) ?_
            exact L132 (sN N - 0 + 1) 0 (by first | omega | (split <;> omega)) (Nat.lt_succ_self _)
          · --
            refine Go.lv_3 (w := .int (nI 2)) (by rw [e5]) ?_
            refine Go.iload_n X 3 dX4_says_79 rfl ?_
            refine Go.tableIn X 163 dX4_says_80 (by decide) (by decide) rfl (by decide) ?_
            refine Go.aload_n X 1 dX4_says_163 rfl ?_
            refine Go.iload_n X 0 dX4_says_164 rfl ?_
            refine Go.callV0i X (d_expected g ad N K b z le rf hd ln vl 6 at1 tk so va lm ol ah lt lo j (by exact hN) (by first | omega | (split <;> omega)) (by first | omega | (split <;> omega))) cal_X4_expected gX4_says_X4_expected (ci := 4) (q0 := 0) rfl rfl rfl rfl rfl dX4_says_165 ?_
            have f165_1 := expd_512 hN 6 j
            refine Go.callSi X  (c_bitCount g (expd N 6 j) (by first | omega | (split <;> omega))) cal_J6_bitCount_0f7a4 [] rfl rfl gX4_says_J6_bitCount_0f7a4 rfl rfl rfl dX4_says_168 ?_
            have e9 : x_says (N, K, b, z, le, rf, hd, ln, vl) (nI sk) (nI kk) = ((N, K, b, z, le, rf, hd, ln, vl), (nI (bcn (expd N 6 j)))) := by subst e5; simp (decide := true) [x_says, rfS, h7, h16, nI_clamp (show sk < 2 ^ 31 by omega), nI_clamp (show 2 < 2 ^ 31 by decide), e, inb_10 (show j < 1000 by omega), show nI 10 ≤ nI (10 + j) from (nI_leI (by decide) (by omega)).mpr (by omega), show nI (10 + j) - nI 10 = nI j from by rw [pk_sub (by omega), show 10 + j - 10 = j by omega], show inb (nI j) (sP N) = true by rw [inb_nI (by omega) (by omega), decide_eq_true hj], nI_clamp (show j < 2 ^ 31 by omega), h58, saiI]
            have m9 : mOk (N, K, b, z, le, rf, hd, ln, vl) (6, at1, tk, so, va, lm, ol, ah, lt, lo) := ⟨rfl, hm.2.1, hm.2.2⟩
            exact Go.iret X E dX4_says_171 ⟨by rw [e9], _, by rw [e9]; exact m9, by rw [e9]⟩ rfl
          · --
            refine Go.lv_3 (w := .int (nI 3)) (by rw [e5]) ?_
            refine Go.iload_n X 3 dX4_says_79 rfl ?_
            refine Go.tableIn X 198 dX4_says_80 (by decide) (by decide) rfl (by decide) ?_
            refine Go.aload_n X 1 dX4_says_198 rfl ?_
            refine Go.iload_n X 0 dX4_says_199 rfl ?_
            refine Go.callV0i X (d_depth g ad N K b z le rf hd ln vl 6 at1 tk so va lm ol ah lt lo j (by exact hN) (by first | omega | (split <;> omega)) (by first | omega | (split <;> omega))) cal_X4_depth gX4_says_X4_depth (ci := 4) (q0 := 0) rfl rfl rfl rfl rfl dX4_says_200 ?_
            have f200_2 := dep_le hN 6 j
            have e9 : x_says (N, K, b, z, le, rf, hd, ln, vl) (nI sk) (nI kk) = ((N, K, b, z, le, rf, hd, ln, vl), (nI (dep N 6 j))) := by subst e5; simp (decide := true) [x_says, rfS, h7, h16, nI_clamp (show sk < 2 ^ 31 by omega), nI_clamp (show 3 < 2 ^ 31 by decide), e, inb_10 (show j < 1000 by omega), show nI 10 ≤ nI (10 + j) from (nI_leI (by decide) (by omega)).mpr (by omega), show nI (10 + j) - nI 10 = nI j from by rw [pk_sub (by omega), show 10 + j - 10 = j by omega], show inb (nI j) (sP N) = true by rw [inb_nI (by omega) (by omega), decide_eq_true hj], nI_clamp (show j < 2 ^ 31 by omega), h58, saiI]
            have m9 : mOk (N, K, b, z, le, rf, hd, ln, vl) (6, at1, tk, so, va, lm, ol, ah, lt, lo) := ⟨rfl, hm.2.1, hm.2.2⟩
            exact Go.iret X E dX4_says_203 ⟨by rw [e9], _, by rw [e9]; exact m9, by rw [e9]⟩ rfl
          · --
            refine Go.lv_3 (w := .int (nI 4)) (by rw [e5]) ?_
            refine Go.iload_n X 3 dX4_says_79 rfl ?_
            refine Go.tableIn X 198 dX4_says_80 (by decide) (by decide) rfl (by decide) ?_
            refine Go.aload_n X 1 dX4_says_198 rfl ?_
            refine Go.iload_n X 0 dX4_says_199 rfl ?_
            refine Go.callV0i X (d_depth g ad N K b z le rf hd ln vl 6 at1 tk so va lm ol ah lt lo j (by exact hN) (by first | omega | (split <;> omega)) (by first | omega | (split <;> omega))) cal_X4_depth gX4_says_X4_depth (ci := 4) (q0 := 0) rfl rfl rfl rfl rfl dX4_says_200 ?_
            have f200_3 := dep_le hN 6 j
            have e9 : x_says (N, K, b, z, le, rf, hd, ln, vl) (nI sk) (nI kk) = ((N, K, b, z, le, rf, hd, ln, vl), (nI (dep N 6 j))) := by subst e5; simp (decide := true) [x_says, rfS, h7, h16, nI_clamp (show sk < 2 ^ 31 by omega), nI_clamp (show 4 < 2 ^ 31 by decide), e, inb_10 (show j < 1000 by omega), show nI 10 ≤ nI (10 + j) from (nI_leI (by decide) (by omega)).mpr (by omega), show nI (10 + j) - nI 10 = nI j from by rw [pk_sub (by omega), show 10 + j - 10 = j by omega], show inb (nI j) (sP N) = true by rw [inb_nI (by omega) (by omega), decide_eq_true hj], nI_clamp (show j < 2 ^ 31 by omega), h58, saiI]
            have m9 : mOk (N, K, b, z, le, rf, hd, ln, vl) (6, at1, tk, so, va, lm, ol, ah, lt, lo) := ⟨rfl, hm.2.1, hm.2.2⟩
            exact Go.iret X E dX4_says_203 ⟨by rw [e9], _, by rw [e9]; exact m9, by rw [e9]⟩ rfl
          · --
            refine Go.lv_3 (w := .int (nI 5)) (by rw [e5]) ?_
            refine Go.iload_n X 3 dX4_says_79 rfl ?_
            refine Go.tableIn X 172 dX4_says_80 (by decide) (by decide) rfl (by decide) ?_
            refine Go.aload_n X 1 dX4_says_172 rfl ?_
            refine Go.callV0i X (d_lastAllowed g ad N K b z le rf hd ln vl 6 at1 tk so va lm ol ah lt lo (by exact hN)) cal_X4_lastAllowed gX4_says_X4_lastAllowed (ci := 4) (q0 := 0) rfl rfl rfl rfl rfl dX4_says_173 ?_
            by_cases hz : sA N = 0
            · --
              refine Go.top (w := .int (-1)) (by rw [lstI, if_pos hz]) ?_
              refine Go.iconst X ((-1 : Int32)) dX4_says_176 k_ic_m1 ?_
              refine Go.icmp_eq X 196 dX4_says_177 (by decide) (fun _ => ?_) (fun h => absurd (by decide) h)
              refine Go.iconst X (nI 0) dX4_says_196 k_ic_0 ?_
              have e9 : x_says (N, K, b, z, le, rf, hd, ln, vl) (nI sk) (nI kk) = ((N, K, b, z, le, rf, hd, ln, vl), (nI 0)) := by subst e5; simp (decide := true) [x_says, rfS, h7, h16, nI_clamp (show sk < 2 ^ 31 by omega), nI_clamp (show 5 < 2 ^ 31 by decide), e, inb_10 (show j < 1000 by omega), show nI 10 ≤ nI (10 + j) from (nI_leI (by decide) (by omega)).mpr (by omega), show nI (10 + j) - nI 10 = nI j from by rw [pk_sub (by omega), show 10 + j - 10 = j by omega], show inb (nI j) (sP N) = true by rw [inb_nI (by omega) (by omega), decide_eq_true hj], nI_clamp (show j < 2 ^ 31 by omega), h58, saiI, saiB, hz]
              have m9 : mOk (N, K, b, z, le, rf, hd, ln, vl) (6, at1, tk, so, va, lm, ol, ah, lt, lo) := ⟨rfl, hm.2.1, hm.2.2⟩
              exact Go.iret X E dX4_says_197 ⟨by rw [e9], _, by rw [e9]; exact m9, by rw [e9]⟩ rfl
            · --
              have o11 := log2_lt9 o10
              have hz2 : (sA N).log2 < sN N := (Nat.log2_lt hz).mpr o3
              refine Go.top (w := .int (nI ((sA N).log2))) (by rw [lstI, if_neg hz]) ?_
              refine Go.iconst X ((-1 : Int32)) dX4_says_176 k_ic_m1 ?_
              refine Go.icmp_eq X 196 dX4_says_177 (by decide) (fun h177 => ?_) (fun h177 => ?_)
              · --
                exact absurd h177.symm (m1_ne (by omega))
              · --
                refine Go.aload_n X 1 dX4_says_180 rfl ?_
                refine Go.iload_n X 0 dX4_says_181 rfl ?_
                refine Go.aload_n X 1 dX4_says_182 rfl ?_
                refine Go.callV0i X (d_lastAllowed g ad N K b z le rf hd ln vl 6 at1 tk so va lm ol ah lt lo (by exact hN)) cal_X4_lastAllowed gX4_says_X4_lastAllowed (ci := 4) (q0 := 0) rfl rfl rfl rfl rfl dX4_says_183 ?_
                refine Go.top (w := .int (nI ((sA N).log2))) (by rw [lstI, if_neg hz]) ?_
                refine Go.callV0i X (d_expectsIt g ad N K b z le rf hd ln vl 6 at1 tk so va lm ol ah lt lo j ((sA N).log2) (by exact hN) (by first | omega | (split <;> omega)) (by first | omega | (split <;> omega)) (by first | omega | (split <;> omega))) cal_X4_expectsIt gX4_says_X4_expectsIt (ci := 4) (q0 := 0) rfl rfl rfl rfl rfl dX4_says_186 ?_
                refine Go.if_eqB X 196 dX4_says_189 (by decide) (fun h189 => ?_) (fun h189 => ?_)
                · --
                  refine Go.iconst X (nI 0) dX4_says_196 k_ic_0 ?_
                  have e9 : x_says (N, K, b, z, le, rf, hd, ln, vl) (nI sk) (nI kk) = ((N, K, b, z, le, rf, hd, ln, vl), (nI 0)) := by subst e5; simp (decide := true) [x_says, rfS, h7, h16, nI_clamp (show sk < 2 ^ 31 by omega), nI_clamp (show 5 < 2 ^ 31 by decide), e, inb_10 (show j < 1000 by omega), show nI 10 ≤ nI (10 + j) from (nI_leI (by decide) (by omega)).mpr (by omega), show nI (10 + j) - nI 10 = nI j from by rw [pk_sub (by omega), show 10 + j - 10 = j by omega], show inb (nI j) (sP N) = true by rw [inb_nI (by omega) (by omega), decide_eq_true hj], nI_clamp (show j < 2 ^ 31 by omega), h58, saiI, saiB, hz, expd_bit (S := N) (i := j) hz2, h189]
                  have m9 : mOk (N, K, b, z, le, rf, hd, ln, vl) (6, at1, tk, so, va, lm, ol, ah, lt, lo) := ⟨rfl, hm.2.1, hm.2.2⟩
                  exact Go.iret X E dX4_says_197 ⟨by rw [e9], _, by rw [e9]; exact m9, by rw [e9]⟩ rfl
                · --
                  refine Go.iconst X (nI 1) dX4_says_192 k_ic_1 ?_
                  refine Go.goto X 197 dX4_says_193 (by decide) ?_
                  have e9 : x_says (N, K, b, z, le, rf, hd, ln, vl) (nI sk) (nI kk) = ((N, K, b, z, le, rf, hd, ln, vl), (nI 1)) := by subst e5; simp (decide := true) [x_says, rfS, h7, h16, nI_clamp (show sk < 2 ^ 31 by omega), nI_clamp (show 5 < 2 ^ 31 by decide), e, inb_10 (show j < 1000 by omega), show nI 10 ≤ nI (10 + j) from (nI_leI (by decide) (by omega)).mpr (by omega), show nI (10 + j) - nI 10 = nI j from by rw [pk_sub (by omega), show 10 + j - 10 = j by omega], show inb (nI j) (sP N) = true by rw [inb_nI (by omega) (by omega), decide_eq_true hj], nI_clamp (show j < 2 ^ 31 by omega), h58, saiI, saiB, hz, expd_bit (S := N) (i := j) hz2, h189]
                  have m9 : mOk (N, K, b, z, le, rf, hd, ln, vl) (6, at1, tk, so, va, lm, ol, ah, lt, lo) := ⟨rfl, hm.2.1, hm.2.2⟩
                  exact Go.iret X E dX4_says_197 ⟨by rw [e9], _, by rw [e9]; exact m9, by rw [e9]⟩ rfl
        · --
          refine Go.aload_n X 1 dX4_says_61 rfl ?_
          refine Go.bipush X ((-3 : Int32)) dX4_says_62 k_bp_m3 ?_
          refine Go.callV0i X (d_no_1 g ad N K b z le rf hd ln vl 6 at1 tk so va lm ol ah lt lo) cal_X4_no gX4_says_X4_no (ci := 4) (q0 := 0) rfl rfl rfl rfl rfl dX4_says_64 ?_
          have e9 : x_says (N, K, b, z, le, rf, hd, ln, vl) (nI sk) (nI kk) = ((N, K, b, z, le, inc rf 1, hd, ln, vl), (-3)) := by simp (decide := true) [x_says, rfS, h7, h16, nI_clamp (show sk < 2 ^ 31 by omega), nI_clamp (show kk < 2 ^ 31 by omega), e, inb_10 (show j < 1000 by omega), show nI 10 ≤ nI (10 + j) from (nI_leI (by decide) (by omega)).mpr (by omega), show nI (10 + j) - nI 10 = nI j from by rw [pk_sub (by omega), show 10 + j - 10 = j by omega], show inb (nI j) (sP N) = true by rw [inb_nI (by omega) (by omega), decide_eq_true hj], nI_clamp (show j < 2 ^ 31 by omega), h58]
          have m9 : mOk (N, K, b, z, le, inc rf 1, hd, ln, vl) (6, at1, tk, so, va, lm, ol, ah, lt, lo) := ⟨rfl, hm.2.1, hm.2.2⟩
          exact Go.iret X E dX4_says_67 ⟨by rw [e9], _, by rw [e9]; exact m9, by rw [e9]⟩ rfl
    · --
      refine Go.aload_n X 0 dX4_says_19 rfl ?_
      refine Go.bipush X ((-2 : Int32)) dX4_says_20 k_bp_m2 ?_
      refine Go.callV0i X (d_no_0 g ad N K b z le rf hd ln vl 6 at1 tk so va lm ol ah lt lo) cal_X4_no gX4_says_X4_no (ci := 4) (q0 := 0) rfl rfl rfl rfl rfl dX4_says_22 ?_
      have e9 : x_says (N, K, b, z, le, rf, hd, ln, vl) (nI sk) k = ((N, K, b, z, le, inc rf 0, hd, ln, vl), (-2)) := by simp (decide := true) [x_says, rfS, upS_id, h7, h16, nI_clamp (show sk < 2 ^ 31 by omega)]
      have m9 : mOk (N, K, b, z, le, inc rf 0, hd, ln, vl) (6, at1, tk, so, va, lm, ol, ah, lt, lo) := ⟨rfl, hm.2.1, hm.2.2⟩
      exact Go.iret X E dX4_says_25 ⟨by rw [e9], _, by rw [e9]; exact m9, by rw [e9]⟩ rfl
set_option maxHeartbeats 4000000 in
set_option maxRecDepth 100000 in
theorem d_noList (g : gT) (ad : Nat → Nat) (N : Sch) (K : Sch) (b : Bool) (z : Nat) (le : Nat → Nat) (rf : Nat → Int32) (hd : Nat → Int32) (ln : Nat → Nat) (vl : Nat → Nat → Int64) (at1 : Nat) (tk : Nat) (so : Int32) (va : Int32) (lm : Nat → Nat) (ol : Nat → Int32) (ah : Nat → Int32) (lt : Int32) (lo : Nat → Int32) (s : Int32) (hN : sOk N) (hH : hOk (sP N) hd) (hl : ∀ s, s < 8 → ln s ≤ 40) (hlm : ∀ s, s < 8 → inb (hd s) 5 = true → lm s = ln s) : Cw g yX4_noList wsX4_noList 2 43 [.ref (ad 0), .int s] (mdW g ad (N, K, b, z, le, rf, hd, ln, vl) (6, at1, tk, so, va, lm, ol, ah, lt, lo)) (some (.int (lrS N hd ln s))) (mdW g ad (N, K, b, z, le, rf, hd, ln, vl) (6, at1, tk, so, va, lm, ol, ah, lt, lo)) := by
  refine Ct.start (cc := cX4_noList) (nL := 3) (ret := (some .int)) (own := RX4) (by decide) rfl rfl rfl ?_
  intro Γ X E
  show Go Γ g 3 (rmC 2 43) 0 0 (mdW g ad (N, K, b, z, le, rf, hd, ln, vl) (6, at1, tk, so, va, lm, ol, ah, lt, lo)) 0 [(0, .ref (ad 0)), (1, .int s)] []
  obtain ⟨o1, o2, o3, o4, o5, o6, o7, o8⟩ := id hN
  have o9 := p2_9 o2
  have o10 := sA_512 hN
  refine Go.aload_n X 0 dX4_noList_0 rfl ?_
  refine Go.iload_n X 1 dX4_noList_1 rfl ?_
  refine Go.callV0i X (d_noRow g ad N K b z le rf hd ln vl 6 at1 tk so va lm ol ah lt lo s (by exact hN) (by exact hH)) cal_X4_noRow gX4_noList_X4_noRow (ci := 4) (q0 := 0) rfl rfl rfl rfl rfl dX4_noList_2 ?_
  rcases rr_c hd s with ⟨q1, q9⟩ | ⟨sk, hsk, rfl, q0, q1, q9⟩ | ⟨sk, hsk, rfl, q0, q1, q2, q9⟩ | ⟨sk, hsk, rfl, q0, q1, q2, q9⟩
  · --
    refine Go.top (w := .int (-2)) (by rw [q9]) ?_
    refine Go.istore_n_new X dX4_noList_5 (by decide) rfl ?_
    refine Go.iload_n X 0 dX4_noList_6 rfl ?_
    refine Go.if_ge X 14 dX4_noList_7 (by decide) (fun h => absurd h (by decide)) (fun _ => ?_)
    refine Go.iload_n X 0 dX4_noList_10 rfl ?_
    refine Go.goto X 33 dX4_noList_11 (by decide) ?_
    exact Go.iret X E dX4_noList_33 ⟨rv (show (-2) = lrS N hd ln s from by simp (decide := true) [lrS, q1]), rfl⟩ rfl
  · --
    refine Go.top (w := .int (-3)) (by rw [q9]) ?_
    refine Go.istore_n_new X dX4_noList_5 (by decide) rfl ?_
    refine Go.iload_n X 0 dX4_noList_6 rfl ?_
    refine Go.if_ge X 14 dX4_noList_7 (by decide) (fun h => absurd h (by decide)) (fun _ => ?_)
    refine Go.iload_n X 0 dX4_noList_10 rfl ?_
    refine Go.goto X 33 dX4_noList_11 (by decide) ?_
    exact Go.iret X E dX4_noList_33 ⟨rv (show (-3) = lrS N hd ln (nI sk) from by simp (decide := true) [lrS, q0, q1, nI_clamp (show sk < 2 ^ 31 by omega)]), rfl⟩ rfl
  · --
    refine Go.top (w := .int (nI 0)) (by rw [q9]) ?_
    refine Go.istore_n_new X dX4_noList_5 (by decide) rfl ?_
    refine Go.iload_n X 0 dX4_noList_6 rfl ?_
    refine Go.if_ge X 14 dX4_noList_7 (by decide) (fun _ => ?_) (fun h => absurd (by decide) h)
    refine Go.aload_n X 1 dX4_noList_14 rfl ?_
    refine Go.get X f_X4_noList_13 0 (v := .ref (ad 2)) rfl rfl dX4_noList_15 ?_
    refine Go.iload_n X 2 dX4_noList_18 rfl ?_
    refine Go.ialdN X 2 (w := lm) rfl (by first | omega | (split <;> omega)) rfl dX4_noList_19 ?_
    have hlk := hl sk hsk
    refine Go.top (w := .int (nI (ln sk))) (by exact congrArg (fun z => Value.int (nI z)) (hlm sk hsk q2)) ?_
    refine Go.aload_n X 1 dX4_noList_20 rfl ?_
    refine Go.get X f_X4_noList_66 0 (v := .int (nI (sN N))) rfl rfl dX4_noList_21 ?_
    refine Go.icmp_geN X 32 dX4_noList_24 (by decide) (by first | omega | (split <;> omega)) (by first | omega | (split <;> omega)) (fun h24 => ?_) (fun h24 => ?_)
    · --
      refine Go.iconst X (nI 0) dX4_noList_32 k_ic_0 ?_
      exact Go.iret X E dX4_noList_33 ⟨rv (show (nI 0) = lrS N hd ln (nI sk) from by simp (decide := true) [lrS, q0, q1, q2, nI_clamp (show sk < 2 ^ 31 by omega), h24]), rfl⟩ rfl
    · --
      refine Go.bipush X ((-2 : Int32)) dX4_noList_27 k_bp_m2 ?_
      refine Go.goto X 33 dX4_noList_29 (by decide) ?_
      exact Go.iret X E dX4_noList_33 ⟨rv (show (-2) = lrS N hd ln (nI sk) from by simp (decide := true) [lrS, q0, q1, q2, nI_clamp (show sk < 2 ^ 31 by omega), Nat.not_le.mpr h24]), rfl⟩ rfl
  · --
    refine Go.top (w := .int (-4)) (by rw [q9]) ?_
    refine Go.istore_n_new X dX4_noList_5 (by decide) rfl ?_
    refine Go.iload_n X 0 dX4_noList_6 rfl ?_
    refine Go.if_ge X 14 dX4_noList_7 (by decide) (fun h => absurd h (by decide)) (fun _ => ?_)
    refine Go.iload_n X 0 dX4_noList_10 rfl ?_
    refine Go.goto X 33 dX4_noList_11 (by decide) ?_
    exact Go.iret X E dX4_noList_33 ⟨rv (show (-4) = lrS N hd ln (nI sk) from by simp (decide := true) [lrS, q0, q1, q2, nI_clamp (show sk < 2 ^ 31 by omega)]), rfl⟩ rfl
set_option maxHeartbeats 4000000 in
set_option maxRecDepth 100000 in
theorem d_listed (g : gT) (ad : Nat → Nat) (N : Sch) (K : Sch) (b : Bool) (z : Nat) (le : Nat → Nat) (rf : Nat → Int32) (hd : Nat → Int32) (ln : Nat → Nat) (vl : Nat → Nat → Int64) (at1 : Nat) (tk : Nat) (so : Int32) (va : Int32) (lm : Nat → Nat) (ol : Nat → Int32) (ah : Nat → Int32) (lt : Int32) (lo : Nat → Int32) (s : Nat) (m : Nat) (hN : sOk N) (hs : s < 8) (hm9 : m < 9) : Cw g yX4_listed wsX4_listed 0 0 [.ref (ad 0), .int (nI s), .int (nI m)] (mdW g ad (N, K, b, z, le, rf, hd, ln, vl) (6, at1, tk, so, va, lm, ol, ah, lt, lo)) (some (.int (nI (tolN (vl s m) (sP N))))) (mdW g ad (N, K, b, z, le, rf, hd, ln, vl) (6, at1, tk, so, va, lm, ol, ah, lt, lo)) := by
  refine Ct.start (cc := cX4_listed) (nL := 3) (ret := (some .int)) (own := RX4) (by decide) rfl rfl rfl ?_
  intro Γ X E
  show Go Γ g 3 (rmC 0 0) 0 0 (mdW g ad (N, K, b, z, le, rf, hd, ln, vl) (6, at1, tk, so, va, lm, ol, ah, lt, lo)) 0 [(0, .ref (ad 0)), (1, .int (nI s)), (2, .int (nI m))] []
  obtain ⟨o1, o2, o3, o4, o5, o6, o7, o8⟩ := id hN
  have o9 := p2_9 o2
  have o10 := sA_512 hN
  refine Go.aload_n X 0 dX4_listed_0 rfl ?_
  refine Go.get X f_X4_listed_16 0 (v := .ref (ad 3)) rfl rfl dX4_listed_1 ?_
  refine Go.bipush X (nI 40) dX4_listed_4 k_bp_40 ?_
  refine Go.iload_n X 1 dX4_listed_6 rfl ?_
  refine Go.imul_e X (nI (40 * s)) dX4_listed_7 (pk_mul _ _) ?_
  refine Go.iload_n X 2 dX4_listed_8 rfl ?_
  refine Go.iadd_e X (nI (40 * s + m)) dX4_listed_9 (nI_add _ _) ?_
  refine Go.laldF X 3 (f := row3 vl) rfl (by first | omega | (split <;> omega)) rfl dX4_listed_10 ?_
  refine Go.top (w := .long (vl s m)) (congrArg Value.long (row3_at _ (by first | omega | (split <;> omega)))) ?_
  refine Go.l2i X ((vl s m).toInt32) dX4_listed_11 rfl ?_
  refine Go.iconst X (nI 1) dX4_listed_12 k_ic_1 ?_
  refine Go.aload_n X 0 dX4_listed_13 rfl ?_
  refine Go.get X f_X4_listed_59 0 (v := .int (nI (sP N))) rfl rfl dX4_listed_14 ?_
  refine Go.ishl_e X (nI (2 ^ (sP N))) dX4_listed_17 (nI_shl1 (by first | omega | (split <;> omega))) ?_
  have o11 := Nat.one_le_two_pow (n := sP N)
  refine Go.iconst X (nI 1) dX4_listed_18 k_ic_1 ?_
  refine Go.isub_e X (nI (2 ^ (sP N) - 1)) dX4_listed_19 (pk_sub (by first | omega | (split <;> omega))) ?_
  refine Go.iand_e X (((vl s m).toInt32) &&& (nI (2 ^ (sP N) - 1))) dX4_listed_20 rfl ?_
  exact Go.iret X E dX4_listed_21 ⟨rv (show (((vl s m).toInt32) &&& (nI (2 ^ (sP N) - 1))) = nI (tolN (vl s m) (sP N)) from by exact tol_m _ o6), rfl⟩ rfl
set_option maxHeartbeats 4000000 in
set_option maxRecDepth 100000 in
theorem e_judge (g : gT) (ad : Nat → Nat) (N : Sch) (K : Sch) (b : Bool) (z : Nat) (le : Nat → Nat) (rf : Nat → Int32) (hd : Nat → Int32) (ln : Nat → Nat) (vl : Nat → Nat → Int64) (at1 : Nat) (tk : Nat) (so : Int32) (va : Int32) (lm : Nat → Nat) (ol : Nat → Int32) (ah : Nat → Int32) (lt : Int32) (lo : Nat → Int32) (s : Int32) (hN : sOk N) (hH : hOk (sP N) hd) (hl : ∀ s, s < 8 → ln s ≤ 40) (hm : mOk (N, K, b, z, le, rf, hd, ln, vl) (6, at1, tk, so, va, lm, ol, ah, lt, lo)) : Ct g yX4_judge wsX4_judge 6 139 [.ref (ad 0), .int s] (mdW g ad (N, K, b, z, le, rf, hd, ln, vl) (6, at1, tk, so, va, lm, ol, ah, lt, lo)) (fun v9 w9 => v9 = (some (.int (x_judge (N, K, b, z, le, rf, hd, ln, vl) s).2)) ∧ ∃ J9, mOk (x_judge (N, K, b, z, le, rf, hd, ln, vl) s).1 J9 ∧ w9 = mdW g ad (x_judge (N, K, b, z, le, rf, hd, ln, vl) s).1 J9) := by
  refine Ct.start (cc := cX4_judge) (nL := 4) (ret := (some .int)) (own := RX4) (by decide) rfl rfl rfl ?_
  intro Γ X E
  show Go Γ g 4 (rmC 6 139) 0 0 (mdW g ad (N, K, b, z, le, rf, hd, ln, vl) (6, at1, tk, so, va, lm, ol, ah, lt, lo)) 0 [(0, .ref (ad 0)), (1, .int s)] []
  obtain ⟨o1, o2, o3, o4, o5, o6, o7, o8⟩ := id hN
  have o9 := p2_9 o2
  have o10 := sA_512 hN
  refine Go.aload_n X 0 dX4_judge_0 rfl ?_
  refine Go.iload_n X 1 dX4_judge_1 rfl ?_
  refine Go.callV0i X (d_noList g ad N K b z le rf hd ln vl at1 tk so va lm ol ah lt lo s (by exact hN) (by exact hH) (by exact hl) (by exact hm.2.1)) cal_X4_noList gX4_judge_X4_noList (ci := 4) (q0 := 0) rfl rfl rfl rfl rfl dX4_judge_2 ?_
  rcases lr_c N hd ln s with ⟨q1, q9⟩ | ⟨sk, hsk, rfl, q0, q1, q9⟩ | ⟨sk, hsk, rfl, q0, q1, q2, q3, q9⟩ | ⟨sk, hsk, rfl, q0, q1, q2, q3, q9⟩ | ⟨sk, hsk, rfl, q0, q1, q2, q9⟩
  · --
    refine Go.top (w := .int (-2)) (by rw [q9]) ?_
    refine Go.istore_n_new X dX4_judge_5 (by decide) rfl ?_
    refine Go.iload_n X 0 dX4_judge_6 rfl ?_
    refine Go.if_ge X 16 dX4_judge_7 (by decide) (fun h => absurd h (by decide)) (fun _ => ?_)
    refine Go.aload_n X 1 dX4_judge_10 rfl ?_
    refine Go.iload_n X 0 dX4_judge_11 rfl ?_
    refine Go.callV0i X (d_no_0 g ad N K b z le rf hd ln vl 6 at1 tk so va lm ol ah lt lo) cal_X4_no gX4_judge_X4_no (ci := 4) (q0 := 0) rfl rfl rfl rfl rfl dX4_judge_12 ?_
    have e9 : x_judge (N, K, b, z, le, rf, hd, ln, vl) s = ((N, K, b, z, le, inc rf 0, hd, ln, vl), (-2)) := by simp (decide := true) [x_judge, rfS, upS_id, q1, listS]
    have m9 : mOk (N, K, b, z, le, inc rf 0, hd, ln, vl) (6, at1, tk, so, va, lm, ol, ah, lt, lo) := ⟨rfl, hm.2.1, hm.2.2⟩
    exact Go.iret X E dX4_judge_15 ⟨by rw [e9], _, by rw [e9]; exact m9, by rw [e9]⟩ rfl
  · --
    refine Go.top (w := .int (-3)) (by rw [q9]) ?_
    refine Go.istore_n_new X dX4_judge_5 (by decide) rfl ?_
    refine Go.iload_n X 0 dX4_judge_6 rfl ?_
    refine Go.if_ge X 16 dX4_judge_7 (by decide) (fun h => absurd h (by decide)) (fun _ => ?_)
    refine Go.aload_n X 1 dX4_judge_10 rfl ?_
    refine Go.iload_n X 0 dX4_judge_11 rfl ?_
    refine Go.callV0i X (d_no_1 g ad N K b z le rf hd ln vl 6 at1 tk so va lm ol ah lt lo) cal_X4_no gX4_judge_X4_no (ci := 4) (q0 := 0) rfl rfl rfl rfl rfl dX4_judge_12 ?_
    have e9 : x_judge (N, K, b, z, le, rf, hd, ln, vl) (nI sk) = ((N, K, b, z, le, inc rf 1, hd, ln, vl), (-3)) := by simp (decide := true) [x_judge, rfS, upS_id, q0, q1, nI_clamp (show sk < 2 ^ 31 by omega), listS]
    have m9 : mOk (N, K, b, z, le, inc rf 1, hd, ln, vl) (6, at1, tk, so, va, lm, ol, ah, lt, lo) := ⟨rfl, hm.2.1, hm.2.2⟩
    exact Go.iret X E dX4_judge_15 ⟨by rw [e9], _, by rw [e9]; exact m9, by rw [e9]⟩ rfl
  · --
    refine Go.top (w := .int (nI 0)) (by rw [q9]) ?_
    refine Go.istore_n_new X dX4_judge_5 (by decide) rfl ?_
    refine Go.iload_n X 0 dX4_judge_6 rfl ?_
    refine Go.if_ge X 16 dX4_judge_7 (by decide) (fun _ => ?_) (fun h => absurd (by decide) h)
    refine Go.iconst X (nI 0) dX4_judge_16 k_ic_0 ?_
    refine Go.istore_n_new X dX4_judge_17 (by decide) rfl ?_
    have L18 : ∀ (f18 : Nat) (k : Nat) (hk : k ≤ sN N) (hq : ∀ j, j < k → decide (wrg N (vl sk) j ≠ 0) = false) (hf18 : sN N - k < f18), Go Γ g 4 (rmC 6 139) 0 0 (mdW g ad (N, K, b, z, le, rf, hd, ln, vl) (6, at1, tk, so, va, lm, ol, ah, lt, lo)) 18 [(3, .int (nI k)), (2, .int (nI 0)), (0, .ref (ad 0)), (1, .int (nI sk))] [] := by
      intro f18
      induction f18 with
      | zero => intro k hk hq hf18; exact absurd hf18 (Nat.not_lt_zero _)
      | succ f18 ih18 =>
        intro k hk hq hf18
        refine Go.iload_n X 0 dX4_judge_18 rfl ?_
        refine Go.aload_n X 2 dX4_judge_19 rfl ?_
        refine Go.get X f_X4_judge_66 0 (v := .int (nI (sN N))) rfl rfl dX4_judge_20 ?_
        refine Go.icmp_geN X 48 dX4_judge_23 (by decide) (by first | omega | (split <;> omega)) (by first | omega | (split <;> omega)) (fun h23 => ?_) (fun h23 => ?_)
        · --
          refine Go.iconst X ((-1 : Int32)) dX4_judge_48 k_ic_m1 ?_
          have e9 : x_judge (N, K, b, z, le, rf, hd, ln, vl) (nI sk) = ((N, K, b, z, le, rf, hd, ln, vl), (-1)) := by simp only [x_judge, listS, q0, q1, q2, q3, if_true, if_false, nI_clamp (show sk < 2 ^ 31 by omega)]; show ((N, K, b, z, le, rf, hd, ln, vl), fP (fun m => decide (wrg N (vl sk) m ≠ 0)) (sN N)) = _; rw [fP_no (fun j hj => hq j (by omega))]
          have m9 : mOk (N, K, b, z, le, rf, hd, ln, vl) (6, at1, tk, so, va, lm, ol, ah, lt, lo) := ⟨rfl, hm.2.1, hm.2.2⟩
          exact Go.iret X E dX4_judge_49 ⟨by rw [e9], _, by rw [e9]; exact m9, by rw [e9]⟩ rfl
        · --
          refine Go.aload_n X 2 dX4_judge_26 rfl ?_
          refine Go.iload_n X 3 dX4_judge_27 rfl ?_
          refine Go.iload_n X 0 dX4_judge_28 rfl ?_
          refine Go.callV0i X (d_listed g ad N K b z le rf hd ln vl at1 tk so va lm ol ah lt lo sk k (by exact hN) (by first | omega | (split <;> omega)) (by first | omega | (split <;> omega))) cal_X4_listed gX4_judge_X4_listed (ci := 4) (q0 := 0) rfl rfl rfl rfl rfl dX4_judge_29 ?_
          have f29_1 := (tol_at (vl sk k) hN.2.2.2.2.2.1).2
          refine Go.aload_n X 2 dX4_judge_32 rfl ?_
          refine Go.iload_n X 0 dX4_judge_33 rfl ?_
          refine Go.callV0i X (d_whoExpects g ad N K b z le rf hd ln vl 6 at1 tk so va lm ol ah lt lo k (by exact hN) (by first | omega | (split <;> omega)) (by first | omega | (split <;> omega))) cal_X4_whoExpects gX4_judge_X4_whoExpects (ci := 4) (q0 := 0) rfl rfl rfl rfl rfl dX4_judge_34 ?_
          have f34_2 := whoE_64 hN 6 k
          refine Go.icmp_eqN X 42 dX4_judge_37 (by decide) (by first | omega | (split <;> omega)) (by first | omega | (split <;> omega)) (fun h37 => ?_) (fun h37 => ?_)
          · --
            refine Go.iinc_0 X (nI (k + 1)) dX4_judge_42 (by decide) rfl (show nI k + Int32.ofInt 1 = nI (k + 1) from nI_add _ 1) ?_
            refine Go.goto X 18 dX4_judge_45 (by decide) ?_
            exact ih18 (k + 1) (by first | omega | (split <;> omega)) (by exact fP_s (P := fun m => decide (wrg N (vl sk) m ≠ 0)) hq (wrg_y h37)) (by first | omega | (split <;> omega))
          · --
            refine Go.iload_n X 0 dX4_judge_40 rfl ?_
            have e9 : x_judge (N, K, b, z, le, rf, hd, ln, vl) (nI sk) = ((N, K, b, z, le, rf, hd, ln, vl), (nI k)) := by simp only [x_judge, listS, q0, q1, q2, q3, if_true, if_false, nI_clamp (show sk < 2 ^ 31 by omega)]; show ((N, K, b, z, le, rf, hd, ln, vl), fP (fun m => decide (wrg N (vl sk) m ≠ 0)) (sN N)) = _; rw [fP_at (k := k) (by omega) (wrg_n h37) hq h23]
            have m9 : mOk (N, K, b, z, le, rf, hd, ln, vl) (6, at1, tk, so, va, lm, ol, ah, lt, lo) := ⟨rfl, hm.2.1, hm.2.2⟩
            exact Go.iret X E dX4_judge_41 ⟨by rw [e9], _, by rw [e9]; exact m9, by rw [e9]⟩ rfl
    exact L18 (sN N - 0 + 1) 0 (by first | omega | (split <;> omega)) (by intro j hj; omega) (Nat.lt_succ_self _)
  · --
    refine Go.top (w := .int (-2)) (by rw [q9]) ?_
    refine Go.istore_n_new X dX4_judge_5 (by decide) rfl ?_
    refine Go.iload_n X 0 dX4_judge_6 rfl ?_
    refine Go.if_ge X 16 dX4_judge_7 (by decide) (fun h => absurd h (by decide)) (fun _ => ?_)
    refine Go.aload_n X 1 dX4_judge_10 rfl ?_
    refine Go.iload_n X 0 dX4_judge_11 rfl ?_
    refine Go.callV0i X (d_no_0 g ad N K b z le rf hd ln vl 6 at1 tk so va lm ol ah lt lo) cal_X4_no gX4_judge_X4_no (ci := 4) (q0 := 0) rfl rfl rfl rfl rfl dX4_judge_12 ?_
    have e9 : x_judge (N, K, b, z, le, rf, hd, ln, vl) (nI sk) = ((N, K, b, z, le, inc rf 0, hd, ln, vl), (-2)) := by simp (decide := true) [x_judge, rfS, upS_id, q0, q1, q2, q3, nI_clamp (show sk < 2 ^ 31 by omega), listS]
    have m9 : mOk (N, K, b, z, le, inc rf 0, hd, ln, vl) (6, at1, tk, so, va, lm, ol, ah, lt, lo) := ⟨rfl, hm.2.1, hm.2.2⟩
    exact Go.iret X E dX4_judge_15 ⟨by rw [e9], _, by rw [e9]; exact m9, by rw [e9]⟩ rfl
  · --
    refine Go.top (w := .int (-4)) (by rw [q9]) ?_
    refine Go.istore_n_new X dX4_judge_5 (by decide) rfl ?_
    refine Go.iload_n X 0 dX4_judge_6 rfl ?_
    refine Go.if_ge X 16 dX4_judge_7 (by decide) (fun h => absurd h (by decide)) (fun _ => ?_)
    refine Go.aload_n X 1 dX4_judge_10 rfl ?_
    refine Go.iload_n X 0 dX4_judge_11 rfl ?_
    refine Go.callV0i X (d_no_2 g ad N K b z le rf hd ln vl 6 at1 tk so va lm ol ah lt lo) cal_X4_no gX4_judge_X4_no (ci := 4) (q0 := 0) rfl rfl rfl rfl rfl dX4_judge_12 ?_
    have e9 : x_judge (N, K, b, z, le, rf, hd, ln, vl) (nI sk) = ((N, K, b, z, le, inc rf 2, hd, ln, vl), (-4)) := by simp (decide := true) [x_judge, rfS, upS_id, q0, q1, q2, nI_clamp (show sk < 2 ^ 31 by omega), listS]
    have m9 : mOk (N, K, b, z, le, inc rf 2, hd, ln, vl) (6, at1, tk, so, va, lm, ol, ah, lt, lo) := ⟨rfl, hm.2.1, hm.2.2⟩
    exact Go.iret X E dX4_judge_15 ⟨by rw [e9], _, by rw [e9]; exact m9, by rw [e9]⟩ rfl
set_option maxHeartbeats 4000000 in
set_option maxRecDepth 100000 in
theorem e_unlike (g : gT) (ad : Nat → Nat) (N : Sch) (K : Sch) (b : Bool) (z : Nat) (le : Nat → Nat) (rf : Nat → Int32) (hd : Nat → Int32) (ln : Nat → Nat) (vl : Nat → Nat → Int64) (at1 : Nat) (tk : Nat) (so : Int32) (va : Int32) (lm : Nat → Nat) (ol : Nat → Int32) (ah : Nat → Int32) (lt : Int32) (lo : Nat → Int32) (s : Int32) (hN : sOk N) (hH : hOk (sP N) hd) (hl : ∀ s, s < 8 → ln s ≤ 40) (hm : mOk (N, K, b, z, le, rf, hd, ln, vl) (6, at1, tk, so, va, lm, ol, ah, lt, lo)) : Ct g yX4_unlike wsX4_unlike 6 139 [.ref (ad 0), .int s] (mdW g ad (N, K, b, z, le, rf, hd, ln, vl) (6, at1, tk, so, va, lm, ol, ah, lt, lo)) (fun v9 w9 => v9 = (some (.int (x_unlike (N, K, b, z, le, rf, hd, ln, vl) s).2)) ∧ ∃ J9, mOk (x_unlike (N, K, b, z, le, rf, hd, ln, vl) s).1 J9 ∧ w9 = mdW g ad (x_unlike (N, K, b, z, le, rf, hd, ln, vl) s).1 J9) := by
  refine Ct.start (cc := cX4_unlike) (nL := 5) (ret := (some .int)) (own := RX4) (by decide) rfl rfl rfl ?_
  intro Γ X E
  show Go Γ g 5 (rmC 6 139) 0 0 (mdW g ad (N, K, b, z, le, rf, hd, ln, vl) (6, at1, tk, so, va, lm, ol, ah, lt, lo)) 0 [(0, .ref (ad 0)), (1, .int s)] []
  obtain ⟨o1, o2, o3, o4, o5, o6, o7, o8⟩ := id hN
  have o9 := p2_9 o2
  have o10 := sA_512 hN
  refine Go.aload_n X 0 dX4_unlike_0 rfl ?_
  refine Go.iload_n X 1 dX4_unlike_1 rfl ?_
  refine Go.callV0i X (d_noList g ad N K b z le rf hd ln vl at1 tk so va lm ol ah lt lo s (by exact hN) (by exact hH) (by exact hl) (by exact hm.2.1)) cal_X4_noList gX4_unlike_X4_noList (ci := 4) (q0 := 0) rfl rfl rfl rfl rfl dX4_unlike_2 ?_
  rcases lr_c N hd ln s with ⟨q1, q9⟩ | ⟨sk, hsk, rfl, q0, q1, q9⟩ | ⟨sk, hsk, rfl, q0, q1, q2, q3, q9⟩ | ⟨sk, hsk, rfl, q0, q1, q2, q3, q9⟩ | ⟨sk, hsk, rfl, q0, q1, q2, q9⟩
  · --
    refine Go.top (w := .int (-2)) (by rw [q9]) ?_
    refine Go.istore_n_new X dX4_unlike_5 (by decide) rfl ?_
    refine Go.iload_n X 0 dX4_unlike_6 rfl ?_
    refine Go.if_ge X 16 dX4_unlike_7 (by decide) (fun h => absurd h (by decide)) (fun _ => ?_)
    refine Go.aload_n X 1 dX4_unlike_10 rfl ?_
    refine Go.iload_n X 0 dX4_unlike_11 rfl ?_
    refine Go.callV0i X (d_no_0 g ad N K b z le rf hd ln vl 6 at1 tk so va lm ol ah lt lo) cal_X4_no gX4_unlike_X4_no (ci := 4) (q0 := 0) rfl rfl rfl rfl rfl dX4_unlike_12 ?_
    have e9 : x_unlike (N, K, b, z, le, rf, hd, ln, vl) s = ((N, K, b, z, le, inc rf 0, hd, ln, vl), (-2)) := by simp (decide := true) [x_unlike, rfS, upS_id, q1, listS]
    have m9 : mOk (N, K, b, z, le, inc rf 0, hd, ln, vl) (6, at1, tk, so, va, lm, ol, ah, lt, lo) := ⟨rfl, hm.2.1, hm.2.2⟩
    exact Go.iret X E dX4_unlike_15 ⟨by rw [e9], _, by rw [e9]; exact m9, by rw [e9]⟩ rfl
  · --
    refine Go.top (w := .int (-3)) (by rw [q9]) ?_
    refine Go.istore_n_new X dX4_unlike_5 (by decide) rfl ?_
    refine Go.iload_n X 0 dX4_unlike_6 rfl ?_
    refine Go.if_ge X 16 dX4_unlike_7 (by decide) (fun h => absurd h (by decide)) (fun _ => ?_)
    refine Go.aload_n X 1 dX4_unlike_10 rfl ?_
    refine Go.iload_n X 0 dX4_unlike_11 rfl ?_
    refine Go.callV0i X (d_no_1 g ad N K b z le rf hd ln vl 6 at1 tk so va lm ol ah lt lo) cal_X4_no gX4_unlike_X4_no (ci := 4) (q0 := 0) rfl rfl rfl rfl rfl dX4_unlike_12 ?_
    have e9 : x_unlike (N, K, b, z, le, rf, hd, ln, vl) (nI sk) = ((N, K, b, z, le, inc rf 1, hd, ln, vl), (-3)) := by simp (decide := true) [x_unlike, rfS, upS_id, q0, q1, nI_clamp (show sk < 2 ^ 31 by omega), listS]
    have m9 : mOk (N, K, b, z, le, inc rf 1, hd, ln, vl) (6, at1, tk, so, va, lm, ol, ah, lt, lo) := ⟨rfl, hm.2.1, hm.2.2⟩
    exact Go.iret X E dX4_unlike_15 ⟨by rw [e9], _, by rw [e9]; exact m9, by rw [e9]⟩ rfl
  · --
    refine Go.top (w := .int (nI 0)) (by rw [q9]) ?_
    refine Go.istore_n_new X dX4_unlike_5 (by decide) rfl ?_
    refine Go.iload_n X 0 dX4_unlike_6 rfl ?_
    refine Go.if_ge X 16 dX4_unlike_7 (by decide) (fun _ => ?_) (fun h => absurd (by decide) h)
    refine Go.iconst X (nI 0) dX4_unlike_16 k_ic_0 ?_
    refine Go.istore_n_new X dX4_unlike_17 (by decide) rfl ?_
    refine Go.iconst X (nI 0) dX4_unlike_18 k_ic_0 ?_
    refine Go.istore_new X dX4_unlike_19 (by decide) rfl ?_
    have L21 : ∀ (f21 : Nat) (k : Nat) (hk : k ≤ sN N) (hf21 : sN N - k < f21), Go Γ g 5 (rmC 6 139) 0 0 (mdW g ad (N, K, b, z, le, rf, hd, ln, vl) (6, at1, tk, so, va, lm, ol, ah, lt, lo)) 21 [(4, .int (nI k)), (3, .int (nI (unS N (vl sk) k))), (2, .int (nI 0)), (0, .ref (ad 0)), (1, .int (nI sk))] [] := by
      intro f21
      induction f21 with
      | zero => intro k hk hf21; exact absurd hf21 (Nat.not_lt_zero _)
      | succ f21 ih21 =>
        intro k hk hf21
        refine Go.iload X 0 dX4_unlike_21 rfl ?_
        refine Go.aload_n X 3 dX4_unlike_23 rfl ?_
        refine Go.get X f_X4_unlike_66 0 (v := .int (nI (sN N))) rfl rfl dX4_unlike_24 ?_
        refine Go.icmp_geN X 56 dX4_unlike_27 (by decide) (by first | omega | (split <;> omega)) (by first | omega | (split <;> omega)) (fun h27 => ?_) (fun h27 => ?_)
        · --
          refine Go.lv_1 (w := .int (nI (unS N (vl sk) (sN N)))) (by rw [show k = sN N by omega]) ?_
          refine Go.iload_n X 1 dX4_unlike_56 rfl ?_
          have e9 : x_unlike (N, K, b, z, le, rf, hd, ln, vl) (nI sk) = ((N, K, b, z, le, rf, hd, ln, vl), (nI (unS N (vl sk) (sN N)))) := by simp (decide := true) [x_unlike, rfS, upS_id, q0, q1, q2, q3, h27, Nat.not_lt.mpr h27, nI_clamp (show sk < 2 ^ 31 by omega), listS]
          have m9 : mOk (N, K, b, z, le, rf, hd, ln, vl) (6, at1, tk, so, va, lm, ol, ah, lt, lo) := ⟨rfl, hm.2.1, hm.2.2⟩
          exact Go.iret X E dX4_unlike_57 ⟨by rw [e9], _, by rw [e9]; exact m9, by rw [e9]⟩ rfl
        · --
          refine Go.iload_n X 1 dX4_unlike_30 rfl ?_
          refine Go.aload_n X 3 dX4_unlike_31 rfl ?_
          refine Go.iload_n X 4 dX4_unlike_32 rfl ?_
          refine Go.iload X 0 dX4_unlike_33 rfl ?_
          refine Go.callV0i X (d_listed g ad N K b z le rf hd ln vl at1 tk so va lm ol ah lt lo sk k (by exact hN) (by first | omega | (split <;> omega)) (by first | omega | (split <;> omega))) cal_X4_listed gX4_unlike_X4_listed (ci := 4) (q0 := 0) rfl rfl rfl rfl rfl dX4_unlike_35 ?_
          have f35_1 := (tol_at (vl sk k) hN.2.2.2.2.2.1).2
          refine Go.aload_n X 3 dX4_unlike_38 rfl ?_
          refine Go.iload X 0 dX4_unlike_39 rfl ?_
          refine Go.callV0i X (d_whoExpects g ad N K b z le rf hd ln vl 6 at1 tk so va lm ol ah lt lo k (by exact hN) (by first | omega | (split <;> omega)) (by first | omega | (split <;> omega))) cal_X4_whoExpects gX4_unlike_X4_whoExpects (ci := 4) (q0 := 0) rfl rfl rfl rfl rfl dX4_unlike_41 ?_
          have f41_2 := whoE_64 hN 6 k
          refine Go.ixor_e X (nI ((tolN (vl sk k) (sP N)) ^^^ (whoE N 6 k))) dX4_unlike_44 (nI_xor _ _) ?_
          refine Go.top (w := .int (nI (wrg N (vl sk) k))) (by rfl) ?_
          have o11 := wrg_lt hN (vl sk) k
          refine Go.callSi X  (c_bitCount g (wrg N (vl sk) k) (by first | omega | (split <;> omega))) cal_J6_bitCount_0f7a4 [] rfl rfl gX4_unlike_J6_bitCount_0f7a4 rfl rfl rfl dX4_unlike_45 ?_
          refine Go.iadd_e X (nI (unS N (vl sk) k + bcn (wrg N (vl sk) k))) dX4_unlike_48 (nI_add _ _) ?_
          refine Go.istore_n_1 X dX4_unlike_49 (by decide) rfl ?_
          refine Go.iinc_0 X (nI (k + 1)) dX4_unlike_50 (by decide) rfl (show nI k + Int32.ofInt 1 = nI (k + 1) from nI_add _ 1) ?_
          refine Go.goto X 21 dX4_unlike_53 (by decide) ?_
          refine Go.lv_1 (congrArg (fun z => Value.int (nI z)) (show unS N (vl sk) k + bcn (wrg N (vl sk) k) = unS N (vl sk) (k + 1) from by rfl)) ?_
          exact ih21 (k + 1) (by first | omega | (split <;> omega)) (by first | omega | (split <;> omega))
    refine Go.lv_1 (congrArg (fun z => Value.int (nI z)) (show 0 = unS N (vl sk) 0 from by rfl)) ?_
    exact L21 (sN N - 0 + 1) 0 (by first | omega | (split <;> omega)) (Nat.lt_succ_self _)
  · --
    refine Go.top (w := .int (-2)) (by rw [q9]) ?_
    refine Go.istore_n_new X dX4_unlike_5 (by decide) rfl ?_
    refine Go.iload_n X 0 dX4_unlike_6 rfl ?_
    refine Go.if_ge X 16 dX4_unlike_7 (by decide) (fun h => absurd h (by decide)) (fun _ => ?_)
    refine Go.aload_n X 1 dX4_unlike_10 rfl ?_
    refine Go.iload_n X 0 dX4_unlike_11 rfl ?_
    refine Go.callV0i X (d_no_0 g ad N K b z le rf hd ln vl 6 at1 tk so va lm ol ah lt lo) cal_X4_no gX4_unlike_X4_no (ci := 4) (q0 := 0) rfl rfl rfl rfl rfl dX4_unlike_12 ?_
    have e9 : x_unlike (N, K, b, z, le, rf, hd, ln, vl) (nI sk) = ((N, K, b, z, le, inc rf 0, hd, ln, vl), (-2)) := by simp (decide := true) [x_unlike, rfS, upS_id, q0, q1, q2, q3, nI_clamp (show sk < 2 ^ 31 by omega), listS]
    have m9 : mOk (N, K, b, z, le, inc rf 0, hd, ln, vl) (6, at1, tk, so, va, lm, ol, ah, lt, lo) := ⟨rfl, hm.2.1, hm.2.2⟩
    exact Go.iret X E dX4_unlike_15 ⟨by rw [e9], _, by rw [e9]; exact m9, by rw [e9]⟩ rfl
  · --
    refine Go.top (w := .int (-4)) (by rw [q9]) ?_
    refine Go.istore_n_new X dX4_unlike_5 (by decide) rfl ?_
    refine Go.iload_n X 0 dX4_unlike_6 rfl ?_
    refine Go.if_ge X 16 dX4_unlike_7 (by decide) (fun h => absurd h (by decide)) (fun _ => ?_)
    refine Go.aload_n X 1 dX4_unlike_10 rfl ?_
    refine Go.iload_n X 0 dX4_unlike_11 rfl ?_
    refine Go.callV0i X (d_no_2 g ad N K b z le rf hd ln vl 6 at1 tk so va lm ol ah lt lo) cal_X4_no gX4_unlike_X4_no (ci := 4) (q0 := 0) rfl rfl rfl rfl rfl dX4_unlike_12 ?_
    have e9 : x_unlike (N, K, b, z, le, rf, hd, ln, vl) (nI sk) = ((N, K, b, z, le, inc rf 2, hd, ln, vl), (-4)) := by simp (decide := true) [x_unlike, rfS, upS_id, q0, q1, q2, nI_clamp (show sk < 2 ^ 31 by omega), listS]
    have m9 : mOk (N, K, b, z, le, inc rf 2, hd, ln, vl) (6, at1, tk, so, va, lm, ol, ah, lt, lo) := ⟨rfl, hm.2.1, hm.2.2⟩
    exact Go.iret X E dX4_unlike_15 ⟨by rw [e9], _, by rw [e9]; exact m9, by rw [e9]⟩ rfl
set_option maxHeartbeats 4000000 in
set_option maxRecDepth 100000 in
theorem e_book (g : gT) (ad : Nat → Nat) (N : Sch) (K : Sch) (b : Bool) (z : Nat) (le : Nat → Nat) (rf : Nat → Int32) (hd : Nat → Int32) (ln : Nat → Nat) (vl : Nat → Nat → Int64) (at1 : Nat) (tk : Nat) (so : Int32) (va : Int32) (lm : Nat → Nat) (ol : Nat → Int32) (ah : Nat → Int32) (lt : Int32) (lo : Nat → Int32) (s : Int32) (n : Int32) (hN : sOk N) (hH : hOk (sP N) hd) (hl : ∀ s, s < 8 → ln s ≤ 40) (hm : mOk (N, K, b, z, le, rf, hd, ln, vl) (6, at1, tk, so, va, lm, ol, ah, lt, lo)) : Ct g yX4_book wsX4_book 2 44 [.ref (ad 0), .int s, .int n] (mdW g ad (N, K, b, z, le, rf, hd, ln, vl) (6, at1, tk, so, va, lm, ol, ah, lt, lo)) (fun v9 w9 => v9 = (some (.int (x_book (N, K, b, z, le, rf, hd, ln, vl) s n).2)) ∧ ∃ J9, mOk (x_book (N, K, b, z, le, rf, hd, ln, vl) s n).1 J9 ∧ w9 = mdW g ad (x_book (N, K, b, z, le, rf, hd, ln, vl) s n).1 J9) := by
  refine Ct.start (cc := cX4_book) (nL := 10) (ret := (some .int)) (own := RX4) (by decide) rfl rfl rfl ?_
  intro Γ X E
  show Go Γ g 10 (rmC 2 44) 0 0 (mdW g ad (N, K, b, z, le, rf, hd, ln, vl) (6, at1, tk, so, va, lm, ol, ah, lt, lo)) 0 [(0, .ref (ad 0)), (1, .int s), (2, .int n)] []
  obtain ⟨o1, o2, o3, o4, o5, o6, o7, o8⟩ := id hN
  have o9 := p2_9 o2
  have o10 := sA_512 hN
  refine Go.iload_n X 1 dX4_book_0 rfl ?_
  refine Go.iconst X (nI 0) dX4_book_1 k_ic_0 ?_
  refine Go.bipush X (nI 7) dX4_book_2 k_bp_7 ?_
  refine Go.callSi X  (d_within_7 g s) cal_X4_within [] rfl rfl gX4_book_X4_within rfl rfl rfl dX4_book_4 ?_
  refine Go.if_eqB X 19 dX4_book_7 (by decide) (fun h7 => ?_) (fun h7 => ?_)
  · --
    refine Go.aload_n X 0 dX4_book_19 rfl ?_
    refine Go.bipush X ((-2 : Int32)) dX4_book_20 k_bp_m2 ?_
    refine Go.callV0i X (d_noFar_0 g ad N K b z le rf hd ln vl 6 at1 tk so va lm ol ah lt lo) cal_X4_noFar gX4_book_X4_noFar (ci := 4) (q0 := 0) rfl rfl rfl rfl rfl dX4_book_22 ?_
    have e9 : x_book (N, K, b, z, le, rf, hd, ln, vl) s n = ((N, K, b, z, le, inc rf 0, hd, ln, vl), (-10000002)) := by simp (decide := true) [x_book, rfS, upS_id, h7]
    have m9 : mOk (N, K, b, z, le, inc rf 0, hd, ln, vl) (6, at1, tk, so, va, lm, ol, ah, lt, lo) := ⟨rfl, hm.2.1, hm.2.2⟩
    exact Go.iret X E dX4_book_25 ⟨by rw [e9], _, by rw [e9]; exact m9, by rw [e9]⟩ rfl
  · --
    obtain ⟨sk, hsk, rfl⟩ := inb_at (by first | omega | (split <;> omega)) h7
    refine Go.iload_n X 2 dX4_book_10 rfl ?_
    refine Go.iconst X (nI 0) dX4_book_11 k_ic_0 ?_
    refine Go.iconst X (nI 5) dX4_book_12 k_ic_5 ?_
    refine Go.callSi X  (d_within_5 g n) cal_X4_within [] rfl rfl gX4_book_X4_within rfl rfl rfl dX4_book_13 ?_
    refine Go.if_neB X 26 dX4_book_16 (by decide) (fun h16 => ?_) (fun h16 => ?_)
    · --
      obtain ⟨nk, hnk, rfl⟩ := inb_at (by first | omega | (split <;> omega)) h16
      refine Go.aload_n X 0 dX4_book_26 rfl ?_
      refine Go.iload_n X 1 dX4_book_27 rfl ?_
      refine Go.callV0i X (d_noRow g ad N K b z le rf hd ln vl 6 at1 tk so va lm ol ah lt lo (nI sk) (by exact hN) (by exact hH)) cal_X4_noRow gX4_book_X4_noRow (ci := 4) (q0 := 0) rfl rfl rfl rfl rfl dX4_book_28 ?_
      rcases rr_c2 (hd := hd) hsk with ⟨q0, q9⟩ | ⟨q0, q2, q9⟩ | ⟨q0, q2, q9⟩
      · --
        refine Go.top (w := .int (-3)) (by rw [q9]) ?_
        refine Go.istore_n_new X dX4_book_31 (by decide) rfl ?_
        refine Go.iload_n X 0 dX4_book_32 rfl ?_
        refine Go.if_ge X 42 dX4_book_33 (by decide) (fun h => absurd h (by decide)) (fun _ => ?_)
        refine Go.aload_n X 1 dX4_book_36 rfl ?_
        refine Go.iload_n X 0 dX4_book_37 rfl ?_
        refine Go.callV0i X (d_noFar_1 g ad N K b z le rf hd ln vl 6 at1 tk so va lm ol ah lt lo) cal_X4_noFar gX4_book_X4_noFar (ci := 4) (q0 := 0) rfl rfl rfl rfl rfl dX4_book_38 ?_
        have e9 : x_book (N, K, b, z, le, rf, hd, ln, vl) (nI sk) (nI nk) = ((N, K, b, z, le, inc rf 1, hd, ln, vl), (-10000003)) := by simp (decide := true) [x_book, rfS, h7, h16, q0, nI_clamp (show sk < 2 ^ 31 by omega), nI_clamp (show nk < 2 ^ 31 by omega)]
        have m9 : mOk (N, K, b, z, le, inc rf 1, hd, ln, vl) (6, at1, tk, so, va, lm, ol, ah, lt, lo) := ⟨rfl, hm.2.1, hm.2.2⟩
        exact Go.iret X E dX4_book_41 ⟨by rw [e9], _, by rw [e9]; exact m9, by rw [e9]⟩ rfl
      · --
        refine Go.top (w := .int (nI 0)) (by rw [q9]) ?_
        refine Go.istore_n_new X dX4_book_31 (by decide) rfl ?_
        refine Go.iload_n X 0 dX4_book_32 rfl ?_
        refine Go.if_ge X 42 dX4_book_33 (by decide) (fun _ => ?_) (fun h => absurd (by decide) h)
        refine Go.iload_n X 3 dX4_book_42 rfl ?_
        refine Go.aload_n X 1 dX4_book_43 rfl ?_
        refine Go.get X f_X4_book_13 0 (v := .ref (ad 2)) rfl rfl dX4_book_44 ?_
        refine Go.iload_n X 2 dX4_book_47 rfl ?_
        refine Go.ialdN X 2 (w := lm) rfl (by first | omega | (split <;> omega)) rfl dX4_book_48 ?_
        have hlk := hl sk hsk
        refine Go.top (w := .int (nI (ln sk))) (by exact congrArg (fun z => Value.int (nI z)) (hm.2.1 sk hsk q2)) ?_
        refine Go.icmp_leN X 59 dX4_book_49 (by decide) (by first | omega | (split <;> omega)) (by first | omega | (split <;> omega)) (fun h49 => ?_) (fun h49 => ?_)
        · --
          refine Go.iconst X (nI 0) dX4_book_59 k_ic_0 ?_
          refine Go.istore_new X dX4_book_60 (by decide) rfl ?_
          have L62 : ∀ (f62 : Nat) (k : Nat) (hk : k ≤ nk) (hq : ∀ j, j < k → wagP N (vl sk j) = true) (hf62 : nk - k < f62), Go Γ g 10 (rmC 2 44) 0 0 (mdW g ad (N, K, b, z, le, rf, hd, ln, vl) (6, at1, tk, so, va, lm, ol, ah, lt, lo)) 62 [(4, .int (nI k)), (3, .int (nI 0)), (0, .ref (ad 0)), (1, .int (nI sk)), (2, .int (nI nk))] [] := by
            intro f62
            induction f62 with
            | zero => intro k hk hq hf62; exact absurd hf62 (Nat.not_lt_zero _)
            | succ f62 ih62 =>
              intro k hk hq hf62
              refine Go.iload X 0 dX4_book_62 rfl ?_
              refine Go.iload_n X 4 dX4_book_64 rfl ?_
              refine Go.icmp_geN X 141 dX4_book_65 (by decide) (by first | omega | (split <;> omega)) (by first | omega | (split <;> omega)) (fun h65 => ?_) (fun h65 => ?_)
              · --
                have q5 : allB (fun j => wagP N (vl sk j)) nk = true := allB_t (fun j hj => hq j (by omega))
                refine Go.aload_n X 2 dX4_book_141 rfl ?_
                refine Go.aload_n X 2 dX4_book_142 rfl ?_
                refine Go.get X f_X4_book_111 0 (v := .int (nI (sA N))) rfl rfl dX4_book_143 ?_
                refine Go.callV0i X (d_weights g ad N K b z le rf hd ln vl 6 at1 tk so va lm ol ah lt lo (sA N) (by exact hN) (by first | omega | (split <;> omega))) cal_X4_weights gX4_book_X4_weights (ci := 4) (q0 := 0) rfl rfl rfl rfl rfl dX4_book_146 ?_
                have f146_1 := wsum_81 hN (sA N)
                refine Go.istore_0 X dX4_book_149 (by decide) rfl ?_
                refine Go.iload X 0 dX4_book_151 rfl ?_
                refine Go.if_neN X 163 dX4_book_153 (by decide) (by first | omega | (split <;> omega)) (fun h153 => ?_) (fun h153 => ?_)
                · --
                  refine Go.iconst X (nI 0) dX4_book_163 k_ic_0 ?_
                  refine Go.istore_new X dX4_book_164 (by decide) rfl ?_
                  refine Go.iconst X (nI 0) dX4_book_166 k_ic_0 ?_
                  refine Go.istore_new X dX4_book_167 (by decide) rfl ?_
                  have L169 : ∀ (f169 : Nat) (k : Nat) (hk : k ≤ nk) (hf169 : nk - k < f169), Go Γ g 10 (rmC 2 44) 0 0 (mdW g ad (N, K, b, z, le, rf, hd, ln, vl) (6, at1, tk, so, va, lm, ol, ah, lt, lo)) 169 [(6, .int (nI k)), (5, .int (bkS N (vl sk) k)), (4, .int (nI (wsum (sW N) (sA N) (sN N)))), (3, .int (nI 0)), (0, .ref (ad 0)), (1, .int (nI sk)), (2, .int (nI nk))] [] := by
                    intro f169
                    induction f169 with
                    | zero => intro k hk hf169; exact absurd hf169 (Nat.not_lt_zero _)
                    | succ f169 ih169 =>
                      intro k hk hf169
                      refine Go.iload X 0 dX4_book_169 rfl ?_
                      refine Go.iload_n X 6 dX4_book_171 rfl ?_
                      refine Go.icmp_geN X 261 dX4_book_172 (by decide) (by first | omega | (split <;> omega)) (by first | omega | (split <;> omega)) (fun h172 => ?_) (fun h172 => ?_)
                      · --
                        refine Go.lv_1 (w := .int (bkS N (vl sk) nk)) (by rw [show k = nk by omega]) ?_
                        refine Go.iload X 1 dX4_book_261 rfl ?_
                        have e9 : x_book (N, K, b, z, le, rf, hd, ln, vl) (nI sk) (nI nk) = ((N, K, b, z, le, rf, hd, ln, vl), (bkS N (vl sk) nk)) := by simp (decide := true) [x_book, rfS, h7, h16, q0, q2, h49, q5, wal, h153, nI_clamp (show sk < 2 ^ 31 by omega), nI_clamp (show nk < 2 ^ 31 by omega)]
                        have m9 : mOk (N, K, b, z, le, rf, hd, ln, vl) (6, at1, tk, so, va, lm, ol, ah, lt, lo) := ⟨rfl, hm.2.1, hm.2.2⟩
                        exact Go.iret X E dX4_book_263 ⟨by rw [e9], _, by rw [e9]; exact m9, by rw [e9]⟩ rfl
                      · --
                        refine Go.aload_n X 4 dX4_book_175 rfl ?_
                        refine Go.get X f_X4_book_16 0 (v := .ref (ad 3)) rfl rfl dX4_book_176 ?_
                        refine Go.bipush X (nI 40) dX4_book_179 k_bp_40 ?_
                        refine Go.iload_n X 5 dX4_book_181 rfl ?_
                        refine Go.imul_e X (nI (40 * sk)) dX4_book_182 (pk_mul _ _) ?_
                        refine Go.iload X 0 dX4_book_183 rfl ?_
                        refine Go.iadd_e X (nI (40 * sk + k)) dX4_book_185 (nI_add _ _) ?_
                        refine Go.laldF X 3 (f := row3 vl) rfl (by first | omega | (split <;> omega)) rfl dX4_book_186 ?_
                        refine Go.top (w := .long (vl sk k)) (congrArg Value.long (row3_at _ (by first | omega | (split <;> omega)))) ?_
                        refine Go.l2i X ((vl sk k).toInt32) dX4_book_187 rfl ?_
                        obtain ⟨w1, w2, w3, w4, w5⟩ := wag_at o2 (allB_at q5 h172)
                        have w6 := wgm_v o2 (allB_at q5 h172)
                        refine Go.top (w := .int (nI (tI (vl sk k)))) (by rw [w1]) ?_
                        refine Go.bipush X (nI 100) dX4_book_188 k_bp_100 ?_
                        refine Go.idiv_e X (nI ((tI (vl sk k)) / 100)) dX4_book_190 (nI_ne0 (by first | omega | (split <;> omega)) (by first | omega | (split <;> omega))) (pk_div (by first | omega | (split <;> omega)) (by first | omega | (split <;> omega)) (by first | omega | (split <;> omega))) ?_
                        refine Go.istore_new X dX4_book_191 (by decide) rfl ?_
                        refine Go.aload_n X 5 dX4_book_193 rfl ?_
                        refine Go.get X f_X4_book_16 0 (v := .ref (ad 3)) rfl rfl dX4_book_194 ?_
                        refine Go.bipush X (nI 40) dX4_book_197 k_bp_40 ?_
                        refine Go.iload_n X 6 dX4_book_199 rfl ?_
                        refine Go.imul_e X (nI (40 * sk)) dX4_book_200 (pk_mul _ _) ?_
                        refine Go.iload X 1 dX4_book_201 rfl ?_
                        refine Go.iadd_e X (nI (40 * sk + k)) dX4_book_203 (nI_add _ _) ?_
                        refine Go.laldF X 3 (f := row3 vl) rfl (by first | omega | (split <;> omega)) rfl dX4_book_204 ?_
                        refine Go.top (w := .long (vl sk k)) (congrArg Value.long (row3_at _ (by first | omega | (split <;> omega)))) ?_
                        refine Go.ldc2 X (100) dX4_book_205 (List.mem_of_getElem? (i := 3) (by decide +kernel)) ?_
                        refine Go.lrem X ((vl sk k) - (vl sk k) / (100) * (100)) dX4_book_208 (by decide) rfl ?_
                        refine Go.top (w := .long ((nI (tI (vl sk k) % 100) : Int32).toInt64)) (by exact congrArg Value.long w6) ?_
                        refine Go.lstore_new X dX4_book_209 (by decide) rfl ?_
                        refine Go.iload X 3 dX4_book_211 rfl ?_
                        refine Go.aload_n X 6 dX4_book_213 rfl ?_
                        refine Go.get X f_X4_book_111 0 (v := .int (nI (sA N))) rfl rfl dX4_book_214 ?_
                        refine Go.iload X 1 dX4_book_217 rfl ?_
                        refine Go.callSi X  (d_has g (sA N) ((tI (vl sk k)) / 100) (by first | omega | (split <;> omega)) (by first | omega | (split <;> omega))) cal_X4_has [] rfl rfl gX4_book_X4_has rfl rfl rfl dX4_book_219 ?_
                        refine Go.if_eqB X 248 dX4_book_222 (by decide) (fun h222 => ?_) (fun h222 => ?_)
                        · --
                          refine Go.iconst X (nI 0) dX4_book_248 k_ic_0 ?_
                          refine Go.ldc X (nI 1000000) dX4_book_249 (List.mem_of_getElem? (i := 9) (by decide +kernel)) ?_
                          refine Go.isub_e X (-1000000) dX4_book_251 (by decide) ?_
                          refine Go.iadd_e X ((bkS N (vl sk) k) + (-1000000)) dX4_book_252 rfl ?_
                          refine Go.istore_3 X dX4_book_253 (by decide) rfl ?_
                          refine Go.iinc_2 X (nI (k + 1)) dX4_book_255 (by decide) rfl (show nI k + Int32.ofInt 1 = nI (k + 1) from nI_add _ 1) ?_
                          refine Go.goto X 169 dX4_book_258 (by decide) ?_
                          refine Go.lv_3 (congrArg Value.int (show (bkS N (vl sk) k) + (-1000000) = bkS N (vl sk) (k + 1) from by rw [bkS, wgr, lotN, if_neg (by rw [h222]; decide), Nat.zero_mul, Nat.mul_zero, Nat.zero_div, show nI 0 - nI 1000000 = (-1000000 : Int32) from by decide])) ?_
                          refine Go.sub [2, 3, 4, 5, 6, 7, 8] rfl ?_
                          exact ih169 (k + 1) (by first | omega | (split <;> omega)) (by first | omega | (split <;> omega))
                        · --
                          refine Go.ldc2 X (1000000) dX4_book_225 (List.mem_of_getElem? (i := 7) (by decide +kernel)) ?_
                          refine Go.aload_n X 6 dX4_book_228 rfl ?_
                          refine Go.get X f_X4_book_20 0 (v := .ref (ad 4)) rfl rfl dX4_book_229 ?_
                          refine Go.iload X 1 dX4_book_232 rfl ?_
                          refine Go.ialdN X 4 (w := sW N) rfl (by first | omega | (split <;> omega)) rfl dX4_book_234 ?_
                          have o11 := o4 (tI (vl sk k) / 100) (by omega)
                          have o12 := wsum_81 hN (sA N)
                          refine Go.i2l X (((nI ((sW N) ((tI (vl sk k)) / 100))) : Int32).toInt64) dX4_book_235 rfl ?_
                          refine Go.lmul X ((1000000) * (((nI ((sW N) ((tI (vl sk k)) / 100))) : Int32).toInt64)) dX4_book_236 rfl ?_
                          refine Go.lload X 0 dX4_book_237 rfl ?_
                          refine Go.lmul X (((1000000) * (((nI ((sW N) ((tI (vl sk k)) / 100))) : Int32).toInt64)) * ((nI (tI (vl sk k) % 100) : Int32).toInt64)) dX4_book_239 rfl ?_
                          refine Go.iload X 4 dX4_book_240 rfl ?_
                          refine Go.i2l X (((nI (wsum (sW N) (sA N) (sN N))) : Int32).toInt64) dX4_book_242 rfl ?_
                          refine Go.ldiv X ((((1000000) * (((nI ((sW N) ((tI (vl sk k)) / 100))) : Int32).toInt64)) * ((nI (tI (vl sk k) % 100) : Int32).toInt64)) / (((nI (wsum (sW N) (sA N) (sN N))) : Int32).toInt64)) dX4_book_243 (by exact i64_ne (by omega) (by omega)) rfl ?_
                          refine Go.l2i X (((((1000000) * (((nI ((sW N) ((tI (vl sk k)) / 100))) : Int32).toInt64)) * ((nI (tI (vl sk k) % 100) : Int32).toInt64)) / (((nI (wsum (sW N) (sA N) (sN N))) : Int32).toInt64)).toInt32) dX4_book_244 rfl ?_
                          refine Go.top (w := .int (nI ((1000000 * (sW N (tI (vl sk k) / 100) * (tI (vl sk k) % 100))) / wal N))) (by exact congrArg Value.int (gl_at o11 w4 (by omega) o12)) ?_
                          refine Go.goto X 249 dX4_book_245 (by decide) ?_
                          refine Go.ldc X (nI 1000000) dX4_book_249 (List.mem_of_getElem? (i := 9) (by decide +kernel)) ?_
                          refine Go.isub_e X ((nI ((1000000 * (sW N (tI (vl sk k) / 100) * (tI (vl sk k) % 100))) / wal N)) - (nI 1000000)) dX4_book_251 rfl ?_
                          refine Go.iadd_e X ((bkS N (vl sk) k) + ((nI ((1000000 * (sW N (tI (vl sk k) / 100) * (tI (vl sk k) % 100))) / wal N)) - (nI 1000000))) dX4_book_252 rfl ?_
                          refine Go.istore_3 X dX4_book_253 (by decide) rfl ?_
                          refine Go.iinc_2 X (nI (k + 1)) dX4_book_255 (by decide) rfl (show nI k + Int32.ofInt 1 = nI (k + 1) from nI_add _ 1) ?_
                          refine Go.goto X 169 dX4_book_258 (by decide) ?_
                          refine Go.lv_3 (congrArg Value.int (show (bkS N (vl sk) k) + ((nI ((1000000 * (sW N (tI (vl sk k) / 100) * (tI (vl sk k) % 100))) / wal N)) - (nI 1000000)) = bkS N (vl sk) (k + 1) from by rw [bkS, wgr, lotN, if_pos h222])) ?_
                          refine Go.sub [2, 3, 4, 5, 6, 7, 8] rfl ?_
                          exact ih169 (k + 1) (by first | omega | (split <;> omega)) (by first | omega | (split <;> omega))
                  refine Go.lv_1 (show (.int (nI 0) : Value) = .int (bkS N (vl sk) 0) from by rfl) ?_
                  exact L169 (nk - 0 + 1) 0 (by first | omega | (split <;> omega)) (Nat.lt_succ_self _)
                · --
                  refine Go.aload_n X 2 dX4_book_156 rfl ?_
                  refine Go.bipush X ((-5 : Int32)) dX4_book_157 k_bp_m5 ?_
                  refine Go.callV0i X (d_noFar_3 g ad N K b z le rf hd ln vl 6 at1 tk so va lm ol ah lt lo) cal_X4_noFar gX4_book_X4_noFar (ci := 4) (q0 := 0) rfl rfl rfl rfl rfl dX4_book_159 ?_
                  have e9 : x_book (N, K, b, z, le, rf, hd, ln, vl) (nI sk) (nI nk) = ((N, K, b, z, le, inc rf 3, hd, ln, vl), (-10000005)) := by simp (decide := true) [x_book, rfS, h7, h16, q0, q2, h49, q5, wal, h153, nI_clamp (show sk < 2 ^ 31 by omega), nI_clamp (show nk < 2 ^ 31 by omega)]
                  have m9 : mOk (N, K, b, z, le, inc rf 3, hd, ln, vl) (6, at1, tk, so, va, lm, ol, ah, lt, lo) := ⟨rfl, hm.2.1, hm.2.2⟩
                  exact Go.iret X E dX4_book_162 ⟨by rw [e9], _, by rw [e9]; exact m9, by rw [e9]⟩ rfl
              · --
                refine Go.aload_n X 2 dX4_book_68 rfl ?_
                refine Go.get X f_X4_book_16 0 (v := .ref (ad 3)) rfl rfl dX4_book_69 ?_
                refine Go.bipush X (nI 40) dX4_book_72 k_bp_40 ?_
                refine Go.iload_n X 3 dX4_book_74 rfl ?_
                refine Go.imul_e X (nI (40 * sk)) dX4_book_75 (pk_mul _ _) ?_
                refine Go.iload X 0 dX4_book_76 rfl ?_
                refine Go.iadd_e X (nI (40 * sk + k)) dX4_book_78 (nI_add _ _) ?_
                refine Go.laldF X 3 (f := row3 vl) rfl (by first | omega | (split <;> omega)) rfl dX4_book_79 ?_
                refine Go.top (w := .long (vl sk k)) (congrArg Value.long (row3_at _ (by first | omega | (split <;> omega)))) ?_
                refine Go.lstore_new X dX4_book_80 (by decide) rfl ?_
                refine Go.lload X 0 dX4_book_82 rfl ?_
                refine Go.lconst X (0) dX4_book_84 rfl ?_
                refine Go.lcmp X dX4_book_85 ?_
                refine Go.if_lt X 128 dX4_book_86 (by decide) (fun h86 => ?_) (fun h86 => ?_)
                · --
                  refine Go.aload_n X 3 dX4_book_128 rfl ?_
                  refine Go.bipush X ((-2 : Int32)) dX4_book_129 k_bp_m2 ?_
                  refine Go.callV0i X (d_noFar_0 g ad N K b z le rf hd ln vl 6 at1 tk so va lm ol ah lt lo) cal_X4_noFar gX4_book_X4_noFar (ci := 4) (q0 := 0) rfl rfl rfl rfl rfl dX4_book_131 ?_
                  have e9 : x_book (N, K, b, z, le, rf, hd, ln, vl) (nI sk) (nI nk) = ((N, K, b, z, le, inc rf 0, hd, ln, vl), (-10000002)) := by have q5 : allB (fun j => wagP N (vl sk j)) nk = false := (allB_f (P := fun j => wagP N (vl sk j)) h65 (wgm_n1 h86)); simp (decide := true) [x_book, rfS, h7, h16, q0, q2, h49, q5, nI_clamp (show sk < 2 ^ 31 by omega), nI_clamp (show nk < 2 ^ 31 by omega)]
                  have m9 : mOk (N, K, b, z, le, inc rf 0, hd, ln, vl) (6, at1, tk, so, va, lm, ol, ah, lt, lo) := ⟨rfl, hm.2.1, hm.2.2⟩
                  exact Go.iret X E dX4_book_134 ⟨by rw [e9], _, by rw [e9]; exact m9, by rw [e9]⟩ rfl
                · --
                  refine Go.lload X 0 dX4_book_89 rfl ?_
                  refine Go.ldc2 X (100) dX4_book_91 (List.mem_of_getElem? (i := 3) (by decide +kernel)) ?_
                  refine Go.aload_n X 3 dX4_book_94 rfl ?_
                  refine Go.get X f_X4_book_66 0 (v := .int (nI (sN N))) rfl rfl dX4_book_95 ?_
                  refine Go.i2l X (((nI (sN N)) : Int32).toInt64) dX4_book_98 rfl ?_
                  refine Go.lmul X ((100) * (((nI (sN N)) : Int32).toInt64)) dX4_book_99 rfl ?_
                  refine Go.lcmp X dX4_book_100 ?_
                  refine Go.if_ge X 128 dX4_book_101 (by decide) (fun h101 => ?_) (fun h101 => ?_)
                  · --
                    refine Go.aload_n X 3 dX4_book_128 rfl ?_
                    refine Go.bipush X ((-2 : Int32)) dX4_book_129 k_bp_m2 ?_
                    refine Go.callV0i X (d_noFar_0 g ad N K b z le rf hd ln vl 6 at1 tk so va lm ol ah lt lo) cal_X4_noFar gX4_book_X4_noFar (ci := 4) (q0 := 0) rfl rfl rfl rfl rfl dX4_book_131 ?_
                    have e9 : x_book (N, K, b, z, le, rf, hd, ln, vl) (nI sk) (nI nk) = ((N, K, b, z, le, inc rf 0, hd, ln, vl), (-10000002)) := by have q5 : allB (fun j => wagP N (vl sk j)) nk = false := (allB_f (P := fun j => wagP N (vl sk j)) h65 (wgm_n2 o2 h86 h101)); simp (decide := true) [x_book, rfS, h7, h16, q0, q2, h49, q5, nI_clamp (show sk < 2 ^ 31 by omega), nI_clamp (show nk < 2 ^ 31 by omega)]
                    have m9 : mOk (N, K, b, z, le, inc rf 0, hd, ln, vl) (6, at1, tk, so, va, lm, ol, ah, lt, lo) := ⟨rfl, hm.2.1, hm.2.2⟩
                    exact Go.iret X E dX4_book_134 ⟨by rw [e9], _, by rw [e9]; exact m9, by rw [e9]⟩ rfl
                  · --
                    refine Go.lload X 0 dX4_book_104 rfl ?_
                    refine Go.ldc2 X (100) dX4_book_106 (List.mem_of_getElem? (i := 3) (by decide +kernel)) ?_
                    refine Go.lrem X ((vl sk k) - (vl sk k) / (100) * (100)) dX4_book_109 (by decide) rfl ?_
                    refine Go.lconst X (1) dX4_book_110 rfl ?_
                    refine Go.lcmp X dX4_book_111 ?_
                    refine Go.if_lt X 128 dX4_book_112 (by decide) (fun h112 => ?_) (fun h112 => ?_)
                    · --
                      refine Go.aload_n X 3 dX4_book_128 rfl ?_
                      refine Go.bipush X ((-2 : Int32)) dX4_book_129 k_bp_m2 ?_
                      refine Go.callV0i X (d_noFar_0 g ad N K b z le rf hd ln vl 6 at1 tk so va lm ol ah lt lo) cal_X4_noFar gX4_book_X4_noFar (ci := 4) (q0 := 0) rfl rfl rfl rfl rfl dX4_book_131 ?_
                      have e9 : x_book (N, K, b, z, le, rf, hd, ln, vl) (nI sk) (nI nk) = ((N, K, b, z, le, inc rf 0, hd, ln, vl), (-10000002)) := by have q5 : allB (fun j => wagP N (vl sk j)) nk = false := (allB_f (P := fun j => wagP N (vl sk j)) h65 (wgm_n3 o2 h86 h101 h112)); simp (decide := true) [x_book, rfS, h7, h16, q0, q2, h49, q5, nI_clamp (show sk < 2 ^ 31 by omega), nI_clamp (show nk < 2 ^ 31 by omega)]
                      have m9 : mOk (N, K, b, z, le, inc rf 0, hd, ln, vl) (6, at1, tk, so, va, lm, ol, ah, lt, lo) := ⟨rfl, hm.2.1, hm.2.2⟩
                      exact Go.iret X E dX4_book_134 ⟨by rw [e9], _, by rw [e9]; exact m9, by rw [e9]⟩ rfl
                    · --
                      refine Go.lload X 0 dX4_book_115 rfl ?_
                      refine Go.ldc2 X (100) dX4_book_117 (List.mem_of_getElem? (i := 3) (by decide +kernel)) ?_
                      refine Go.lrem X ((vl sk k) - (vl sk k) / (100) * (100)) dX4_book_120 (by decide) rfl ?_
                      refine Go.ldc2 X (40) dX4_book_121 (List.mem_of_getElem? (i := 5) (by decide +kernel)) ?_
                      refine Go.lcmp X dX4_book_124 ?_
                      refine Go.if_le X 135 dX4_book_125 (by decide) (fun h125 => ?_) (fun h125 => ?_)
                      · --
                        refine Go.iinc_1 X (nI (k + 1)) dX4_book_135 (by decide) rfl (show nI k + Int32.ofInt 1 = nI (k + 1) from nI_add _ 1) ?_
                        refine Go.goto X 62 dX4_book_138 (by decide) ?_
                        refine Go.sub [1, 2, 3, 4, 5] rfl ?_
                        exact ih62 (k + 1) (by first | omega | (split <;> omega)) (by exact all_s (P := fun j => wagP N (vl sk j)) hq (wgm_y o2 h86 h101 h112 h125)) (by first | omega | (split <;> omega))
                      · --
                        refine Go.aload_n X 3 dX4_book_128 rfl ?_
                        refine Go.bipush X ((-2 : Int32)) dX4_book_129 k_bp_m2 ?_
                        refine Go.callV0i X (d_noFar_0 g ad N K b z le rf hd ln vl 6 at1 tk so va lm ol ah lt lo) cal_X4_noFar gX4_book_X4_noFar (ci := 4) (q0 := 0) rfl rfl rfl rfl rfl dX4_book_131 ?_
                        have e9 : x_book (N, K, b, z, le, rf, hd, ln, vl) (nI sk) (nI nk) = ((N, K, b, z, le, inc rf 0, hd, ln, vl), (-10000002)) := by have q5 : allB (fun j => wagP N (vl sk j)) nk = false := (allB_f (P := fun j => wagP N (vl sk j)) h65 (wgm_n4 o2 h86 h101 h125)); simp (decide := true) [x_book, rfS, h7, h16, q0, q2, h49, q5, nI_clamp (show sk < 2 ^ 31 by omega), nI_clamp (show nk < 2 ^ 31 by omega)]
                        have m9 : mOk (N, K, b, z, le, inc rf 0, hd, ln, vl) (6, at1, tk, so, va, lm, ol, ah, lt, lo) := ⟨rfl, hm.2.1, hm.2.2⟩
                        exact Go.iret X E dX4_book_134 ⟨by rw [e9], _, by rw [e9]; exact m9, by rw [e9]⟩ rfl
          exact L62 (nk - 0 + 1) 0 (by first | omega | (split <;> omega)) (by intro j hj; omega) (Nat.lt_succ_self _)
        · --
          refine Go.aload_n X 1 dX4_book_52 rfl ?_
          refine Go.bipush X ((-2 : Int32)) dX4_book_53 k_bp_m2 ?_
          refine Go.callV0i X (d_noFar_0 g ad N K b z le rf hd ln vl 6 at1 tk so va lm ol ah lt lo) cal_X4_noFar gX4_book_X4_noFar (ci := 4) (q0 := 0) rfl rfl rfl rfl rfl dX4_book_55 ?_
          have e9 : x_book (N, K, b, z, le, rf, hd, ln, vl) (nI sk) (nI nk) = ((N, K, b, z, le, inc rf 0, hd, ln, vl), (-10000002)) := by simp (decide := true) [x_book, rfS, h7, h16, q0, q2, show ¬ nk ≤ ln sk by omega, nI_clamp (show sk < 2 ^ 31 by omega), nI_clamp (show nk < 2 ^ 31 by omega)]
          have m9 : mOk (N, K, b, z, le, inc rf 0, hd, ln, vl) (6, at1, tk, so, va, lm, ol, ah, lt, lo) := ⟨rfl, hm.2.1, hm.2.2⟩
          exact Go.iret X E dX4_book_58 ⟨by rw [e9], _, by rw [e9]; exact m9, by rw [e9]⟩ rfl
      · --
        refine Go.top (w := .int (-4)) (by rw [q9]) ?_
        refine Go.istore_n_new X dX4_book_31 (by decide) rfl ?_
        refine Go.iload_n X 0 dX4_book_32 rfl ?_
        refine Go.if_ge X 42 dX4_book_33 (by decide) (fun h => absurd h (by decide)) (fun _ => ?_)
        refine Go.aload_n X 1 dX4_book_36 rfl ?_
        refine Go.iload_n X 0 dX4_book_37 rfl ?_
        refine Go.callV0i X (d_noFar_2 g ad N K b z le rf hd ln vl 6 at1 tk so va lm ol ah lt lo) cal_X4_noFar gX4_book_X4_noFar (ci := 4) (q0 := 0) rfl rfl rfl rfl rfl dX4_book_38 ?_
        have e9 : x_book (N, K, b, z, le, rf, hd, ln, vl) (nI sk) (nI nk) = ((N, K, b, z, le, inc rf 2, hd, ln, vl), (-10000004)) := by simp (decide := true) [x_book, rfS, h7, h16, q0, q2, nI_clamp (show sk < 2 ^ 31 by omega), nI_clamp (show nk < 2 ^ 31 by omega)]
        have m9 : mOk (N, K, b, z, le, inc rf 2, hd, ln, vl) (6, at1, tk, so, va, lm, ol, ah, lt, lo) := ⟨rfl, hm.2.1, hm.2.2⟩
        exact Go.iret X E dX4_book_41 ⟨by rw [e9], _, by rw [e9]; exact m9, by rw [e9]⟩ rfl
    · --
      refine Go.aload_n X 0 dX4_book_19 rfl ?_
      refine Go.bipush X ((-2 : Int32)) dX4_book_20 k_bp_m2 ?_
      refine Go.callV0i X (d_noFar_0 g ad N K b z le rf hd ln vl 6 at1 tk so va lm ol ah lt lo) cal_X4_noFar gX4_book_X4_noFar (ci := 4) (q0 := 0) rfl rfl rfl rfl rfl dX4_book_22 ?_
      have e9 : x_book (N, K, b, z, le, rf, hd, ln, vl) (nI sk) n = ((N, K, b, z, le, inc rf 0, hd, ln, vl), (-10000002)) := by simp (decide := true) [x_book, rfS, upS_id, h7, h16, nI_clamp (show sk < 2 ^ 31 by omega)]
      have m9 : mOk (N, K, b, z, le, inc rf 0, hd, ln, vl) (6, at1, tk, so, va, lm, ol, ah, lt, lo) := ⟨rfl, hm.2.1, hm.2.2⟩
      exact Go.iret X E dX4_book_25 ⟨by rw [e9], _, by rw [e9]; exact m9, by rw [e9]⟩ rfl
set_option maxHeartbeats 4000000 in
set_option maxRecDepth 100000 in
theorem e_rules (g : gT) (ad : Nat → Nat) (N : Sch) (K : Sch) (b : Bool) (z : Nat) (le : Nat → Nat) (rf : Nat → Int32) (hd : Nat → Int32) (ln : Nat → Nat) (vl : Nat → Nat → Int64) (at1 : Nat) (tk : Nat) (so : Int32) (va : Int32) (lm : Nat → Nat) (ol : Nat → Int32) (ah : Nat → Int32) (lt : Int32) (lo : Nat → Int32) (s : Int32) (n : Int32) (w : Int32) (hN : sOk N) (hH : hOk (sP N) hd) (hl : ∀ s, s < 8 → ln s ≤ 40) (hm : mOk (N, K, b, z, le, rf, hd, ln, vl) (6, at1, tk, so, va, lm, ol, ah, lt, lo)) : Ct g yX4_rules wsX4_rules 2 43 [.ref (ad 0), .int s, .int n, .int w] (mdW g ad (N, K, b, z, le, rf, hd, ln, vl) (6, at1, tk, so, va, lm, ol, ah, lt, lo)) (fun v9 w9 => v9 = (some (.int (x_rules (N, K, b, z, le, rf, hd, ln, vl) s n w).2)) ∧ ∃ J9, mOk (x_rules (N, K, b, z, le, rf, hd, ln, vl) s n w).1 J9 ∧ w9 = mdW g ad (x_rules (N, K, b, z, le, rf, hd, ln, vl) s n w).1 J9) := by
  refine Ct.start (cc := cX4_rules) (nL := 11) (ret := (some .int)) (own := RX4) (by decide) rfl rfl rfl ?_
  intro Γ X E
  show Go Γ g 11 (rmC 2 43) 0 0 (mdW g ad (N, K, b, z, le, rf, hd, ln, vl) (6, at1, tk, so, va, lm, ol, ah, lt, lo)) 0 [(0, .ref (ad 0)), (1, .int s), (2, .int n), (3, .int w)] []
  obtain ⟨o1, o2, o3, o4, o5, o6, o7, o8⟩ := id hN
  have o9 := p2_9 o2
  have o10 := sA_512 hN
  refine Go.iload_n X 1 dX4_rules_0 rfl ?_
  refine Go.iconst X (nI 0) dX4_rules_1 k_ic_0 ?_
  refine Go.bipush X (nI 7) dX4_rules_2 k_bp_7 ?_
  refine Go.callSi X  (d_within_7 g s) cal_X4_within [] rfl rfl gX4_rules_X4_within rfl rfl rfl dX4_rules_4 ?_
  refine Go.if_eqB X 29 dX4_rules_7 (by decide) (fun h7 => ?_) (fun h7 => ?_)
  · --
    refine Go.aload_n X 0 dX4_rules_29 rfl ?_
    refine Go.bipush X ((-2 : Int32)) dX4_rules_30 k_bp_m2 ?_
    refine Go.callV0i X (d_no_0 g ad N K b z le rf hd ln vl 6 at1 tk so va lm ol ah lt lo) cal_X4_no gX4_rules_X4_no (ci := 4) (q0 := 0) rfl rfl rfl rfl rfl dX4_rules_32 ?_
    have e9 : x_rules (N, K, b, z, le, rf, hd, ln, vl) s n w = ((N, K, b, z, le, inc rf 0, hd, ln, vl), (-2)) := by simp (decide := true) [x_rules, rfS, upS_id, h7]
    have m9 : mOk (N, K, b, z, le, inc rf 0, hd, ln, vl) (6, at1, tk, so, va, lm, ol, ah, lt, lo) := ⟨rfl, hm.2.1, hm.2.2⟩
    exact Go.iret X E dX4_rules_35 ⟨by rw [e9], _, by rw [e9]; exact m9, by rw [e9]⟩ rfl
  · --
    obtain ⟨sk, hsk, rfl⟩ := inb_at (by first | omega | (split <;> omega)) h7
    refine Go.iload_n X 2 dX4_rules_10 rfl ?_
    refine Go.iconst X (nI 1) dX4_rules_11 k_ic_1 ?_
    refine Go.bipush X (nI 40) dX4_rules_12 k_bp_40 ?_
    refine Go.callSi X  (d_within g n (nI 1) (nI 40)) cal_X4_within [] rfl rfl gX4_rules_X4_within rfl rfl rfl dX4_rules_14 ?_
    refine Go.if_eqB X 29 dX4_rules_17 (by decide) (fun h17 => ?_) (fun h17 => ?_)
    · --
      refine Go.aload_n X 0 dX4_rules_29 rfl ?_
      refine Go.bipush X ((-2 : Int32)) dX4_rules_30 k_bp_m2 ?_
      refine Go.callV0i X (d_no_0 g ad N K b z le rf hd ln vl 6 at1 tk so va lm ol ah lt lo) cal_X4_no gX4_rules_X4_no (ci := 4) (q0 := 0) rfl rfl rfl rfl rfl dX4_rules_32 ?_
      have e9 : x_rules (N, K, b, z, le, rf, hd, ln, vl) (nI sk) n w = ((N, K, b, z, le, inc rf 0, hd, ln, vl), (-2)) := by simp (decide := true) [x_rules, rfS, upS_id, h7, h17, nI_clamp (show sk < 2 ^ 31 by omega)]
      have m9 : mOk (N, K, b, z, le, inc rf 0, hd, ln, vl) (6, at1, tk, so, va, lm, ol, ah, lt, lo) := ⟨rfl, hm.2.1, hm.2.2⟩
      exact Go.iret X E dX4_rules_35 ⟨by rw [e9], _, by rw [e9]; exact m9, by rw [e9]⟩ rfl
    · --
      obtain ⟨nk, hnk, rfl⟩ := wi_at (by first | omega | (split <;> omega)) (by first | omega | (split <;> omega)) h17
      refine Go.iload_n X 3 dX4_rules_20 rfl ?_
      refine Go.iconst X (nI 0) dX4_rules_21 k_ic_0 ?_
      refine Go.iconst X (nI 1) dX4_rules_22 k_ic_1 ?_
      refine Go.callSi X  (d_within_1 g w) cal_X4_within [] rfl rfl gX4_rules_X4_within rfl rfl rfl dX4_rules_23 ?_
      refine Go.if_neB X 36 dX4_rules_26 (by decide) (fun h26 => ?_) (fun h26 => ?_)
      · --
        obtain ⟨wk, hwk, rfl⟩ := inb_at (by first | omega | (split <;> omega)) h26
        refine Go.aload_n X 0 dX4_rules_36 rfl ?_
        refine Go.iload_n X 1 dX4_rules_37 rfl ?_
        refine Go.callV0i X (d_noRow g ad N K b z le rf hd ln vl 6 at1 tk so va lm ol ah lt lo (nI sk) (by exact hN) (by exact hH)) cal_X4_noRow gX4_rules_X4_noRow (ci := 4) (q0 := 0) rfl rfl rfl rfl rfl dX4_rules_38 ?_
        rcases rr_c2 (hd := hd) hsk with ⟨q0, q9⟩ | ⟨q0, q2, q9⟩ | ⟨q0, q2, q9⟩
        · --
          refine Go.top (w := .int (-3)) (by rw [q9]) ?_
          refine Go.istore_new X dX4_rules_41 (by decide) rfl ?_
          refine Go.iload X 0 dX4_rules_43 rfl ?_
          refine Go.if_ge X 55 dX4_rules_45 (by decide) (fun h => absurd h (by decide)) (fun _ => ?_)
          refine Go.aload_n X 1 dX4_rules_48 rfl ?_
          refine Go.iload X 0 dX4_rules_49 rfl ?_
          refine Go.callV0i X (d_no_1 g ad N K b z le rf hd ln vl 6 at1 tk so va lm ol ah lt lo) cal_X4_no gX4_rules_X4_no (ci := 4) (q0 := 0) rfl rfl rfl rfl rfl dX4_rules_51 ?_
          have e9 : x_rules (N, K, b, z, le, rf, hd, ln, vl) (nI sk) (nI nk) (nI wk) = ((N, K, b, z, le, inc rf 1, hd, ln, vl), (-3)) := by simp (decide := true) [x_rules, rfS, h7, h17, h26, q0, nI_clamp (show sk < 2 ^ 31 by omega), nI_clamp (show nk < 2 ^ 31 by omega), nI_clamp (show wk < 2 ^ 31 by omega)]
          have m9 : mOk (N, K, b, z, le, inc rf 1, hd, ln, vl) (6, at1, tk, so, va, lm, ol, ah, lt, lo) := ⟨rfl, hm.2.1, hm.2.2⟩
          exact Go.iret X E dX4_rules_54 ⟨by rw [e9], _, by rw [e9]; exact m9, by rw [e9]⟩ rfl
        · --
          refine Go.top (w := .int (nI 0)) (by rw [q9]) ?_
          refine Go.istore_new X dX4_rules_41 (by decide) rfl ?_
          refine Go.iload X 0 dX4_rules_43 rfl ?_
          refine Go.if_ge X 55 dX4_rules_45 (by decide) (fun _ => ?_) (fun h => absurd (by decide) h)
          refine Go.iload_n X 3 dX4_rules_55 rfl ?_
          refine Go.aload_n X 1 dX4_rules_56 rfl ?_
          refine Go.get X f_X4_rules_13 0 (v := .ref (ad 2)) rfl rfl dX4_rules_57 ?_
          refine Go.iload_n X 2 dX4_rules_60 rfl ?_
          refine Go.ialdN X 2 (w := lm) rfl (by first | omega | (split <;> omega)) rfl dX4_rules_61 ?_
          have hlk := hl sk hsk
          refine Go.top (w := .int (nI (ln sk))) (by exact congrArg (fun z => Value.int (nI z)) (hm.2.1 sk hsk q2)) ?_
          refine Go.icmp_leN X 72 dX4_rules_62 (by decide) (by first | omega | (split <;> omega)) (by first | omega | (split <;> omega)) (fun h62 => ?_) (fun h62 => ?_)
          · --
            refine Go.iconst X (nI 0) dX4_rules_72 k_ic_0 ?_
            refine Go.istore_new X dX4_rules_73 (by decide) rfl ?_
            have L75 : ∀ (f75 : Nat) (k : Nat) (hk : k ≤ nk) (hq : ∀ j, j < k → morP N (vl sk j) = true) (hf75 : nk - k < f75), Go Γ g 11 (rmC 2 43) 0 0 (mdW g ad (N, K, b, z, le, rf, hd, ln, vl) (6, at1, tk, so, va, lm, ol, ah, lt, lo)) 75 [(5, .int (nI k)), (4, .int (nI 0)), (0, .ref (ad 0)), (1, .int (nI sk)), (2, .int (nI nk)), (3, .int (nI wk))] [] := by
              intro f75
              induction f75 with
              | zero => intro k hk hq hf75; exact absurd hf75 (Nat.not_lt_zero _)
              | succ f75 ih75 =>
                intro k hk hq hf75
                refine Go.iload X 0 dX4_rules_75 rfl ?_
                refine Go.iload_n X 4 dX4_rules_77 rfl ?_
                refine Go.icmp_geN X 132 dX4_rules_78 (by decide) (by first | omega | (split <;> omega)) (by first | omega | (split <;> omega)) (fun h78 => ?_) (fun h78 => ?_)
                · --
                  have q5 : allB (fun j => morP N (vl sk j)) nk = true := allB_t (fun j hj => hq j (by omega))
                  refine Go.iconst X (nI 0) dX4_rules_132 k_ic_0 ?_
                  refine Go.istore_0 X dX4_rules_133 (by decide) rfl ?_
                  refine Go.iconst X (nI 0) dX4_rules_135 k_ic_0 ?_
                  refine Go.istore_new X dX4_rules_136 (by decide) rfl ?_
                  refine Go.iconst X (nI 0) dX4_rules_138 k_ic_0 ?_
                  refine Go.istore_new X dX4_rules_139 (by decide) rfl ?_
                  have L141 : ∀ (f141 : Nat) (c : Nat) (hc : c ≤ sN N) (hf141 : sN N - c < f141), Go Γ g 11 (rmC 2 43) 0 0 (mdW g ad (N, K, b, z, le, rf, hd, ln, vl) (6, at1, tk, so, va, lm, ol, ah, lt, lo)) 141 [(7, .int (nI c)), (6, .int (nI (ruY (ruP N (vl sk) nk) (sN N) nk c))), (5, .int (nI (ruT (ruP N (vl sk) nk) (sN N) c))), (4, .int (nI 0)), (0, .ref (ad 0)), (1, .int (nI sk)), (2, .int (nI nk)), (3, .int (nI wk))] [] := by
                    intro f141
                    induction f141 with
                    | zero => intro c hc hf141; exact absurd hf141 (Nat.not_lt_zero _)
                    | succ f141 ih141 =>
                      intro c hc hf141
                      refine Go.iload X 0 dX4_rules_141 rfl ?_
                      refine Go.aload_n X 4 dX4_rules_143 rfl ?_
                      refine Go.get X f_X4_rules_66 0 (v := .int (nI (sN N))) rfl rfl dX4_rules_144 ?_
                      refine Go.icmp_geN X 255 dX4_rules_147 (by decide) (by first | omega | (split <;> omega)) (by first | omega | (split <;> omega)) (fun h147 => ?_) (fun h147 => ?_)
                      · --
                        refine Go.lv_2 (w := .int (nI (ruT (ruP N (vl sk) nk) (sN N) (sN N)))) (by rw [show c = sN N by omega]) ?_
                        refine Go.lv_1 (w := .int (nI (ruY (ruP N (vl sk) nk) (sN N) nk (sN N)))) (by rw [show c = sN N by omega]) ?_
                        refine Go.iload_n X 7 dX4_rules_255 rfl ?_
                        refine Go.if_neN X 264 dX4_rules_256 (by decide) (by first | omega | (split <;> omega)) (fun h256 => ?_) (fun h256 => ?_)
                        · --
                          refine Go.iload X 1 dX4_rules_264 rfl ?_
                          have e9 : x_rules (N, K, b, z, le, rf, hd, ln, vl) (nI sk) (nI nk) (nI wk) = ((N, K, b, z, le, rf, hd, ln, vl), (nI (ruY (ruP N (vl sk) nk) (sN N) nk (sN N)))) := by simp (decide := true) [x_rules, rfS, h7, h17, h26, q0, q2, h62, q5, h256, nI_clamp (show sk < 2 ^ 31 by omega), nI_clamp (show nk < 2 ^ 31 by omega), nI_clamp (show wk < 2 ^ 31 by omega)]
                          have m9 : mOk (N, K, b, z, le, rf, hd, ln, vl) (6, at1, tk, so, va, lm, ol, ah, lt, lo) := ⟨rfl, hm.2.1, hm.2.2⟩
                          exact Go.iret X E dX4_rules_266 ⟨by rw [e9], _, by rw [e9]; exact m9, by rw [e9]⟩ rfl
                        · --
                          refine Go.iload X 2 dX4_rules_259 rfl ?_
                          refine Go.goto X 266 dX4_rules_261 (by decide) ?_
                          have e9 : x_rules (N, K, b, z, le, rf, hd, ln, vl) (nI sk) (nI nk) (nI wk) = ((N, K, b, z, le, rf, hd, ln, vl), (nI (ruT (ruP N (vl sk) nk) (sN N) (sN N)))) := by simp (decide := true) [x_rules, rfS, h7, h17, h26, q0, q2, h62, q5, h256, nI_clamp (show sk < 2 ^ 31 by omega), nI_clamp (show nk < 2 ^ 31 by omega), nI_clamp (show wk < 2 ^ 31 by omega)]
                          have m9 : mOk (N, K, b, z, le, rf, hd, ln, vl) (6, at1, tk, so, va, lm, ol, ah, lt, lo) := ⟨rfl, hm.2.1, hm.2.2⟩
                          exact Go.iret X E dX4_rules_266 ⟨by rw [e9], _, by rw [e9]; exact m9, by rw [e9]⟩ rfl
                      · --
                        refine Go.iconst X (nI 0) dX4_rules_150 k_ic_0 ?_
                        refine Go.istore_new X dX4_rules_151 (by decide) rfl ?_
                        have L153 : ∀ (f153 : Nat) (k : Nat) (hk : k ≤ sN N) (hf153 : sN N - k < f153), Go Γ g 11 (rmC 2 43) 0 0 (mdW g ad (N, K, b, z, le, rf, hd, ln, vl) (6, at1, tk, so, va, lm, ol, ah, lt, lo)) 153 [(8, .int (nI k)), (7, .int (nI c)), (6, .int (nI (ruY (ruP N (vl sk) nk) (sN N) nk c ||| ruX (ruP N (vl sk) nk) (sN N) nk c k))), (5, .int (nI (ruT (ruP N (vl sk) nk) (sN N) c + ruC (ruP N (vl sk) nk) c k))), (4, .int (nI 0)), (0, .ref (ad 0)), (1, .int (nI sk)), (2, .int (nI nk)), (3, .int (nI wk))] [] := by
                          intro f153
                          induction f153 with
                          | zero => intro k hk hf153; exact absurd hf153 (Nat.not_lt_zero _)
                          | succ f153 ih153 =>
                            intro k hk hf153
                            refine Go.iload X 0 dX4_rules_153 rfl ?_
                            refine Go.aload_n X 5 dX4_rules_155 rfl ?_
                            refine Go.get X f_X4_rules_66 0 (v := .int (nI (sN N))) rfl rfl dX4_rules_156 ?_
                            refine Go.icmp_geN X 249 dX4_rules_159 (by decide) (by first | omega | (split <;> omega)) (by first | omega | (split <;> omega)) (fun h159 => ?_) (fun h159 => ?_)
                            · --
                              refine Go.iinc_1 X (nI (c + 1)) dX4_rules_249 (by decide) rfl (show nI c + Int32.ofInt 1 = nI (c + 1) from nI_add _ 1) ?_
                              refine Go.goto X 141 dX4_rules_252 (by decide) ?_
                              refine Go.lv_2 (congrArg (fun z => Value.int (nI z)) (show ruY (ruP N (vl sk) nk) (sN N) nk c ||| ruX (ruP N (vl sk) nk) (sN N) nk c k = ruY (ruP N (vl sk) nk) (sN N) nk (c + 1) from by rw [show k = sN N by omega]; rfl)) ?_
                              refine Go.lv_3 (congrArg (fun z => Value.int (nI z)) (show ruT (ruP N (vl sk) nk) (sN N) c + ruC (ruP N (vl sk) nk) c k = ruT (ruP N (vl sk) nk) (sN N) (c + 1) from by rw [show k = sN N by omega]; rfl)) ?_
                              refine Go.sub [1, 2, 3, 4, 5, 6, 7, 8] rfl ?_
                              exact ih141 (c + 1) (by first | omega | (split <;> omega)) (by first | omega | (split <;> omega))
                            · --
                              refine Go.iconst X (nI 1) dX4_rules_162 k_ic_1 ?_
                              refine Go.istore_new X dX4_rules_163 (by decide) rfl ?_
                              refine Go.iconst X (nI 0) dX4_rules_165 k_ic_0 ?_
                              refine Go.istore_new X dX4_rules_166 (by decide) rfl ?_
                              have L168 : ∀ (f168 : Nat) (j : Nat) (hj : j ≤ nk) (hf168 : nk - j < f168), Go Γ g 11 (rmC 2 43) 0 0 (mdW g ad (N, K, b, z, le, rf, hd, ln, vl) (6, at1, tk, so, va, lm, ol, ah, lt, lo)) 168 [(10, .int (nI j)), (9, .int (b2i (allB (fitP N (vl sk) c k) j))), (8, .int (nI k)), (7, .int (nI c)), (6, .int (nI (ruY (ruP N (vl sk) nk) (sN N) nk c ||| ruX (ruP N (vl sk) nk) (sN N) nk c k))), (5, .int (nI (ruT (ruP N (vl sk) nk) (sN N) c + ruC (ruP N (vl sk) nk) c k))), (4, .int (nI 0)), (0, .ref (ad 0)), (1, .int (nI sk)), (2, .int (nI nk)), (3, .int (nI wk))] [] := by
                                intro f168
                                induction f168 with
                                | zero => intro j hj hf168; exact absurd hf168 (Nat.not_lt_zero _)
                                | succ f168 ih168 =>
                                  intro j hj hf168
                                  refine Go.iload X 0 dX4_rules_168 rfl ?_
                                  refine Go.iload_n X 9 dX4_rules_170 rfl ?_
                                  refine Go.icmp_geN X 213 dX4_rules_171 (by decide) (by first | omega | (split <;> omega)) (by first | omega | (split <;> omega)) (fun h171 => ?_) (fun h171 => ?_)
                                  · --
                                    refine Go.lv_1 (w := .int (b2i ((ruP N (vl sk) nk) c k))) (by rw [show j = nk by omega]) ?_
                                    refine Go.iload X 1 dX4_rules_213 rfl ?_
                                    refine Go.if_neB X 221 dX4_rules_215 (by decide) (fun h215 => ?_) (fun h215 => ?_)
                                    · --
                                      refine Go.iinc_5 X (nI (ruT (ruP N (vl sk) nk) (sN N) c + ruC (ruP N (vl sk) nk) c k + 1)) dX4_rules_221 (by decide) rfl (show nI (ruT (ruP N (vl sk) nk) (sN N) c + ruC (ruP N (vl sk) nk) c k) + Int32.ofInt 1 = nI (ruT (ruP N (vl sk) nk) (sN N) c + ruC (ruP N (vl sk) nk) c k + 1) from nI_add _ 1) ?_
                                      refine Go.iload X 4 dX4_rules_224 rfl ?_
                                      refine Go.iconst X (nI 1) dX4_rules_226 k_ic_1 ?_
                                      refine Go.iload X 3 dX4_rules_227 rfl ?_
                                      refine Go.iload X 2 dX4_rules_229 rfl ?_
                                      refine Go.iload_n X 9 dX4_rules_231 rfl ?_
                                      refine Go.imul_e X (nI (k * nk)) dX4_rules_232 (pk_mul _ _) ?_
                                      have o11 : k * nk ≤ 9 * 40 := Nat.mul_le_mul (by omega) (by omega)
                                      refine Go.iadd_e X (nI (c + k * nk)) dX4_rules_233 (nI_add _ _) ?_
                                      refine Go.aload_n X 7 dX4_rules_234 rfl ?_
                                      refine Go.get X f_X4_rules_66 0 (v := .int (nI (sN N))) rfl rfl dX4_rules_235 ?_
                                      refine Go.irem_e X (nI ((c + k * nk) % (sN N))) dX4_rules_238 (nI_ne0 (by first | omega | (split <;> omega)) (by first | omega | (split <;> omega))) (pk_rem (by first | omega | (split <;> omega)) (by first | omega | (split <;> omega)) (by first | omega | (split <;> omega))) ?_
                                      have o12 := Nat.mod_lt (c + k * nk) (show sN N > 0 by omega)
                                      refine Go.ishl_e X (nI (2 ^ ((c + k * nk) % (sN N)))) dX4_rules_239 (nI_shl1 (by first | omega | (split <;> omega))) ?_
                                      refine Go.ior_e X (nI ((ruY (ruP N (vl sk) nk) (sN N) nk c ||| ruX (ruP N (vl sk) nk) (sN N) nk c k) ||| (2 ^ ((c + k * nk) % (sN N))))) dX4_rules_240 (nI_or _ _) ?_
                                      refine Go.istore_4 X dX4_rules_241 (by decide) rfl ?_
                                      refine Go.iinc_2 X (nI (k + 1)) dX4_rules_243 (by decide) rfl (show nI k + Int32.ofInt 1 = nI (k + 1) from nI_add _ 1) ?_
                                      refine Go.goto X 153 dX4_rules_246 (by decide) ?_
                                      refine Go.lv_4 (congrArg (fun z => Value.int (nI z)) (show (ruY (ruP N (vl sk) nk) (sN N) nk c ||| ruX (ruP N (vl sk) nk) (sN N) nk c k) ||| (2 ^ ((c + k * nk) % (sN N))) = ruY (ruP N (vl sk) nk) (sN N) nk c ||| ruX (ruP N (vl sk) nk) (sN N) nk c (k + 1) from by rw [show ruX (ruP N (vl sk) nk) (sN N) nk c (k + 1) = ruX (ruP N (vl sk) nk) (sN N) nk c k ||| 2 ^ ((c + k * nk) % sN N) from by rw [ruX, if_pos h215], Nat.or_assoc])) ?_
                                      refine Go.lv_5 (congrArg (fun z => Value.int (nI z)) (show ruT (ruP N (vl sk) nk) (sN N) c + ruC (ruP N (vl sk) nk) c k + 1 = ruT (ruP N (vl sk) nk) (sN N) c + ruC (ruP N (vl sk) nk) c (k + 1) from by rw [show ruC (ruP N (vl sk) nk) c (k + 1) = ruC (ruP N (vl sk) nk) c k + 1 from by rw [ruC, if_pos h215]]; rfl)) ?_
                                      refine Go.sub [2, 3, 4, 5, 6, 7, 8, 9, 10] rfl ?_
                                      exact ih153 (k + 1) (by first | omega | (split <;> omega)) (by first | omega | (split <;> omega))
                                    · --
                                      refine Go.goto X 243 dX4_rules_218 (by decide) ?_
                                      refine Go.iinc_2 X (nI (k + 1)) dX4_rules_243 (by decide) rfl (show nI k + Int32.ofInt 1 = nI (k + 1) from nI_add _ 1) ?_
                                      refine Go.goto X 153 dX4_rules_246 (by decide) ?_
                                      refine Go.lv_4 (congrArg (fun z => Value.int (nI z)) (show ruY (ruP N (vl sk) nk) (sN N) nk c ||| ruX (ruP N (vl sk) nk) (sN N) nk c k = ruY (ruP N (vl sk) nk) (sN N) nk c ||| ruX (ruP N (vl sk) nk) (sN N) nk c (k + 1) from by rw [show ruX (ruP N (vl sk) nk) (sN N) nk c (k + 1) = ruX (ruP N (vl sk) nk) (sN N) nk c k from by rw [ruX, if_neg (by simp [h215])]])) ?_
                                      refine Go.lv_5 (congrArg (fun z => Value.int (nI z)) (show ruT (ruP N (vl sk) nk) (sN N) c + ruC (ruP N (vl sk) nk) c k = ruT (ruP N (vl sk) nk) (sN N) c + ruC (ruP N (vl sk) nk) c (k + 1) from by rw [show ruC (ruP N (vl sk) nk) c (k + 1) = ruC (ruP N (vl sk) nk) c k from by rw [ruC, if_neg (by simp [h215])]])) ?_
                                      refine Go.sub [2, 3, 4, 5, 6, 7, 8, 9, 10] rfl ?_
                                      exact ih153 (k + 1) (by first | omega | (split <;> omega)) (by first | omega | (split <;> omega))
                                  · --
                                    refine Go.iload X 3 dX4_rules_174 rfl ?_
                                    refine Go.iload X 2 dX4_rules_176 rfl ?_
                                    refine Go.iload X 0 dX4_rules_178 rfl ?_
                                    refine Go.imul_e X (nI (k * j)) dX4_rules_180 (pk_mul _ _) ?_
                                    have o11 : k * j ≤ 9 * 40 := Nat.mul_le_mul (by omega) (by omega)
                                    refine Go.iadd_e X (nI (c + k * j)) dX4_rules_181 (nI_add _ _) ?_
                                    refine Go.aload_n X 7 dX4_rules_182 rfl ?_
                                    refine Go.get X f_X4_rules_66 0 (v := .int (nI (sN N))) rfl rfl dX4_rules_183 ?_
                                    refine Go.irem_e X (nI ((c + k * j) % (sN N))) dX4_rules_186 (nI_ne0 (by first | omega | (split <;> omega)) (by first | omega | (split <;> omega))) (pk_rem (by first | omega | (split <;> omega)) (by first | omega | (split <;> omega)) (by first | omega | (split <;> omega))) ?_
                                    refine Go.i2l X (((nI ((c + k * j) % (sN N))) : Int32).toInt64) dX4_rules_187 rfl ?_
                                    refine Go.aload_n X 7 dX4_rules_188 rfl ?_
                                    refine Go.get X f_X4_rules_16 0 (v := .ref (ad 3)) rfl rfl dX4_rules_189 ?_
                                    refine Go.bipush X (nI 40) dX4_rules_192 k_bp_40 ?_
                                    refine Go.iload_n X 8 dX4_rules_194 rfl ?_
                                    refine Go.imul_e X (nI (40 * sk)) dX4_rules_195 (pk_mul _ _) ?_
                                    refine Go.iload X 0 dX4_rules_196 rfl ?_
                                    refine Go.iadd_e X (nI (40 * sk + j)) dX4_rules_198 (nI_add _ _) ?_
                                    refine Go.laldF X 3 (f := row3 vl) rfl (by first | omega | (split <;> omega)) rfl dX4_rules_199 ?_
                                    refine Go.top (w := .long (vl sk j)) (congrArg Value.long (row3_at _ (by first | omega | (split <;> omega)))) ?_
                                    refine Go.lcmp X dX4_rules_200 ?_
                                    refine Go.if_eq X 207 dX4_rules_201 (by decide) (fun h201 => ?_) (fun h201 => ?_)
                                    · --
                                      refine Go.iinc_0 X (nI (j + 1)) dX4_rules_207 (by decide) rfl (show nI j + Int32.ofInt 1 = nI (j + 1) from nI_add _ 1) ?_
                                      refine Go.goto X 168 dX4_rules_210 (by decide) ?_
                                      refine Go.lv_1 (show (.int (b2i (allB (fitP N (vl sk) c k) j)) : Value) = .int (b2i (allB (fitP N (vl sk) c k) (j + 1))) from by rw [allB, fit_y h201, Bool.and_true]) ?_
                                      exact ih168 (j + 1) (by first | omega | (split <;> omega)) (by first | omega | (split <;> omega))
                                    · --
                                      refine Go.iconst X (nI 0) dX4_rules_204 k_ic_0 ?_
                                      refine Go.istore_1 X dX4_rules_205 (by decide) rfl ?_
                                      refine Go.iinc_0 X (nI (j + 1)) dX4_rules_207 (by decide) rfl (show nI j + Int32.ofInt 1 = nI (j + 1) from nI_add _ 1) ?_
                                      refine Go.goto X 168 dX4_rules_210 (by decide) ?_
                                      refine Go.lv_1 (show (.int (nI 0) : Value) = .int (b2i (allB (fitP N (vl sk) c k) (j + 1))) from by rw [allB, fit_n h201, Bool.and_false]; rfl) ?_
                                      exact ih168 (j + 1) (by first | omega | (split <;> omega)) (by first | omega | (split <;> omega))
                              refine Go.lv_1 (show (.int (nI 1) : Value) = .int (b2i (allB (fitP N (vl sk) c k) 0)) from by rfl) ?_
                              exact L168 (nk - 0 + 1) 0 (by first | omega | (split <;> omega)) (Nat.lt_succ_self _)
                        refine Go.lv_2 (congrArg (fun z => Value.int (nI z)) (show ruY (ruP N (vl sk) nk) (sN N) nk c = ruY (ruP N (vl sk) nk) (sN N) nk c ||| ruX (ruP N (vl sk) nk) (sN N) nk c 0 from by rw [ruX, Nat.or_zero])) ?_
                        refine Go.lv_3 (congrArg (fun z => Value.int (nI z)) (show ruT (ruP N (vl sk) nk) (sN N) c = ruT (ruP N (vl sk) nk) (sN N) c + ruC (ruP N (vl sk) nk) c 0 from by rfl)) ?_
                        exact L153 (sN N - 0 + 1) 0 (by first | omega | (split <;> omega)) (Nat.lt_succ_self _)
                  refine Go.lv_1 (congrArg (fun z => Value.int (nI z)) (show 0 = ruY (ruP N (vl sk) nk) (sN N) nk 0 from by rfl)) ?_
                  refine Go.lv_2 (congrArg (fun z => Value.int (nI z)) (show 0 = ruT (ruP N (vl sk) nk) (sN N) 0 from by rfl)) ?_
                  exact L141 (sN N - 0 + 1) 0 (by first | omega | (split <;> omega)) (Nat.lt_succ_self _)
                · --
                  refine Go.aload_n X 2 dX4_rules_81 rfl ?_
                  refine Go.get X f_X4_rules_16 0 (v := .ref (ad 3)) rfl rfl dX4_rules_82 ?_
                  refine Go.bipush X (nI 40) dX4_rules_85 k_bp_40 ?_
                  refine Go.iload_n X 3 dX4_rules_87 rfl ?_
                  refine Go.imul_e X (nI (40 * sk)) dX4_rules_88 (pk_mul _ _) ?_
                  refine Go.iload X 0 dX4_rules_89 rfl ?_
                  refine Go.iadd_e X (nI (40 * sk + k)) dX4_rules_91 (nI_add _ _) ?_
                  refine Go.laldF X 3 (f := row3 vl) rfl (by first | omega | (split <;> omega)) rfl dX4_rules_92 ?_
                  refine Go.top (w := .long (vl sk k)) (congrArg Value.long (row3_at _ (by first | omega | (split <;> omega)))) ?_
                  refine Go.lconst X (0) dX4_rules_93 rfl ?_
                  refine Go.lcmp X dX4_rules_94 ?_
                  refine Go.if_lt X 119 dX4_rules_95 (by decide) (fun h95 => ?_) (fun h95 => ?_)
                  · --
                    refine Go.aload_n X 2 dX4_rules_119 rfl ?_
                    refine Go.bipush X ((-2 : Int32)) dX4_rules_120 k_bp_m2 ?_
                    refine Go.callV0i X (d_no_0 g ad N K b z le rf hd ln vl 6 at1 tk so va lm ol ah lt lo) cal_X4_no gX4_rules_X4_no (ci := 4) (q0 := 0) rfl rfl rfl rfl rfl dX4_rules_122 ?_
                    have e9 : x_rules (N, K, b, z, le, rf, hd, ln, vl) (nI sk) (nI nk) (nI wk) = ((N, K, b, z, le, inc rf 0, hd, ln, vl), (-2)) := by have q5 : allB (fun j => morP N (vl sk j)) nk = false := (allB_f (P := fun j => morP N (vl sk j)) h78 (mor_n1 h95)); simp (decide := true) [x_rules, rfS, h7, h17, h26, q0, q2, h62, q5, nI_clamp (show sk < 2 ^ 31 by omega), nI_clamp (show nk < 2 ^ 31 by omega), nI_clamp (show wk < 2 ^ 31 by omega)]
                    have m9 : mOk (N, K, b, z, le, inc rf 0, hd, ln, vl) (6, at1, tk, so, va, lm, ol, ah, lt, lo) := ⟨rfl, hm.2.1, hm.2.2⟩
                    exact Go.iret X E dX4_rules_125 ⟨by rw [e9], _, by rw [e9]; exact m9, by rw [e9]⟩ rfl
                  · --
                    refine Go.aload_n X 2 dX4_rules_98 rfl ?_
                    refine Go.get X f_X4_rules_16 0 (v := .ref (ad 3)) rfl rfl dX4_rules_99 ?_
                    refine Go.bipush X (nI 40) dX4_rules_102 k_bp_40 ?_
                    refine Go.iload_n X 3 dX4_rules_104 rfl ?_
                    refine Go.imul_e X (nI (40 * sk)) dX4_rules_105 (pk_mul _ _) ?_
                    refine Go.iload X 0 dX4_rules_106 rfl ?_
                    refine Go.iadd_e X (nI (40 * sk + k)) dX4_rules_108 (nI_add _ _) ?_
                    refine Go.laldF X 3 (f := row3 vl) rfl (by first | omega | (split <;> omega)) rfl dX4_rules_109 ?_
                    refine Go.top (w := .long (vl sk k)) (congrArg Value.long (row3_at _ (by first | omega | (split <;> omega)))) ?_
                    refine Go.aload_n X 2 dX4_rules_110 rfl ?_
                    refine Go.get X f_X4_rules_66 0 (v := .int (nI (sN N))) rfl rfl dX4_rules_111 ?_
                    refine Go.i2l X (((nI (sN N)) : Int32).toInt64) dX4_rules_114 rfl ?_
                    refine Go.lcmp X dX4_rules_115 ?_
                    refine Go.if_lt X 126 dX4_rules_116 (by decide) (fun h116 => ?_) (fun h116 => ?_)
                    · --
                      refine Go.iinc_0 X (nI (k + 1)) dX4_rules_126 (by decide) rfl (show nI k + Int32.ofInt 1 = nI (k + 1) from nI_add _ 1) ?_
                      refine Go.goto X 75 dX4_rules_129 (by decide) ?_
                      exact ih75 (k + 1) (by first | omega | (split <;> omega)) (by exact all_s (P := fun j => morP N (vl sk j)) hq (mor_y h95 h116)) (by first | omega | (split <;> omega))
                    · --
                      refine Go.aload_n X 2 dX4_rules_119 rfl ?_
                      refine Go.bipush X ((-2 : Int32)) dX4_rules_120 k_bp_m2 ?_
                      refine Go.callV0i X (d_no_0 g ad N K b z le rf hd ln vl 6 at1 tk so va lm ol ah lt lo) cal_X4_no gX4_rules_X4_no (ci := 4) (q0 := 0) rfl rfl rfl rfl rfl dX4_rules_122 ?_
                      have e9 : x_rules (N, K, b, z, le, rf, hd, ln, vl) (nI sk) (nI nk) (nI wk) = ((N, K, b, z, le, inc rf 0, hd, ln, vl), (-2)) := by have q5 : allB (fun j => morP N (vl sk j)) nk = false := (allB_f (P := fun j => morP N (vl sk j)) h78 (mor_n2 h116)); simp (decide := true) [x_rules, rfS, h7, h17, h26, q0, q2, h62, q5, nI_clamp (show sk < 2 ^ 31 by omega), nI_clamp (show nk < 2 ^ 31 by omega), nI_clamp (show wk < 2 ^ 31 by omega)]
                      have m9 : mOk (N, K, b, z, le, inc rf 0, hd, ln, vl) (6, at1, tk, so, va, lm, ol, ah, lt, lo) := ⟨rfl, hm.2.1, hm.2.2⟩
                      exact Go.iret X E dX4_rules_125 ⟨by rw [e9], _, by rw [e9]; exact m9, by rw [e9]⟩ rfl
            exact L75 (nk - 0 + 1) 0 (by first | omega | (split <;> omega)) (by intro j hj; omega) (Nat.lt_succ_self _)
          · --
            refine Go.aload_n X 1 dX4_rules_65 rfl ?_
            refine Go.bipush X ((-2 : Int32)) dX4_rules_66 k_bp_m2 ?_
            refine Go.callV0i X (d_no_0 g ad N K b z le rf hd ln vl 6 at1 tk so va lm ol ah lt lo) cal_X4_no gX4_rules_X4_no (ci := 4) (q0 := 0) rfl rfl rfl rfl rfl dX4_rules_68 ?_
            have e9 : x_rules (N, K, b, z, le, rf, hd, ln, vl) (nI sk) (nI nk) (nI wk) = ((N, K, b, z, le, inc rf 0, hd, ln, vl), (-2)) := by simp (decide := true) [x_rules, rfS, h7, h17, h26, q0, q2, show ¬ nk ≤ ln sk by omega, nI_clamp (show sk < 2 ^ 31 by omega), nI_clamp (show nk < 2 ^ 31 by omega), nI_clamp (show wk < 2 ^ 31 by omega)]
            have m9 : mOk (N, K, b, z, le, inc rf 0, hd, ln, vl) (6, at1, tk, so, va, lm, ol, ah, lt, lo) := ⟨rfl, hm.2.1, hm.2.2⟩
            exact Go.iret X E dX4_rules_71 ⟨by rw [e9], _, by rw [e9]; exact m9, by rw [e9]⟩ rfl
        · --
          refine Go.top (w := .int (-4)) (by rw [q9]) ?_
          refine Go.istore_new X dX4_rules_41 (by decide) rfl ?_
          refine Go.iload X 0 dX4_rules_43 rfl ?_
          refine Go.if_ge X 55 dX4_rules_45 (by decide) (fun h => absurd h (by decide)) (fun _ => ?_)
          refine Go.aload_n X 1 dX4_rules_48 rfl ?_
          refine Go.iload X 0 dX4_rules_49 rfl ?_
          refine Go.callV0i X (d_no_2 g ad N K b z le rf hd ln vl 6 at1 tk so va lm ol ah lt lo) cal_X4_no gX4_rules_X4_no (ci := 4) (q0 := 0) rfl rfl rfl rfl rfl dX4_rules_51 ?_
          have e9 : x_rules (N, K, b, z, le, rf, hd, ln, vl) (nI sk) (nI nk) (nI wk) = ((N, K, b, z, le, inc rf 2, hd, ln, vl), (-4)) := by simp (decide := true) [x_rules, rfS, h7, h17, h26, q0, q2, nI_clamp (show sk < 2 ^ 31 by omega), nI_clamp (show nk < 2 ^ 31 by omega), nI_clamp (show wk < 2 ^ 31 by omega)]
          have m9 : mOk (N, K, b, z, le, inc rf 2, hd, ln, vl) (6, at1, tk, so, va, lm, ol, ah, lt, lo) := ⟨rfl, hm.2.1, hm.2.2⟩
          exact Go.iret X E dX4_rules_54 ⟨by rw [e9], _, by rw [e9]; exact m9, by rw [e9]⟩ rfl
      · --
        refine Go.aload_n X 0 dX4_rules_29 rfl ?_
        refine Go.bipush X ((-2 : Int32)) dX4_rules_30 k_bp_m2 ?_
        refine Go.callV0i X (d_no_0 g ad N K b z le rf hd ln vl 6 at1 tk so va lm ol ah lt lo) cal_X4_no gX4_rules_X4_no (ci := 4) (q0 := 0) rfl rfl rfl rfl rfl dX4_rules_32 ?_
        have e9 : x_rules (N, K, b, z, le, rf, hd, ln, vl) (nI sk) (nI nk) w = ((N, K, b, z, le, inc rf 0, hd, ln, vl), (-2)) := by simp (decide := true) [x_rules, rfS, upS_id, h7, h17, h26, nI_clamp (show sk < 2 ^ 31 by omega), nI_clamp (show nk < 2 ^ 31 by omega)]
        have m9 : mOk (N, K, b, z, le, inc rf 0, hd, ln, vl) (6, at1, tk, so, va, lm, ol, ah, lt, lo) := ⟨rfl, hm.2.1, hm.2.2⟩
        exact Go.iret X E dX4_rules_35 ⟨by rw [e9], _, by rw [e9]; exact m9, by rw [e9]⟩ rfl
