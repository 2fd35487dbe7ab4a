/-! LAW: the loop -/
set_option maxHeartbeats 4000000 in
set_option maxRecDepth 100000 in
theorem lwt {Γ : GT} {g : gT} {b0 L : Nat} {xs : Nat → Int32} (X : Cx Γ g 4 cL_law RL wsL_law) (S : Sx Γ b0 L xs) (hL : L ≤ 3072) {i : Nat} (hi : i + 6 ≤ L) {ad ad2 : Nat → Nat} {B : Bx} {J : Jx} {J2 : Mx} (hB : bOk B) (hm : mOk B J2) (kk : LK Γ g b0 i ad ad2) {k : Nat} (hk : k < 61) : Go Γ g 4 room_1 46 1431 (LX g ad ad2 B J B J2) 33 [(3, .int (nI i)), (2, .ref (ad2 0)), (1, .ref (ad 0)), (0, .ref b0)] [.int (nI k)] := by
  by_cases e0 : k = 0
  · subst e0; exact Go.tableIn X (off := 259) 292 dL_law_33 (by decide) (by decide) (by decide +kernel) rfl (lwz_0 X S hL hi hB hm kk)
  by_cases e1 : k = 1
  · subst e1; exact Go.tableIn X (off := 302) 335 dL_law_33 (by decide) (by decide) (by decide +kernel) rfl (lwz_1 X S hL hi hB hm kk)
  by_cases e2 : k = 2
  · subst e2; exact Go.tableIn X (off := 375) 408 dL_law_33 (by decide) (by decide) (by decide +kernel) rfl (lwz_2 X S hL hi hB hm kk)
  by_cases e3 : k = 3
  · subst e3; exact Go.tableIn X (off := 438) 471 dL_law_33 (by decide) (by decide) (by decide +kernel) rfl (lwz_3 X S hL hi hB hm kk)
  by_cases e4 : k = 4
  · subst e4; exact Go.tableIn X (off := 472) 505 dL_law_33 (by decide) (by decide) (by decide +kernel) rfl (lwz_4 X S hL hi hB hm kk)
  by_cases e5 : k = 5
  · subst e5; exact Go.tableIn X (off := 495) 528 dL_law_33 (by decide) (by decide) (by decide +kernel) rfl (lwz_5 X S hL hi hB hm kk)
  by_cases e6 : k = 6
  · subst e6; exact Go.tableIn X (off := 528) 561 dL_law_33 (by decide) (by decide) (by decide +kernel) rfl (lwz_6 X S hL hi hB hm kk)
  by_cases e7 : k = 7
  · subst e7; exact Go.tableIn X (off := 561) 594 dL_law_33 (by decide) (by decide) (by decide +kernel) rfl (lwz_7 X S hL hi hB hm kk)
  by_cases e8 : k = 8
  · subst e8; exact Go.tableIn X (off := 584) 617 dL_law_33 (by decide) (by decide) (by decide +kernel) rfl (lwz_8 X S hL hi hB hm kk)
  by_cases e9 : k = 9
  · subst e9; exact Go.tableIn X (off := 617) 650 dL_law_33 (by decide) (by decide) (by decide +kernel) rfl (lwz_9 X S hL hi hB hm kk)
  by_cases e10 : k = 10
  · subst e10; exact Go.tableIn X (off := 666) 699 dL_law_33 (by decide) (by decide) (by decide +kernel) rfl (lwz_10 X S hL hi hB hm kk)
  by_cases e11 : k = 11
  · subst e11; exact Go.tableIn X (off := 699) 732 dL_law_33 (by decide) (by decide) (by decide +kernel) rfl (lwz_11 X S hL hi hB hm kk)
  by_cases e12 : k = 12
  · subst e12; exact Go.tableIn X (off := 712) 745 dL_law_33 (by decide) (by decide) (by decide +kernel) rfl (lwz_12 X S hL hi hB hm kk)
  by_cases e13 : k = 13
  · subst e13; exact Go.tableIn X (off := 735) 768 dL_law_33 (by decide) (by decide) (by decide +kernel) rfl (lwz_13 X S hL hi hB hm kk)
  by_cases e14 : k = 14
  · subst e14; exact Go.tableIn X (off := 758) 791 dL_law_33 (by decide) (by decide) (by decide +kernel) rfl (lwz_14 X S hL hi hB hm kk)
  by_cases e15 : k = 15
  · subst e15; exact Go.tableIn X (off := 781) 814 dL_law_33 (by decide) (by decide) (by decide +kernel) rfl (lwz_15 X S hL hi hB hm kk)
  by_cases e16 : k = 16
  · subst e16; exact Go.tableIn X (off := 794) 827 dL_law_33 (by decide) (by decide) (by decide +kernel) rfl (lwz_16 X S hL hi hB hm kk)
  by_cases e17 : k = 17
  · subst e17; exact Go.tableIn X (off := 807) 840 dL_law_33 (by decide) (by decide) (by decide +kernel) rfl (lwz_17 X S hL hi hB hm kk)
  by_cases e18 : k = 18
  · subst e18; exact Go.tableIn X (off := 840) 873 dL_law_33 (by decide) (by decide) (by decide +kernel) rfl (lwz_18 X S hL hi hB hm kk)
  by_cases e19 : k = 19
  · subst e19; exact Go.tableIn X (off := 873) 906 dL_law_33 (by decide) (by decide) (by decide +kernel) rfl (lwz_19 X S hL hi hB hm kk)
  by_cases e20 : k = 20
  · subst e20; exact Go.tableIn X (off := 906) 939 dL_law_33 (by decide) (by decide) (by decide +kernel) rfl (lwz_20 X S hL hi hB hm kk)
  by_cases e21 : k = 21
  · subst e21; exact Go.tableIn X (off := 939) 972 dL_law_33 (by decide) (by decide) (by decide +kernel) rfl (lwz_21 X S hL hi hB hm kk)
  by_cases e22 : k = 22
  · subst e22; exact Go.tableIn X (off := 962) 995 dL_law_33 (by decide) (by decide) (by decide +kernel) rfl (lwz_22 X S hL hi hB hm kk)
  by_cases e23 : k = 23
  · subst e23; exact Go.tableIn X (off := 985) 1018 dL_law_33 (by decide) (by decide) (by decide +kernel) rfl (lwz_23 X S hL hi hB hm kk)
  by_cases e24 : k = 24
  · subst e24; exact Go.tableIn X (off := 1008) 1041 dL_law_33 (by decide) (by decide) (by decide +kernel) rfl (lwz_24 X S hL hi hB hm kk)
  by_cases e25 : k = 25
  · subst e25; exact Go.tableIn X (off := 1021) 1054 dL_law_33 (by decide) (by decide) (by decide +kernel) rfl (lwz_25 X S hL hi hB hm kk)
  by_cases e26 : k = 26
  · subst e26; exact Go.tableIn X (off := 1044) 1077 dL_law_33 (by decide) (by decide) (by decide +kernel) rfl (lwz_26 X S hL hi hB hm kk)
  by_cases e27 : k = 27
  · subst e27; exact Go.tableIn X (off := 1057) 1090 dL_law_33 (by decide) (by decide) (by decide +kernel) rfl (lwz_27 X S hL hi hB hm kk)
  by_cases e28 : k = 28
  · subst e28; exact Go.tableIn X (off := 1080) 1113 dL_law_33 (by decide) (by decide) (by decide +kernel) rfl (lwz_28 X S hL hi hB hm kk)
  by_cases e29 : k = 29
  · subst e29; exact Go.tableIn X (off := 1093) 1126 dL_law_33 (by decide) (by decide) (by decide +kernel) rfl (lwz_29 X S hL hi hB hm kk)
  by_cases e30 : k = 30
  · subst e30; exact Go.tableIn X (off := 1106) 1139 dL_law_33 (by decide) (by decide) (by decide +kernel) rfl (lwz_30 X S hL hi hB hm kk)
  by_cases e31 : k = 31
  · subst e31; exact Go.tableIn X (off := 1139) 1172 dL_law_33 (by decide) (by decide) (by decide +kernel) rfl (lwz_31 X S hL hi hB hm kk)
  by_cases e32 : k = 32
  · subst e32; exact Go.tableIn X (off := 1172) 1205 dL_law_33 (by decide) (by decide) (by decide +kernel) rfl (lwz_32 X S hL hi hB hm kk)
  by_cases e33 : k = 33
  · subst e33; exact Go.tableIn X (off := 1195) 1228 dL_law_33 (by decide) (by decide) (by decide +kernel) rfl (lwz_33 X S hL hi hB hm kk)
  by_cases e34 : k = 34
  · subst e34; exact Go.tableIn X (off := 1208) 1241 dL_law_33 (by decide) (by decide) (by decide +kernel) rfl (lwz_34 X S hL hi hB hm kk)
  by_cases e35 : k = 35
  · subst e35; exact Go.tableIn X (off := 1231) 1264 dL_law_33 (by decide) (by decide) (by decide +kernel) rfl (lwz_35 X S hL hi hB hm kk)
  by_cases e36 : k = 36
  · subst e36; exact Go.tableIn X (off := 1244) 1277 dL_law_33 (by decide) (by decide) (by decide +kernel) rfl (lwz_36 X S hL hi hB hm kk)
  by_cases e37 : k = 37
  · subst e37; exact Go.tableIn X (off := 1277) 1310 dL_law_33 (by decide) (by decide) (by decide +kernel) rfl (lwz_37 X S hL hi hB hm kk)
  by_cases e38 : k = 38
  · subst e38; exact Go.tableIn X (off := 1310) 1343 dL_law_33 (by decide) (by decide) (by decide +kernel) rfl (lwz_38 X S hL hi hB hm kk)
  by_cases e39 : k = 39
  · subst e39; exact Go.tableIn X (off := 1333) 1366 dL_law_33 (by decide) (by decide) (by decide +kernel) rfl (lwz_39 X S hL hi hB hm kk)
  by_cases e40 : k = 40
  · subst e40; exact Go.tableIn X (off := 1346) 1379 dL_law_33 (by decide) (by decide) (by decide +kernel) rfl (lwz_40 X S hL hi hB hm kk)
  by_cases e41 : k = 41
  · subst e41; exact Go.tableIn X (off := 1369) 1402 dL_law_33 (by decide) (by decide) (by decide +kernel) rfl (lwz_41 X S hL hi hB hm kk)
  by_cases e42 : k = 42
  · subst e42; exact Go.tableIn X (off := 1392) 1425 dL_law_33 (by decide) (by decide) (by decide +kernel) rfl (lwz_42 X S hL hi hB hm kk)
  by_cases e43 : k = 43
  · subst e43; exact Go.tableIn X (off := 1415) 1448 dL_law_33 (by decide) (by decide) (by decide +kernel) rfl (lwz_43 X S hL hi hB hm kk)
  by_cases e44 : k = 44
  · subst e44; exact Go.tableIn X (off := 1428) 1461 dL_law_33 (by decide) (by decide) (by decide +kernel) rfl (lwz_44 X S hL hi hB hm kk)
  by_cases e45 : k = 45
  · subst e45; exact Go.tableIn X (off := 1441) 1474 dL_law_33 (by decide) (by decide) (by decide +kernel) rfl (lwz_45 X S hL hi hB hm kk)
  by_cases e46 : k = 46
  · subst e46; exact Go.tableIn X (off := 1464) 1497 dL_law_33 (by decide) (by decide) (by decide +kernel) rfl (lwz_46 X S hL hi hB hm kk)
  by_cases e47 : k = 47
  · subst e47; exact Go.tableIn X (off := 1477) 1510 dL_law_33 (by decide) (by decide) (by decide +kernel) rfl (lwz_47 X S hL hi hB hm kk)
  by_cases e48 : k = 48
  · subst e48; exact Go.tableIn X (off := 1500) 1533 dL_law_33 (by decide) (by decide) (by decide +kernel) rfl (lwz_48 X S hL hi hB hm kk)
  by_cases e49 : k = 49
  · subst e49; exact Go.tableIn X (off := 1533) 1566 dL_law_33 (by decide) (by decide) (by decide +kernel) rfl (lwz_49 X S hL hi hB hm kk)
  by_cases e50 : k = 50
  · subst e50; exact Go.tableIn X (off := 1566) 1599 dL_law_33 (by decide) (by decide) (by decide +kernel) rfl (lwz_50 X S hL hi hB hm kk)
  by_cases e51 : k = 51
  · subst e51; exact Go.tableIn X (off := 1589) 1622 dL_law_33 (by decide) (by decide) (by decide +kernel) rfl (lwz_51 X S hL hi hB hm kk)
  by_cases e52 : k = 52
  · subst e52; exact Go.tableIn X (off := 1632) 1665 dL_law_33 (by decide) (by decide) (by decide +kernel) rfl (lwz_52 X S hL hi hB hm kk)
  by_cases e53 : k = 53
  · subst e53; exact Go.tableIn X (off := 1655) 1688 dL_law_33 (by decide) (by decide) (by decide +kernel) rfl (lwz_53 X S hL hi hB hm kk)
  by_cases e54 : k = 54
  · subst e54; exact Go.tableIn X (off := 1678) 1711 dL_law_33 (by decide) (by decide) (by decide +kernel) rfl (lwz_54 X S hL hi hB hm kk)
  by_cases e55 : k = 55
  · subst e55; exact Go.tableIn X (off := 1691) 1724 dL_law_33 (by decide) (by decide) (by decide +kernel) rfl (lwz_55 X S hL hi hB hm kk)
  by_cases e56 : k = 56
  · subst e56; exact Go.tableIn X (off := 1714) 1747 dL_law_33 (by decide) (by decide) (by decide +kernel) rfl (lwz_56 X S hL hi hB hm kk)
  by_cases e57 : k = 57
  · subst e57; exact Go.tableIn X (off := 1747) 1780 dL_law_33 (by decide) (by decide) (by decide +kernel) rfl (lwz_57 X S hL hi hB hm kk)
  by_cases e58 : k = 58
  · subst e58; exact Go.tableIn X (off := 1770) 1803 dL_law_33 (by decide) (by decide) (by decide +kernel) rfl (lwz_58 X S hL hi hB hm kk)
  by_cases e59 : k = 59
  · subst e59; exact Go.tableIn X (off := 1783) 1816 dL_law_33 (by decide) (by decide) (by decide +kernel) rfl (lwz_59 X S hL hi hB hm kk)
  by_cases e60 : k = 60
  · subst e60; exact Go.tableIn X (off := 1796) 1829 dL_law_33 (by decide) (by decide) (by decide +kernel) rfl (lwz_60 X S hL hi hB hm kk)
  omega
theorem low_nI {v : Int32} (h : ¬ (v.toInt < 0 ∨ 60 < v.toInt)) : ∃ k, k < 61 ∧ v = nI k := by
  obtain ⟨j, hj, e⟩ := nI_of2 (x := v) (M := nI 60) (n := 60) (nI_toInt (by decide)) (fun z => h (.inl (Int32.lt_iff_toInt_lt.mp z))) (Int32.le_iff_toInt_le.mpr (by rw [nI_toInt (by decide)]; omega))
  exact ⟨j, by omega, e⟩
set_option maxHeartbeats 4000000 in
set_option maxRecDepth 100000 in
theorem lw_loop {Γ : GT} {g : gT} {b0 L : Nat} {xs : Nat → Int32} (X : Cx Γ g 4 cL_law RL wsL_law) (S : Sx Γ b0 L xs) (Z : Lz Γ b0) (hL : L ≤ 3072) {ad ad2 : Nat → Nat} : ∀ (f i : Nat) (B : Bx) (J : Jx) (J2 : Mx), L + 12 ≤ i + f → i ≤ L + 6 → bOk B → mOk B J2 → Go Γ g 4 room_1 46 1431 (LX g ad ad2 B J B J2) 18 [(3, .int (nI i)), (2, .ref (ad2 0)), (1, .ref (ad 0)), (0, .ref b0)] [] := by
  intro f
  induction f with
  | zero => intro i B J J2 h1 h2; omega
  | succ f ih =>
    intro i B J J2 h1 h2 hB hm
    have hout : Go Γ g 4 room_1 46 1431 (LX g ad ad2 B J B J2) 1858 [(3, .int (nI i)), (2, .ref (ad2 0)), (1, .ref (ad 0)), (0, .ref b0)] [] := Go.iconst X 1 dL_law_1858 (by decide) (Go.lwret X rfl rfl Z (by omega) (by omega) dL_law_1859)
    refine Go.iload_n X 0 dL_law_18 rfl ?_
    refine Go.aload_n X 3 dL_law_19 rfl ?_
    refine Go.slen X S dL_law_20 ?_
    refine Go.bipush X (nI 6) dL_law_21 (by decide) ?_
    by_cases h6 : L < 6
    · refine Go.isub X dL_law_23 ?_
      refine Go.icmp_gt X 1858 dL_law_24 rfl (fun _ => hout) (fun h => absurd ?_ h)
      exact Int32.lt_of_lt_of_le (lt_6 L h6) (nI_pos' (by omega))
    · refine Go.isub_e X (nI (L - 6)) dL_law_23 (i_sub (by omega)) ?_
      refine Go.icmp_gtN X 1858 dL_law_24 rfl (by omega) (by omega) (fun _ => hout) (fun h => ?_)
      refine Go.aload_n X 3 dL_law_27 rfl ?_
      refine Go.iload_n X 0 dL_law_28 rfl ?_
      refine Go.sld X S (by omega) hL dL_law_29 ?_
      refine Go.bipush X (nI 63) dL_law_30 (by decide) ?_
      obtain ⟨v, hv⟩ : ∃ v, v = xs i &&& nI 63 := ⟨_, rfl⟩
      refine Go.iand_e X v dL_law_32 hv.symm ?_
      have kk : LK Γ g b0 i ad ad2 := fun B1 J3 J4 hB1 hm1 => Go.iinc_0 X (nI (i + 6)) dL_law_1852 (by decide) rfl (nI_add i 6) (Go.goto X 18 dL_law_1855 rfl (ih (i + 6) B1 J3 J4 (by omega) (by omega) hB1 hm1))
      by_cases h0 : v.toInt < 0 ∨ 60 < v.toInt
      · exact Go.tableOut X 1852 dL_law_33 h0 rfl (kk B J J2 hB hm)
      · obtain ⟨k, hk, e⟩ := low_nI h0
        rw [e]
        exact lwt X S hL (by omega) hB hm kk hk
theorem lcal_X3_init : Cal yX3_init wsX3_init cX3_init 2 none RX3 0 := ⟨⟨_, rfl⟩, by decide +kernel⟩
theorem lcal_X4_init : Cal yX4_init wsX4_init cX4_init 2 none RX4 0 := ⟨⟨_, rfl⟩, by decide +kernel⟩
theorem sOk_1 : sOk S1 := by unfold sOk; decide
theorem bOk_0 : bOk B0 := ⟨sOk_1, sOk_1, Nat.zero_le _, fun i _ => by show (0 : Nat) < 256; decide, fun s _ => Nat.zero_le _, fun s _ => .inl rfl⟩
theorem mOk_0 : mOk B0 J1 := ⟨rfl, fun s _ h => absurd h (by show ¬ inb (-1) 5 = true; decide), fun h => by cases h⟩
set_option maxHeartbeats 4000000 in
set_option maxRecDepth 100000 in
theorem lw_go {Γ : GT} {g : gT} {b0 L : Nat} {xs : Nat → Int32} (X : Cx Γ g 4 cL_law RL wsL_law) (O : AOk Γ) (S : Sx Γ b0 L xs) (Z : Lz Γ b0) (hL : L ≤ 3072) : Go Γ g 4 room_1 0 0 [] 0 [(0, .ref b0)] [] := by
  refine Go.newO X (ci := 3) (C := RX3) (T := TX3) (N := 8) (ty := tyX3) rfl (fun _ h => List.mem_append_left _ (List.mem_append_left _ (List.mem_append_left _ (List.mem_append_left _ (List.mem_append_left _ (List.mem_append_right _ h)))))) tyX3_ok (List.mem_of_getElem? (i := 0) (by decide +kernel)) (List.mem_of_getElem? (i := 1) (by decide +kernel)) (List.mem_of_getElem? (i := 2) (by decide +kernel)) [.null, .null, .null, .int (b2i false), .null, .null, .null, .null] (fun j hj => by rcases (show j = 0 ∨ j = 1 ∨ j = 2 ∨ j = 3 ∨ j = 4 ∨ j = 5 ∨ j = 6 ∨ j = 7 by omega) with rfl | rfl | rfl | rfl | rfl | rfl | rfl | rfl <;> rfl) rfl rfl dL_law_0 (fun q0 => ?_)
  refine Go.conv (M1 := [(q0, .inr (3, [.null, .null, .null, .int (b2i false), .null, .null, .null, .null]))]) ?_ rfl rfl rfl
  refine Go.dup X dL_law_3 rfl ?_
  refine Go.callNO X O (cn_B g q0) lcal_X3_init rfl 0 [] [] rfl rfl rfl (by decide) ggL_law_X3_init (List.mem_of_getElem? (i := 2) (by decide +kernel)) (List.mem_of_getElem? (i := 7) (by decide +kernel)) (List.mem_of_getElem? (i := 8) (by decide +kernel)) rfl dL_law_4 (fun w9 e9 => ?_)
  obtain ⟨ad, rfl, rfl⟩ := e9
  refine Go.astore_n_new X dL_law_7 (by decide) rfl ?_
  refine Go.newO X (ci := 4) (C := RX4) (T := TX4) (N := 27) (ty := tyX4) rfl (fun _ h => List.mem_append_left _ (List.mem_append_left _ (List.mem_append_left _ (List.mem_append_left _ (List.mem_append_right _ h))))) tyX4_ok (List.mem_of_getElem? (i := 3) (by decide +kernel)) (List.mem_of_getElem? (i := 4) (by decide +kernel)) (List.mem_of_getElem? (i := 5) (by decide +kernel)) [.null, .null, .null, .int (nI 0), .int (nI 0), .null, .int (nI 0), .int (nI 0), .null, .null, .int 0, .int 0, .int 0, .int 0, .int (awI 0), .int (nI 0), .null, .int (nI 0), .int (nI 0), .int 0, .int 0, .null, .int (b2i false), .null, .null, .int 0, .null] (fun j hj => by rcases (show j = 0 ∨ j = 1 ∨ j = 2 ∨ j = 3 ∨ j = 4 ∨ j = 5 ∨ j = 6 ∨ j = 7 ∨ j = 8 ∨ j = 9 ∨ j = 10 ∨ j = 11 ∨ j = 12 ∨ j = 13 ∨ j = 14 ∨ j = 15 ∨ j = 16 ∨ j = 17 ∨ j = 18 ∨ j = 19 ∨ j = 20 ∨ j = 21 ∨ j = 22 ∨ j = 23 ∨ j = 24 ∨ j = 25 ∨ j = 26 by omega) with rfl | rfl | rfl | rfl | rfl | rfl | rfl | rfl | rfl | rfl | rfl | rfl | rfl | rfl | rfl | rfl | rfl | rfl | rfl | rfl | rfl | rfl | rfl | rfl | rfl | rfl | rfl <;> rfl) rfl rfl dL_law_8 (fun q1 => ?_)
  refine Go.dup X dL_law_11 rfl ?_
  refine Go.callN X (cn_M g q1) lcal_X4_init rfl 34 (bxW g ad B0 J0) (List.range 34) rfl rfl rfl (by decide) ggL_law_X4_init (List.mem_of_getElem? (i := 5) (by decide +kernel)) (List.mem_of_getElem? (i := 59) (by decide +kernel)) (List.mem_of_getElem? (i := 60) (by decide +kernel)) rfl dL_law_12 (fun w9 e9 => ?_)
  obtain ⟨ad2, rfl, rfl⟩ := e9
  refine Go.astore_n_new X dL_law_15 (by decide) rfl ?_
  refine Go.iconst X (nI 0) dL_law_16 (by decide) ?_
  refine Go.istore_n_new X dL_law_17 (by decide) rfl ?_
  exact lw_loop X S Z hL (L + 12) 0 B0 J0 J1 (by omega) (by omega) bOk_0 mOk_0
