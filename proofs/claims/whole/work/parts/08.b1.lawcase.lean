/-! LAW: cases 2 -/
set_option maxHeartbeats 4000000 in
set_option maxRecDepth 100000 in
theorem lwz_20 {Γ : GT} {g : gT} {b0 L : Nat} {xs : Nat → Int32} (X : Cx Γ g 4 cL_law RL wsL_law) (S : Sx Γ b0 L xs) (hL : L ≤ 3072) {i : Nat} (hi : i + 6 ≤ L) {ad ad2 : Nat → Nat} {B : Bx} {J : Jx} {J2 : Mx} (hB : bOk B) (hm : mOk B J2) (kk : LK Γ g b0 i ad ad2) : Go Γ g 4 room_1 46 1431 (LX g ad ad2 B J B J2) 939 [(3, .int (nI i)), (2, .ref (ad2 0)), (1, .ref (ad 0)), (0, .ref b0)] [] := by
  obtain ⟨N, K, b, z, le, rf, hd, ln, vl⟩ := B
  obtain ⟨T, ts, te, tk0, br⟩ := J
  obtain ⟨aw, at1, tk, so, va, lm, ol, ah, lt, lo⟩ := J2
  obtain rfl : aw = 6 := hm.1
  refine Go.aload_n X 2 dL_law_939 rfl ?_
  refine Go.arg X S 1 dL_law_940 dL_law_941 dL_law_942 dL_law_943 dL_law_944 rfl (by omega) hL ?_
  refine Go.arg X S 2 dL_law_945 dL_law_946 dL_law_947 dL_law_948 dL_law_949 rfl (by omega) hL ?_
  refine Go.callC X (b_expects g ad N K b z le rf hd ln vl T ts te tk0 br (xs (i + 1)) (xs (i + 2)) hB.1) lcal_X3_expects gL_law_X3_expects rfl rfl rfl dL_law_950 (fun J9 => ?_)
  refine Go.aload_n X 1 dL_law_953 rfl ?_
  refine Go.arg X S 1 dL_law_954 dL_law_955 dL_law_956 dL_law_957 dL_law_958 rfl (by omega) hL ?_
  refine Go.arg X S 2 dL_law_959 dL_law_960 dL_law_961 dL_law_962 dL_law_963 rfl (by omega) hL ?_
  refine Go.callM X (e_expects g ad2 N K b z le rf hd ln vl at1 tk so va lm ol ah lt lo (xs (i + 1)) (xs (i + 2)) hB.1 hB.2.2.2.2.2 hm) lcal_X4_expects gL_law_X4_expects rfl rfl rfl dL_law_964 (fun J4 hJ => ?_)
  exact Go.icmp_eq X 1852 dL_law_967 rfl (fun _ => kk _ _ _ (k_expects hB (xs (i + 1)) (xs (i + 2))) hJ) (fun h => absurd rfl h)
set_option maxHeartbeats 4000000 in
set_option maxRecDepth 100000 in
theorem lwz_21 {Γ : GT} {g : gT} {b0 L : Nat} {xs : Nat → Int32} (X : Cx Γ g 4 cL_law RL wsL_law) (S : Sx Γ b0 L xs) (hL : L ≤ 3072) {i : Nat} (hi : i + 6 ≤ L) {ad ad2 : Nat → Nat} {B : Bx} {J : Jx} {J2 : Mx} (hB : bOk B) (hm : mOk B J2) (kk : LK Γ g b0 i ad ad2) : Go Γ g 4 room_1 46 1431 (LX g ad ad2 B J B J2) 972 [(3, .int (nI i)), (2, .ref (ad2 0)), (1, .ref (ad 0)), (0, .ref b0)] [] := by
  obtain ⟨N, K, b, z, le, rf, hd, ln, vl⟩ := B
  obtain ⟨T, ts, te, tk0, br⟩ := J
  obtain ⟨aw, at1, tk, so, va, lm, ol, ah, lt, lo⟩ := J2
  obtain rfl : aw = 6 := hm.1
  refine Go.aload_n X 2 dL_law_972 rfl ?_
  refine Go.arg X S 1 dL_law_973 dL_law_974 dL_law_975 dL_law_976 dL_law_977 rfl (by omega) hL ?_
  refine Go.callC X (b_who g ad N K b z le rf hd ln vl T ts te tk0 br (xs (i + 1)) hB.1) lcal_X3_who gL_law_X3_who rfl rfl rfl dL_law_978 (fun J9 => ?_)
  refine Go.aload_n X 1 dL_law_981 rfl ?_
  refine Go.arg X S 1 dL_law_982 dL_law_983 dL_law_984 dL_law_985 dL_law_986 rfl (by omega) hL ?_
  refine Go.callM X (e_who g ad2 N K b z le rf hd ln vl at1 tk so va lm ol ah lt lo (xs (i + 1)) hB.1 hB.2.2.2.2.2 hm) lcal_X4_who gL_law_X4_who rfl rfl rfl dL_law_987 (fun J4 hJ => ?_)
  exact Go.icmp_eq X 1852 dL_law_990 rfl (fun _ => kk _ _ _ (k_who hB (xs (i + 1))) hJ) (fun h => absurd rfl h)
set_option maxHeartbeats 4000000 in
set_option maxRecDepth 100000 in
theorem lwz_22 {Γ : GT} {g : gT} {b0 L : Nat} {xs : Nat → Int32} (X : Cx Γ g 4 cL_law RL wsL_law) (S : Sx Γ b0 L xs) (hL : L ≤ 3072) {i : Nat} (hi : i + 6 ≤ L) {ad ad2 : Nat → Nat} {B : Bx} {J : Jx} {J2 : Mx} (hB : bOk B) (hm : mOk B J2) (kk : LK Γ g b0 i ad ad2) : Go Γ g 4 room_1 46 1431 (LX g ad ad2 B J B J2) 995 [(3, .int (nI i)), (2, .ref (ad2 0)), (1, .ref (ad 0)), (0, .ref b0)] [] := by
  obtain ⟨N, K, b, z, le, rf, hd, ln, vl⟩ := B
  obtain ⟨T, ts, te, tk0, br⟩ := J
  obtain ⟨aw, at1, tk, so, va, lm, ol, ah, lt, lo⟩ := J2
  obtain rfl : aw = 6 := hm.1
  refine Go.aload_n X 2 dL_law_995 rfl ?_
  refine Go.arg X S 1 dL_law_996 dL_law_997 dL_law_998 dL_law_999 dL_law_1000 rfl (by omega) hL ?_
  refine Go.callC X (b_first g ad N K b z le rf hd ln vl T ts te tk0 br (xs (i + 1)) hB.1) lcal_X3_first gL_law_X3_first rfl rfl rfl dL_law_1001 (fun J9 => ?_)
  refine Go.aload_n X 1 dL_law_1004 rfl ?_
  refine Go.arg X S 1 dL_law_1005 dL_law_1006 dL_law_1007 dL_law_1008 dL_law_1009 rfl (by omega) hL ?_
  refine Go.callM X (e_first g ad2 N K b z le rf hd ln vl at1 tk so va lm ol ah lt lo (xs (i + 1)) hB.1 hB.2.2.2.2.2 hm) lcal_X4_first gL_law_X4_first rfl rfl rfl dL_law_1010 (fun J4 hJ => ?_)
  exact Go.icmp_eq X 1852 dL_law_1013 rfl (fun _ => kk _ _ _ (k_first hB (xs (i + 1))) hJ) (fun h => absurd rfl h)
set_option maxHeartbeats 4000000 in
set_option maxRecDepth 100000 in
theorem lwz_23 {Γ : GT} {g : gT} {b0 L : Nat} {xs : Nat → Int32} (X : Cx Γ g 4 cL_law RL wsL_law) (S : Sx Γ b0 L xs) (hL : L ≤ 3072) {i : Nat} (hi : i + 6 ≤ L) {ad ad2 : Nat → Nat} {B : Bx} {J : Jx} {J2 : Mx} (hB : bOk B) (hm : mOk B J2) (kk : LK Γ g b0 i ad ad2) : Go Γ g 4 room_1 46 1431 (LX g ad ad2 B J B J2) 1018 [(3, .int (nI i)), (2, .ref (ad2 0)), (1, .ref (ad 0)), (0, .ref b0)] [] := by
  obtain ⟨N, K, b, z, le, rf, hd, ln, vl⟩ := B
  obtain ⟨T, ts, te, tk0, br⟩ := J
  obtain ⟨aw, at1, tk, so, va, lm, ol, ah, lt, lo⟩ := J2
  obtain rfl : aw = 6 := hm.1
  refine Go.aload_n X 2 dL_law_1018 rfl ?_
  refine Go.arg X S 1 dL_law_1019 dL_law_1020 dL_law_1021 dL_law_1022 dL_law_1023 rfl (by omega) hL ?_
  refine Go.callC X (b_lasts g ad N K b z le rf hd ln vl T ts te tk0 br (xs (i + 1)) hB.1) lcal_X3_lasts gL_law_X3_lasts rfl rfl rfl dL_law_1024 (fun J9 => ?_)
  refine Go.aload_n X 1 dL_law_1027 rfl ?_
  refine Go.arg X S 1 dL_law_1028 dL_law_1029 dL_law_1030 dL_law_1031 dL_law_1032 rfl (by omega) hL ?_
  refine Go.callM X (e_lasts g ad2 N K b z le rf hd ln vl at1 tk so va lm ol ah lt lo (xs (i + 1)) hB.1 hB.2.2.2.2.2 hm) lcal_X4_lasts gL_law_X4_lasts rfl rfl rfl dL_law_1033 (fun J4 hJ => ?_)
  exact Go.icmp_eq X 1852 dL_law_1036 rfl (fun _ => kk _ _ _ (k_lasts hB (xs (i + 1))) hJ) (fun h => absurd rfl h)
set_option maxHeartbeats 4000000 in
set_option maxRecDepth 100000 in
theorem lwz_24 {Γ : GT} {g : gT} {b0 L : Nat} {xs : Nat → Int32} (X : Cx Γ g 4 cL_law RL wsL_law) (S : Sx Γ b0 L xs) (hL : L ≤ 3072) {i : Nat} (hi : i + 6 ≤ L) {ad ad2 : Nat → Nat} {B : Bx} {J : Jx} {J2 : Mx} (hB : bOk B) (hm : mOk B J2) (kk : LK Γ g b0 i ad ad2) : Go Γ g 4 room_1 46 1431 (LX g ad ad2 B J B J2) 1041 [(3, .int (nI i)), (2, .ref (ad2 0)), (1, .ref (ad 0)), (0, .ref b0)] [] := by
  obtain ⟨N, K, b, z, le, rf, hd, ln, vl⟩ := B
  obtain ⟨T, ts, te, tk0, br⟩ := J
  obtain ⟨aw, at1, tk, so, va, lm, ol, ah, lt, lo⟩ := J2
  obtain rfl : aw = 6 := hm.1
  refine Go.aload_n X 2 dL_law_1041 rfl ?_
  refine Go.callC X (b_ends g ad N K b z le rf hd ln vl T ts te tk0 br hB.1) lcal_X3_ends gL_law_X3_ends rfl rfl rfl dL_law_1042 (fun J9 => ?_)
  refine Go.aload_n X 1 dL_law_1045 rfl ?_
  refine Go.callM X (e_ends g ad2 N K b z le rf hd ln vl at1 tk so va lm ol ah lt lo hB.1 hB.2.2.2.2.2 hm) lcal_X4_ends gL_law_X4_ends rfl rfl rfl dL_law_1046 (fun J4 hJ => ?_)
  exact Go.icmp_eq X 1852 dL_law_1049 rfl (fun _ => kk _ _ _ (k_ends hB) hJ) (fun h => absurd rfl h)
set_option maxHeartbeats 4000000 in
set_option maxRecDepth 100000 in
theorem lwz_25 {Γ : GT} {g : gT} {b0 L : Nat} {xs : Nat → Int32} (X : Cx Γ g 4 cL_law RL wsL_law) (S : Sx Γ b0 L xs) (hL : L ≤ 3072) {i : Nat} (hi : i + 6 ≤ L) {ad ad2 : Nat → Nat} {B : Bx} {J : Jx} {J2 : Mx} (hB : bOk B) (hm : mOk B J2) (kk : LK Γ g b0 i ad ad2) : Go Γ g 4 room_1 46 1431 (LX g ad ad2 B J B J2) 1054 [(3, .int (nI i)), (2, .ref (ad2 0)), (1, .ref (ad 0)), (0, .ref b0)] [] := by
  obtain ⟨N, K, b, z, le, rf, hd, ln, vl⟩ := B
  obtain ⟨T, ts, te, tk0, br⟩ := J
  obtain ⟨aw, at1, tk, so, va, lm, ol, ah, lt, lo⟩ := J2
  obtain rfl : aw = 6 := hm.1
  refine Go.aload_n X 2 dL_law_1054 rfl ?_
  refine Go.arg X S 1 dL_law_1055 dL_law_1056 dL_law_1057 dL_law_1058 dL_law_1059 rfl (by omega) hL ?_
  refine Go.callC X (b_agree g ad N K b z le rf hd ln vl T ts te tk0 br (xs (i + 1)) hB.1) lcal_X3_agree gL_law_X3_agree rfl rfl rfl dL_law_1060 (fun J9 => ?_)
  refine Go.aload_n X 1 dL_law_1063 rfl ?_
  refine Go.arg X S 1 dL_law_1064 dL_law_1065 dL_law_1066 dL_law_1067 dL_law_1068 rfl (by omega) hL ?_
  refine Go.callM X (e_agree g ad2 N K b z le rf hd ln vl at1 tk so va lm ol ah lt lo (xs (i + 1)) hB.1 hB.2.2.2.2.2 hm) lcal_X4_agree gL_law_X4_agree rfl rfl rfl dL_law_1069 (fun J4 hJ => ?_)
  exact Go.icmp_eq X 1852 dL_law_1072 rfl (fun _ => kk _ _ _ (k_agree hB (xs (i + 1))) hJ) (fun h => absurd rfl h)
set_option maxHeartbeats 4000000 in
set_option maxRecDepth 100000 in
theorem lwz_26 {Γ : GT} {g : gT} {b0 L : Nat} {xs : Nat → Int32} (X : Cx Γ g 4 cL_law RL wsL_law) (S : Sx Γ b0 L xs) (hL : L ≤ 3072) {i : Nat} (hi : i + 6 ≤ L) {ad ad2 : Nat → Nat} {B : Bx} {J : Jx} {J2 : Mx} (hB : bOk B) (hm : mOk B J2) (kk : LK Γ g b0 i ad ad2) : Go Γ g 4 room_1 46 1431 (LX g ad ad2 B J B J2) 1077 [(3, .int (nI i)), (2, .ref (ad2 0)), (1, .ref (ad 0)), (0, .ref b0)] [] := by
  obtain ⟨N, K, b, z, le, rf, hd, ln, vl⟩ := B
  obtain ⟨T, ts, te, tk0, br⟩ := J
  obtain ⟨aw, at1, tk, so, va, lm, ol, ah, lt, lo⟩ := J2
  obtain rfl : aw = 6 := hm.1
  refine Go.aload_n X 2 dL_law_1077 rfl ?_
  refine Go.callC X (b_surprises g ad N K b z le rf hd ln vl T ts te tk0 br hB.1) lcal_X3_surprises gL_law_X3_surprises rfl rfl rfl dL_law_1078 (fun J9 => ?_)
  refine Go.aload_n X 1 dL_law_1081 rfl ?_
  refine Go.callM X (e_surprises g ad2 N K b z le rf hd ln vl at1 tk so va lm ol ah lt lo hB.1 hB.2.2.2.2.2 hm) lcal_X4_surprises gL_law_X4_surprises rfl rfl rfl dL_law_1082 (fun J4 hJ => ?_)
  exact Go.icmp_eq X 1852 dL_law_1085 rfl (fun _ => kk _ _ _ (k_surprises hB) hJ) (fun h => absurd rfl h)
set_option maxHeartbeats 4000000 in
set_option maxRecDepth 100000 in
theorem lwz_27 {Γ : GT} {g : gT} {b0 L : Nat} {xs : Nat → Int32} (X : Cx Γ g 4 cL_law RL wsL_law) (S : Sx Γ b0 L xs) (hL : L ≤ 3072) {i : Nat} (hi : i + 6 ≤ L) {ad ad2 : Nat → Nat} {B : Bx} {J : Jx} {J2 : Mx} (hB : bOk B) (hm : mOk B J2) (kk : LK Γ g b0 i ad ad2) : Go Γ g 4 room_1 46 1431 (LX g ad ad2 B J B J2) 1090 [(3, .int (nI i)), (2, .ref (ad2 0)), (1, .ref (ad 0)), (0, .ref b0)] [] := by
  obtain ⟨N, K, b, z, le, rf, hd, ln, vl⟩ := B
  obtain ⟨T, ts, te, tk0, br⟩ := J
  obtain ⟨aw, at1, tk, so, va, lm, ol, ah, lt, lo⟩ := J2
  obtain rfl : aw = 6 := hm.1
  refine Go.aload_n X 2 dL_law_1090 rfl ?_
  refine Go.arg X S 1 dL_law_1091 dL_law_1092 dL_law_1093 dL_law_1094 dL_law_1095 rfl (by omega) hL ?_
  refine Go.callC X (b_odds g ad N K b z le rf hd ln vl T ts te tk0 br (xs (i + 1)) hB.1) lcal_X3_odds gL_law_X3_odds rfl rfl rfl dL_law_1096 (fun J9 => ?_)
  refine Go.aload_n X 1 dL_law_1099 rfl ?_
  refine Go.arg X S 1 dL_law_1100 dL_law_1101 dL_law_1102 dL_law_1103 dL_law_1104 rfl (by omega) hL ?_
  refine Go.callM X (e_odds g ad2 N K b z le rf hd ln vl at1 tk so va lm ol ah lt lo (xs (i + 1)) hB.1 hB.2.2.2.2.2 hm) lcal_X4_odds gL_law_X4_odds rfl rfl rfl dL_law_1105 (fun J4 hJ => ?_)
  exact Go.icmp_eq X 1852 dL_law_1108 rfl (fun _ => kk _ _ _ (k_odds hB (xs (i + 1))) hJ) (fun h => absurd rfl h)
set_option maxHeartbeats 4000000 in
set_option maxRecDepth 100000 in
theorem lwz_28 {Γ : GT} {g : gT} {b0 L : Nat} {xs : Nat → Int32} (X : Cx Γ g 4 cL_law RL wsL_law) (S : Sx Γ b0 L xs) (hL : L ≤ 3072) {i : Nat} (hi : i + 6 ≤ L) {ad ad2 : Nat → Nat} {B : Bx} {J : Jx} {J2 : Mx} (hB : bOk B) (hm : mOk B J2) (kk : LK Γ g b0 i ad ad2) : Go Γ g 4 room_1 46 1431 (LX g ad ad2 B J B J2) 1113 [(3, .int (nI i)), (2, .ref (ad2 0)), (1, .ref (ad 0)), (0, .ref b0)] [] := by
  obtain ⟨N, K, b, z, le, rf, hd, ln, vl⟩ := B
  obtain ⟨T, ts, te, tk0, br⟩ := J
  obtain ⟨aw, at1, tk, so, va, lm, ol, ah, lt, lo⟩ := J2
  obtain rfl : aw = 6 := hm.1
  refine Go.aload_n X 2 dL_law_1113 rfl ?_
  refine Go.callC X (b_likeliest g ad N K b z le rf hd ln vl T ts te tk0 br hB.1) lcal_X3_likeliest gL_law_X3_likeliest rfl rfl rfl dL_law_1114 (fun J9 => ?_)
  refine Go.aload_n X 1 dL_law_1117 rfl ?_
  refine Go.callM X (e_likeliest g ad2 N K b z le rf hd ln vl at1 tk so va lm ol ah lt lo hB.1 hB.2.2.2.2.2 hm) lcal_X4_likeliest gL_law_X4_likeliest rfl rfl rfl dL_law_1118 (fun J4 hJ => ?_)
  exact Go.icmp_eq X 1852 dL_law_1121 rfl (fun _ => kk _ _ _ (k_likeliest hB) hJ) (fun h => absurd rfl h)
set_option maxHeartbeats 4000000 in
set_option maxRecDepth 100000 in
theorem lwz_29 {Γ : GT} {g : gT} {b0 L : Nat} {xs : Nat → Int32} (X : Cx Γ g 4 cL_law RL wsL_law) (S : Sx Γ b0 L xs) (hL : L ≤ 3072) {i : Nat} (hi : i + 6 ≤ L) {ad ad2 : Nat → Nat} {B : Bx} {J : Jx} {J2 : Mx} (hB : bOk B) (hm : mOk B J2) (kk : LK Γ g b0 i ad ad2) : Go Γ g 4 room_1 46 1431 (LX g ad ad2 B J B J2) 1126 [(3, .int (nI i)), (2, .ref (ad2 0)), (1, .ref (ad 0)), (0, .ref b0)] [] := by
  obtain ⟨N, K, b, z, le, rf, hd, ln, vl⟩ := B
  obtain ⟨T, ts, te, tk0, br⟩ := J
  obtain ⟨aw, at1, tk, so, va, lm, ol, ah, lt, lo⟩ := J2
  obtain rfl : aw = 6 := hm.1
  refine Go.aload_n X 2 dL_law_1126 rfl ?_
  refine Go.callC X (b_caught g ad N K b z le rf hd ln vl T ts te tk0 br hB.1) lcal_X3_caught gL_law_X3_caught rfl rfl rfl dL_law_1127 (fun J9 => ?_)
  refine Go.aload_n X 1 dL_law_1130 rfl ?_
  refine Go.callM X (e_caught g ad2 N K b z le rf hd ln vl at1 tk so va lm ol ah lt lo hB.1 hB.2.2.2.2.2 hm) lcal_X4_caught gL_law_X4_caught rfl rfl rfl dL_law_1131 (fun J4 hJ => ?_)
  exact Go.icmp_eq X 1852 dL_law_1134 rfl (fun _ => kk _ _ _ (k_caught hB) hJ) (fun h => absurd rfl h)
set_option maxHeartbeats 4000000 in
set_option maxRecDepth 100000 in
theorem lwz_30 {Γ : GT} {g : gT} {b0 L : Nat} {xs : Nat → Int32} (X : Cx Γ g 4 cL_law RL wsL_law) (S : Sx Γ b0 L xs) (hL : L ≤ 3072) {i : Nat} (hi : i + 6 ≤ L) {ad ad2 : Nat → Nat} {B : Bx} {J : Jx} {J2 : Mx} (hB : bOk B) (hm : mOk B J2) (kk : LK Γ g b0 i ad ad2) : Go Γ g 4 room_1 46 1431 (LX g ad ad2 B J B J2) 1139 [(3, .int (nI i)), (2, .ref (ad2 0)), (1, .ref (ad 0)), (0, .ref b0)] [] := by
  obtain ⟨N, K, b, z, le, rf, hd, ln, vl⟩ := B
  obtain ⟨T, ts, te, tk0, br⟩ := J
  obtain ⟨aw, at1, tk, so, va, lm, ol, ah, lt, lo⟩ := J2
  obtain rfl : aw = 6 := hm.1
  refine Go.aload_n X 2 dL_law_1139 rfl ?_
  refine Go.arg X S 1 dL_law_1140 dL_law_1141 dL_law_1142 dL_law_1143 dL_law_1144 rfl (by omega) hL ?_
  refine Go.arg X S 2 dL_law_1145 dL_law_1146 dL_law_1147 dL_law_1148 dL_law_1149 rfl (by omega) hL ?_
  refine Go.callC X (b_best g ad N K b z le rf hd ln vl T ts te tk0 br (xs (i + 1)) (xs (i + 2)) hB.1) lcal_X3_best gL_law_X3_best rfl rfl rfl dL_law_1150 (fun J9 => ?_)
  refine Go.aload_n X 1 dL_law_1153 rfl ?_
  refine Go.arg X S 1 dL_law_1154 dL_law_1155 dL_law_1156 dL_law_1157 dL_law_1158 rfl (by omega) hL ?_
  refine Go.arg X S 2 dL_law_1159 dL_law_1160 dL_law_1161 dL_law_1162 dL_law_1163 rfl (by omega) hL ?_
  refine Go.callM X (e_best g ad2 N K b z le rf hd ln vl at1 tk so va lm ol ah lt lo (xs (i + 1)) (xs (i + 2)) hB.1 hB.2.2.2.2.2 hm) lcal_X4_best gL_law_X4_best rfl rfl rfl dL_law_1164 (fun J4 hJ => ?_)
  exact Go.icmp_eq X 1852 dL_law_1167 rfl (fun _ => kk _ _ _ (k_best hB (xs (i + 1)) (xs (i + 2))) hJ) (fun h => absurd rfl h)
set_option maxHeartbeats 4000000 in
set_option maxRecDepth 100000 in
theorem lwz_31 {Γ : GT} {g : gT} {b0 L : Nat} {xs : Nat → Int32} (X : Cx Γ g 4 cL_law RL wsL_law) (S : Sx Γ b0 L xs) (hL : L ≤ 3072) {i : Nat} (hi : i + 6 ≤ L) {ad ad2 : Nat → Nat} {B : Bx} {J : Jx} {J2 : Mx} (hB : bOk B) (hm : mOk B J2) (kk : LK Γ g b0 i ad ad2) : Go Γ g 4 room_1 46 1431 (LX g ad ad2 B J B J2) 1172 [(3, .int (nI i)), (2, .ref (ad2 0)), (1, .ref (ad 0)), (0, .ref b0)] [] := by
  obtain ⟨N, K, b, z, le, rf, hd, ln, vl⟩ := B
  obtain ⟨T, ts, te, tk0, br⟩ := J
  obtain ⟨aw, at1, tk, so, va, lm, ol, ah, lt, lo⟩ := J2
  obtain rfl : aw = 6 := hm.1
  refine Go.aload_n X 2 dL_law_1172 rfl ?_
  refine Go.arg X S 1 dL_law_1173 dL_law_1174 dL_law_1175 dL_law_1176 dL_law_1177 rfl (by omega) hL ?_
  refine Go.arg X S 2 dL_law_1178 dL_law_1179 dL_law_1180 dL_law_1181 dL_law_1182 rfl (by omega) hL ?_
  refine Go.callC X (b_gain g ad N K b z le rf hd ln vl T ts te tk0 br (xs (i + 1)) (xs (i + 2)) hB.1) lcal_X3_gain gL_law_X3_gain rfl rfl rfl dL_law_1183 (fun J9 => ?_)
  refine Go.aload_n X 1 dL_law_1186 rfl ?_
  refine Go.arg X S 1 dL_law_1187 dL_law_1188 dL_law_1189 dL_law_1190 dL_law_1191 rfl (by omega) hL ?_
  refine Go.arg X S 2 dL_law_1192 dL_law_1193 dL_law_1194 dL_law_1195 dL_law_1196 rfl (by omega) hL ?_
  refine Go.callM X (e_gain g ad2 N K b z le rf hd ln vl at1 tk so va lm ol ah lt lo (xs (i + 1)) (xs (i + 2)) hB.1 hB.2.2.2.2.2 hm) lcal_X4_gain gL_law_X4_gain rfl rfl rfl dL_law_1197 (fun J4 hJ => ?_)
  exact Go.icmp_eq X 1852 dL_law_1200 rfl (fun _ => kk _ _ _ (k_gain hB (xs (i + 1)) (xs (i + 2))) hJ) (fun h => absurd rfl h)
set_option maxHeartbeats 4000000 in
set_option maxRecDepth 100000 in
theorem lwz_32 {Γ : GT} {g : gT} {b0 L : Nat} {xs : Nat → Int32} (X : Cx Γ g 4 cL_law RL wsL_law) (S : Sx Γ b0 L xs) (hL : L ≤ 3072) {i : Nat} (hi : i + 6 ≤ L) {ad ad2 : Nat → Nat} {B : Bx} {J : Jx} {J2 : Mx} (hB : bOk B) (hm : mOk B J2) (kk : LK Γ g b0 i ad ad2) : Go Γ g 4 room_1 46 1431 (LX g ad ad2 B J B J2) 1205 [(3, .int (nI i)), (2, .ref (ad2 0)), (1, .ref (ad 0)), (0, .ref b0)] [] := by
  obtain ⟨N, K, b, z, le, rf, hd, ln, vl⟩ := B
  obtain ⟨T, ts, te, tk0, br⟩ := J
  obtain ⟨aw, at1, tk, so, va, lm, ol, ah, lt, lo⟩ := J2
  obtain rfl : aw = 6 := hm.1
  refine Go.aload_n X 2 dL_law_1205 rfl ?_
  refine Go.arg X S 1 dL_law_1206 dL_law_1207 dL_law_1208 dL_law_1209 dL_law_1210 rfl (by omega) hL ?_
  refine Go.callC X (b_bet g ad N K b z le rf hd ln vl T ts te tk0 br (xs (i + 1)) hB.1) lcal_X3_bet gL_law_X3_bet rfl rfl rfl dL_law_1211 (fun J9 => ?_)
  refine Go.aload_n X 1 dL_law_1214 rfl ?_
  refine Go.arg X S 1 dL_law_1215 dL_law_1216 dL_law_1217 dL_law_1218 dL_law_1219 rfl (by omega) hL ?_
  refine Go.callM X (e_bet g ad2 N K b z le rf hd ln vl at1 tk so va lm ol ah lt lo (xs (i + 1)) hB.1 hB.2.2.2.2.2 hm) lcal_X4_bet gL_law_X4_bet rfl rfl rfl dL_law_1220 (fun J4 hJ => ?_)
  exact Go.icmp_eq X 1852 dL_law_1223 rfl (fun _ => kk _ _ _ (k_bet hB (xs (i + 1))) hJ) (fun h => absurd rfl h)
set_option maxHeartbeats 4000000 in
set_option maxRecDepth 100000 in
theorem lwz_33 {Γ : GT} {g : gT} {b0 L : Nat} {xs : Nat → Int32} (X : Cx Γ g 4 cL_law RL wsL_law) (S : Sx Γ b0 L xs) (hL : L ≤ 3072) {i : Nat} (hi : i + 6 ≤ L) {ad ad2 : Nat → Nat} {B : Bx} {J : Jx} {J2 : Mx} (hB : bOk B) (hm : mOk B J2) (kk : LK Γ g b0 i ad ad2) : Go Γ g 4 room_1 46 1431 (LX g ad ad2 B J B J2) 1228 [(3, .int (nI i)), (2, .ref (ad2 0)), (1, .ref (ad 0)), (0, .ref b0)] [] := by
  obtain ⟨N, K, b, z, le, rf, hd, ln, vl⟩ := B
  obtain ⟨T, ts, te, tk0, br⟩ := J
  obtain ⟨aw, at1, tk, so, va, lm, ol, ah, lt, lo⟩ := J2
  obtain rfl : aw = 6 := hm.1
  refine Go.aload_n X 2 dL_law_1228 rfl ?_
  refine Go.callC X (b_will g ad N K b z le rf hd ln vl T ts te tk0 br hB.1) lcal_X3_will gL_law_X3_will rfl rfl rfl dL_law_1229 (fun J9 => ?_)
  refine Go.aload_n X 1 dL_law_1232 rfl ?_
  refine Go.callM X (e_will g ad2 N K b z le rf hd ln vl at1 tk so va lm ol ah lt lo hB.1 hB.2.2.2.2.2 hm) lcal_X4_will gL_law_X4_will rfl rfl rfl dL_law_1233 (fun J4 hJ => ?_)
  exact Go.icmp_eq X 1852 dL_law_1236 rfl (fun _ => kk _ _ _ (k_will hB) hJ) (fun h => absurd rfl h)
set_option maxHeartbeats 4000000 in
set_option maxRecDepth 100000 in
theorem lwz_34 {Γ : GT} {g : gT} {b0 L : Nat} {xs : Nat → Int32} (X : Cx Γ g 4 cL_law RL wsL_law) (S : Sx Γ b0 L xs) (hL : L ≤ 3072) {i : Nat} (hi : i + 6 ≤ L) {ad ad2 : Nat → Nat} {B : Bx} {J : Jx} {J2 : Mx} (hB : bOk B) (hm : mOk B J2) (kk : LK Γ g b0 i ad ad2) : Go Γ g 4 room_1 46 1431 (LX g ad ad2 B J B J2) 1241 [(3, .int (nI i)), (2, .ref (ad2 0)), (1, .ref (ad 0)), (0, .ref b0)] [] := by
  obtain ⟨N, K, b, z, le, rf, hd, ln, vl⟩ := B
  obtain ⟨T, ts, te, tk0, br⟩ := J
  obtain ⟨aw, at1, tk, so, va, lm, ol, ah, lt, lo⟩ := J2
  obtain rfl : aw = 6 := hm.1
  refine Go.aload_n X 2 dL_law_1241 rfl ?_
  refine Go.arg X S 1 dL_law_1242 dL_law_1243 dL_law_1244 dL_law_1245 dL_law_1246 rfl (by omega) hL ?_
  refine Go.callC X (b_spoils g ad N K b z le rf hd ln vl T ts te tk0 br (xs (i + 1)) hB.1) lcal_X3_spoils gL_law_X3_spoils rfl rfl rfl dL_law_1247 (fun J9 => ?_)
  refine Go.aload_n X 1 dL_law_1250 rfl ?_
  refine Go.arg X S 1 dL_law_1251 dL_law_1252 dL_law_1253 dL_law_1254 dL_law_1255 rfl (by omega) hL ?_
  refine Go.callM X (e_spoils g ad2 N K b z le rf hd ln vl at1 tk so va lm ol ah lt lo (xs (i + 1)) hB.1 hB.2.2.2.2.2 hm) lcal_X4_spoils gL_law_X4_spoils rfl rfl rfl dL_law_1256 (fun J4 hJ => ?_)
  exact Go.icmp_eq X 1852 dL_law_1259 rfl (fun _ => kk _ _ _ (k_spoils hB (xs (i + 1))) hJ) (fun h => absurd rfl h)
set_option maxHeartbeats 4000000 in
set_option maxRecDepth 100000 in
theorem lwz_35 {Γ : GT} {g : gT} {b0 L : Nat} {xs : Nat → Int32} (X : Cx Γ g 4 cL_law RL wsL_law) (S : Sx Γ b0 L xs) (hL : L ≤ 3072) {i : Nat} (hi : i + 6 ≤ L) {ad ad2 : Nat → Nat} {B : Bx} {J : Jx} {J2 : Mx} (hB : bOk B) (hm : mOk B J2) (kk : LK Γ g b0 i ad ad2) : Go Γ g 4 room_1 46 1431 (LX g ad ad2 B J B J2) 1264 [(3, .int (nI i)), (2, .ref (ad2 0)), (1, .ref (ad 0)), (0, .ref b0)] [] := by
  obtain ⟨N, K, b, z, le, rf, hd, ln, vl⟩ := B
  obtain ⟨T, ts, te, tk0, br⟩ := J
  obtain ⟨aw, at1, tk, so, va, lm, ol, ah, lt, lo⟩ := J2
  obtain rfl : aw = 6 := hm.1
  refine Go.aload_n X 2 dL_law_1264 rfl ?_
  refine Go.callC X (b_spoiler g ad N K b z le rf hd ln vl T ts te tk0 br hB.1) lcal_X3_spoiler gL_law_X3_spoiler rfl rfl rfl dL_law_1265 (fun J9 => ?_)
  refine Go.aload_n X 1 dL_law_1268 rfl ?_
  refine Go.callM X (e_spoiler g ad2 N K b z le rf hd ln vl at1 tk so va lm ol ah lt lo hB.1 hB.2.2.2.2.2 hm) lcal_X4_spoiler gL_law_X4_spoiler rfl rfl rfl dL_law_1269 (fun J4 hJ => ?_)
  exact Go.icmp_eq X 1852 dL_law_1272 rfl (fun _ => kk _ _ _ (k_spoiler hB) hJ) (fun h => absurd rfl h)
set_option maxHeartbeats 4000000 in
set_option maxRecDepth 100000 in
theorem lwz_36 {Γ : GT} {g : gT} {b0 L : Nat} {xs : Nat → Int32} (X : Cx Γ g 4 cL_law RL wsL_law) (S : Sx Γ b0 L xs) (hL : L ≤ 3072) {i : Nat} (hi : i + 6 ≤ L) {ad ad2 : Nat → Nat} {B : Bx} {J : Jx} {J2 : Mx} (hB : bOk B) (hm : mOk B J2) (kk : LK Γ g b0 i ad ad2) : Go Γ g 4 room_1 46 1431 (LX g ad ad2 B J B J2) 1277 [(3, .int (nI i)), (2, .ref (ad2 0)), (1, .ref (ad 0)), (0, .ref b0)] [] := by
  obtain ⟨N, K, b, z, le, rf, hd, ln, vl⟩ := B
  obtain ⟨T, ts, te, tk0, br⟩ := J
  obtain ⟨aw, at1, tk, so, va, lm, ol, ah, lt, lo⟩ := J2
  obtain rfl : aw = 6 := hm.1
  refine Go.aload_n X 2 dL_law_1277 rfl ?_
  refine Go.arg X S 1 dL_law_1278 dL_law_1279 dL_law_1280 dL_law_1281 dL_law_1282 rfl (by omega) hL ?_
  refine Go.arg X S 2 dL_law_1283 dL_law_1284 dL_law_1285 dL_law_1286 dL_law_1287 rfl (by omega) hL ?_
  refine Go.callC X (b_deeper g ad N K b z le rf hd ln vl T ts te tk0 br (xs (i + 1)) (xs (i + 2)) hB.1) lcal_X3_deeper gL_law_X3_deeper rfl rfl rfl dL_law_1288 (fun J9 => ?_)
  refine Go.aload_n X 1 dL_law_1291 rfl ?_
  refine Go.arg X S 1 dL_law_1292 dL_law_1293 dL_law_1294 dL_law_1295 dL_law_1296 rfl (by omega) hL ?_
  refine Go.arg X S 2 dL_law_1297 dL_law_1298 dL_law_1299 dL_law_1300 dL_law_1301 rfl (by omega) hL ?_
  refine Go.callM X (e_deeper g ad2 N K b z le rf hd ln vl at1 tk so va lm ol ah lt lo (xs (i + 1)) (xs (i + 2)) hB.1 hB.2.2.2.2.2 hm) lcal_X4_deeper gL_law_X4_deeper rfl rfl rfl dL_law_1302 (fun J4 hJ => ?_)
  exact Go.icmp_eq X 1852 dL_law_1305 rfl (fun _ => kk _ _ _ (k_deeper hB (xs (i + 1)) (xs (i + 2))) hJ) (fun h => absurd rfl h)
set_option maxHeartbeats 4000000 in
set_option maxRecDepth 100000 in
theorem lwz_37 {Γ : GT} {g : gT} {b0 L : Nat} {xs : Nat → Int32} (X : Cx Γ g 4 cL_law RL wsL_law) (S : Sx Γ b0 L xs) (hL : L ≤ 3072) {i : Nat} (hi : i + 6 ≤ L) {ad ad2 : Nat → Nat} {B : Bx} {J : Jx} {J2 : Mx} (hB : bOk B) (hm : mOk B J2) (kk : LK Γ g b0 i ad ad2) : Go Γ g 4 room_1 46 1431 (LX g ad ad2 B J B J2) 1310 [(3, .int (nI i)), (2, .ref (ad2 0)), (1, .ref (ad 0)), (0, .ref b0)] [] := by
  obtain ⟨N, K, b, z, le, rf, hd, ln, vl⟩ := B
  obtain ⟨T, ts, te, tk0, br⟩ := J
  obtain ⟨aw, at1, tk, so, va, lm, ol, ah, lt, lo⟩ := J2
  obtain rfl : aw = 6 := hm.1
  refine Go.aload_n X 2 dL_law_1310 rfl ?_
  refine Go.arg X S 1 dL_law_1311 dL_law_1312 dL_law_1313 dL_law_1314 dL_law_1315 rfl (by omega) hL ?_
  refine Go.arg X S 2 dL_law_1316 dL_law_1317 dL_law_1318 dL_law_1319 dL_law_1320 rfl (by omega) hL ?_
  refine Go.callC X (b_foresees g ad N K b z le rf hd ln vl T ts te tk0 br (xs (i + 1)) (xs (i + 2)) hB.1) lcal_X3_foresees gL_law_X3_foresees rfl rfl rfl dL_law_1321 (fun J9 => ?_)
  refine Go.aload_n X 1 dL_law_1324 rfl ?_
  refine Go.arg X S 1 dL_law_1325 dL_law_1326 dL_law_1327 dL_law_1328 dL_law_1329 rfl (by omega) hL ?_
  refine Go.arg X S 2 dL_law_1330 dL_law_1331 dL_law_1332 dL_law_1333 dL_law_1334 rfl (by omega) hL ?_
  refine Go.callM X (e_foresees g ad2 N K b z le rf hd ln vl at1 tk so va lm ol ah lt lo (xs (i + 1)) (xs (i + 2)) hB.1 hB.2.2.2.2.2 hm) lcal_X4_foresees gL_law_X4_foresees rfl rfl rfl dL_law_1335 (fun J4 hJ => ?_)
  exact Go.icmp_eq X 1852 dL_law_1338 rfl (fun _ => kk _ _ _ (k_foresees hB (xs (i + 1)) (xs (i + 2))) hJ) (fun h => absurd rfl h)
set_option maxHeartbeats 4000000 in
set_option maxRecDepth 100000 in
theorem lwz_38 {Γ : GT} {g : gT} {b0 L : Nat} {xs : Nat → Int32} (X : Cx Γ g 4 cL_law RL wsL_law) (S : Sx Γ b0 L xs) (hL : L ≤ 3072) {i : Nat} (hi : i + 6 ≤ L) {ad ad2 : Nat → Nat} {B : Bx} {J : Jx} {J2 : Mx} (hB : bOk B) (hm : mOk B J2) (kk : LK Γ g b0 i ad ad2) : Go Γ g 4 room_1 46 1431 (LX g ad ad2 B J B J2) 1343 [(3, .int (nI i)), (2, .ref (ad2 0)), (1, .ref (ad 0)), (0, .ref b0)] [] := by
  obtain ⟨N, K, b, z, le, rf, hd, ln, vl⟩ := B
  obtain ⟨T, ts, te, tk0, br⟩ := J
  obtain ⟨aw, at1, tk, so, va, lm, ol, ah, lt, lo⟩ := J2
  obtain rfl : aw = 6 := hm.1
  refine Go.aload_n X 2 dL_law_1343 rfl ?_
  refine Go.arg X S 1 dL_law_1344 dL_law_1345 dL_law_1346 dL_law_1347 dL_law_1348 rfl (by omega) hL ?_
  refine Go.callC X (b_foreseen g ad N K b z le rf hd ln vl T ts te tk0 br (xs (i + 1)) hB.1) lcal_X3_foreseen gL_law_X3_foreseen rfl rfl rfl dL_law_1349 (fun J9 => ?_)
  refine Go.aload_n X 1 dL_law_1352 rfl ?_
  refine Go.arg X S 1 dL_law_1353 dL_law_1354 dL_law_1355 dL_law_1356 dL_law_1357 rfl (by omega) hL ?_
  refine Go.callM X (e_foreseen g ad2 N K b z le rf hd ln vl at1 tk so va lm ol ah lt lo (xs (i + 1)) hB.1 hB.2.2.2.2.2 hm) lcal_X4_foreseen gL_law_X4_foreseen rfl rfl rfl dL_law_1358 (fun J4 hJ => ?_)
  exact Go.icmp_eq X 1852 dL_law_1361 rfl (fun _ => kk _ _ _ (k_foreseen hB (xs (i + 1))) hJ) (fun h => absurd rfl h)
set_option maxHeartbeats 4000000 in
set_option maxRecDepth 100000 in
theorem lwz_39 {Γ : GT} {g : gT} {b0 L : Nat} {xs : Nat → Int32} (X : Cx Γ g 4 cL_law RL wsL_law) (S : Sx Γ b0 L xs) (hL : L ≤ 3072) {i : Nat} (hi : i + 6 ≤ L) {ad ad2 : Nat → Nat} {B : Bx} {J : Jx} {J2 : Mx} (hB : bOk B) (hm : mOk B J2) (kk : LK Γ g b0 i ad ad2) : Go Γ g 4 room_1 46 1431 (LX g ad ad2 B J B J2) 1366 [(3, .int (nI i)), (2, .ref (ad2 0)), (1, .ref (ad 0)), (0, .ref b0)] [] := by
  obtain ⟨N, K, b, z, le, rf, hd, ln, vl⟩ := B
  obtain ⟨T, ts, te, tk0, br⟩ := J
  obtain ⟨aw, at1, tk, so, va, lm, ol, ah, lt, lo⟩ := J2
  obtain rfl : aw = 6 := hm.1
  refine Go.aload_n X 2 dL_law_1366 rfl ?_
  refine Go.callC X (b_deepest g ad N K b z le rf hd ln vl T ts te tk0 br hB.1) lcal_X3_deepest gL_law_X3_deepest rfl rfl rfl dL_law_1367 (fun J9 => ?_)
  refine Go.aload_n X 1 dL_law_1370 rfl ?_
  refine Go.callM X (e_deepest g ad2 N K b z le rf hd ln vl at1 tk so va lm ol ah lt lo hB.1 hB.2.2.2.2.2 hm) lcal_X4_deepest gL_law_X4_deepest rfl rfl rfl dL_law_1371 (fun J4 hJ => ?_)
  exact Go.icmp_eq X 1852 dL_law_1374 rfl (fun _ => kk _ _ _ (k_deepest hB) hJ) (fun h => absurd rfl h)
