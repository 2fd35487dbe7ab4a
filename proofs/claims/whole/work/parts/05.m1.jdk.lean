/-! 05.m1.jdk -/
theorem cal_J6_numberOfLeadingZeros_0f7a4 : Cal yJ6_numberOfLeadingZeros_0f7a4 wsJ6_numberOfLeadingZeros_0f7a4 cJ6_numberOfLeadingZeros_0f7a4 2 (some .int) RJ6 1 := ⟨⟨_, rfl⟩, by decide +kernel⟩
theorem cal_J0_coder_7d493 : Cal yJ0_coder_7d493 wsJ0_coder_7d493 cJ0_coder_7d493 1 (some .byte) RJ0 0 := ⟨⟨_, rfl⟩, by decide +kernel⟩
theorem cal_J3_checkIndex_8e157 : Cal yJ3_checkIndex_8e157 wsJ3_checkIndex_8e157 cJ3_checkIndex_8e157 3 (some .int) RJ3 3 := ⟨⟨_, rfl⟩, by decide +kernel⟩
theorem cal_J0_checkIndex_df160 : Cal yJ0_checkIndex_df160 wsJ0_checkIndex_df160 cJ0_checkIndex_df160 2 none RJ0 2 := ⟨⟨_, rfl⟩, by decide +kernel⟩
theorem cal_J0_isLatin1_aae02 : Cal yJ0_isLatin1_aae02 wsJ0_isLatin1_aae02 cJ0_isLatin1_aae02 1 (some .boolean) RJ0 0 := ⟨⟨_, rfl⟩, by decide +kernel⟩
theorem cal_J1_charAt_3b067 : Cal yJ1_charAt_3b067 wsJ1_charAt_3b067 cJ1_charAt_3b067 2 (some .char) RJ1 2 := ⟨⟨_, rfl⟩, by decide +kernel⟩
theorem k_bp_16 : (Int8.ofInt (16)).toInt32 = nI 16 := by decide
theorem k_bp_63 : (Int8.ofInt (63)).toInt32 = nI 63 := by decide
theorem k_bp_31 : (Int8.ofInt (31)).toInt32 = nI 31 := by decide
theorem k_sp_256 : (Int16.ofInt (256)).toInt32 = nI 256 := by decide
theorem k_bp_32 : (Int8.ofInt (32)).toInt32 = nI 32 := by decide
theorem k_sp_255 : (Int16.ofInt (255)).toInt32 = nI 255 := by decide
set_option maxHeartbeats 4000000 in
set_option maxRecDepth 100000 in
theorem c_bitCount (g : gT) (a : Nat) (ha : a < 512) : Cw g yJ6_bitCount_0f7a4 wsJ6_bitCount_0f7a4 0 0 [.int (nI a)] ([]) (some (.int (nI (bcn a)))) ([]) := by
  refine Ct.start (cc := cJ6_bitCount_0f7a4) (nL := 1) (ret := (some .int)) (own := RJ6) (by decide) rfl rfl rfl ?_
  intro Γ X E
  show Go Γ g 1 (rmC 0 0) 0 0 ([]) 0 [(0, .int (nI a))] []
  refine Go.iload_n X 0 dJ6_bitCount_0f7a4_0 rfl ?_
  refine Go.iload_n X 0 dJ6_bitCount_0f7a4_1 rfl ?_
  refine Go.iconst X (nI 1) dJ6_bitCount_0f7a4_2 k_ic_1 ?_
  refine Go.iushr X (((nI a).toUInt32 >>> ((nI 1).toUInt32 &&& Int32.toUInt32 31)).toInt32) dJ6_bitCount_0f7a4_3 rfl ?_
  refine Go.ldcw X (nI 1431655765) dJ6_bitCount_0f7a4_4 (List.mem_of_getElem? (i := 1) (by decide +kernel)) ?_
  refine Go.iand_e X ((((nI a).toUInt32 >>> ((nI 1).toUInt32 &&& Int32.toUInt32 31)).toInt32) &&& (nI 1431655765)) dJ6_bitCount_0f7a4_7 rfl ?_
  refine Go.isub_e X ((nI a) - ((((nI a).toUInt32 >>> ((nI 1).toUInt32 &&& Int32.toUInt32 31)).toInt32) &&& (nI 1431655765))) dJ6_bitCount_0f7a4_8 rfl ?_
  refine Go.istore_n_0 X dJ6_bitCount_0f7a4_9 (by decide) rfl ?_
  refine Go.iload_n X 0 dJ6_bitCount_0f7a4_10 rfl ?_
  refine Go.ldcw X (nI 858993459) dJ6_bitCount_0f7a4_11 (List.mem_of_getElem? (i := 2) (by decide +kernel)) ?_
  refine Go.iand_e X (((nI a) - ((((nI a).toUInt32 >>> ((nI 1).toUInt32 &&& Int32.toUInt32 31)).toInt32) &&& (nI 1431655765))) &&& (nI 858993459)) dJ6_bitCount_0f7a4_14 rfl ?_
  refine Go.iload_n X 0 dJ6_bitCount_0f7a4_15 rfl ?_
  refine Go.iconst X (nI 2) dJ6_bitCount_0f7a4_16 k_ic_2 ?_
  refine Go.iushr X ((((nI a) - ((((nI a).toUInt32 >>> ((nI 1).toUInt32 &&& Int32.toUInt32 31)).toInt32) &&& (nI 1431655765))).toUInt32 >>> ((nI 2).toUInt32 &&& Int32.toUInt32 31)).toInt32) dJ6_bitCount_0f7a4_17 rfl ?_
  refine Go.ldcw X (nI 858993459) dJ6_bitCount_0f7a4_18 (List.mem_of_getElem? (i := 2) (by decide +kernel)) ?_
  refine Go.iand_e X (((((nI a) - ((((nI a).toUInt32 >>> ((nI 1).toUInt32 &&& Int32.toUInt32 31)).toInt32) &&& (nI 1431655765))).toUInt32 >>> ((nI 2).toUInt32 &&& Int32.toUInt32 31)).toInt32) &&& (nI 858993459)) dJ6_bitCount_0f7a4_21 rfl ?_
  refine Go.iadd_e X ((((nI a) - ((((nI a).toUInt32 >>> ((nI 1).toUInt32 &&& Int32.toUInt32 31)).toInt32) &&& (nI 1431655765))) &&& (nI 858993459)) + (((((nI a) - ((((nI a).toUInt32 >>> ((nI 1).toUInt32 &&& Int32.toUInt32 31)).toInt32) &&& (nI 1431655765))).toUInt32 >>> ((nI 2).toUInt32 &&& Int32.toUInt32 31)).toInt32) &&& (nI 858993459))) dJ6_bitCount_0f7a4_22 rfl ?_
  refine Go.istore_n_0 X dJ6_bitCount_0f7a4_23 (by decide) rfl ?_
  refine Go.iload_n X 0 dJ6_bitCount_0f7a4_24 rfl ?_
  refine Go.iload_n X 0 dJ6_bitCount_0f7a4_25 rfl ?_
  refine Go.iconst X (nI 4) dJ6_bitCount_0f7a4_26 k_ic_4 ?_
  refine Go.iushr X ((((((nI a) - ((((nI a).toUInt32 >>> ((nI 1).toUInt32 &&& Int32.toUInt32 31)).toInt32) &&& (nI 1431655765))) &&& (nI 858993459)) + (((((nI a) - ((((nI a).toUInt32 >>> ((nI 1).toUInt32 &&& Int32.toUInt32 31)).toInt32) &&& (nI 1431655765))).toUInt32 >>> ((nI 2).toUInt32 &&& Int32.toUInt32 31)).toInt32) &&& (nI 858993459))).toUInt32 >>> ((nI 4).toUInt32 &&& Int32.toUInt32 31)).toInt32) dJ6_bitCount_0f7a4_27 rfl ?_
  refine Go.iadd_e X (((((nI a) - ((((nI a).toUInt32 >>> ((nI 1).toUInt32 &&& Int32.toUInt32 31)).toInt32) &&& (nI 1431655765))) &&& (nI 858993459)) + (((((nI a) - ((((nI a).toUInt32 >>> ((nI 1).toUInt32 &&& Int32.toUInt32 31)).toInt32) &&& (nI 1431655765))).toUInt32 >>> ((nI 2).toUInt32 &&& Int32.toUInt32 31)).toInt32) &&& (nI 858993459))) + ((((((nI a) - ((((nI a).toUInt32 >>> ((nI 1).toUInt32 &&& Int32.toUInt32 31)).toInt32) &&& (nI 1431655765))) &&& (nI 858993459)) + (((((nI a) - ((((nI a).toUInt32 >>> ((nI 1).toUInt32 &&& Int32.toUInt32 31)).toInt32) &&& (nI 1431655765))).toUInt32 >>> ((nI 2).toUInt32 &&& Int32.toUInt32 31)).toInt32) &&& (nI 858993459))).toUInt32 >>> ((nI 4).toUInt32 &&& Int32.toUInt32 31)).toInt32)) dJ6_bitCount_0f7a4_28 rfl ?_
  refine Go.ldcw X (nI 252645135) dJ6_bitCount_0f7a4_29 (List.mem_of_getElem? (i := 3) (by decide +kernel)) ?_
  refine Go.iand_e X ((((((nI a) - ((((nI a).toUInt32 >>> ((nI 1).toUInt32 &&& Int32.toUInt32 31)).toInt32) &&& (nI 1431655765))) &&& (nI 858993459)) + (((((nI a) - ((((nI a).toUInt32 >>> ((nI 1).toUInt32 &&& Int32.toUInt32 31)).toInt32) &&& (nI 1431655765))).toUInt32 >>> ((nI 2).toUInt32 &&& Int32.toUInt32 31)).toInt32) &&& (nI 858993459))) + ((((((nI a) - ((((nI a).toUInt32 >>> ((nI 1).toUInt32 &&& Int32.toUInt32 31)).toInt32) &&& (nI 1431655765))) &&& (nI 858993459)) + (((((nI a) - ((((nI a).toUInt32 >>> ((nI 1).toUInt32 &&& Int32.toUInt32 31)).toInt32) &&& (nI 1431655765))).toUInt32 >>> ((nI 2).toUInt32 &&& Int32.toUInt32 31)).toInt32) &&& (nI 858993459))).toUInt32 >>> ((nI 4).toUInt32 &&& Int32.toUInt32 31)).toInt32)) &&& (nI 252645135)) dJ6_bitCount_0f7a4_32 rfl ?_
  refine Go.istore_n_0 X dJ6_bitCount_0f7a4_33 (by decide) rfl ?_
  refine Go.iload_n X 0 dJ6_bitCount_0f7a4_34 rfl ?_
  refine Go.iload_n X 0 dJ6_bitCount_0f7a4_35 rfl ?_
  refine Go.bipush X (nI 8) dJ6_bitCount_0f7a4_36 k_bp_8 ?_
  refine Go.iushr X ((((((((nI a) - ((((nI a).toUInt32 >>> ((nI 1).toUInt32 &&& Int32.toUInt32 31)).toInt32) &&& (nI 1431655765))) &&& (nI 858993459)) + (((((nI a) - ((((nI a).toUInt32 >>> ((nI 1).toUInt32 &&& Int32.toUInt32 31)).toInt32) &&& (nI 1431655765))).toUInt32 >>> ((nI 2).toUInt32 &&& Int32.toUInt32 31)).toInt32) &&& (nI 858993459))) + ((((((nI a) - ((((nI a).toUInt32 >>> ((nI 1).toUInt32 &&& Int32.toUInt32 31)).toInt32) &&& (nI 1431655765))) &&& (nI 858993459)) + (((((nI a) - ((((nI a).toUInt32 >>> ((nI 1).toUInt32 &&& Int32.toUInt32 31)).toInt32) &&& (nI 1431655765))).toUInt32 >>> ((nI 2).toUInt32 &&& Int32.toUInt32 31)).toInt32) &&& (nI 858993459))).toUInt32 >>> ((nI 4).toUInt32 &&& Int32.toUInt32 31)).toInt32)) &&& (nI 252645135)).toUInt32 >>> ((nI 8).toUInt32 &&& Int32.toUInt32 31)).toInt32) dJ6_bitCount_0f7a4_38 rfl ?_
  refine Go.iadd_e X (((((((nI a) - ((((nI a).toUInt32 >>> ((nI 1).toUInt32 &&& Int32.toUInt32 31)).toInt32) &&& (nI 1431655765))) &&& (nI 858993459)) + (((((nI a) - ((((nI a).toUInt32 >>> ((nI 1).toUInt32 &&& Int32.toUInt32 31)).toInt32) &&& (nI 1431655765))).toUInt32 >>> ((nI 2).toUInt32 &&& Int32.toUInt32 31)).toInt32) &&& (nI 858993459))) + ((((((nI a) - ((((nI a).toUInt32 >>> ((nI 1).toUInt32 &&& Int32.toUInt32 31)).toInt32) &&& (nI 1431655765))) &&& (nI 858993459)) + (((((nI a) - ((((nI a).toUInt32 >>> ((nI 1).toUInt32 &&& Int32.toUInt32 31)).toInt32) &&& (nI 1431655765))).toUInt32 >>> ((nI 2).toUInt32 &&& Int32.toUInt32 31)).toInt32) &&& (nI 858993459))).toUInt32 >>> ((nI 4).toUInt32 &&& Int32.toUInt32 31)).toInt32)) &&& (nI 252645135)) + ((((((((nI a) - ((((nI a).toUInt32 >>> ((nI 1).toUInt32 &&& Int32.toUInt32 31)).toInt32) &&& (nI 1431655765))) &&& (nI 858993459)) + (((((nI a) - ((((nI a).toUInt32 >>> ((nI 1).toUInt32 &&& Int32.toUInt32 31)).toInt32) &&& (nI 1431655765))).toUInt32 >>> ((nI 2).toUInt32 &&& Int32.toUInt32 31)).toInt32) &&& (nI 858993459))) + ((((((nI a) - ((((nI a).toUInt32 >>> ((nI 1).toUInt32 &&& Int32.toUInt32 31)).toInt32) &&& (nI 1431655765))) &&& (nI 858993459)) + (((((nI a) - ((((nI a).toUInt32 >>> ((nI 1).toUInt32 &&& Int32.toUInt32 31)).toInt32) &&& (nI 1431655765))).toUInt32 >>> ((nI 2).toUInt32 &&& Int32.toUInt32 31)).toInt32) &&& (nI 858993459))).toUInt32 >>> ((nI 4).toUInt32 &&& Int32.toUInt32 31)).toInt32)) &&& (nI 252645135)).toUInt32 >>> ((nI 8).toUInt32 &&& Int32.toUInt32 31)).toInt32)) dJ6_bitCount_0f7a4_39 rfl ?_
  refine Go.istore_n_0 X dJ6_bitCount_0f7a4_40 (by decide) rfl ?_
  refine Go.iload_n X 0 dJ6_bitCount_0f7a4_41 rfl ?_
  refine Go.iload_n X 0 dJ6_bitCount_0f7a4_42 rfl ?_
  refine Go.bipush X (nI 16) dJ6_bitCount_0f7a4_43 k_bp_16 ?_
  refine Go.iushr X (((((((((nI a) - ((((nI a).toUInt32 >>> ((nI 1).toUInt32 &&& Int32.toUInt32 31)).toInt32) &&& (nI 1431655765))) &&& (nI 858993459)) + (((((nI a) - ((((nI a).toUInt32 >>> ((nI 1).toUInt32 &&& Int32.toUInt32 31)).toInt32) &&& (nI 1431655765))).toUInt32 >>> ((nI 2).toUInt32 &&& Int32.toUInt32 31)).toInt32) &&& (nI 858993459))) + ((((((nI a) - ((((nI a).toUInt32 >>> ((nI 1).toUInt32 &&& Int32.toUInt32 31)).toInt32) &&& (nI 1431655765))) &&& (nI 858993459)) + (((((nI a) - ((((nI a).toUInt32 >>> ((nI 1).toUInt32 &&& Int32.toUInt32 31)).toInt32) &&& (nI 1431655765))).toUInt32 >>> ((nI 2).toUInt32 &&& Int32.toUInt32 31)).toInt32) &&& (nI 858993459))).toUInt32 >>> ((nI 4).toUInt32 &&& Int32.toUInt32 31)).toInt32)) &&& (nI 252645135)) + ((((((((nI a) - ((((nI a).toUInt32 >>> ((nI 1).toUInt32 &&& Int32.toUInt32 31)).toInt32) &&& (nI 1431655765))) &&& (nI 858993459)) + (((((nI a) - ((((nI a).toUInt32 >>> ((nI 1).toUInt32 &&& Int32.toUInt32 31)).toInt32) &&& (nI 1431655765))).toUInt32 >>> ((nI 2).toUInt32 &&& Int32.toUInt32 31)).toInt32) &&& (nI 858993459))) + ((((((nI a) - ((((nI a).toUInt32 >>> ((nI 1).toUInt32 &&& Int32.toUInt32 31)).toInt32) &&& (nI 1431655765))) &&& (nI 858993459)) + (((((nI a) - ((((nI a).toUInt32 >>> ((nI 1).toUInt32 &&& Int32.toUInt32 31)).toInt32) &&& (nI 1431655765))).toUInt32 >>> ((nI 2).toUInt32 &&& Int32.toUInt32 31)).toInt32) &&& (nI 858993459))).toUInt32 >>> ((nI 4).toUInt32 &&& Int32.toUInt32 31)).toInt32)) &&& (nI 252645135)).toUInt32 >>> ((nI 8).toUInt32 &&& Int32.toUInt32 31)).toInt32)).toUInt32 >>> ((nI 16).toUInt32 &&& Int32.toUInt32 31)).toInt32) dJ6_bitCount_0f7a4_45 rfl ?_
  refine Go.iadd_e X ((((((((nI a) - ((((nI a).toUInt32 >>> ((nI 1).toUInt32 &&& Int32.toUInt32 31)).toInt32) &&& (nI 1431655765))) &&& (nI 858993459)) + (((((nI a) - ((((nI a).toUInt32 >>> ((nI 1).toUInt32 &&& Int32.toUInt32 31)).toInt32) &&& (nI 1431655765))).toUInt32 >>> ((nI 2).toUInt32 &&& Int32.toUInt32 31)).toInt32) &&& (nI 858993459))) + ((((((nI a) - ((((nI a).toUInt32 >>> ((nI 1).toUInt32 &&& Int32.toUInt32 31)).toInt32) &&& (nI 1431655765))) &&& (nI 858993459)) + (((((nI a) - ((((nI a).toUInt32 >>> ((nI 1).toUInt32 &&& Int32.toUInt32 31)).toInt32) &&& (nI 1431655765))).toUInt32 >>> ((nI 2).toUInt32 &&& Int32.toUInt32 31)).toInt32) &&& (nI 858993459))).toUInt32 >>> ((nI 4).toUInt32 &&& Int32.toUInt32 31)).toInt32)) &&& (nI 252645135)) + ((((((((nI a) - ((((nI a).toUInt32 >>> ((nI 1).toUInt32 &&& Int32.toUInt32 31)).toInt32) &&& (nI 1431655765))) &&& (nI 858993459)) + (((((nI a) - ((((nI a).toUInt32 >>> ((nI 1).toUInt32 &&& Int32.toUInt32 31)).toInt32) &&& (nI 1431655765))).toUInt32 >>> ((nI 2).toUInt32 &&& Int32.toUInt32 31)).toInt32) &&& (nI 858993459))) + ((((((nI a) - ((((nI a).toUInt32 >>> ((nI 1).toUInt32 &&& Int32.toUInt32 31)).toInt32) &&& (nI 1431655765))) &&& (nI 858993459)) + (((((nI a) - ((((nI a).toUInt32 >>> ((nI 1).toUInt32 &&& Int32.toUInt32 31)).toInt32) &&& (nI 1431655765))).toUInt32 >>> ((nI 2).toUInt32 &&& Int32.toUInt32 31)).toInt32) &&& (nI 858993459))).toUInt32 >>> ((nI 4).toUInt32 &&& Int32.toUInt32 31)).toInt32)) &&& (nI 252645135)).toUInt32 >>> ((nI 8).toUInt32 &&& Int32.toUInt32 31)).toInt32)) + (((((((((nI a) - ((((nI a).toUInt32 >>> ((nI 1).toUInt32 &&& Int32.toUInt32 31)).toInt32) &&& (nI 1431655765))) &&& (nI 858993459)) + (((((nI a) - ((((nI a).toUInt32 >>> ((nI 1).toUInt32 &&& Int32.toUInt32 31)).toInt32) &&& (nI 1431655765))).toUInt32 >>> ((nI 2).toUInt32 &&& Int32.toUInt32 31)).toInt32) &&& (nI 858993459))) + ((((((nI a) - ((((nI a).toUInt32 >>> ((nI 1).toUInt32 &&& Int32.toUInt32 31)).toInt32) &&& (nI 1431655765))) &&& (nI 858993459)) + (((((nI a) - ((((nI a).toUInt32 >>> ((nI 1).toUInt32 &&& Int32.toUInt32 31)).toInt32) &&& (nI 1431655765))).toUInt32 >>> ((nI 2).toUInt32 &&& Int32.toUInt32 31)).toInt32) &&& (nI 858993459))).toUInt32 >>> ((nI 4).toUInt32 &&& Int32.toUInt32 31)).toInt32)) &&& (nI 252645135)) + ((((((((nI a) - ((((nI a).toUInt32 >>> ((nI 1).toUInt32 &&& Int32.toUInt32 31)).toInt32) &&& (nI 1431655765))) &&& (nI 858993459)) + (((((nI a) - ((((nI a).toUInt32 >>> ((nI 1).toUInt32 &&& Int32.toUInt32 31)).toInt32) &&& (nI 1431655765))).toUInt32 >>> ((nI 2).toUInt32 &&& Int32.toUInt32 31)).toInt32) &&& (nI 858993459))) + ((((((nI a) - ((((nI a).toUInt32 >>> ((nI 1).toUInt32 &&& Int32.toUInt32 31)).toInt32) &&& (nI 1431655765))) &&& (nI 858993459)) + (((((nI a) - ((((nI a).toUInt32 >>> ((nI 1).toUInt32 &&& Int32.toUInt32 31)).toInt32) &&& (nI 1431655765))).toUInt32 >>> ((nI 2).toUInt32 &&& Int32.toUInt32 31)).toInt32) &&& (nI 858993459))).toUInt32 >>> ((nI 4).toUInt32 &&& Int32.toUInt32 31)).toInt32)) &&& (nI 252645135)).toUInt32 >>> ((nI 8).toUInt32 &&& Int32.toUInt32 31)).toInt32)).toUInt32 >>> ((nI 16).toUInt32 &&& Int32.toUInt32 31)).toInt32)) dJ6_bitCount_0f7a4_46 rfl ?_
  refine Go.istore_n_0 X dJ6_bitCount_0f7a4_47 (by decide) rfl ?_
  refine Go.iload_n X 0 dJ6_bitCount_0f7a4_48 rfl ?_
  refine Go.bipush X (nI 63) dJ6_bitCount_0f7a4_49 k_bp_63 ?_
  refine Go.iand_e X (((((((((nI a) - ((((nI a).toUInt32 >>> ((nI 1).toUInt32 &&& Int32.toUInt32 31)).toInt32) &&& (nI 1431655765))) &&& (nI 858993459)) + (((((nI a) - ((((nI a).toUInt32 >>> ((nI 1).toUInt32 &&& Int32.toUInt32 31)).toInt32) &&& (nI 1431655765))).toUInt32 >>> ((nI 2).toUInt32 &&& Int32.toUInt32 31)).toInt32) &&& (nI 858993459))) + ((((((nI a) - ((((nI a).toUInt32 >>> ((nI 1).toUInt32 &&& Int32.toUInt32 31)).toInt32) &&& (nI 1431655765))) &&& (nI 858993459)) + (((((nI a) - ((((nI a).toUInt32 >>> ((nI 1).toUInt32 &&& Int32.toUInt32 31)).toInt32) &&& (nI 1431655765))).toUInt32 >>> ((nI 2).toUInt32 &&& Int32.toUInt32 31)).toInt32) &&& (nI 858993459))).toUInt32 >>> ((nI 4).toUInt32 &&& Int32.toUInt32 31)).toInt32)) &&& (nI 252645135)) + ((((((((nI a) - ((((nI a).toUInt32 >>> ((nI 1).toUInt32 &&& Int32.toUInt32 31)).toInt32) &&& (nI 1431655765))) &&& (nI 858993459)) + (((((nI a) - ((((nI a).toUInt32 >>> ((nI 1).toUInt32 &&& Int32.toUInt32 31)).toInt32) &&& (nI 1431655765))).toUInt32 >>> ((nI 2).toUInt32 &&& Int32.toUInt32 31)).toInt32) &&& (nI 858993459))) + ((((((nI a) - ((((nI a).toUInt32 >>> ((nI 1).toUInt32 &&& Int32.toUInt32 31)).toInt32) &&& (nI 1431655765))) &&& (nI 858993459)) + (((((nI a) - ((((nI a).toUInt32 >>> ((nI 1).toUInt32 &&& Int32.toUInt32 31)).toInt32) &&& (nI 1431655765))).toUInt32 >>> ((nI 2).toUInt32 &&& Int32.toUInt32 31)).toInt32) &&& (nI 858993459))).toUInt32 >>> ((nI 4).toUInt32 &&& Int32.toUInt32 31)).toInt32)) &&& (nI 252645135)).toUInt32 >>> ((nI 8).toUInt32 &&& Int32.toUInt32 31)).toInt32)) + (((((((((nI a) - ((((nI a).toUInt32 >>> ((nI 1).toUInt32 &&& Int32.toUInt32 31)).toInt32) &&& (nI 1431655765))) &&& (nI 858993459)) + (((((nI a) - ((((nI a).toUInt32 >>> ((nI 1).toUInt32 &&& Int32.toUInt32 31)).toInt32) &&& (nI 1431655765))).toUInt32 >>> ((nI 2).toUInt32 &&& Int32.toUInt32 31)).toInt32) &&& (nI 858993459))) + ((((((nI a) - ((((nI a).toUInt32 >>> ((nI 1).toUInt32 &&& Int32.toUInt32 31)).toInt32) &&& (nI 1431655765))) &&& (nI 858993459)) + (((((nI a) - ((((nI a).toUInt32 >>> ((nI 1).toUInt32 &&& Int32.toUInt32 31)).toInt32) &&& (nI 1431655765))).toUInt32 >>> ((nI 2).toUInt32 &&& Int32.toUInt32 31)).toInt32) &&& (nI 858993459))).toUInt32 >>> ((nI 4).toUInt32 &&& Int32.toUInt32 31)).toInt32)) &&& (nI 252645135)) + ((((((((nI a) - ((((nI a).toUInt32 >>> ((nI 1).toUInt32 &&& Int32.toUInt32 31)).toInt32) &&& (nI 1431655765))) &&& (nI 858993459)) + (((((nI a) - ((((nI a).toUInt32 >>> ((nI 1).toUInt32 &&& Int32.toUInt32 31)).toInt32) &&& (nI 1431655765))).toUInt32 >>> ((nI 2).toUInt32 &&& Int32.toUInt32 31)).toInt32) &&& (nI 858993459))) + ((((((nI a) - ((((nI a).toUInt32 >>> ((nI 1).toUInt32 &&& Int32.toUInt32 31)).toInt32) &&& (nI 1431655765))) &&& (nI 858993459)) + (((((nI a) - ((((nI a).toUInt32 >>> ((nI 1).toUInt32 &&& Int32.toUInt32 31)).toInt32) &&& (nI 1431655765))).toUInt32 >>> ((nI 2).toUInt32 &&& Int32.toUInt32 31)).toInt32) &&& (nI 858993459))).toUInt32 >>> ((nI 4).toUInt32 &&& Int32.toUInt32 31)).toInt32)) &&& (nI 252645135)).toUInt32 >>> ((nI 8).toUInt32 &&& Int32.toUInt32 31)).toInt32)).toUInt32 >>> ((nI 16).toUInt32 &&& Int32.toUInt32 31)).toInt32)) &&& (nI 63)) dJ6_bitCount_0f7a4_51 rfl ?_
  exact Go.iret X E dJ6_bitCount_0f7a4_52 ⟨rv (show (((((((((nI a) - ((((nI a).toUInt32 >>> ((nI 1).toUInt32 &&& Int32.toUInt32 31)).toInt32) &&& (nI 1431655765))) &&& (nI 858993459)) + (((((nI a) - ((((nI a).toUInt32 >>> ((nI 1).toUInt32 &&& Int32.toUInt32 31)).toInt32) &&& (nI 1431655765))).toUInt32 >>> ((nI 2).toUInt32 &&& Int32.toUInt32 31)).toInt32) &&& (nI 858993459))) + ((((((nI a) - ((((nI a).toUInt32 >>> ((nI 1).toUInt32 &&& Int32.toUInt32 31)).toInt32) &&& (nI 1431655765))) &&& (nI 858993459)) + (((((nI a) - ((((nI a).toUInt32 >>> ((nI 1).toUInt32 &&& Int32.toUInt32 31)).toInt32) &&& (nI 1431655765))).toUInt32 >>> ((nI 2).toUInt32 &&& Int32.toUInt32 31)).toInt32) &&& (nI 858993459))).toUInt32 >>> ((nI 4).toUInt32 &&& Int32.toUInt32 31)).toInt32)) &&& (nI 252645135)) + ((((((((nI a) - ((((nI a).toUInt32 >>> ((nI 1).toUInt32 &&& Int32.toUInt32 31)).toInt32) &&& (nI 1431655765))) &&& (nI 858993459)) + (((((nI a) - ((((nI a).toUInt32 >>> ((nI 1).toUInt32 &&& Int32.toUInt32 31)).toInt32) &&& (nI 1431655765))).toUInt32 >>> ((nI 2).toUInt32 &&& Int32.toUInt32 31)).toInt32) &&& (nI 858993459))) + ((((((nI a) - ((((nI a).toUInt32 >>> ((nI 1).toUInt32 &&& Int32.toUInt32 31)).toInt32) &&& (nI 1431655765))) &&& (nI 858993459)) + (((((nI a) - ((((nI a).toUInt32 >>> ((nI 1).toUInt32 &&& Int32.toUInt32 31)).toInt32) &&& (nI 1431655765))).toUInt32 >>> ((nI 2).toUInt32 &&& Int32.toUInt32 31)).toInt32) &&& (nI 858993459))).toUInt32 >>> ((nI 4).toUInt32 &&& Int32.toUInt32 31)).toInt32)) &&& (nI 252645135)).toUInt32 >>> ((nI 8).toUInt32 &&& Int32.toUInt32 31)).toInt32)) + (((((((((nI a) - ((((nI a).toUInt32 >>> ((nI 1).toUInt32 &&& Int32.toUInt32 31)).toInt32) &&& (nI 1431655765))) &&& (nI 858993459)) + (((((nI a) - ((((nI a).toUInt32 >>> ((nI 1).toUInt32 &&& Int32.toUInt32 31)).toInt32) &&& (nI 1431655765))).toUInt32 >>> ((nI 2).toUInt32 &&& Int32.toUInt32 31)).toInt32) &&& (nI 858993459))) + ((((((nI a) - ((((nI a).toUInt32 >>> ((nI 1).toUInt32 &&& Int32.toUInt32 31)).toInt32) &&& (nI 1431655765))) &&& (nI 858993459)) + (((((nI a) - ((((nI a).toUInt32 >>> ((nI 1).toUInt32 &&& Int32.toUInt32 31)).toInt32) &&& (nI 1431655765))).toUInt32 >>> ((nI 2).toUInt32 &&& Int32.toUInt32 31)).toInt32) &&& (nI 858993459))).toUInt32 >>> ((nI 4).toUInt32 &&& Int32.toUInt32 31)).toInt32)) &&& (nI 252645135)) + ((((((((nI a) - ((((nI a).toUInt32 >>> ((nI 1).toUInt32 &&& Int32.toUInt32 31)).toInt32) &&& (nI 1431655765))) &&& (nI 858993459)) + (((((nI a) - ((((nI a).toUInt32 >>> ((nI 1).toUInt32 &&& Int32.toUInt32 31)).toInt32) &&& (nI 1431655765))).toUInt32 >>> ((nI 2).toUInt32 &&& Int32.toUInt32 31)).toInt32) &&& (nI 858993459))) + ((((((nI a) - ((((nI a).toUInt32 >>> ((nI 1).toUInt32 &&& Int32.toUInt32 31)).toInt32) &&& (nI 1431655765))) &&& (nI 858993459)) + (((((nI a) - ((((nI a).toUInt32 >>> ((nI 1).toUInt32 &&& Int32.toUInt32 31)).toInt32) &&& (nI 1431655765))).toUInt32 >>> ((nI 2).toUInt32 &&& Int32.toUInt32 31)).toInt32) &&& (nI 858993459))).toUInt32 >>> ((nI 4).toUInt32 &&& Int32.toUInt32 31)).toInt32)) &&& (nI 252645135)).toUInt32 >>> ((nI 8).toUInt32 &&& Int32.toUInt32 31)).toInt32)).toUInt32 >>> ((nI 16).toUInt32 &&& Int32.toUInt32 31)).toInt32)) &&& (nI 63)) = nI (bcn a) from by exact (by decide +kernel : ∀ a, a < 512 → (((((((((nI a) - ((((nI a).toUInt32 >>> ((nI 1).toUInt32 &&& Int32.toUInt32 31)).toInt32) &&& (nI 1431655765))) &&& (nI 858993459)) + (((((nI a) - ((((nI a).toUInt32 >>> ((nI 1).toUInt32 &&& Int32.toUInt32 31)).toInt32) &&& (nI 1431655765))).toUInt32 >>> ((nI 2).toUInt32 &&& Int32.toUInt32 31)).toInt32) &&& (nI 858993459))) + ((((((nI a) - ((((nI a).toUInt32 >>> ((nI 1).toUInt32 &&& Int32.toUInt32 31)).toInt32) &&& (nI 1431655765))) &&& (nI 858993459)) + (((((nI a) - ((((nI a).toUInt32 >>> ((nI 1).toUInt32 &&& Int32.toUInt32 31)).toInt32) &&& (nI 1431655765))).toUInt32 >>> ((nI 2).toUInt32 &&& Int32.toUInt32 31)).toInt32) &&& (nI 858993459))).toUInt32 >>> ((nI 4).toUInt32 &&& Int32.toUInt32 31)).toInt32)) &&& (nI 252645135)) + ((((((((nI a) - ((((nI a).toUInt32 >>> ((nI 1).toUInt32 &&& Int32.toUInt32 31)).toInt32) &&& (nI 1431655765))) &&& (nI 858993459)) + (((((nI a) - ((((nI a).toUInt32 >>> ((nI 1).toUInt32 &&& Int32.toUInt32 31)).toInt32) &&& (nI 1431655765))).toUInt32 >>> ((nI 2).toUInt32 &&& Int32.toUInt32 31)).toInt32) &&& (nI 858993459))) + ((((((nI a) - ((((nI a).toUInt32 >>> ((nI 1).toUInt32 &&& Int32.toUInt32 31)).toInt32) &&& (nI 1431655765))) &&& (nI 858993459)) + (((((nI a) - ((((nI a).toUInt32 >>> ((nI 1).toUInt32 &&& Int32.toUInt32 31)).toInt32) &&& (nI 1431655765))).toUInt32 >>> ((nI 2).toUInt32 &&& Int32.toUInt32 31)).toInt32) &&& (nI 858993459))).toUInt32 >>> ((nI 4).toUInt32 &&& Int32.toUInt32 31)).toInt32)) &&& (nI 252645135)).toUInt32 >>> ((nI 8).toUInt32 &&& Int32.toUInt32 31)).toInt32)) + (((((((((nI a) - ((((nI a).toUInt32 >>> ((nI 1).toUInt32 &&& Int32.toUInt32 31)).toInt32) &&& (nI 1431655765))) &&& (nI 858993459)) + (((((nI a) - ((((nI a).toUInt32 >>> ((nI 1).toUInt32 &&& Int32.toUInt32 31)).toInt32) &&& (nI 1431655765))).toUInt32 >>> ((nI 2).toUInt32 &&& Int32.toUInt32 31)).toInt32) &&& (nI 858993459))) + ((((((nI a) - ((((nI a).toUInt32 >>> ((nI 1).toUInt32 &&& Int32.toUInt32 31)).toInt32) &&& (nI 1431655765))) &&& (nI 858993459)) + (((((nI a) - ((((nI a).toUInt32 >>> ((nI 1).toUInt32 &&& Int32.toUInt32 31)).toInt32) &&& (nI 1431655765))).toUInt32 >>> ((nI 2).toUInt32 &&& Int32.toUInt32 31)).toInt32) &&& (nI 858993459))).toUInt32 >>> ((nI 4).toUInt32 &&& Int32.toUInt32 31)).toInt32)) &&& (nI 252645135)) + ((((((((nI a) - ((((nI a).toUInt32 >>> ((nI 1).toUInt32 &&& Int32.toUInt32 31)).toInt32) &&& (nI 1431655765))) &&& (nI 858993459)) + (((((nI a) - ((((nI a).toUInt32 >>> ((nI 1).toUInt32 &&& Int32.toUInt32 31)).toInt32) &&& (nI 1431655765))).toUInt32 >>> ((nI 2).toUInt32 &&& Int32.toUInt32 31)).toInt32) &&& (nI 858993459))) + ((((((nI a) - ((((nI a).toUInt32 >>> ((nI 1).toUInt32 &&& Int32.toUInt32 31)).toInt32) &&& (nI 1431655765))) &&& (nI 858993459)) + (((((nI a) - ((((nI a).toUInt32 >>> ((nI 1).toUInt32 &&& Int32.toUInt32 31)).toInt32) &&& (nI 1431655765))).toUInt32 >>> ((nI 2).toUInt32 &&& Int32.toUInt32 31)).toInt32) &&& (nI 858993459))).toUInt32 >>> ((nI 4).toUInt32 &&& Int32.toUInt32 31)).toInt32)) &&& (nI 252645135)).toUInt32 >>> ((nI 8).toUInt32 &&& Int32.toUInt32 31)).toInt32)).toUInt32 >>> ((nI 16).toUInt32 &&& Int32.toUInt32 31)).toInt32)) &&& (nI 63)) = nI (bcn a)) a ha), rfl⟩ rfl
set_option maxHeartbeats 4000000 in
set_option maxRecDepth 100000 in
theorem c_nlz (g : gT) (a : Nat) (ha : a < 512) (h0 : 0 < a) : Cw g yJ6_numberOfLeadingZeros_0f7a4 wsJ6_numberOfLeadingZeros_0f7a4 0 0 [.int (nI a)] ([]) (some (.int (nI (31 - Nat.log2 a)))) ([]) := by
  refine Ct.start (cc := cJ6_numberOfLeadingZeros_0f7a4) (nL := 2) (ret := (some .int)) (own := RJ6) (by decide) rfl rfl rfl ?_
  intro Γ X E
  show Go Γ g 2 (rmC 0 0) 0 0 ([]) 0 [(0, .int (nI a))] []
  refine Go.iload_n X 0 dJ6_numberOfLeadingZeros_0f7a4_0 rfl ?_
  refine Go.if_gtN X 15 dJ6_numberOfLeadingZeros_0f7a4_1 (by decide) (by first | omega | (split <;> omega)) (fun h1 => ?_) (fun h1 => ?_)
  · --
    refine Go.bipush X (nI 31) dJ6_numberOfLeadingZeros_0f7a4_15 k_bp_31 ?_
    refine Go.istore_n_new X dJ6_numberOfLeadingZeros_0f7a4_17 (by decide) rfl ?_
    refine Go.iload_n X 1 dJ6_numberOfLeadingZeros_0f7a4_18 rfl ?_
    refine Go.ldcw X (nI 65536) dJ6_numberOfLeadingZeros_0f7a4_19 (List.mem_of_getElem? (i := 1) (by decide +kernel)) ?_
    refine Go.icmp_ltN X 33 dJ6_numberOfLeadingZeros_0f7a4_22 (by decide) (by first | omega | (split <;> omega)) (by decide) (fun h22 => ?_) (fun h22 => ?_)
    · --
      refine Go.iload_n X 1 dJ6_numberOfLeadingZeros_0f7a4_33 rfl ?_
      refine Go.sipush X (nI 256) dJ6_numberOfLeadingZeros_0f7a4_34 k_sp_256 ?_
      refine Go.icmp_ltN X 48 dJ6_numberOfLeadingZeros_0f7a4_37 (by decide) (by first | omega | (split <;> omega)) (by decide) (fun h37 => ?_) (fun h37 => ?_)
      · --
        refine Go.iload_n X 1 dJ6_numberOfLeadingZeros_0f7a4_48 rfl ?_
        refine Go.bipush X (nI 16) dJ6_numberOfLeadingZeros_0f7a4_49 k_bp_16 ?_
        refine Go.icmp_ltN X 61 dJ6_numberOfLeadingZeros_0f7a4_51 (by decide) (by first | omega | (split <;> omega)) (by decide) (fun h51 => ?_) (fun h51 => ?_)
        · --
          refine Go.iload_n X 1 dJ6_numberOfLeadingZeros_0f7a4_61 rfl ?_
          refine Go.iconst X (nI 4) dJ6_numberOfLeadingZeros_0f7a4_62 k_ic_4 ?_
          refine Go.icmp_ltN X 73 dJ6_numberOfLeadingZeros_0f7a4_63 (by decide) (by first | omega | (split <;> omega)) (by decide) (fun h63 => ?_) (fun h63 => ?_)
          · --
            refine Go.iload_n X 0 dJ6_numberOfLeadingZeros_0f7a4_73 rfl ?_
            refine Go.iload_n X 1 dJ6_numberOfLeadingZeros_0f7a4_74 rfl ?_
            refine Go.iconst X (nI 1) dJ6_numberOfLeadingZeros_0f7a4_75 k_ic_1 ?_
            refine Go.iushr X (nI (a >>> 1)) dJ6_numberOfLeadingZeros_0f7a4_76 (nI_ushr (by first | omega | (split <;> omega)) (by first | omega | (split <;> omega))) ?_
            refine Go.isub_e X ((nI 31) - (nI (a >>> 1))) dJ6_numberOfLeadingZeros_0f7a4_77 rfl ?_
            exact Go.iret X E dJ6_numberOfLeadingZeros_0f7a4_78 ⟨rv (show ((nI 31) - (nI (a >>> 1))) = nI (31 - Nat.log2 a) from by exact Or.resolve_left ((by decide +kernel : ∀ a, a < 512 → (¬ ((0 < a) ∧ (a < 65536) ∧ (a < 256) ∧ (a < 16) ∧ (a < 4)) ∨ ((nI 31) - (nI (a >>> 1))) = nI (31 - Nat.log2 a))) a ha) (fun q9 => q9 ⟨h1, h22, h37, h51, h63⟩)), rfl⟩ rfl
          · --
            refine Go.iinc_0 X (nI 29) dJ6_numberOfLeadingZeros_0f7a4_66 (by decide) rfl (by decide) ?_
            refine Go.iload_n X 1 dJ6_numberOfLeadingZeros_0f7a4_69 rfl ?_
            refine Go.iconst X (nI 2) dJ6_numberOfLeadingZeros_0f7a4_70 k_ic_2 ?_
            refine Go.iushr X (nI (a >>> 2)) dJ6_numberOfLeadingZeros_0f7a4_71 (nI_ushr (by first | omega | (split <;> omega)) (by first | omega | (split <;> omega))) ?_
            refine Go.istore_n_1 X dJ6_numberOfLeadingZeros_0f7a4_72 (by decide) rfl ?_
            refine Go.iload_n X 0 dJ6_numberOfLeadingZeros_0f7a4_73 rfl ?_
            refine Go.iload_n X 1 dJ6_numberOfLeadingZeros_0f7a4_74 rfl ?_
            refine Go.iconst X (nI 1) dJ6_numberOfLeadingZeros_0f7a4_75 k_ic_1 ?_
            refine Go.iushr X (nI ((a >>> 2) >>> 1)) dJ6_numberOfLeadingZeros_0f7a4_76 (nI_ushr (by first | omega | (split <;> omega)) (by first | omega | (split <;> omega))) ?_
            refine Go.isub_e X ((nI 29) - (nI ((a >>> 2) >>> 1))) dJ6_numberOfLeadingZeros_0f7a4_77 rfl ?_
            exact Go.iret X E dJ6_numberOfLeadingZeros_0f7a4_78 ⟨rv (show ((nI 29) - (nI ((a >>> 2) >>> 1))) = nI (31 - Nat.log2 a) from by exact Or.resolve_left ((by decide +kernel : ∀ a, a < 512 → (¬ ((0 < a) ∧ (a < 65536) ∧ (a < 256) ∧ (a < 16) ∧ (4 ≤ a)) ∨ ((nI 29) - (nI ((a >>> 2) >>> 1))) = nI (31 - Nat.log2 a))) a ha) (fun q9 => q9 ⟨h1, h22, h37, h51, h63⟩)), rfl⟩ rfl
        · --
          refine Go.iinc_0 X (nI 27) dJ6_numberOfLeadingZeros_0f7a4_54 (by decide) rfl (by decide) ?_
          refine Go.iload_n X 1 dJ6_numberOfLeadingZeros_0f7a4_57 rfl ?_
          refine Go.iconst X (nI 4) dJ6_numberOfLeadingZeros_0f7a4_58 k_ic_4 ?_
          refine Go.iushr X (nI (a >>> 4)) dJ6_numberOfLeadingZeros_0f7a4_59 (nI_ushr (by first | omega | (split <;> omega)) (by first | omega | (split <;> omega))) ?_
          refine Go.istore_n_1 X dJ6_numberOfLeadingZeros_0f7a4_60 (by decide) rfl ?_
          refine Go.iload_n X 1 dJ6_numberOfLeadingZeros_0f7a4_61 rfl ?_
          refine Go.iconst X (nI 4) dJ6_numberOfLeadingZeros_0f7a4_62 k_ic_4 ?_
          refine Go.icmp_ltN X 73 dJ6_numberOfLeadingZeros_0f7a4_63 (by decide) (by first | omega | (split <;> omega)) (by decide) (fun h63 => ?_) (fun h63 => ?_)
          · --
            refine Go.iload_n X 0 dJ6_numberOfLeadingZeros_0f7a4_73 rfl ?_
            refine Go.iload_n X 1 dJ6_numberOfLeadingZeros_0f7a4_74 rfl ?_
            refine Go.iconst X (nI 1) dJ6_numberOfLeadingZeros_0f7a4_75 k_ic_1 ?_
            refine Go.iushr X (nI ((a >>> 4) >>> 1)) dJ6_numberOfLeadingZeros_0f7a4_76 (nI_ushr (by first | omega | (split <;> omega)) (by first | omega | (split <;> omega))) ?_
            refine Go.isub_e X ((nI 27) - (nI ((a >>> 4) >>> 1))) dJ6_numberOfLeadingZeros_0f7a4_77 rfl ?_
            exact Go.iret X E dJ6_numberOfLeadingZeros_0f7a4_78 ⟨rv (show ((nI 27) - (nI ((a >>> 4) >>> 1))) = nI (31 - Nat.log2 a) from by exact Or.resolve_left ((by decide +kernel : ∀ a, a < 512 → (¬ ((0 < a) ∧ (a < 65536) ∧ (a < 256) ∧ (16 ≤ a) ∧ ((a >>> 4) < 4)) ∨ ((nI 27) - (nI ((a >>> 4) >>> 1))) = nI (31 - Nat.log2 a))) a ha) (fun q9 => q9 ⟨h1, h22, h37, h51, h63⟩)), rfl⟩ rfl
          · --
            refine Go.iinc_0 X (nI 25) dJ6_numberOfLeadingZeros_0f7a4_66 (by decide) rfl (by decide) ?_
            refine Go.iload_n X 1 dJ6_numberOfLeadingZeros_0f7a4_69 rfl ?_
            refine Go.iconst X (nI 2) dJ6_numberOfLeadingZeros_0f7a4_70 k_ic_2 ?_
            refine Go.iushr X (nI ((a >>> 4) >>> 2)) dJ6_numberOfLeadingZeros_0f7a4_71 (nI_ushr (by first | omega | (split <;> omega)) (by first | omega | (split <;> omega))) ?_
            refine Go.istore_n_1 X dJ6_numberOfLeadingZeros_0f7a4_72 (by decide) rfl ?_
            refine Go.iload_n X 0 dJ6_numberOfLeadingZeros_0f7a4_73 rfl ?_
            refine Go.iload_n X 1 dJ6_numberOfLeadingZeros_0f7a4_74 rfl ?_
            refine Go.iconst X (nI 1) dJ6_numberOfLeadingZeros_0f7a4_75 k_ic_1 ?_
            refine Go.iushr X (nI (((a >>> 4) >>> 2) >>> 1)) dJ6_numberOfLeadingZeros_0f7a4_76 (nI_ushr (by first | omega | (split <;> omega)) (by first | omega | (split <;> omega))) ?_
            refine Go.isub_e X ((nI 25) - (nI (((a >>> 4) >>> 2) >>> 1))) dJ6_numberOfLeadingZeros_0f7a4_77 rfl ?_
            exact Go.iret X E dJ6_numberOfLeadingZeros_0f7a4_78 ⟨rv (show ((nI 25) - (nI (((a >>> 4) >>> 2) >>> 1))) = nI (31 - Nat.log2 a) from by exact Or.resolve_left ((by decide +kernel : ∀ a, a < 512 → (¬ ((0 < a) ∧ (a < 65536) ∧ (a < 256) ∧ (16 ≤ a) ∧ (4 ≤ (a >>> 4))) ∨ ((nI 25) - (nI (((a >>> 4) >>> 2) >>> 1))) = nI (31 - Nat.log2 a))) a ha) (fun q9 => q9 ⟨h1, h22, h37, h51, h63⟩)), rfl⟩ rfl
      · --
        refine Go.iinc_0 X (nI 23) dJ6_numberOfLeadingZeros_0f7a4_40 (by decide) rfl (by decide) ?_
        refine Go.iload_n X 1 dJ6_numberOfLeadingZeros_0f7a4_43 rfl ?_
        refine Go.bipush X (nI 8) dJ6_numberOfLeadingZeros_0f7a4_44 k_bp_8 ?_
        refine Go.iushr X (nI (a >>> 8)) dJ6_numberOfLeadingZeros_0f7a4_46 (nI_ushr (by first | omega | (split <;> omega)) (by first | omega | (split <;> omega))) ?_
        refine Go.istore_n_1 X dJ6_numberOfLeadingZeros_0f7a4_47 (by decide) rfl ?_
        refine Go.iload_n X 1 dJ6_numberOfLeadingZeros_0f7a4_48 rfl ?_
        refine Go.bipush X (nI 16) dJ6_numberOfLeadingZeros_0f7a4_49 k_bp_16 ?_
        refine Go.icmp_ltN X 61 dJ6_numberOfLeadingZeros_0f7a4_51 (by decide) (by first | omega | (split <;> omega)) (by decide) (fun h51 => ?_) (fun h51 => ?_)
        · --
          refine Go.iload_n X 1 dJ6_numberOfLeadingZeros_0f7a4_61 rfl ?_
          refine Go.iconst X (nI 4) dJ6_numberOfLeadingZeros_0f7a4_62 k_ic_4 ?_
          refine Go.icmp_ltN X 73 dJ6_numberOfLeadingZeros_0f7a4_63 (by decide) (by first | omega | (split <;> omega)) (by decide) (fun h63 => ?_) (fun h63 => ?_)
          · --
            refine Go.iload_n X 0 dJ6_numberOfLeadingZeros_0f7a4_73 rfl ?_
            refine Go.iload_n X 1 dJ6_numberOfLeadingZeros_0f7a4_74 rfl ?_
            refine Go.iconst X (nI 1) dJ6_numberOfLeadingZeros_0f7a4_75 k_ic_1 ?_
            refine Go.iushr X (nI ((a >>> 8) >>> 1)) dJ6_numberOfLeadingZeros_0f7a4_76 (nI_ushr (by first | omega | (split <;> omega)) (by first | omega | (split <;> omega))) ?_
            refine Go.isub_e X ((nI 23) - (nI ((a >>> 8) >>> 1))) dJ6_numberOfLeadingZeros_0f7a4_77 rfl ?_
            exact Go.iret X E dJ6_numberOfLeadingZeros_0f7a4_78 ⟨rv (show ((nI 23) - (nI ((a >>> 8) >>> 1))) = nI (31 - Nat.log2 a) from by exact Or.resolve_left ((by decide +kernel : ∀ a, a < 512 → (¬ ((0 < a) ∧ (a < 65536) ∧ (256 ≤ a) ∧ ((a >>> 8) < 16) ∧ ((a >>> 8) < 4)) ∨ ((nI 23) - (nI ((a >>> 8) >>> 1))) = nI (31 - Nat.log2 a))) a ha) (fun q9 => q9 ⟨h1, h22, h37, h51, h63⟩)), rfl⟩ rfl
          · --
            refine Go.iinc_0 X (nI 21) dJ6_numberOfLeadingZeros_0f7a4_66 (by decide) rfl (by decide) ?_
            refine Go.iload_n X 1 dJ6_numberOfLeadingZeros_0f7a4_69 rfl ?_
            refine Go.iconst X (nI 2) dJ6_numberOfLeadingZeros_0f7a4_70 k_ic_2 ?_
            refine Go.iushr X (nI ((a >>> 8) >>> 2)) dJ6_numberOfLeadingZeros_0f7a4_71 (nI_ushr (by first | omega | (split <;> omega)) (by first | omega | (split <;> omega))) ?_
            refine Go.istore_n_1 X dJ6_numberOfLeadingZeros_0f7a4_72 (by decide) rfl ?_
            refine Go.iload_n X 0 dJ6_numberOfLeadingZeros_0f7a4_73 rfl ?_
            refine Go.iload_n X 1 dJ6_numberOfLeadingZeros_0f7a4_74 rfl ?_
            refine Go.iconst X (nI 1) dJ6_numberOfLeadingZeros_0f7a4_75 k_ic_1 ?_
            refine Go.iushr X (nI (((a >>> 8) >>> 2) >>> 1)) dJ6_numberOfLeadingZeros_0f7a4_76 (nI_ushr (by first | omega | (split <;> omega)) (by first | omega | (split <;> omega))) ?_
            refine Go.isub_e X ((nI 21) - (nI (((a >>> 8) >>> 2) >>> 1))) dJ6_numberOfLeadingZeros_0f7a4_77 rfl ?_
            exact Go.iret X E dJ6_numberOfLeadingZeros_0f7a4_78 ⟨rv (show ((nI 21) - (nI (((a >>> 8) >>> 2) >>> 1))) = nI (31 - Nat.log2 a) from by exact Or.resolve_left ((by decide +kernel : ∀ a, a < 512 → (¬ ((0 < a) ∧ (a < 65536) ∧ (256 ≤ a) ∧ ((a >>> 8) < 16) ∧ (4 ≤ (a >>> 8))) ∨ ((nI 21) - (nI (((a >>> 8) >>> 2) >>> 1))) = nI (31 - Nat.log2 a))) a ha) (fun q9 => q9 ⟨h1, h22, h37, h51, h63⟩)), rfl⟩ rfl
        · --
          refine Go.iinc_0 X (nI 19) dJ6_numberOfLeadingZeros_0f7a4_54 (by decide) rfl (by decide) ?_
          refine Go.iload_n X 1 dJ6_numberOfLeadingZeros_0f7a4_57 rfl ?_
          refine Go.iconst X (nI 4) dJ6_numberOfLeadingZeros_0f7a4_58 k_ic_4 ?_
          refine Go.iushr X (nI ((a >>> 8) >>> 4)) dJ6_numberOfLeadingZeros_0f7a4_59 (nI_ushr (by first | omega | (split <;> omega)) (by first | omega | (split <;> omega))) ?_
          refine Go.istore_n_1 X dJ6_numberOfLeadingZeros_0f7a4_60 (by decide) rfl ?_
          refine Go.iload_n X 1 dJ6_numberOfLeadingZeros_0f7a4_61 rfl ?_
          refine Go.iconst X (nI 4) dJ6_numberOfLeadingZeros_0f7a4_62 k_ic_4 ?_
          refine Go.icmp_ltN X 73 dJ6_numberOfLeadingZeros_0f7a4_63 (by decide) (by first | omega | (split <;> omega)) (by decide) (fun h63 => ?_) (fun h63 => ?_)
          · --
            refine Go.iload_n X 0 dJ6_numberOfLeadingZeros_0f7a4_73 rfl ?_
            refine Go.iload_n X 1 dJ6_numberOfLeadingZeros_0f7a4_74 rfl ?_
            refine Go.iconst X (nI 1) dJ6_numberOfLeadingZeros_0f7a4_75 k_ic_1 ?_
            refine Go.iushr X (nI (((a >>> 8) >>> 4) >>> 1)) dJ6_numberOfLeadingZeros_0f7a4_76 (nI_ushr (by first | omega | (split <;> omega)) (by first | omega | (split <;> omega))) ?_
            refine Go.isub_e X ((nI 19) - (nI (((a >>> 8) >>> 4) >>> 1))) dJ6_numberOfLeadingZeros_0f7a4_77 rfl ?_
            exact Go.iret X E dJ6_numberOfLeadingZeros_0f7a4_78 ⟨rv (show ((nI 19) - (nI (((a >>> 8) >>> 4) >>> 1))) = nI (31 - Nat.log2 a) from by exact Or.resolve_left ((by decide +kernel : ∀ a, a < 512 → (¬ ((0 < a) ∧ (a < 65536) ∧ (256 ≤ a) ∧ (16 ≤ (a >>> 8)) ∧ (((a >>> 8) >>> 4) < 4)) ∨ ((nI 19) - (nI (((a >>> 8) >>> 4) >>> 1))) = nI (31 - Nat.log2 a))) a ha) (fun q9 => q9 ⟨h1, h22, h37, h51, h63⟩)), rfl⟩ rfl
          · --
            refine Go.iinc_0 X (nI 17) dJ6_numberOfLeadingZeros_0f7a4_66 (by decide) rfl (by decide) ?_
            refine Go.iload_n X 1 dJ6_numberOfLeadingZeros_0f7a4_69 rfl ?_
            refine Go.iconst X (nI 2) dJ6_numberOfLeadingZeros_0f7a4_70 k_ic_2 ?_
            refine Go.iushr X (nI (((a >>> 8) >>> 4) >>> 2)) dJ6_numberOfLeadingZeros_0f7a4_71 (nI_ushr (by first | omega | (split <;> omega)) (by first | omega | (split <;> omega))) ?_
            refine Go.istore_n_1 X dJ6_numberOfLeadingZeros_0f7a4_72 (by decide) rfl ?_
            refine Go.iload_n X 0 dJ6_numberOfLeadingZeros_0f7a4_73 rfl ?_
            refine Go.iload_n X 1 dJ6_numberOfLeadingZeros_0f7a4_74 rfl ?_
            refine Go.iconst X (nI 1) dJ6_numberOfLeadingZeros_0f7a4_75 k_ic_1 ?_
            refine Go.iushr X (nI ((((a >>> 8) >>> 4) >>> 2) >>> 1)) dJ6_numberOfLeadingZeros_0f7a4_76 (nI_ushr (by first | omega | (split <;> omega)) (by first | omega | (split <;> omega))) ?_
            refine Go.isub_e X ((nI 17) - (nI ((((a >>> 8) >>> 4) >>> 2) >>> 1))) dJ6_numberOfLeadingZeros_0f7a4_77 rfl ?_
            exact Go.iret X E dJ6_numberOfLeadingZeros_0f7a4_78 ⟨rv (show ((nI 17) - (nI ((((a >>> 8) >>> 4) >>> 2) >>> 1))) = nI (31 - Nat.log2 a) from by exact Or.resolve_left ((by decide +kernel : ∀ a, a < 512 → (¬ ((0 < a) ∧ (a < 65536) ∧ (256 ≤ a) ∧ (16 ≤ (a >>> 8)) ∧ (4 ≤ ((a >>> 8) >>> 4))) ∨ ((nI 17) - (nI ((((a >>> 8) >>> 4) >>> 2) >>> 1))) = nI (31 - Nat.log2 a))) a ha) (fun q9 => q9 ⟨h1, h22, h37, h51, h63⟩)), rfl⟩ rfl
    · --
      exact absurd h22 (by omega)
  · --
    exact absurd h0 (by omega)
set_option maxHeartbeats 4000000 in
set_option maxRecDepth 100000 in
theorem c_ntz (g : gT) (a : Nat) (ha : a < 512) (h0 : 0 < a) : Cw g yJ6_numberOfTrailingZeros_0f7a4 wsJ6_numberOfTrailingZeros_0f7a4 0 0 [.int (nI a)] ([]) (some (.int (nI (ctz 9 a 0)))) ([]) := by
  refine Ct.start (cc := cJ6_numberOfTrailingZeros_0f7a4) (nL := 2) (ret := (some .int)) (own := RJ6) (by decide) rfl rfl rfl ?_
  intro Γ X E
  show Go Γ g 2 (rmC 0 0) 0 0 ([]) 0 [(0, .int (nI a))] []
  refine Go.iload_n X 0 dJ6_numberOfTrailingZeros_0f7a4_0 rfl ?_
  refine Go.iconst X ((-1 : Int32)) dJ6_numberOfTrailingZeros_0f7a4_1 k_ic_m1 ?_
  refine Go.ixor_e X (nI a ^^^ (-1)) dJ6_numberOfTrailingZeros_0f7a4_2 rfl ?_
  refine Go.iload_n X 0 dJ6_numberOfTrailingZeros_0f7a4_3 rfl ?_
  refine Go.iconst X (nI 1) dJ6_numberOfTrailingZeros_0f7a4_4 k_ic_1 ?_
  refine Go.isub_e X (nI (a - 1)) dJ6_numberOfTrailingZeros_0f7a4_5 (pk_sub (by first | omega | (split <;> omega))) ?_
  refine Go.iand_e X (nI (dif (a - 1) a)) dJ6_numberOfTrailingZeros_0f7a4_6 (nI_notand _ _) ?_
  refine Go.istore_n_0 X dJ6_numberOfTrailingZeros_0f7a4_7 (by decide) rfl ?_
  have o1 := dif_le (a - 1) a
  refine Go.iload_n X 0 dJ6_numberOfTrailingZeros_0f7a4_8 rfl ?_
  refine Go.if_gtN X 17 dJ6_numberOfTrailingZeros_0f7a4_9 (by decide) (by first | omega | (split <;> omega)) (fun h9 => ?_) (fun h9 => ?_)
  · --
    refine Go.iconst X (nI 1) dJ6_numberOfTrailingZeros_0f7a4_17 k_ic_1 ?_
    refine Go.istore_n_new X dJ6_numberOfTrailingZeros_0f7a4_18 (by decide) rfl ?_
    refine Go.iload_n X 1 dJ6_numberOfTrailingZeros_0f7a4_19 rfl ?_
    refine Go.ldcw X (nI 65536) dJ6_numberOfTrailingZeros_0f7a4_20 (List.mem_of_getElem? (i := 1) (by decide +kernel)) ?_
    refine Go.icmp_leN X 34 dJ6_numberOfTrailingZeros_0f7a4_23 (by decide) (by first | omega | (split <;> omega)) (by decide) (fun h23 => ?_) (fun h23 => ?_)
    · --
      refine Go.iload_n X 1 dJ6_numberOfTrailingZeros_0f7a4_34 rfl ?_
      refine Go.sipush X (nI 256) dJ6_numberOfTrailingZeros_0f7a4_35 k_sp_256 ?_
      refine Go.icmp_leN X 49 dJ6_numberOfTrailingZeros_0f7a4_38 (by decide) (by first | omega | (split <;> omega)) (by decide) (fun h38 => ?_) (fun h38 => ?_)
      · --
        refine Go.iload_n X 1 dJ6_numberOfTrailingZeros_0f7a4_49 rfl ?_
        refine Go.bipush X (nI 16) dJ6_numberOfTrailingZeros_0f7a4_50 k_bp_16 ?_
        refine Go.icmp_leN X 62 dJ6_numberOfTrailingZeros_0f7a4_52 (by decide) (by first | omega | (split <;> omega)) (by decide) (fun h52 => ?_) (fun h52 => ?_)
        · --
          refine Go.iload_n X 1 dJ6_numberOfTrailingZeros_0f7a4_62 rfl ?_
          refine Go.iconst X (nI 4) dJ6_numberOfTrailingZeros_0f7a4_63 k_ic_4 ?_
          refine Go.icmp_leN X 74 dJ6_numberOfTrailingZeros_0f7a4_64 (by decide) (by first | omega | (split <;> omega)) (by decide) (fun h64 => ?_) (fun h64 => ?_)
          · --
            refine Go.iload_n X 0 dJ6_numberOfTrailingZeros_0f7a4_74 rfl ?_
            refine Go.iload_n X 1 dJ6_numberOfTrailingZeros_0f7a4_75 rfl ?_
            refine Go.iconst X (nI 1) dJ6_numberOfTrailingZeros_0f7a4_76 k_ic_1 ?_
            refine Go.iushr X (nI ((dif (a - 1) a) >>> 1)) dJ6_numberOfTrailingZeros_0f7a4_77 (nI_ushr (by first | omega | (split <;> omega)) (by first | omega | (split <;> omega))) ?_
            refine Go.iadd_e X (nI (1 + (dif (a - 1) a) >>> 1)) dJ6_numberOfTrailingZeros_0f7a4_78 (nI_add _ _) ?_
            exact Go.iret X E dJ6_numberOfTrailingZeros_0f7a4_79 ⟨rv (congrArg nI (show 1 + (dif (a - 1) a) >>> 1 = ctz 9 a 0 from by exact Or.resolve_left ((by decide +kernel : ∀ a, a < 512 → (¬ ((0 < a) ∧ (0 < (dif (a - 1) a)) ∧ ((dif (a - 1) a) ≤ 65536) ∧ ((dif (a - 1) a) ≤ 256) ∧ ((dif (a - 1) a) ≤ 16) ∧ ((dif (a - 1) a) ≤ 4)) ∨ 1 + (dif (a - 1) a) >>> 1 = ctz 9 a 0)) a ha) (fun q9 => q9 ⟨h0, h9, h23, h38, h52, h64⟩))), rfl⟩ rfl
          · --
            refine Go.iinc_0 X (nI 3) dJ6_numberOfTrailingZeros_0f7a4_67 (by decide) rfl (by decide) ?_
            refine Go.iload_n X 1 dJ6_numberOfTrailingZeros_0f7a4_70 rfl ?_
            refine Go.iconst X (nI 2) dJ6_numberOfTrailingZeros_0f7a4_71 k_ic_2 ?_
            refine Go.iushr X (nI ((dif (a - 1) a) >>> 2)) dJ6_numberOfTrailingZeros_0f7a4_72 (nI_ushr (by first | omega | (split <;> omega)) (by first | omega | (split <;> omega))) ?_
            refine Go.istore_n_1 X dJ6_numberOfTrailingZeros_0f7a4_73 (by decide) rfl ?_
            refine Go.iload_n X 0 dJ6_numberOfTrailingZeros_0f7a4_74 rfl ?_
            refine Go.iload_n X 1 dJ6_numberOfTrailingZeros_0f7a4_75 rfl ?_
            refine Go.iconst X (nI 1) dJ6_numberOfTrailingZeros_0f7a4_76 k_ic_1 ?_
            refine Go.iushr X (nI (((dif (a - 1) a) >>> 2) >>> 1)) dJ6_numberOfTrailingZeros_0f7a4_77 (nI_ushr (by first | omega | (split <;> omega)) (by first | omega | (split <;> omega))) ?_
            refine Go.iadd_e X (nI (3 + ((dif (a - 1) a) >>> 2) >>> 1)) dJ6_numberOfTrailingZeros_0f7a4_78 (nI_add _ _) ?_
            exact Go.iret X E dJ6_numberOfTrailingZeros_0f7a4_79 ⟨rv (congrArg nI (show 3 + ((dif (a - 1) a) >>> 2) >>> 1 = ctz 9 a 0 from by exact Or.resolve_left ((by decide +kernel : ∀ a, a < 512 → (¬ ((0 < a) ∧ (0 < (dif (a - 1) a)) ∧ ((dif (a - 1) a) ≤ 65536) ∧ ((dif (a - 1) a) ≤ 256) ∧ ((dif (a - 1) a) ≤ 16) ∧ (4 < (dif (a - 1) a))) ∨ 3 + ((dif (a - 1) a) >>> 2) >>> 1 = ctz 9 a 0)) a ha) (fun q9 => q9 ⟨h0, h9, h23, h38, h52, h64⟩))), rfl⟩ rfl
        · --
          refine Go.iinc_0 X (nI 5) dJ6_numberOfTrailingZeros_0f7a4_55 (by decide) rfl (by decide) ?_
          refine Go.iload_n X 1 dJ6_numberOfTrailingZeros_0f7a4_58 rfl ?_
          refine Go.iconst X (nI 4) dJ6_numberOfTrailingZeros_0f7a4_59 k_ic_4 ?_
          refine Go.iushr X (nI ((dif (a - 1) a) >>> 4)) dJ6_numberOfTrailingZeros_0f7a4_60 (nI_ushr (by first | omega | (split <;> omega)) (by first | omega | (split <;> omega))) ?_
          refine Go.istore_n_1 X dJ6_numberOfTrailingZeros_0f7a4_61 (by decide) rfl ?_
          refine Go.iload_n X 1 dJ6_numberOfTrailingZeros_0f7a4_62 rfl ?_
          refine Go.iconst X (nI 4) dJ6_numberOfTrailingZeros_0f7a4_63 k_ic_4 ?_
          refine Go.icmp_leN X 74 dJ6_numberOfTrailingZeros_0f7a4_64 (by decide) (by first | omega | (split <;> omega)) (by decide) (fun h64 => ?_) (fun h64 => ?_)
          · --
            refine Go.iload_n X 0 dJ6_numberOfTrailingZeros_0f7a4_74 rfl ?_
            refine Go.iload_n X 1 dJ6_numberOfTrailingZeros_0f7a4_75 rfl ?_
            refine Go.iconst X (nI 1) dJ6_numberOfTrailingZeros_0f7a4_76 k_ic_1 ?_
            refine Go.iushr X (nI (((dif (a - 1) a) >>> 4) >>> 1)) dJ6_numberOfTrailingZeros_0f7a4_77 (nI_ushr (by first | omega | (split <;> omega)) (by first | omega | (split <;> omega))) ?_
            refine Go.iadd_e X (nI (5 + ((dif (a - 1) a) >>> 4) >>> 1)) dJ6_numberOfTrailingZeros_0f7a4_78 (nI_add _ _) ?_
            exact Go.iret X E dJ6_numberOfTrailingZeros_0f7a4_79 ⟨rv (congrArg nI (show 5 + ((dif (a - 1) a) >>> 4) >>> 1 = ctz 9 a 0 from by exact Or.resolve_left ((by decide +kernel : ∀ a, a < 512 → (¬ ((0 < a) ∧ (0 < (dif (a - 1) a)) ∧ ((dif (a - 1) a) ≤ 65536) ∧ ((dif (a - 1) a) ≤ 256) ∧ (16 < (dif (a - 1) a)) ∧ (((dif (a - 1) a) >>> 4) ≤ 4)) ∨ 5 + ((dif (a - 1) a) >>> 4) >>> 1 = ctz 9 a 0)) a ha) (fun q9 => q9 ⟨h0, h9, h23, h38, h52, h64⟩))), rfl⟩ rfl
          · --
            refine Go.iinc_0 X (nI 7) dJ6_numberOfTrailingZeros_0f7a4_67 (by decide) rfl (by decide) ?_
            refine Go.iload_n X 1 dJ6_numberOfTrailingZeros_0f7a4_70 rfl ?_
            refine Go.iconst X (nI 2) dJ6_numberOfTrailingZeros_0f7a4_71 k_ic_2 ?_
            refine Go.iushr X (nI (((dif (a - 1) a) >>> 4) >>> 2)) dJ6_numberOfTrailingZeros_0f7a4_72 (nI_ushr (by first | omega | (split <;> omega)) (by first | omega | (split <;> omega))) ?_
            refine Go.istore_n_1 X dJ6_numberOfTrailingZeros_0f7a4_73 (by decide) rfl ?_
            refine Go.iload_n X 0 dJ6_numberOfTrailingZeros_0f7a4_74 rfl ?_
            refine Go.iload_n X 1 dJ6_numberOfTrailingZeros_0f7a4_75 rfl ?_
            refine Go.iconst X (nI 1) dJ6_numberOfTrailingZeros_0f7a4_76 k_ic_1 ?_
            refine Go.iushr X (nI ((((dif (a - 1) a) >>> 4) >>> 2) >>> 1)) dJ6_numberOfTrailingZeros_0f7a4_77 (nI_ushr (by first | omega | (split <;> omega)) (by first | omega | (split <;> omega))) ?_
            refine Go.iadd_e X (nI (7 + (((dif (a - 1) a) >>> 4) >>> 2) >>> 1)) dJ6_numberOfTrailingZeros_0f7a4_78 (nI_add _ _) ?_
            exact Go.iret X E dJ6_numberOfTrailingZeros_0f7a4_79 ⟨rv (congrArg nI (show 7 + (((dif (a - 1) a) >>> 4) >>> 2) >>> 1 = ctz 9 a 0 from by exact Or.resolve_left ((by decide +kernel : ∀ a, a < 512 → (¬ ((0 < a) ∧ (0 < (dif (a - 1) a)) ∧ ((dif (a - 1) a) ≤ 65536) ∧ ((dif (a - 1) a) ≤ 256) ∧ (16 < (dif (a - 1) a)) ∧ (4 < ((dif (a - 1) a) >>> 4))) ∨ 7 + (((dif (a - 1) a) >>> 4) >>> 2) >>> 1 = ctz 9 a 0)) a ha) (fun q9 => q9 ⟨h0, h9, h23, h38, h52, h64⟩))), rfl⟩ rfl
      · --
        refine Go.iinc_0 X (nI 9) dJ6_numberOfTrailingZeros_0f7a4_41 (by decide) rfl (by decide) ?_
        refine Go.iload_n X 1 dJ6_numberOfTrailingZeros_0f7a4_44 rfl ?_
        refine Go.bipush X (nI 8) dJ6_numberOfTrailingZeros_0f7a4_45 k_bp_8 ?_
        refine Go.iushr X (nI ((dif (a - 1) a) >>> 8)) dJ6_numberOfTrailingZeros_0f7a4_47 (nI_ushr (by first | omega | (split <;> omega)) (by first | omega | (split <;> omega))) ?_
        refine Go.istore_n_1 X dJ6_numberOfTrailingZeros_0f7a4_48 (by decide) rfl ?_
        refine Go.iload_n X 1 dJ6_numberOfTrailingZeros_0f7a4_49 rfl ?_
        refine Go.bipush X (nI 16) dJ6_numberOfTrailingZeros_0f7a4_50 k_bp_16 ?_
        refine Go.icmp_leN X 62 dJ6_numberOfTrailingZeros_0f7a4_52 (by decide) (by first | omega | (split <;> omega)) (by decide) (fun h52 => ?_) (fun h52 => ?_)
        · --
          refine Go.iload_n X 1 dJ6_numberOfTrailingZeros_0f7a4_62 rfl ?_
          refine Go.iconst X (nI 4) dJ6_numberOfTrailingZeros_0f7a4_63 k_ic_4 ?_
          refine Go.icmp_leN X 74 dJ6_numberOfTrailingZeros_0f7a4_64 (by decide) (by first | omega | (split <;> omega)) (by decide) (fun h64 => ?_) (fun h64 => ?_)
          · --
            refine Go.iload_n X 0 dJ6_numberOfTrailingZeros_0f7a4_74 rfl ?_
            refine Go.iload_n X 1 dJ6_numberOfTrailingZeros_0f7a4_75 rfl ?_
            refine Go.iconst X (nI 1) dJ6_numberOfTrailingZeros_0f7a4_76 k_ic_1 ?_
            refine Go.iushr X (nI (((dif (a - 1) a) >>> 8) >>> 1)) dJ6_numberOfTrailingZeros_0f7a4_77 (nI_ushr (by first | omega | (split <;> omega)) (by first | omega | (split <;> omega))) ?_
            refine Go.iadd_e X (nI (9 + ((dif (a - 1) a) >>> 8) >>> 1)) dJ6_numberOfTrailingZeros_0f7a4_78 (nI_add _ _) ?_
            exact Go.iret X E dJ6_numberOfTrailingZeros_0f7a4_79 ⟨rv (congrArg nI (show 9 + ((dif (a - 1) a) >>> 8) >>> 1 = ctz 9 a 0 from by exact Or.resolve_left ((by decide +kernel : ∀ a, a < 512 → (¬ ((0 < a) ∧ (0 < (dif (a - 1) a)) ∧ ((dif (a - 1) a) ≤ 65536) ∧ (256 < (dif (a - 1) a)) ∧ (((dif (a - 1) a) >>> 8) ≤ 16) ∧ (((dif (a - 1) a) >>> 8) ≤ 4)) ∨ 9 + ((dif (a - 1) a) >>> 8) >>> 1 = ctz 9 a 0)) a ha) (fun q9 => q9 ⟨h0, h9, h23, h38, h52, h64⟩))), rfl⟩ rfl
          · --
            refine Go.iinc_0 X (nI 11) dJ6_numberOfTrailingZeros_0f7a4_67 (by decide) rfl (by decide) ?_
            refine Go.iload_n X 1 dJ6_numberOfTrailingZeros_0f7a4_70 rfl ?_
            refine Go.iconst X (nI 2) dJ6_numberOfTrailingZeros_0f7a4_71 k_ic_2 ?_
            refine Go.iushr X (nI (((dif (a - 1) a) >>> 8) >>> 2)) dJ6_numberOfTrailingZeros_0f7a4_72 (nI_ushr (by first | omega | (split <;> omega)) (by first | omega | (split <;> omega))) ?_
            refine Go.istore_n_1 X dJ6_numberOfTrailingZeros_0f7a4_73 (by decide) rfl ?_
            refine Go.iload_n X 0 dJ6_numberOfTrailingZeros_0f7a4_74 rfl ?_
            refine Go.iload_n X 1 dJ6_numberOfTrailingZeros_0f7a4_75 rfl ?_
            refine Go.iconst X (nI 1) dJ6_numberOfTrailingZeros_0f7a4_76 k_ic_1 ?_
            refine Go.iushr X (nI ((((dif (a - 1) a) >>> 8) >>> 2) >>> 1)) dJ6_numberOfTrailingZeros_0f7a4_77 (nI_ushr (by first | omega | (split <;> omega)) (by first | omega | (split <;> omega))) ?_
            refine Go.iadd_e X (nI (11 + (((dif (a - 1) a) >>> 8) >>> 2) >>> 1)) dJ6_numberOfTrailingZeros_0f7a4_78 (nI_add _ _) ?_
            exact Go.iret X E dJ6_numberOfTrailingZeros_0f7a4_79 ⟨rv (congrArg nI (show 11 + (((dif (a - 1) a) >>> 8) >>> 2) >>> 1 = ctz 9 a 0 from by exact Or.resolve_left ((by decide +kernel : ∀ a, a < 512 → (¬ ((0 < a) ∧ (0 < (dif (a - 1) a)) ∧ ((dif (a - 1) a) ≤ 65536) ∧ (256 < (dif (a - 1) a)) ∧ (((dif (a - 1) a) >>> 8) ≤ 16) ∧ (4 < ((dif (a - 1) a) >>> 8))) ∨ 11 + (((dif (a - 1) a) >>> 8) >>> 2) >>> 1 = ctz 9 a 0)) a ha) (fun q9 => q9 ⟨h0, h9, h23, h38, h52, h64⟩))), rfl⟩ rfl
        · --
          refine Go.iinc_0 X (nI 13) dJ6_numberOfTrailingZeros_0f7a4_55 (by decide) rfl (by decide) ?_
          refine Go.iload_n X 1 dJ6_numberOfTrailingZeros_0f7a4_58 rfl ?_
          refine Go.iconst X (nI 4) dJ6_numberOfTrailingZeros_0f7a4_59 k_ic_4 ?_
          refine Go.iushr X (nI (((dif (a - 1) a) >>> 8) >>> 4)) dJ6_numberOfTrailingZeros_0f7a4_60 (nI_ushr (by first | omega | (split <;> omega)) (by first | omega | (split <;> omega))) ?_
          refine Go.istore_n_1 X dJ6_numberOfTrailingZeros_0f7a4_61 (by decide) rfl ?_
          refine Go.iload_n X 1 dJ6_numberOfTrailingZeros_0f7a4_62 rfl ?_
          refine Go.iconst X (nI 4) dJ6_numberOfTrailingZeros_0f7a4_63 k_ic_4 ?_
          refine Go.icmp_leN X 74 dJ6_numberOfTrailingZeros_0f7a4_64 (by decide) (by first | omega | (split <;> omega)) (by decide) (fun h64 => ?_) (fun h64 => ?_)
          · --
            refine Go.iload_n X 0 dJ6_numberOfTrailingZeros_0f7a4_74 rfl ?_
            refine Go.iload_n X 1 dJ6_numberOfTrailingZeros_0f7a4_75 rfl ?_
            refine Go.iconst X (nI 1) dJ6_numberOfTrailingZeros_0f7a4_76 k_ic_1 ?_
            refine Go.iushr X (nI ((((dif (a - 1) a) >>> 8) >>> 4) >>> 1)) dJ6_numberOfTrailingZeros_0f7a4_77 (nI_ushr (by first | omega | (split <;> omega)) (by first | omega | (split <;> omega))) ?_
            refine Go.iadd_e X (nI (13 + (((dif (a - 1) a) >>> 8) >>> 4) >>> 1)) dJ6_numberOfTrailingZeros_0f7a4_78 (nI_add _ _) ?_
            exact Go.iret X E dJ6_numberOfTrailingZeros_0f7a4_79 ⟨rv (congrArg nI (show 13 + (((dif (a - 1) a) >>> 8) >>> 4) >>> 1 = ctz 9 a 0 from by exact Or.resolve_left ((by decide +kernel : ∀ a, a < 512 → (¬ ((0 < a) ∧ (0 < (dif (a - 1) a)) ∧ ((dif (a - 1) a) ≤ 65536) ∧ (256 < (dif (a - 1) a)) ∧ (16 < ((dif (a - 1) a) >>> 8)) ∧ ((((dif (a - 1) a) >>> 8) >>> 4) ≤ 4)) ∨ 13 + (((dif (a - 1) a) >>> 8) >>> 4) >>> 1 = ctz 9 a 0)) a ha) (fun q9 => q9 ⟨h0, h9, h23, h38, h52, h64⟩))), rfl⟩ rfl
          · --
            refine Go.iinc_0 X (nI 15) dJ6_numberOfTrailingZeros_0f7a4_67 (by decide) rfl (by decide) ?_
            refine Go.iload_n X 1 dJ6_numberOfTrailingZeros_0f7a4_70 rfl ?_
            refine Go.iconst X (nI 2) dJ6_numberOfTrailingZeros_0f7a4_71 k_ic_2 ?_
            refine Go.iushr X (nI ((((dif (a - 1) a) >>> 8) >>> 4) >>> 2)) dJ6_numberOfTrailingZeros_0f7a4_72 (nI_ushr (by first | omega | (split <;> omega)) (by first | omega | (split <;> omega))) ?_
            refine Go.istore_n_1 X dJ6_numberOfTrailingZeros_0f7a4_73 (by decide) rfl ?_
            refine Go.iload_n X 0 dJ6_numberOfTrailingZeros_0f7a4_74 rfl ?_
            refine Go.iload_n X 1 dJ6_numberOfTrailingZeros_0f7a4_75 rfl ?_
            refine Go.iconst X (nI 1) dJ6_numberOfTrailingZeros_0f7a4_76 k_ic_1 ?_
            refine Go.iushr X (nI (((((dif (a - 1) a) >>> 8) >>> 4) >>> 2) >>> 1)) dJ6_numberOfTrailingZeros_0f7a4_77 (nI_ushr (by first | omega | (split <;> omega)) (by first | omega | (split <;> omega))) ?_
            refine Go.iadd_e X (nI (15 + ((((dif (a - 1) a) >>> 8) >>> 4) >>> 2) >>> 1)) dJ6_numberOfTrailingZeros_0f7a4_78 (nI_add _ _) ?_
            exact Go.iret X E dJ6_numberOfTrailingZeros_0f7a4_79 ⟨rv (congrArg nI (show 15 + ((((dif (a - 1) a) >>> 8) >>> 4) >>> 2) >>> 1 = ctz 9 a 0 from by exact Or.resolve_left ((by decide +kernel : ∀ a, a < 512 → (¬ ((0 < a) ∧ (0 < (dif (a - 1) a)) ∧ ((dif (a - 1) a) ≤ 65536) ∧ (256 < (dif (a - 1) a)) ∧ (16 < ((dif (a - 1) a) >>> 8)) ∧ (4 < (((dif (a - 1) a) >>> 8) >>> 4))) ∨ 15 + ((((dif (a - 1) a) >>> 8) >>> 4) >>> 2) >>> 1 = ctz 9 a 0)) a ha) (fun q9 => q9 ⟨h0, h9, h23, h38, h52, h64⟩))), rfl⟩ rfl
    · --
      exact absurd h23 (by omega)
  · --
    refine Go.iload_n X 0 dJ6_numberOfTrailingZeros_0f7a4_12 rfl ?_
    refine Go.bipush X (nI 32) dJ6_numberOfTrailingZeros_0f7a4_13 k_bp_32 ?_
    refine Go.iand_e X (nI ((dif (a - 1) a) &&& 32)) dJ6_numberOfTrailingZeros_0f7a4_15 (nI_and _ _) ?_
    exact Go.iret X E dJ6_numberOfTrailingZeros_0f7a4_16 ⟨rv (congrArg nI (show (dif (a - 1) a) &&& 32 = ctz 9 a 0 from by exact Or.resolve_left ((by decide +kernel : ∀ a, a < 512 → (¬ ((0 < a) ∧ ((dif (a - 1) a) = 0)) ∨ (dif (a - 1) a) &&& 32 = ctz 9 a 0)) a ha) (fun q9 => q9 ⟨h0, h9⟩))), rfl⟩ rfl
set_option maxHeartbeats 4000000 in
set_option maxRecDepth 100000 in
theorem c_hob (g : gT) (a : Nat) (ha : a < 512) (h0 : 0 < a) : Cw g yJ6_highestOneBit_0f7a4 wsJ6_highestOneBit_0f7a4 1 21 [.int (nI a)] ([]) (some (.int (nI (2 ^ (Nat.log2 a))))) ([]) := by
  refine Ct.start (cc := cJ6_highestOneBit_0f7a4) (nL := 1) (ret := (some .int)) (own := RJ6) (by decide) rfl rfl rfl ?_
  intro Γ X E
  show Go Γ g 1 (rmC 1 21) 0 0 ([]) 0 [(0, .int (nI a))] []
  refine Go.iload_n X 0 dJ6_highestOneBit_0f7a4_0 rfl ?_
  refine Go.ldc X (-2147483648) dJ6_highestOneBit_0f7a4_1 (List.mem_of_getElem? (i := 1) (by decide +kernel)) ?_
  refine Go.iload_n X 0 dJ6_highestOneBit_0f7a4_3 rfl ?_
  refine Go.callSi X  (c_nlz g a (by first | omega | (split <;> omega)) (by first | omega | (split <;> omega))) cal_J6_numberOfLeadingZeros_0f7a4 [] rfl rfl gJ6_highestOneBit_0f7a4_J6_numberOfLeadingZeros_0f7a4 rfl rfl rfl dJ6_highestOneBit_0f7a4_4 ?_
  have f4_1 := log2_lt9 (show a < 512 by omega)
  refine Go.iushr X (((-2147483648 : Int32).toUInt32 >>> ((nI (31 - Nat.log2 a)).toUInt32 &&& Int32.toUInt32 31)).toInt32) dJ6_highestOneBit_0f7a4_7 rfl ?_
  refine Go.iand_e X ((nI a) &&& (((-2147483648 : Int32).toUInt32 >>> ((nI (31 - Nat.log2 a)).toUInt32 &&& Int32.toUInt32 31)).toInt32)) dJ6_highestOneBit_0f7a4_8 rfl ?_
  exact Go.iret X E dJ6_highestOneBit_0f7a4_9 ⟨rv (show ((nI a) &&& (((-2147483648 : Int32).toUInt32 >>> ((nI (31 - Nat.log2 a)).toUInt32 &&& Int32.toUInt32 31)).toInt32)) = nI (2 ^ (Nat.log2 a)) from by exact Or.resolve_left ((by decide +kernel : ∀ a, a < 512 → (¬ ((0 < a)) ∨ ((nI a) &&& (((-2147483648 : Int32).toUInt32 >>> ((nI (31 - Nat.log2 a)).toUInt32 &&& Int32.toUInt32 31)).toInt32)) = nI (2 ^ (Nat.log2 a)))) a ha) (fun q9 => q9 h0)), rfl⟩ rfl
set_option maxHeartbeats 4000000 in
set_option maxRecDepth 100000 in
theorem c_coder (g : gT) (i : Nat) (hi : i < 6) : Cw g yJ0_coder_7d493 wsJ0_coder_7d493 0 0 [.ref (g.2.2.2.1 i)] ([]) (some (.int (nI 0))) ([]) := by
  refine Ct.start (cc := cJ0_coder_7d493) (nL := 1) (ret := (some .byte)) (own := RJ0) (by decide) rfl rfl rfl ?_
  intro Γ X E
  show Go Γ g 1 (rmC 0 0) 0 0 ([]) 0 [(0, .ref (g.2.2.2.1 i))] []
  refine Go.compact X (List.mem_of_getElem? (i := 1) (by decide +kernel)) dJ0_coder_7d493_0 ?_
  refine Go.if_eq X 13 dJ0_coder_7d493_3 (by decide) (fun h => absurd h (by decide)) (fun _ => ?_)
  refine Go.aload_n X 0 dJ0_coder_7d493_6 rfl ?_
  refine Go.sCoder X (i := i) (by first | omega | (split <;> omega)) (List.mem_of_getElem? (i := 2) (by decide +kernel)) dJ0_coder_7d493_7 ?_
  refine Go.goto X 14 dJ0_coder_7d493_10 (by decide) ?_
  exact Go.nret X E rfl dJ0_coder_7d493_14 ⟨rfl, rfl⟩ rfl
set_option maxHeartbeats 4000000 in
set_option maxRecDepth 100000 in
theorem c_strlen (g : gT) (i : Nat) (hi : i < 6) : Cw g yJ0_length_8abf5 wsJ0_length_8abf5 1 20 [.ref (g.2.2.2.1 i)] ([]) (some (.int (nI (strLen.getD i 0)))) ([]) := by
  refine Ct.start (cc := cJ0_length_8abf5) (nL := 1) (ret := (some .int)) (own := RJ0) (by decide) rfl rfl rfl ?_
  intro Γ X E
  show Go Γ g 1 (rmC 1 20) 0 0 ([]) 0 [(0, .ref (g.2.2.2.1 i))] []
  have o1 := strLen_100 hi
  refine Go.aload_n X 0 dJ0_length_8abf5_0 rfl ?_
  refine Go.sVal X (i := i) (by first | omega | (split <;> omega)) (List.mem_of_getElem? (i := 1) (by decide +kernel)) dJ0_length_8abf5_1 ?_
  refine Go.sLen X (i := i) (by first | omega | (split <;> omega)) dJ0_length_8abf5_4 ?_
  refine Go.aload_n X 0 dJ0_length_8abf5_5 rfl ?_
  refine Go.callVsi X (by first | omega | (split <;> omega)) (c_coder g i (by first | omega | (split <;> omega))) cal_J0_coder_7d493 [] rfl rfl gJ0_length_8abf5_J0_coder_7d493 rfl rfl rfl dJ0_length_8abf5_6 ?_
  refine Go.ishr_e X (nI ((strLen.getD i 0) >>> 0)) dJ0_length_8abf5_9 (nI_shr (by first | omega | (split <;> omega)) (by first | omega | (split <;> omega))) ?_
  exact Go.iret X E dJ0_length_8abf5_10 ⟨rv (congrArg nI (show (strLen.getD i 0) >>> 0 = strLen.getD i 0 from by exact Nat.shiftRight_zero)), rfl⟩ rfl
set_option maxHeartbeats 4000000 in
set_option maxRecDepth 100000 in
theorem c_isLatin1 (g : gT) (i : Nat) (hi : i < 6) : Cw g yJ0_isLatin1_aae02 wsJ0_isLatin1_aae02 0 0 [.ref (g.2.2.2.1 i)] ([]) (some (.int (nI 1))) ([]) := by
  refine Ct.start (cc := cJ0_isLatin1_aae02) (nL := 1) (ret := (some .boolean)) (own := RJ0) (by decide) rfl rfl rfl ?_
  intro Γ X E
  show Go Γ g 1 (rmC 0 0) 0 0 ([]) 0 [(0, .ref (g.2.2.2.1 i))] []
  refine Go.compact X (List.mem_of_getElem? (i := 1) (by decide +kernel)) dJ0_isLatin1_aae02_0 ?_
  refine Go.if_eq X 17 dJ0_isLatin1_aae02_3 (by decide) (fun h => absurd h (by decide)) (fun _ => ?_)
  refine Go.aload_n X 0 dJ0_isLatin1_aae02_6 rfl ?_
  refine Go.sCoder X (i := i) (by first | omega | (split <;> omega)) (List.mem_of_getElem? (i := 2) (by decide +kernel)) dJ0_isLatin1_aae02_7 ?_
  refine Go.if_ne X 17 dJ0_isLatin1_aae02_10 (by decide) (fun h => absurd h (by decide)) (fun _ => ?_)
  refine Go.iconst X (nI 1) dJ0_isLatin1_aae02_13 k_ic_1 ?_
  refine Go.goto X 18 dJ0_isLatin1_aae02_14 (by decide) ?_
  exact Go.nret X E rfl dJ0_isLatin1_aae02_18 ⟨rfl, rfl⟩ rfl
set_option maxHeartbeats 4000000 in
set_option maxRecDepth 100000 in
theorem c_chk_n (g : gT) (k : Nat) (n : Nat) (hk : k < n) (hn : n < 2 ^ 31) : Cw g yJ3_checkIndex_8e157 wsJ3_checkIndex_8e157 0 0 [.int (nI k), .int (nI n), .null] ([]) (some (.int (nI k))) ([]) := by
  refine Ct.start (cc := cJ3_checkIndex_8e157) (nL := 3) (ret := (some .int)) (own := RJ3) (by decide) rfl rfl rfl ?_
  intro Γ X E
  show Go Γ g 3 (rmC 0 0) 0 0 ([]) 0 [(0, .int (nI k)), (1, .int (nI n)), (2, .null)] []
  refine Go.iload_n X 0 dJ3_checkIndex_8e157_0 rfl ?_
  refine Go.if_ltN X 9 dJ3_checkIndex_8e157_1 (by decide) (by first | omega | (split <;> omega)) ?_
  refine Go.iload_n X 0 dJ3_checkIndex_8e157_4 rfl ?_
  refine Go.iload_n X 1 dJ3_checkIndex_8e157_5 rfl ?_
  refine Go.icmp_ltN X 16 dJ3_checkIndex_8e157_6 (by decide) (by first | omega | (split <;> omega)) (by first | omega | (split <;> omega)) (fun h6 => ?_) (fun h6 => ?_)
  · --
    refine Go.iload_n X 0 dJ3_checkIndex_8e157_16 rfl ?_
    exact Go.iret X E dJ3_checkIndex_8e157_17 ⟨rfl, rfl⟩ rfl
  · --
    exact absurd h6 (by omega)
set_option maxHeartbeats 4000000 in
set_option maxRecDepth 100000 in
theorem c_chk_r (g : gT) (k : Nat) (n : Nat) (t : Nat) (hk : k < n) (hn : n < 2 ^ 31) : Cw g yJ3_checkIndex_8e157 wsJ3_checkIndex_8e157 0 0 [.int (nI k), .int (nI n), .ref t] ([]) (some (.int (nI k))) ([]) := by
  refine Ct.start (cc := cJ3_checkIndex_8e157) (nL := 3) (ret := (some .int)) (own := RJ3) (by decide) rfl rfl rfl ?_
  intro Γ X E
  show Go Γ g 3 (rmC 0 0) 0 0 ([]) 0 [(0, .int (nI k)), (1, .int (nI n)), (2, .ref t)] []
  refine Go.iload_n X 0 dJ3_checkIndex_8e157_0 rfl ?_
  refine Go.if_ltN X 9 dJ3_checkIndex_8e157_1 (by decide) (by first | omega | (split <;> omega)) ?_
  refine Go.iload_n X 0 dJ3_checkIndex_8e157_4 rfl ?_
  refine Go.iload_n X 1 dJ3_checkIndex_8e157_5 rfl ?_
  refine Go.icmp_ltN X 16 dJ3_checkIndex_8e157_6 (by decide) (by first | omega | (split <;> omega)) (by first | omega | (split <;> omega)) (fun h6 => ?_) (fun h6 => ?_)
  · --
    refine Go.iload_n X 0 dJ3_checkIndex_8e157_16 rfl ?_
    exact Go.iret X E dJ3_checkIndex_8e157_17 ⟨rfl, rfl⟩ rfl
  · --
    exact absurd h6 (by omega)
set_option maxHeartbeats 4000000 in
set_option maxRecDepth 100000 in
theorem c_chkI (g : gT) (k : Nat) (n : Nat) (hk : k < n) (hn : n < 2 ^ 31) : Cw g yJ0_checkIndex_df160 wsJ0_checkIndex_df160 1 22 [.int (nI k), .int (nI n)] ([]) none ([]) := by
  refine Ct.start (cc := cJ0_checkIndex_df160) (nL := 2) (ret := none) (own := RJ0) (by decide) rfl rfl rfl ?_
  intro Γ X E
  show Go Γ g 2 (rmC 1 22) 0 0 ([]) 0 [(0, .int (nI k)), (1, .int (nI n))] []
  refine Go.iload_n X 0 dJ0_checkIndex_df160_0 rfl ?_
  refine Go.iload_n X 1 dJ0_checkIndex_df160_1 rfl ?_
  refine Go.sioobe X (List.mem_of_getElem? (i := 1) (by decide +kernel)) dJ0_checkIndex_df160_2 ?_ (fun t9 => ?_)
  · --
    refine Go.callSi X  (c_chk_n g k n (by first | omega | (split <;> omega)) (by first | omega | (split <;> omega))) cal_J3_checkIndex_8e157 [] rfl rfl gJ0_checkIndex_df160_J3_checkIndex_8e157 rfl rfl rfl dJ0_checkIndex_df160_5 ?_
    refine Go.pop X dJ0_checkIndex_df160_8 rfl ?_
    exact Go.vret X E dJ0_checkIndex_df160_9 ⟨rfl, rfl⟩ rfl
  · --
    refine Go.callSi X  (c_chk_r g k n t9 (by first | omega | (split <;> omega)) (by first | omega | (split <;> omega))) cal_J3_checkIndex_8e157 [] rfl rfl gJ0_checkIndex_df160_J3_checkIndex_8e157 rfl rfl rfl dJ0_checkIndex_df160_5 ?_
    refine Go.pop X dJ0_checkIndex_df160_8 rfl ?_
    exact Go.vret X E dJ0_checkIndex_df160_9 ⟨rfl, rfl⟩ rfl
set_option maxHeartbeats 4000000 in
set_option maxRecDepth 100000 in
theorem c_charL (g : gT) (i : Nat) (k : Nat) (hi : i < 6) (hk : k < strLen.getD i 0) : Cw g yJ1_charAt_3b067 wsJ1_charAt_3b067 2 43 [.ref (g.2.2.2.2 i), .int (nI k)] ([]) (some (.int (nI (wb i k)))) ([]) := by
  refine Ct.start (cc := cJ1_charAt_3b067) (nL := 2) (ret := (some .char)) (own := RJ1) (by decide) rfl rfl rfl ?_
  intro Γ X E
  show Go Γ g 2 (rmC 2 43) 0 0 ([]) 0 [(0, .ref (g.2.2.2.2 i)), (1, .int (nI k))] []
  have o1 := strLen_100 hi
  refine Go.iload_n X 1 dJ1_charAt_3b067_0 rfl ?_
  refine Go.aload_n X 0 dJ1_charAt_3b067_1 rfl ?_
  refine Go.sLen X (i := i) (by first | omega | (split <;> omega)) dJ1_charAt_3b067_2 ?_
  refine Go.callSv X  (c_chkI g k (strLen.getD i 0) (by first | omega | (split <;> omega)) (by first | omega | (split <;> omega))) cal_J0_checkIndex_df160 [] rfl rfl gJ1_charAt_3b067_J0_checkIndex_df160 rfl rfl rfl dJ1_charAt_3b067_3 ?_
  refine Go.aload_n X 0 dJ1_charAt_3b067_6 rfl ?_
  refine Go.iload_n X 1 dJ1_charAt_3b067_7 rfl ?_
  refine Go.sAt X (i := i) (by first | omega | (split <;> omega)) (by first | omega | (split <;> omega)) (by first | omega | (split <;> omega)) dJ1_charAt_3b067_8 ?_
  refine Go.sipush X (nI 255) dJ1_charAt_3b067_9 k_sp_255 ?_
  refine Go.iand_e X (((strByt.getD i []).getD k 0) &&& (nI 255)) dJ1_charAt_3b067_12 rfl ?_
  refine Go.i2c X (nI (wb i k)) (by exact wb_at i hi k hk) dJ1_charAt_3b067_13 ?_
  exact Go.nret X E (pk_charN (wb_lt i hi k hk)).1 dJ1_charAt_3b067_14 ⟨rfl, rfl⟩ rfl
set_option maxHeartbeats 4000000 in
set_option maxRecDepth 100000 in
theorem c_charAt (g : gT) (i : Nat) (k : Nat) (hi : i < 6) (hk : k < strLen.getD i 0) : Cw g yJ0_charAt_5068e wsJ0_charAt_5068e 3 64 [.ref (g.2.2.2.1 i), .int (nI k)] ([]) (some (.int (nI (wb i k)))) ([]) := by
  refine Ct.start (cc := cJ0_charAt_5068e) (nL := 2) (ret := (some .char)) (own := RJ0) (by decide) rfl rfl rfl ?_
  intro Γ X E
  show Go Γ g 2 (rmC 3 64) 0 0 ([]) 0 [(0, .ref (g.2.2.2.1 i)), (1, .int (nI k))] []
  refine Go.aload_n X 0 dJ0_charAt_5068e_0 rfl ?_
  refine Go.callVsi X (by first | omega | (split <;> omega)) (c_isLatin1 g i (by first | omega | (split <;> omega))) cal_J0_isLatin1_aae02 [] rfl rfl gJ0_charAt_5068e_J0_isLatin1_aae02 rfl rfl rfl dJ0_charAt_5068e_1 ?_
  refine Go.if_eq X 16 dJ0_charAt_5068e_4 (by decide) (fun h => absurd h (by decide)) (fun _ => ?_)
  refine Go.aload_n X 0 dJ0_charAt_5068e_7 rfl ?_
  refine Go.sVal X (i := i) (by first | omega | (split <;> omega)) (List.mem_of_getElem? (i := 1) (by decide +kernel)) dJ0_charAt_5068e_8 ?_
  refine Go.iload_n X 1 dJ0_charAt_5068e_11 rfl ?_
  refine Go.callSi X  (c_charL g i k (by first | omega | (split <;> omega)) (by first | omega | (split <;> omega))) cal_J1_charAt_3b067 [] rfl rfl gJ0_charAt_5068e_J1_charAt_3b067 rfl rfl rfl dJ0_charAt_5068e_12 ?_
  exact Go.nret X E (pk_charN (wb_lt i hi k hk)).1 dJ0_charAt_5068e_15 ⟨rfl, rfl⟩ rfl
