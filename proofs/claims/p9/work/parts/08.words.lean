theorem iM_J0_charAt_5068e : gM yJ0_charAt_5068e cJ0_charAt_5068e 2 (some .char) 1 := ⟨mw_13_17, mw_13_5, by decide +kernel, by decide +kernel, by decide +kernel⟩
theorem iM_J0_checkIndex_df160 : gM yJ0_checkIndex_df160 cJ0_checkIndex_df160 2 none 2 := ⟨mw_14_4, mw_13_5, by decide +kernel, by decide +kernel, by decide +kernel⟩
theorem iM_J0_coder_7d493 : gM yJ0_coder_7d493 cJ0_coder_7d493 1 (some .byte) 0 := ⟨mw_13_11, mw_13_5, by decide +kernel, by decide +kernel, by decide +kernel⟩
theorem iM_J0_isLatin1_aae02 : gM yJ0_isLatin1_aae02 cJ0_isLatin1_aae02 1 (some .boolean) 0 := ⟨mw_13_21, mw_13_5, by decide +kernel, by decide +kernel, by decide +kernel⟩
theorem iM_J0_length_8abf5 : gM yJ0_length_8abf5 cJ0_length_8abf5 1 (some .int) 0 := ⟨mw_13_6, mw_13_5, by decide +kernel, by decide +kernel, by decide +kernel⟩
theorem iM_J1_charAt_3b067 : gM yJ1_charAt_3b067 cJ1_charAt_3b067 2 (some .char) 2 := ⟨mw_14_1, mw_14_0, by decide +kernel, by decide +kernel, by decide +kernel⟩
theorem iM_J3_checkIndex_8e157 : gM yJ3_checkIndex_8e157 cJ3_checkIndex_8e157 3 (some .int) 3 := ⟨mw_14_9, mw_14_8, by decide +kernel, by decide +kernel, by decide +kernel⟩
theorem iM_J6_bitCount_0f7a4 : gM yJ6_bitCount_0f7a4 cJ6_bitCount_0f7a4 1 (some .int) 1 := ⟨mw_41_19, mw_41_18, by decide +kernel, by decide +kernel, by decide +kernel⟩
theorem iM_J9_floorDiv_7cf53 : gM yJ9_floorDiv_7cf53 cJ9_floorDiv_7cf53 3 (some .int) 2 := ⟨mw_26_0, mw_25_23, by decide +kernel, by decide +kernel, by decide +kernel⟩
theorem iM_X0_freeFirst : gM yX0_freeFirst cX0_freeFirst 1 (some .int) 0 := ⟨mw_54_16, mw_2_23, by decide +kernel, by decide +kernel, by decide +kernel⟩
theorem iM_X10_add : gM yX10_add cX10_add 4 none 3 := ⟨mw_17_10, mw_6_10, by decide +kernel, by decide +kernel, by decide +kernel⟩
theorem iM_X10_beginOf : gM yX10_beginOf cX10_beginOf 2 (some .int) 1 := ⟨mw_25_16, mw_6_10, by decide +kernel, by decide +kernel, by decide +kernel⟩
theorem iM_X10_clear : gM yX10_clear cX10_clear 1 none 0 := ⟨mw_16_3, mw_6_10, by decide +kernel, by decide +kernel, by decide +kernel⟩
theorem iM_X10_has : gM yX10_has cX10_has 2 (some .boolean) 1 := ⟨mw_17_22, mw_6_10, by decide +kernel, by decide +kernel, by decide +kernel⟩
theorem iM_X10_heightOn : gM yX10_heightOn cX10_heightOn 3 (some .int) 2 := ⟨mw_25_20, mw_6_10, by decide +kernel, by decide +kernel, by decide +kernel⟩
theorem iM_X10_isCut : gM yX10_isCut cX10_isCut 2 (some .boolean) 2 := ⟨mw_45_5, mw_6_10, by decide +kernel, by decide +kernel, by decide +kernel⟩
theorem iM_X10_lean : gM yX10_lean cX10_lean 3 none 2 := ⟨mw_18_23, mw_6_10, by decide +kernel, by decide +kernel, by decide +kernel⟩
theorem iM_X10_leansAt : gM yX10_leansAt cX10_leansAt 2 (some .boolean) 1 := ⟨mw_18_19, mw_6_10, by decide +kernel, by decide +kernel, by decide +kernel⟩
theorem iM_X10_lengthOf : gM yX10_lengthOf cX10_lengthOf 2 (some .int) 1 := ⟨mw_17_18, mw_6_10, by decide +kernel, by decide +kernel, by decide +kernel⟩
theorem iM_X10_lesserHeightOf : gM yX10_lesserHeightOf cX10_lesserHeightOf 2 (some .int) 1 := ⟨mw_18_2, mw_6_10, by decide +kernel, by decide +kernel, by decide +kernel⟩
theorem iM_X10_rightOf : gM yX10_rightOf cX10_rightOf 2 (some .int) 1 := ⟨mw_48_18, mw_6_10, by decide +kernel, by decide +kernel, by decide +kernel⟩
theorem iM_X10_runsOffAt : gM yX10_runsOffAt cX10_runsOffAt 2 (some .int) 1 := ⟨mw_45_2, mw_6_10, by decide +kernel, by decide +kernel, by decide +kernel⟩
theorem iM_X10_shownWith : gM yX10_shownWith cX10_shownWith 5 (some .int) 1 := ⟨mw_44_19, mw_6_10, by decide +kernel, by decide +kernel, by decide +kernel⟩
theorem iM_X10_tallestEndBetween : gM yX10_tallestEndBetween cX10_tallestEndBetween 7 (some .int) 2 := ⟨mw_26_4, mw_6_10, by decide +kernel, by decide +kernel, by decide +kernel⟩
theorem iM_X10_wallAt : gM yX10_wallAt cX10_wallAt 4 (some .int) 1 := ⟨mw_25_12, mw_6_10, by decide +kernel, by decide +kernel, by decide +kernel⟩
theorem iM_X11_cutUp : gM yX11_cutUp cX11_cutUp 2 (some .int) 2 := ⟨mw_24_16, mw_1_2, by decide +kernel, by decide +kernel, by decide +kernel⟩
theorem iM_X11_isFrom : gM yX11_isFrom cX11_isFrom 3 (some .boolean) 3 := ⟨mw_11_8, mw_1_2, by decide +kernel, by decide +kernel, by decide +kernel⟩
theorem iM_X11_rest : gM yX11_rest cX11_rest 3 (some .int) 2 := ⟨mw_25_4, mw_1_2, by decide +kernel, by decide +kernel, by decide +kernel⟩
theorem iM_X2_addPiece : gM yX2_addPiece cX2_addPiece 5 none 4 := ⟨mw_27_7, mw_2_7, by decide +kernel, by decide +kernel, by decide +kernel⟩
theorem iM_X2_addPieces : gM yX2_addPieces cX2_addPieces 5 none 2 := ⟨mw_26_17, mw_2_7, by decide +kernel, by decide +kernel, by decide +kernel⟩
theorem iM_X2_beginOf : gM yX2_beginOf cX2_beginOf 2 (some .int) 1 := ⟨mw_25_1, mw_2_7, by decide +kernel, by decide +kernel, by decide +kernel⟩
theorem iM_X2_measure : gM yX2_measure cX2_measure 11 (some .int) 1 := ⟨mw_24_20, mw_2_7, by decide +kernel, by decide +kernel, by decide +kernel⟩
theorem iM_X2_widthOf : gM yX2_widthOf cX2_widthOf 2 (some .int) 1 := ⟨mw_25_8, mw_2_7, by decide +kernel, by decide +kernel, by decide +kernel⟩
theorem iM_X3_offsetOf : gM yX3_offsetOf cX3_offsetOf 4 (some .int) 2 := ⟨mw_26_21, mw_24_12, by decide +kernel, by decide +kernel, by decide +kernel⟩
theorem iM_X3_phaseAt : gM yX3_phaseAt cX3_phaseAt 2 (some .int) 1 := ⟨mw_27_11, mw_24_12, by decide +kernel, by decide +kernel, by decide +kernel⟩
theorem iM_X3_placeBehind : gM yX3_placeBehind cX3_placeBehind 3 (some .int) 2 := ⟨mw_35_3, mw_24_12, by decide +kernel, by decide +kernel, by decide +kernel⟩
theorem iM_X3_stripsFor : gM yX3_stripsFor cX3_stripsFor 2 (some .int) 1 := ⟨mw_24_13, mw_24_12, by decide +kernel, by decide +kernel, by decide +kernel⟩
theorem iM_X4_isNext : gM yX4_isNext cX4_isNext 2 (some .boolean) 1 := ⟨mw_16_9, mw_1_18, by decide +kernel, by decide +kernel, by decide +kernel⟩
theorem iM_X4_placeOfNext : gM yX4_placeOfNext cX4_placeOfNext 1 (some .int) 0 := ⟨mw_19_11, mw_1_18, by decide +kernel, by decide +kernel, by decide +kernel⟩
theorem iM_X4_readDoor : gM yX4_readDoor cX4_readDoor 5 (some .boolean) 0 := ⟨mw_17_14, mw_1_18, by decide +kernel, by decide +kernel, by decide +kernel⟩
theorem iM_X4_readLean : gM yX4_readLean cX4_readLean 4 (some .boolean) 0 := ⟨mw_18_15, mw_1_18, by decide +kernel, by decide +kernel, by decide +kernel⟩
theorem iM_X4_readLine : gM yX4_readLine cX4_readLine 1 (some .boolean) 0 := ⟨mw_16_15, mw_1_18, by decide +kernel, by decide +kernel, by decide +kernel⟩
theorem iM_X4_readNumber : gM yX4_readNumber cX4_readNumber 3 (some .int) 2 := ⟨mw_17_1, mw_1_18, by decide +kernel, by decide +kernel, by decide +kernel⟩
theorem iM_X4_readSign : gM yX4_readSign cX4_readSign 2 (some .boolean) 1 := ⟨mw_17_6, mw_1_18, by decide +kernel, by decide +kernel, by decide +kernel⟩
theorem iM_X4_readStand : gM yX4_readStand cX4_readStand 4 (some .boolean) 0 := ⟨mw_19_3, mw_1_18, by decide +kernel, by decide +kernel, by decide +kernel⟩
theorem iM_X4_readWall : gM yX4_readWall cX4_readWall 4 (some .boolean) 0 := ⟨mw_16_21, mw_1_18, by decide +kernel, by decide +kernel, by decide +kernel⟩
theorem iM_X4_readWindow : gM yX4_readWindow cX4_readWindow 6 (some .boolean) 0 := ⟨mw_18_11, mw_1_18, by decide +kernel, by decide +kernel, by decide +kernel⟩
theorem iM_X5_behind : gM yX5_behind cX5_behind 5 (some .int) 2 := ⟨mw_37_12, mw_2_11, by decide +kernel, by decide +kernel, by decide +kernel⟩
theorem iM_X5_cut : gM yX5_cut cX5_cut 5 (some .boolean) 2 := ⟨mw_34_22, mw_2_11, by decide +kernel, by decide +kernel, by decide +kernel⟩
theorem iM_X5_leastFor : gM yX5_leastFor cX5_leastFor 5 (some .int) 2 := ⟨mw_37_7, mw_2_11, by decide +kernel, by decide +kernel, by decide +kernel⟩
theorem iM_X5_take : gM yX5_take cX5_take 4 none 3 := ⟨mw_35_7, mw_2_11, by decide +kernel, by decide +kernel, by decide +kernel⟩
theorem iM_X6_addOpening : gM yX6_addOpening cX6_addOpening 7 none 6 := ⟨mw_18_7, mw_3_2, by decide +kernel, by decide +kernel, by decide +kernel⟩
theorem iM_X6_addStand : gM yX6_addStand cX6_addStand 4 none 3 := ⟨mw_19_7, mw_3_2, by decide +kernel, by decide +kernel, by decide +kernel⟩
theorem iM_X6_clear : gM yX6_clear cX6_clear 1 none 0 := ⟨mw_15_21, mw_3_2, by decide +kernel, by decide +kernel, by decide +kernel⟩
theorem iM_X6_isWindow : gM yX6_isWindow cX6_isWindow 2 (some .boolean) 1 := ⟨mw_27_15, mw_3_2, by decide +kernel, by decide +kernel, by decide +kernel⟩
theorem iM_X6_lies : gM yX6_lies cX6_lies 4 (some .boolean) 3 := ⟨mw_26_13, mw_3_2, by decide +kernel, by decide +kernel, by decide +kernel⟩
theorem iM_X6_lowerOf : gM yX6_lowerOf cX6_lowerOf 2 (some .int) 1 := ⟨mw_27_19, mw_3_2, by decide +kernel, by decide +kernel, by decide +kernel⟩
theorem iM_X6_openingWith : gM yX6_openingWith cX6_openingWith 5 (some .int) 3 := ⟨mw_26_9, mw_3_2, by decide +kernel, by decide +kernel, by decide +kernel⟩
theorem iM_X6_upperOf : gM yX6_upperOf cX6_upperOf 2 (some .int) 1 := ⟨mw_27_3, mw_3_2, by decide +kernel, by decide +kernel, by decide +kernel⟩
theorem iM_X9_addToken : gM yX9_addToken cX9_addToken 4 none 3 := ⟨mw_15_6, mw_1_14, by decide +kernel, by decide +kernel, by decide +kernel⟩
theorem iM_X9_endOf : gM yX9_endOf cX9_endOf 5 (some .int) 3 := ⟨mw_12_17, mw_1_14, by decide +kernel, by decide +kernel, by decide +kernel⟩
theorem iM_X9_hasSpaceFor : gM yX9_hasSpaceFor cX9_hasSpaceFor 2 (some .boolean) 1 := ⟨mw_10_7, mw_1_14, by decide +kernel, by decide +kernel, by decide +kernel⟩
theorem iM_X9_numberFrom : gM yX9_numberFrom cX9_numberFrom 5 (some .int) 2 := ⟨mw_15_10, mw_1_14, by decide +kernel, by decide +kernel, by decide +kernel⟩
theorem iM_X9_signKind : gM yX9_signKind cX9_signKind 1 (some .int) 1 := ⟨mw_15_17, mw_1_14, by decide +kernel, by decide +kernel, by decide +kernel⟩
theorem iM_X9_spells : gM yX9_spells cX9_spells 5 (some .boolean) 3 := ⟨mw_13_1, mw_1_14, by decide +kernel, by decide +kernel, by decide +kernel⟩
theorem iM_X9_split : gM yX9_split cX9_split 3 none 0 := ⟨mw_12_8, mw_1_14, by decide +kernel, by decide +kernel, by decide +kernel⟩
theorem iM_X9_wordKind : gM yX9_wordKind cX9_wordKind 3 (some .int) 2 := ⟨mw_12_21, mw_1_14, by decide +kernel, by decide +kernel, by decide +kernel⟩
theorem df_X0 : ∀ j, j < 7 → defaultValue (tyX0 j) = vp_V [.int 0, .int 0, .int 0, .int 0, .int 0, .null, .int 0] j := by decide +kernel
theorem df_X1 : ∀ j, j < 9 → defaultValue (tyX1 j) = vp_V [.null, .null, .int 0, .int 0, .null, .null, .int 0, .int 0, .int 0] j := by decide +kernel
theorem df_X2 : ∀ j, j < 16 → defaultValue (tyX2 j) = vp_V [.null, .null, .int 0, .int 0, .int 0, .int 0, .null, .null, .int 0, .null, .null, .null, .null, .null, .null, .null] j := by decide +kernel
theorem df_X3 : ∀ j, j < 6 → defaultValue (tyX3 j) = vp_V [.int 0, .int 0, .int 0, .int 0, .int 0, .int 0] j := by decide +kernel
theorem df_X4 : ∀ j, j < 3 → defaultValue (tyX4 j) = vp_V [.null, .null, .int 0] j := by decide +kernel
theorem df_X5 : ∀ j, j < 8 → defaultValue (tyX5 j) = vp_V [.null, .int 0, .null, .int 0, .int 0, .null, .null, .null] j := by decide +kernel
theorem df_X6 : ∀ j, j < 12 → defaultValue (tyX6 j) = vp_V [.null, .int 0, .null, .null, .null, .null, .null, .null, .int 0, .null, .null, .null] j := by decide +kernel
theorem df_X7 : ∀ j, j < 12 → defaultValue (tyX7 j) = vp_V [.int 0, .null, .null, .null, .int 0, .int 0, .null, .null, .null, .null, .null, .int 0] j := by decide +kernel
theorem df_X8 : ∀ j, j < 8 → defaultValue (tyX8 j) = vp_V [.null, .null, .null, .null, .int 0, .null, .null, .null] j := by decide +kernel
theorem df_X9 : ∀ j, j < 6 → defaultValue (tyX9 j) = vp_V [.null, .int 0, .int 0, .null, .null, .null] j := by decide +kernel
theorem df_X10 : ∀ j, j < 8 → defaultValue (tyX10 j) = vp_V [.null, .null, .null, .null, .null, .null, .int 0, .int 0] j := by decide +kernel
theorem df_X11 : ∀ j, j < 15 → defaultValue (tyX11 j) = vp_V [.null, .null, .null, .null, .null, .null, .null, .null, .null, .null, .null, .null, .int 0, .int 0, .int 0] j := by decide +kernel
theorem df_X12 : ∀ j, j < 75 → defaultValue (tyX12 j) = vp_V [.null, .null, .null, .null, .null, .null, .null, .null, .null, .null, .null, .null, .null, .null, .null, .null, .null, .null, .int 0, .null, .int 0, .int 0, .int 0, .int 0, .int 0, .null, .null, .null, .null, .null, .null, .null, .int 0, .int 0, .null, .null, .null, .null, .null, .null, .null, .null, .null, .null, .null, .null, .null, .int 0, .int 0, .int 0, .int 0, .int 0, .int 0, .int 0, .null, .int 0, .null, .null, .null, .null, .null, .null, .null, .null, .int 0, .int 0, .null, .null, .null, .int 0, .null, .null, .null, .null, .null] j := by decide +kernel
