theorem iM_X10_beginOf : gM yX10_beginOf cX10_beginOf 2 (some .int) 1 := ⟨mw_25_16, mw_6_10, by decide +kernel, by decide +kernel, by decide +kernel⟩
theorem iM_X10_clear : gM yX10_clear cX10_clear 1 none 0 := ⟨mw_16_3, mw_6_10, by decide +kernel, by decide +kernel, by decide +kernel⟩
theorem iM_X10_has : gM yX10_has cX10_has 2 (some .boolean) 1 := ⟨mw_17_22, mw_6_10, by decide +kernel, by decide +kernel, by decide +kernel⟩
theorem iM_X10_isCut : gM yX10_isCut cX10_isCut 2 (some .boolean) 2 := ⟨mw_45_5, mw_6_10, by decide +kernel, by decide +kernel, by decide +kernel⟩
theorem iM_X10_lengthOf : gM yX10_lengthOf cX10_lengthOf 2 (some .int) 1 := ⟨mw_17_18, mw_6_10, by decide +kernel, by decide +kernel, by decide +kernel⟩
theorem iM_X10_rightOf : gM yX10_rightOf cX10_rightOf 2 (some .int) 1 := ⟨mw_48_18, mw_6_10, by decide +kernel, by decide +kernel, by decide +kernel⟩
theorem iM_X10_runsOffAt : gM yX10_runsOffAt cX10_runsOffAt 2 (some .int) 1 := ⟨mw_45_2, mw_6_10, by decide +kernel, by decide +kernel, by decide +kernel⟩
theorem iM_X11_cutUp : gM yX11_cutUp cX11_cutUp 2 (some .int) 2 := ⟨mw_24_16, mw_1_2, by decide +kernel, by decide +kernel, by decide +kernel⟩
theorem iM_X11_isFrom : gM yX11_isFrom cX11_isFrom 3 (some .boolean) 3 := ⟨mw_11_8, mw_1_2, by decide +kernel, by decide +kernel, by decide +kernel⟩
theorem iM_X11_rest : gM yX11_rest cX11_rest 3 (some .int) 2 := ⟨mw_25_4, mw_1_2, by decide +kernel, by decide +kernel, by decide +kernel⟩
theorem iM_X6_lies : gM yX6_lies cX6_lies 4 (some .boolean) 3 := ⟨mw_26_13, mw_3_2, by decide +kernel, by decide +kernel, by decide +kernel⟩
theorem iM_X9_hasSpaceFor : gM yX9_hasSpaceFor cX9_hasSpaceFor 2 (some .boolean) 1 := ⟨mw_10_7, mw_1_14, by decide +kernel, by decide +kernel, by decide +kernel⟩
theorem df_X0 : ∀ j, j < 7 → defaultValue (tyX0 j) = vp_V [.int 0, .int 0, .int 0, .int 0, .int 0, .null, .int 0] j := by decide +kernel
theorem df_X1 : ∀ j, j < 9 → defaultValue (tyX1 j) = vp_V [.null, .null, .int 0, .int 0, .null, .null, .int 0, .int 0, .int 0] j := by decide +kernel
theorem df_X2 : ∀ j, j < 16 → defaultValue (tyX2 j) = vp_V [.null, .null, .int 0, .int 0, .int 0, .int 0, .null, .null, .int 0, .null, .null, .null, .null, .null, .null, .null] j := by decide +kernel
theorem df_X3 : ∀ j, j < 6 → defaultValue (tyX3 j) = vp_V [.int 0, .int 0, .int 0, .int 0, .int 0, .int 0] j := by decide +kernel
theorem df_X4 : ∀ j, j < 3 → defaultValue (tyX4 j) = vp_V [.null, .null, .int 0] j := by decide +kernel
theorem df_X5 : ∀ j, j < 8 → defaultValue (tyX5 j) = vp_V [.null, .int 0, .null, .int 0, .int 0, .null, .null, .null] j := by decide +kernel
theorem df_X6 : ∀ j, j < 12 → defaultValue (tyX6 j) = vp_V [.null, .int 0, .null, .null, .null, .null, .null, .null, .int 0, .null, .null, .null] j := by decide +kernel
theorem df_X7 : ∀ j, j < 12 → defaultValue (tyX7 j) = vp_V [.int 0, .null, .null, .null, .int 0, .int 0, .null, .null, .null, .null, .null, .int 0] j := by decide +kernel
theorem df_X8 : ∀ j, j < 8 → defaultValue (tyX8 j) = vp_V [.null, .null, .null, .null, .int 0, .null, .null, .null] j := by decide +kernel
theorem df_X9 : ∀ j, j < 6 → defaultValue (tyX9 j) = vp_V [.null, .int 0, .int 0, .null, .null, .null] j := by decide +kernel
theorem df_X10 : ∀ j, j < 8 → defaultValue (tyX10 j) = vp_V [.null, .null, .null, .null, .null, .null, .int 0, .int 0] j := by decide +kernel
theorem df_X11 : ∀ j, j < 15 → defaultValue (tyX11 j) = vp_V [.null, .null, .null, .null, .null, .null, .null, .null, .null, .null, .null, .null, .int 0, .int 0, .int 0] j := by decide +kernel
theorem df_X12 : ∀ j, j < 75 → defaultValue (tyX12 j) = vp_V [.null, .null, .null, .null, .null, .null, .null, .null, .null, .null, .null, .null, .null, .null, .null, .null, .null, .null, .int 0, .null, .int 0, .int 0, .int 0, .int 0, .int 0, .null, .null, .null, .null, .null, .null, .null, .int 0, .int 0, .null, .null, .null, .null, .null, .null, .null, .null, .null, .null, .null, .null, .null, .int 0, .int 0, .int 0, .int 0, .int 0, .int 0, .int 0, .null, .int 0, .null, .null, .null, .null, .null, .null, .null, .null, .int 0, .int 0, .null, .null, .null, .int 0, .null, .null, .null, .null, .null] j := by decide +kernel
