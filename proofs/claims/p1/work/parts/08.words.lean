theorem iM_X0_init : gM yX0_init cX0_init 1 none 0 := ⟨mw_6_1, mw_2_23, by decide +kernel, by decide +kernel, by decide +kernel⟩
theorem iM_X10_clear : gM yX10_clear cX10_clear 1 none 0 := ⟨mw_16_3, mw_6_10, by decide +kernel, by decide +kernel, by decide +kernel⟩
theorem iM_X10_init : gM yX10_init cX10_init 1 none 0 := ⟨mw_6_23, mw_6_10, by decide +kernel, by decide +kernel, by decide +kernel⟩
theorem iM_X11_all : gM yX11_all cX11_all 4 (some .int) 1 := ⟨mw_50_21, mw_1_2, by decide +kernel, by decide +kernel, by decide +kernel⟩
theorem iM_X11_batch : gM yX11_batch cX11_batch 3 (some .int) 2 := ⟨mw_47_2, mw_1_2, by decide +kernel, by decide +kernel, by decide +kernel⟩
theorem iM_X11_best : gM yX11_best cX11_best 7 (some .int) 4 := ⟨mw_43_4, mw_1_2, by decide +kernel, by decide +kernel, by decide +kernel⟩
theorem iM_X11_border : gM yX11_border cX11_border 5 (some .int) 3 := ⟨mw_53_6, mw_1_2, by decide +kernel, by decide +kernel, by decide +kernel⟩
theorem iM_X11_count : gM yX11_count cX11_count 2 (some .int) 1 := ⟨mw_56_13, mw_1_2, by decide +kernel, by decide +kernel, by decide +kernel⟩
theorem iM_X11_cuts : gM yX11_cuts cX11_cuts 3 (some .int) 1 := ⟨mw_46_12, mw_1_2, by decide +kernel, by decide +kernel, by decide +kernel⟩
theorem iM_X11_day : gM yX11_day cX11_day 7 (some .int) 5 := ⟨mw_53_20, mw_1_2, by decide +kernel, by decide +kernel, by decide +kernel⟩
theorem iM_X11_done : gM yX11_done cX11_done 7 (some .int) 4 := ⟨mw_32_11, mw_1_2, by decide +kernel, by decide +kernel, by decide +kernel⟩
theorem iM_X11_end : gM yX11_end cX11_end 2 (some .boolean) 1 := ⟨mw_11_2, mw_1_2, by decide +kernel, by decide +kernel, by decide +kernel⟩
theorem iM_X11_fault : gM yX11_fault cX11_fault 1 (some .int) 0 := ⟨mw_11_19, mw_1_2, by decide +kernel, by decide +kernel, by decide +kernel⟩
theorem iM_X11_faults : gM yX11_faults cX11_faults 4 (some .int) 2 := ⟨mw_38_15, mw_1_2, by decide +kernel, by decide +kernel, by decide +kernel⟩
theorem iM_X11_feed : gM yX11_feed cX11_feed 6 (some .int) 5 := ⟨mw_10_2, mw_1_2, by decide +kernel, by decide +kernel, by decide +kernel⟩
theorem iM_X11_hang : gM yX11_hang cX11_hang 3 (some .int) 2 := ⟨mw_55_9, mw_1_2, by decide +kernel, by decide +kernel, by decide +kernel⟩
theorem iM_X11_height : gM yX11_height cX11_height 4 (some .int) 2 := ⟨mw_30_10, mw_1_2, by decide +kernel, by decide +kernel, by decide +kernel⟩
theorem iM_X11_image : gM yX11_image cX11_image 2 (some .boolean) 1 := ⟨mw_55_17, mw_1_2, by decide +kernel, by decide +kernel, by decide +kernel⟩
theorem iM_X11_init : gM yX11_init cX11_init 1 none 0 := ⟨mw_1_8, mw_1_2, by decide +kernel, by decide +kernel, by decide +kernel⟩
theorem iM_X11_isFrom : gM yX11_isFrom cX11_isFrom 3 (some .boolean) 3 := ⟨mw_11_8, mw_1_2, by decide +kernel, by decide +kernel, by decide +kernel⟩
theorem iM_X11_keep : gM yX11_keep cX11_keep 5 (some .int) 3 := ⟨mw_51_5, mw_1_2, by decide +kernel, by decide +kernel, by decide +kernel⟩
theorem iM_X11_lay : gM yX11_lay cX11_lay 4 (some .boolean) 1 := ⟨mw_23_12, mw_1_2, by decide +kernel, by decide +kernel, by decide +kernel⟩
theorem iM_X11_left : gM yX11_left cX11_left 4 (some .int) 3 := ⟨mw_38_5, mw_1_2, by decide +kernel, by decide +kernel, by decide +kernel⟩
theorem iM_X11_mended : gM yX11_mended cX11_mended 3 (some .int) 2 := ⟨mw_51_19, mw_1_2, by decide +kernel, by decide +kernel, by decide +kernel⟩
theorem iM_X11_of : gM yX11_of cX11_of 4 (some .int) 2 := ⟨mw_22_16, mw_1_2, by decide +kernel, by decide +kernel, by decide +kernel⟩
theorem iM_X11_on : gM yX11_on cX11_on 2 (some .boolean) 1 := ⟨mw_56_5, mw_1_2, by decide +kernel, by decide +kernel, by decide +kernel⟩
theorem iM_X11_own : gM yX11_own cX11_own 3 (some .int) 2 := ⟨mw_50_13, mw_1_2, by decide +kernel, by decide +kernel, by decide +kernel⟩
theorem iM_X11_paper : gM yX11_paper cX11_paper 6 (some .int) 5 := ⟨mw_31_1, mw_1_2, by decide +kernel, by decide +kernel, by decide +kernel⟩
theorem iM_X11_paperAt : gM yX11_paperAt cX11_paperAt 2 (some (.object "HalfDrop$Paper")) 1 := ⟨mw_23_18, mw_1_2, by decide +kernel, by decide +kernel, by decide +kernel⟩
theorem iM_X11_piece : gM yX11_piece cX11_piece 4 (some .int) 3 := ⟨mw_33_19, mw_1_2, by decide +kernel, by decide +kernel, by decide +kernel⟩
theorem iM_X11_rolls : gM yX11_rolls cX11_rolls 3 (some .int) 2 := ⟨mw_36_18, mw_1_2, by decide +kernel, by decide +kernel, by decide +kernel⟩
theorem iM_X11_room : gM yX11_room cX11_room 1 (some .int) 0 := ⟨mw_22_7, mw_1_2, by decide +kernel, by decide +kernel, by decide +kernel⟩
theorem iM_X11_roomAt : gM yX11_roomAt cX11_roomAt 2 (some (.object "HalfDrop$Room")) 1 := ⟨mw_23_7, mw_1_2, by decide +kernel, by decide +kernel, by decide +kernel⟩
theorem iM_X11_run : gM yX11_run cX11_run 5 (some .int) 3 := ⟨mw_45_22, mw_1_2, by decide +kernel, by decide +kernel, by decide +kernel⟩
theorem iM_X11_shared : gM yX11_shared cX11_shared 3 (some .int) 2 := ⟨mw_47_17, mw_1_2, by decide +kernel, by decide +kernel, by decide +kernel⟩
theorem iM_X11_shown : gM yX11_shown cX11_shown 4 (some .int) 2 := ⟨mw_44_11, mw_1_2, by decide +kernel, by decide +kernel, by decide +kernel⟩
theorem iM_X11_strip : gM yX11_strip cX11_strip 4 (some .int) 3 := ⟨mw_33_1, mw_1_2, by decide +kernel, by decide +kernel, by decide +kernel⟩
theorem iM_X11_trim : gM yX11_trim cX11_trim 2 (some .boolean) 1 := ⟨mw_32_3, mw_1_2, by decide +kernel, by decide +kernel, by decide +kernel⟩
theorem iM_X12_all : gM yX12_all cX12_all 4 (some .int) 1 := ⟨mw_51_1, mw_1_5, by decide +kernel, by decide +kernel, by decide +kernel⟩
theorem iM_X12_areCuts : gM yX12_areCuts cX12_areCuts 3 (some .boolean) 2 := ⟨mw_45_13, mw_1_5, by decide +kernel, by decide +kernel, by decide +kernel⟩
theorem iM_X12_batch : gM yX12_batch cX12_batch 3 (some .int) 2 := ⟨mw_47_11, mw_1_5, by decide +kernel, by decide +kernel, by decide +kernel⟩
theorem iM_X12_best : gM yX12_best cX12_best 11 (some .int) 4 := ⟨mw_44_6, mw_1_5, by decide +kernel, by decide +kernel, by decide +kernel⟩
theorem iM_X12_between : gM yX12_between cX12_between 4 (some .boolean) 3 := ⟨mw_20_7, mw_1_5, by decide +kernel, by decide +kernel, by decide +kernel⟩
theorem iM_X12_border : gM yX12_border cX12_border 6 (some .int) 3 := ⟨mw_53_15, mw_1_5, by decide +kernel, by decide +kernel, by decide +kernel⟩
theorem iM_X12_count : gM yX12_count cX12_count 2 (some .int) 1 := ⟨mw_56_19, mw_1_5, by decide +kernel, by decide +kernel, by decide +kernel⟩
theorem iM_X12_cuts_ : gM yX12_cuts_ cX12_cuts_ 6 (some .int) 1 := ⟨mw_46_22, mw_1_5, by decide +kernel, by decide +kernel, by decide +kernel⟩
theorem iM_X12_day : gM yX12_day cX12_day 20 (some .int) 5 := ⟨mw_55_0, mw_1_5, by decide +kernel, by decide +kernel, by decide +kernel⟩
theorem iM_X12_done : gM yX12_done cX12_done 5 (some .int) 4 := ⟨mw_32_17, mw_1_5, by decide +kernel, by decide +kernel, by decide +kernel⟩
theorem iM_X12_end : gM yX12_end cX12_end 2 (some .boolean) 1 := ⟨mw_11_12, mw_1_5, by decide +kernel, by decide +kernel, by decide +kernel⟩
theorem iM_X12_fault : gM yX12_fault cX12_fault 1 (some .int) 0 := ⟨mw_19_16, mw_1_5, by decide +kernel, by decide +kernel, by decide +kernel⟩
theorem iM_X12_faults : gM yX12_faults cX12_faults 4 (some .int) 2 := ⟨mw_42_2, mw_1_5, by decide +kernel, by decide +kernel, by decide +kernel⟩
theorem iM_X12_feed : gM yX12_feed cX12_feed 6 (some .int) 5 := ⟨mw_10_17, mw_1_5, by decide +kernel, by decide +kernel, by decide +kernel⟩
theorem iM_X12_feeds : gM yX12_feeds cX12_feeds 3 none 1 := ⟨mw_10_22, mw_1_5, by decide +kernel, by decide +kernel, by decide +kernel⟩
theorem iM_X12_hang : gM yX12_hang cX12_hang 3 (some .int) 2 := ⟨mw_55_13, mw_1_5, by decide +kernel, by decide +kernel, by decide +kernel⟩
theorem iM_X12_height : gM yX12_height cX12_height 4 (some .int) 2 := ⟨mw_30_21, mw_1_5, by decide +kernel, by decide +kernel, by decide +kernel⟩
theorem iM_X12_image : gM yX12_image cX12_image 3 (some .boolean) 1 := ⟨mw_56_1, mw_1_5, by decide +kernel, by decide +kernel, by decide +kernel⟩
theorem iM_X12_in : gM yX12_in cX12_in 6 (some .boolean) 3 := ⟨mw_11_15, mw_1_5, by decide +kernel, by decide +kernel, by decide +kernel⟩
theorem iM_X12_init : gM yX12_init cX12_init 1 none 0 := ⟨mw_7_9, mw_1_5, by decide +kernel, by decide +kernel, by decide +kernel⟩
theorem iM_X12_isDone : gM yX12_isDone cX12_isDone 2 (some .boolean) 1 := ⟨mw_28_12, mw_1_5, by decide +kernel, by decide +kernel, by decide +kernel⟩
theorem iM_X12_isPaper : gM yX12_isPaper cX12_isPaper 2 (some .boolean) 1 := ⟨mw_32_21, mw_1_5, by decide +kernel, by decide +kernel, by decide +kernel⟩
theorem iM_X12_isRoom : gM yX12_isRoom cX12_isRoom 2 (some .boolean) 1 := ⟨mw_28_8, mw_1_5, by decide +kernel, by decide +kernel, by decide +kernel⟩
theorem iM_X12_keep : gM yX12_keep cX12_keep 4 (some .int) 3 := ⟨mw_51_14, mw_1_5, by decide +kernel, by decide +kernel, by decide +kernel⟩
theorem iM_X12_left : gM yX12_left cX12_left 4 (some .int) 3 := ⟨mw_38_11, mw_1_5, by decide +kernel, by decide +kernel, by decide +kernel⟩
theorem iM_X12_mended : gM yX12_mended cX12_mended 9 (some .int) 2 := ⟨mw_52_22, mw_1_5, by decide +kernel, by decide +kernel, by decide +kernel⟩
theorem iM_X12_next : gM yX12_next cX12_next 1 none 0 := ⟨mw_20_3, mw_1_5, by decide +kernel, by decide +kernel, by decide +kernel⟩
theorem iM_X12_of : gM yX12_of cX12_of 3 (some .int) 2 := ⟨mw_27_23, mw_1_5, by decide +kernel, by decide +kernel, by decide +kernel⟩
theorem iM_X12_on : gM yX12_on cX12_on 4 (some .boolean) 1 := ⟨mw_56_9, mw_1_5, by decide +kernel, by decide +kernel, by decide +kernel⟩
theorem iM_X12_own : gM yX12_own cX12_own 3 (some .int) 2 := ⟨mw_50_17, mw_1_5, by decide +kernel, by decide +kernel, by decide +kernel⟩
theorem iM_X12_paper : gM yX12_paper cX12_paper 6 (some .int) 5 := ⟨mw_31_16, mw_1_5, by decide +kernel, by decide +kernel, by decide +kernel⟩
theorem iM_X12_piece : gM yX12_piece cX12_piece 4 (some .int) 3 := ⟨mw_35_13, mw_1_5, by decide +kernel, by decide +kernel, by decide +kernel⟩
theorem iM_X12_reads : gM yX12_reads cX12_reads 2 none 0 := ⟨mw_19_21, mw_1_5, by decide +kernel, by decide +kernel, by decide +kernel⟩
theorem iM_X12_rolls : gM yX12_rolls cX12_rolls 5 (some .int) 2 := ⟨mw_37_21, mw_1_5, by decide +kernel, by decide +kernel, by decide +kernel⟩
theorem iM_X12_room : gM yX12_room cX12_room 3 (some .int) 0 := ⟨mw_22_11, mw_1_5, by decide +kernel, by decide +kernel, by decide +kernel⟩
theorem iM_X12_run : gM yX12_run cX12_run 5 (some .int) 3 := ⟨mw_46_7, mw_1_5, by decide +kernel, by decide +kernel, by decide +kernel⟩
theorem iM_X12_shared : gM yX12_shared cX12_shared 4 (some .int) 2 := ⟨mw_49_20, mw_1_5, by decide +kernel, by decide +kernel, by decide +kernel⟩
theorem iM_X12_shown : gM yX12_shown cX12_shown 3 (some .int) 2 := ⟨mw_45_9, mw_1_5, by decide +kernel, by decide +kernel, by decide +kernel⟩
theorem iM_X12_strip : gM yX12_strip cX12_strip 4 (some .int) 3 := ⟨mw_33_11, mw_1_5, by decide +kernel, by decide +kernel, by decide +kernel⟩
theorem iM_X12_trim : gM yX12_trim cX12_trim 2 (some .boolean) 1 := ⟨mw_32_7, mw_1_5, by decide +kernel, by decide +kernel, by decide +kernel⟩
theorem iM_X1_init : gM yX1_init cX1_init 1 none 0 := ⟨mw_5_7, mw_2_15, by decide +kernel, by decide +kernel, by decide +kernel⟩
theorem iM_X2_init : gM yX2_init cX2_init 1 none 0 := ⟨mw_4_10, mw_2_7, by decide +kernel, by decide +kernel, by decide +kernel⟩
theorem iM_X3_canBe : gM yX3_canBe cX3_canBe 5 (some .boolean) 5 := ⟨mw_31_5, mw_24_12, by decide +kernel, by decide +kernel, by decide +kernel⟩
theorem iM_X3_init : gM yX3_init cX3_init 6 none 5 := ⟨mw_31_8, mw_24_12, by decide +kernel, by decide +kernel, by decide +kernel⟩
theorem iM_X4_init : gM yX4_init cX4_init 2 none 1 := ⟨mw_3_18, mw_1_18, by decide +kernel, by decide +kernel, by decide +kernel⟩
theorem iM_X4_isNext : gM yX4_isNext cX4_isNext 2 (some .boolean) 1 := ⟨mw_16_9, mw_1_18, by decide +kernel, by decide +kernel, by decide +kernel⟩
theorem iM_X4_read : gM yX4_read cX4_read 3 (some .int) 1 := ⟨mw_11_23, mw_1_18, by decide +kernel, by decide +kernel, by decide +kernel⟩
theorem iM_X5_init : gM yX5_init cX5_init 1 none 0 := ⟨mw_4_23, mw_2_11, by decide +kernel, by decide +kernel, by decide +kernel⟩
theorem iM_X6_clear : gM yX6_clear cX6_clear 1 none 0 := ⟨mw_15_21, mw_3_2, by decide +kernel, by decide +kernel, by decide +kernel⟩
theorem iM_X6_init : gM yX6_init cX6_init 1 none 0 := ⟨mw_6_6, mw_3_2, by decide +kernel, by decide +kernel, by decide +kernel⟩
theorem iM_X7_init : gM yX7_init cX7_init 1 none 0 := ⟨mw_5_13, mw_2_19, by decide +kernel, by decide +kernel, by decide +kernel⟩
theorem iM_X8_copyFrom : gM yX8_copyFrom cX8_copyFrom 3 none 1 := ⟨mw_55_21, mw_2_2, by decide +kernel, by decide +kernel, by decide +kernel⟩
theorem iM_X8_init : gM yX8_init cX8_init 2 none 0 := ⟨mw_3_23, mw_2_2, by decide +kernel, by decide +kernel, by decide +kernel⟩
theorem iM_X9_add : gM yX9_add cX9_add 3 none 1 := ⟨mw_10_12, mw_1_14, by decide +kernel, by decide +kernel, by decide +kernel⟩
theorem iM_X9_addToken : gM yX9_addToken cX9_addToken 4 none 3 := ⟨mw_15_6, mw_1_14, by decide +kernel, by decide +kernel, by decide +kernel⟩
theorem iM_X9_hasSpaceFor : gM yX9_hasSpaceFor cX9_hasSpaceFor 2 (some .boolean) 1 := ⟨mw_10_7, mw_1_14, by decide +kernel, by decide +kernel, by decide +kernel⟩
theorem iM_X9_init : gM yX9_init cX9_init 1 none 0 := ⟨mw_3_9, mw_1_14, by decide +kernel, by decide +kernel, by decide +kernel⟩
theorem iM_X9_shorten : gM yX9_shorten cX9_shorten 2 (some .boolean) 1 := ⟨mw_11_6, mw_1_14, by decide +kernel, by decide +kernel, by decide +kernel⟩
theorem iM_X9_split : gM yX9_split cX9_split 3 none 0 := ⟨mw_12_8, mw_1_14, by decide +kernel, by decide +kernel, by decide +kernel⟩
theorem df_X0 : ∀ j, j < 7 → defaultValue (tyX0 j) = vp_V [.int 0, .int 0, .int 0, .int 0, .int 0, .null, .int 0] j := by decide +kernel
theorem df_X1 : ∀ j, j < 9 → defaultValue (tyX1 j) = vp_V [.null, .null, .int 0, .int 0, .null, .null, .int 0, .int 0, .int 0] j := by decide +kernel
theorem df_X2 : ∀ j, j < 16 → defaultValue (tyX2 j) = vp_V [.null, .null, .int 0, .int 0, .int 0, .int 0, .null, .null, .int 0, .null, .null, .null, .null, .null, .null, .null] j := by decide +kernel
theorem df_X3 : ∀ j, j < 6 → defaultValue (tyX3 j) = vp_V [.int 0, .int 0, .int 0, .int 0, .int 0, .int 0] j := by decide +kernel
theorem df_X4 : ∀ j, j < 3 → defaultValue (tyX4 j) = vp_V [.null, .null, .int 0] j := by decide +kernel
theorem df_X5 : ∀ j, j < 8 → defaultValue (tyX5 j) = vp_V [.null, .int 0, .null, .int 0, .int 0, .null, .null, .null] j := by decide +kernel
theorem df_X6 : ∀ j, j < 12 → defaultValue (tyX6 j) = vp_V [.null, .int 0, .null, .null, .null, .null, .null, .null, .int 0, .null, .null, .null] j := by decide +kernel
theorem df_X7 : ∀ j, j < 12 → defaultValue (tyX7 j) = vp_V [.int 0, .null, .null, .null, .int 0, .int 0, .null, .null, .null, .null, .null, .int 0] j := by decide +kernel
theorem df_X8 : ∀ j, j < 8 → defaultValue (tyX8 j) = vp_V [.null, .null, .null, .null, .int 0, .null, .null, .null] j := by decide +kernel
theorem df_X9 : ∀ j, j < 6 → defaultValue (tyX9 j) = vp_V [.null, .int 0, .int 0, .null, .null, .null] j := by decide +kernel
theorem df_X10 : ∀ j, j < 8 → defaultValue (tyX10 j) = vp_V [.null, .null, .null, .null, .null, .null, .int 0, .int 0] j := by decide +kernel
theorem df_X11 : ∀ j, j < 15 → defaultValue (tyX11 j) = vp_V [.null, .null, .null, .null, .null, .null, .null, .null, .null, .null, .null, .null, .int 0, .int 0, .int 0] j := by decide +kernel
theorem df_X12 : ∀ j, j < 75 → defaultValue (tyX12 j) = vp_V [.null, .null, .null, .null, .null, .null, .null, .null, .null, .null, .null, .null, .null, .null, .null, .null, .null, .null, .int 0, .null, .int 0, .int 0, .int 0, .int 0, .int 0, .null, .null, .null, .null, .null, .null, .null, .int 0, .int 0, .null, .null, .null, .null, .null, .null, .null, .null, .null, .null, .null, .null, .null, .int 0, .int 0, .int 0, .int 0, .int 0, .int 0, .int 0, .null, .int 0, .null, .null, .null, .null, .null, .null, .null, .null, .int 0, .int 0, .null, .null, .null, .int 0, .null, .null, .null, .null, .null] j := by decide +kernel
