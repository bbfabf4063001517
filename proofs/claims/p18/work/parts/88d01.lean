theorem dX12_isRoom_0 : decode cX12_isRoom 0 = .ok (.iload_n 1, 1) := by decide +kernel
theorem dX12_isRoom_1 : decode cX12_isRoom 1 = .ok (.i2l, 1) := by decide +kernel
theorem dX12_isRoom_2 : decode cX12_isRoom 2 = .ok (.lconst 0, 1) := by decide +kernel
theorem dX12_isRoom_3 : decode cX12_isRoom 3 = .ok (.aload_n 0, 1) := by decide +kernel
theorem dX12_isRoom_4 : decode cX12_isRoom 4 = .ok (.getfield 278, 3) := by decide +kernel
theorem dX12_isRoom_7 : decode cX12_isRoom 7 = .ok (.iconst 1, 1) := by decide +kernel
theorem dX12_isRoom_8 : decode cX12_isRoom 8 = .ok (.isub, 1) := by decide +kernel
theorem dX12_isRoom_9 : decode cX12_isRoom 9 = .ok (.i2l, 1) := by decide +kernel
theorem dX12_isRoom_10 : decode cX12_isRoom 10 = .ok (.invokestatic 205, 3) := by decide +kernel
theorem dX12_isRoom_13 : decode cX12_isRoom 13 = .ok (.ireturn, 1) := by decide +kernel
theorem dX12_highAt_0 : decode cX12_highAt 0 = .ok (.aload_n 0, 1) := by decide +kernel
theorem dX12_highAt_1 : decode cX12_highAt 1 = .ok (.getfield 14, 3) := by decide +kernel
theorem dX12_highAt_4 : decode cX12_highAt 4 = .ok (.iload_n 1, 1) := by decide +kernel
theorem dX12_highAt_5 : decode cX12_highAt 5 = .ok (.aaload, 1) := by decide +kernel
theorem dX12_highAt_6 : decode cX12_highAt 6 = .ok (.iload_n 2, 1) := by decide +kernel
theorem dX12_highAt_7 : decode cX12_highAt 7 = .ok (.iaload, 1) := by decide +kernel
theorem dX12_highAt_8 : decode cX12_highAt 8 = .ok (.aload_n 0, 1) := by decide +kernel
theorem dX12_highAt_9 : decode cX12_highAt 9 = .ok (.getfield 17, 3) := by decide +kernel
theorem dX12_highAt_12 : decode cX12_highAt 12 = .ok (.iload_n 1, 1) := by decide +kernel
theorem dX12_highAt_13 : decode cX12_highAt 13 = .ok (.aaload, 1) := by decide +kernel
theorem dX12_highAt_14 : decode cX12_highAt 14 = .ok (.iload_n 2, 1) := by decide +kernel
theorem dX12_highAt_15 : decode cX12_highAt 15 = .ok (.iaload, 1) := by decide +kernel
theorem dX12_highAt_16 : decode cX12_highAt 16 = .ok (.aload_n 0, 1) := by decide +kernel
theorem dX12_highAt_17 : decode cX12_highAt 17 = .ok (.getfield 14, 3) := by decide +kernel
theorem dX12_highAt_20 : decode cX12_highAt 20 = .ok (.iload_n 1, 1) := by decide +kernel
theorem dX12_highAt_21 : decode cX12_highAt 21 = .ok (.aaload, 1) := by decide +kernel
theorem dX12_highAt_22 : decode cX12_highAt 22 = .ok (.iload_n 2, 1) := by decide +kernel
theorem dX12_highAt_23 : decode cX12_highAt 23 = .ok (.iaload, 1) := by decide +kernel
theorem dX12_highAt_24 : decode cX12_highAt 24 = .ok (.isub, 1) := by decide +kernel
theorem dX12_highAt_25 : decode cX12_highAt 25 = .ok (.iload_n 3, 1) := by decide +kernel
theorem dX12_highAt_26 : decode cX12_highAt 26 = .ok (.imul, 1) := by decide +kernel
theorem dX12_highAt_27 : decode cX12_highAt 27 = .ok (.aload_n 0, 1) := by decide +kernel
theorem dX12_highAt_28 : decode cX12_highAt 28 = .ok (.getfield 11, 3) := by decide +kernel
theorem dX12_highAt_31 : decode cX12_highAt 31 = .ok (.iload_n 1, 1) := by decide +kernel
theorem dX12_highAt_32 : decode cX12_highAt 32 = .ok (.aaload, 1) := by decide +kernel
theorem dX12_highAt_33 : decode cX12_highAt 33 = .ok (.iload_n 2, 1) := by decide +kernel
theorem dX12_highAt_34 : decode cX12_highAt 34 = .ok (.iaload, 1) := by decide +kernel
theorem dX12_highAt_35 : decode cX12_highAt 35 = .ok (.invokestatic 281, 3) := by decide +kernel
theorem dX12_highAt_38 : decode cX12_highAt 38 = .ok (.iadd, 1) := by decide +kernel
theorem dX12_highAt_39 : decode cX12_highAt 39 = .ok (.ireturn, 1) := by decide +kernel
theorem dX12_beginOf_0 : decode cX12_beginOf 0 = .ok (.iconst 0, 1) := by decide +kernel
theorem dX12_beginOf_1 : decode cX12_beginOf 1 = .ok (.istore_n 3, 1) := by decide +kernel
theorem dX12_beginOf_2 : decode cX12_beginOf 2 = .ok (.iconst 0, 1) := by decide +kernel
theorem dX12_beginOf_3 : decode cX12_beginOf 3 = .ok (.istore 4, 2) := by decide +kernel
theorem dX12_beginOf_5 : decode cX12_beginOf 5 = .ok (.iload 4, 2) := by decide +kernel
theorem dX12_beginOf_7 : decode cX12_beginOf 7 = .ok (.iload_n 2, 1) := by decide +kernel
theorem dX12_beginOf_8 : decode cX12_beginOf 8 = .ok (.if_icmp .ge 21, 3) := by decide +kernel
theorem dX12_beginOf_11 : decode cX12_beginOf 11 = .ok (.iload_n 3, 1) := by decide +kernel
theorem dX12_beginOf_12 : decode cX12_beginOf 12 = .ok (.aload_n 0, 1) := by decide +kernel
theorem dX12_beginOf_13 : decode cX12_beginOf 13 = .ok (.getfield 11, 3) := by decide +kernel
theorem dX12_beginOf_16 : decode cX12_beginOf 16 = .ok (.iload_n 1, 1) := by decide +kernel
theorem dX12_beginOf_17 : decode cX12_beginOf 17 = .ok (.aaload, 1) := by decide +kernel
theorem dX12_beginOf_18 : decode cX12_beginOf 18 = .ok (.iload 4, 2) := by decide +kernel
theorem dX12_beginOf_20 : decode cX12_beginOf 20 = .ok (.iaload, 1) := by decide +kernel
theorem dX12_beginOf_21 : decode cX12_beginOf 21 = .ok (.iadd, 1) := by decide +kernel
theorem dX12_beginOf_22 : decode cX12_beginOf 22 = .ok (.istore_n 3, 1) := by decide +kernel
theorem dX12_beginOf_23 : decode cX12_beginOf 23 = .ok (.iinc 4 1, 3) := by decide +kernel
theorem dX12_beginOf_26 : decode cX12_beginOf 26 = .ok (.goto (-21), 3) := by decide +kernel
theorem dX12_beginOf_29 : decode cX12_beginOf 29 = .ok (.iload_n 3, 1) := by decide +kernel
theorem dX12_beginOf_30 : decode cX12_beginOf 30 = .ok (.ireturn, 1) := by decide +kernel
theorem dX12_wallAt_0 : decode cX12_wallAt 0 = .ok (.iconst 0, 1) := by decide +kernel
theorem dX12_wallAt_1 : decode cX12_wallAt 1 = .ok (.istore_n 3, 1) := by decide +kernel
theorem dX12_wallAt_2 : decode cX12_wallAt 2 = .ok (.iload_n 2, 1) := by decide +kernel
theorem dX12_wallAt_3 : decode cX12_wallAt 3 = .ok (.istore 4, 2) := by decide +kernel
theorem dX12_wallAt_5 : decode cX12_wallAt 5 = .ok (.iload 4, 2) := by decide +kernel
theorem dX12_wallAt_7 : decode cX12_wallAt 7 = .ok (.aload_n 0, 1) := by decide +kernel
theorem dX12_wallAt_8 : decode cX12_wallAt 8 = .ok (.getfield 11, 3) := by decide +kernel
theorem dX12_wallAt_11 : decode cX12_wallAt 11 = .ok (.iload_n 1, 1) := by decide +kernel
theorem dX12_wallAt_12 : decode cX12_wallAt 12 = .ok (.aaload, 1) := by decide +kernel
theorem dX12_wallAt_13 : decode cX12_wallAt 13 = .ok (.iload_n 3, 1) := by decide +kernel
theorem dX12_wallAt_14 : decode cX12_wallAt 14 = .ok (.iaload, 1) := by decide +kernel
theorem dX12_wallAt_15 : decode cX12_wallAt 15 = .ok (.if_icmp .lt 22, 3) := by decide +kernel
theorem dX12_wallAt_18 : decode cX12_wallAt 18 = .ok (.iload 4, 2) := by decide +kernel
theorem dX12_wallAt_20 : decode cX12_wallAt 20 = .ok (.aload_n 0, 1) := by decide +kernel
theorem dX12_wallAt_21 : decode cX12_wallAt 21 = .ok (.getfield 11, 3) := by decide +kernel
theorem dX12_wallAt_24 : decode cX12_wallAt 24 = .ok (.iload_n 1, 1) := by decide +kernel
theorem dX12_wallAt_25 : decode cX12_wallAt 25 = .ok (.aaload, 1) := by decide +kernel
theorem dX12_wallAt_26 : decode cX12_wallAt 26 = .ok (.iload_n 3, 1) := by decide +kernel
theorem dX12_wallAt_27 : decode cX12_wallAt 27 = .ok (.iaload, 1) := by decide +kernel
theorem dX12_wallAt_28 : decode cX12_wallAt 28 = .ok (.isub, 1) := by decide +kernel
theorem dX12_wallAt_29 : decode cX12_wallAt 29 = .ok (.istore 4, 2) := by decide +kernel
theorem dX12_wallAt_31 : decode cX12_wallAt 31 = .ok (.iinc 3 1, 3) := by decide +kernel
theorem dX12_wallAt_34 : decode cX12_wallAt 34 = .ok (.goto (-29), 3) := by decide +kernel
theorem dX12_wallAt_37 : decode cX12_wallAt 37 = .ok (.iload_n 3, 1) := by decide +kernel
theorem dX12_wallAt_38 : decode cX12_wallAt 38 = .ok (.ireturn, 1) := by decide +kernel
theorem dX12_height_0 : decode cX12_height 0 = .ok (.aload_n 0, 1) := by decide +kernel
theorem dX12_height_1 : decode cX12_height 1 = .ok (.iload_n 1, 1) := by decide +kernel
theorem dX12_height_2 : decode cX12_height 2 = .ok (.invokevirtual 284, 3) := by decide +kernel
theorem dX12_height_5 : decode cX12_height 5 = .ok (.ifCond .eq 21, 3) := by decide +kernel
theorem dX12_height_8 : decode cX12_height 8 = .ok (.iload_n 2, 1) := by decide +kernel
theorem dX12_height_9 : decode cX12_height 9 = .ok (.i2l, 1) := by decide +kernel
theorem dX12_height_10 : decode cX12_height 10 = .ok (.lconst 0, 1) := by decide +kernel
theorem dX12_height_11 : decode cX12_height 11 = .ok (.aload_n 0, 1) := by decide +kernel
theorem dX12_height_12 : decode cX12_height 12 = .ok (.getfield 63, 3) := by decide +kernel
theorem dX12_height_15 : decode cX12_height 15 = .ok (.iload_n 1, 1) := by decide +kernel
theorem dX12_height_16 : decode cX12_height 16 = .ok (.iaload, 1) := by decide +kernel
theorem dX12_height_17 : decode cX12_height 17 = .ok (.iconst 1, 1) := by decide +kernel
theorem dX12_height_18 : decode cX12_height 18 = .ok (.isub, 1) := by decide +kernel
theorem dX12_height_19 : decode cX12_height 19 = .ok (.i2l, 1) := by decide +kernel
theorem dX12_height_20 : decode cX12_height 20 = .ok (.invokestatic 205, 3) := by decide +kernel
theorem dX12_height_23 : decode cX12_height 23 = .ok (.ifCond .ne 5, 3) := by decide +kernel
theorem dX12_height_26 : decode cX12_height 26 = .ok (.iconst (-1), 1) := by decide +kernel
theorem dX12_height_27 : decode cX12_height 27 = .ok (.ireturn, 1) := by decide +kernel
theorem dX12_height_28 : decode cX12_height 28 = .ok (.aload_n 0, 1) := by decide +kernel
theorem dX12_height_29 : decode cX12_height 29 = .ok (.iload_n 1, 1) := by decide +kernel
theorem dX12_height_30 : decode cX12_height 30 = .ok (.iload_n 2, 1) := by decide +kernel
theorem dX12_height_31 : decode cX12_height 31 = .ok (.invokevirtual 287, 3) := by decide +kernel
theorem dX12_height_34 : decode cX12_height 34 = .ok (.istore_n 3, 1) := by decide +kernel
theorem dX12_height_35 : decode cX12_height 35 = .ok (.aload_n 0, 1) := by decide +kernel
theorem dX12_height_36 : decode cX12_height 36 = .ok (.iload_n 1, 1) := by decide +kernel
theorem dX12_height_37 : decode cX12_height 37 = .ok (.iload_n 3, 1) := by decide +kernel
theorem dX12_height_38 : decode cX12_height 38 = .ok (.iload_n 2, 1) := by decide +kernel
theorem dX12_height_39 : decode cX12_height 39 = .ok (.aload_n 0, 1) := by decide +kernel
theorem dX12_height_40 : decode cX12_height 40 = .ok (.iload_n 1, 1) := by decide +kernel
theorem dX12_height_41 : decode cX12_height 41 = .ok (.iload_n 3, 1) := by decide +kernel
theorem dX12_height_42 : decode cX12_height 42 = .ok (.invokevirtual 290, 3) := by decide +kernel
theorem dX12_height_45 : decode cX12_height 45 = .ok (.isub, 1) := by decide +kernel
theorem dX12_height_46 : decode cX12_height 46 = .ok (.invokevirtual 293, 3) := by decide +kernel
theorem dX12_height_49 : decode cX12_height 49 = .ok (.ireturn, 1) := by decide +kernel
theorem dX12_isPaper_0 : decode cX12_isPaper 0 = .ok (.iload_n 1, 1) := by decide +kernel
theorem dX12_isPaper_1 : decode cX12_isPaper 1 = .ok (.i2l, 1) := by decide +kernel
theorem dX12_isPaper_2 : decode cX12_isPaper 2 = .ok (.lconst 0, 1) := by decide +kernel
theorem dX12_isPaper_3 : decode cX12_isPaper 3 = .ok (.aload_n 0, 1) := by decide +kernel
theorem dX12_isPaper_4 : decode cX12_isPaper 4 = .ok (.getfield 309, 3) := by decide +kernel
theorem dX12_isPaper_7 : decode cX12_isPaper 7 = .ok (.iconst 1, 1) := by decide +kernel
theorem dX12_isPaper_8 : decode cX12_isPaper 8 = .ok (.isub, 1) := by decide +kernel
theorem dX12_isPaper_9 : decode cX12_isPaper 9 = .ok (.i2l, 1) := by decide +kernel
theorem dX12_isPaper_10 : decode cX12_isPaper 10 = .ok (.invokestatic 205, 3) := by decide +kernel
theorem dX12_isPaper_13 : decode cX12_isPaper 13 = .ok (.ireturn, 1) := by decide +kernel
theorem dX12_trim_0 : decode cX12_trim 0 = .ok (.iload_n 1, 1) := by decide +kernel
theorem dX12_trim_1 : decode cX12_trim 1 = .ok (.i2l, 1) := by decide +kernel
theorem dX12_trim_2 : decode cX12_trim 2 = .ok (.lconst 0, 1) := by decide +kernel
theorem dX12_trim_3 : decode cX12_trim 3 = .ok (.ldc2_w 297, 3) := by decide +kernel
theorem dX12_trim_6 : decode cX12_trim 6 = .ok (.invokestatic 205, 3) := by decide +kernel
theorem dX12_trim_9 : decode cX12_trim 9 = .ok (.ifCond .ne 5, 3) := by decide +kernel
theorem dX12_trim_12 : decode cX12_trim 12 = .ok (.iconst 0, 1) := by decide +kernel
theorem dX12_trim_13 : decode cX12_trim 13 = .ok (.ireturn, 1) := by decide +kernel
theorem dX12_trim_14 : decode cX12_trim 14 = .ok (.aload_n 0, 1) := by decide +kernel
theorem dX12_trim_15 : decode cX12_trim 15 = .ok (.iload_n 1, 1) := by decide +kernel
theorem dX12_trim_16 : decode cX12_trim 16 = .ok (.putfield 103, 3) := by decide +kernel
theorem dX12_trim_19 : decode cX12_trim 19 = .ok (.iconst 1, 1) := by decide +kernel
theorem dX12_trim_20 : decode cX12_trim 20 = .ok (.ireturn, 1) := by decide +kernel
theorem dX12_isDone_0 : decode cX12_isDone 0 = .ok (.aload_n 0, 1) := by decide +kernel
theorem dX12_isDone_1 : decode cX12_isDone 1 = .ok (.iload_n 1, 1) := by decide +kernel
theorem dX12_isDone_2 : decode cX12_isDone 2 = .ok (.invokevirtual 284, 3) := by decide +kernel
theorem dX12_isDone_5 : decode cX12_isDone 5 = .ok (.ifCond .eq 17, 3) := by decide +kernel
theorem dX12_isDone_8 : decode cX12_isDone 8 = .ok (.aload_n 0, 1) := by decide +kernel
theorem dX12_isDone_9 : decode cX12_isDone 9 = .ok (.getfield 107, 3) := by decide +kernel
theorem dX12_isDone_12 : decode cX12_isDone 12 = .ok (.iload_n 1, 1) := by decide +kernel
theorem dX12_isDone_13 : decode cX12_isDone 13 = .ok (.iaload, 1) := by decide +kernel
theorem dX12_isDone_14 : decode cX12_isDone 14 = .ok (.iconst (-1), 1) := by decide +kernel
theorem dX12_isDone_15 : decode cX12_isDone 15 = .ok (.if_icmp .eq 7, 3) := by decide +kernel
theorem dX12_isDone_18 : decode cX12_isDone 18 = .ok (.iconst 1, 1) := by decide +kernel
theorem dX12_isDone_19 : decode cX12_isDone 19 = .ok (.goto 4, 3) := by decide +kernel
theorem dX12_isDone_22 : decode cX12_isDone 22 = .ok (.iconst 0, 1) := by decide +kernel
theorem dX12_isDone_23 : decode cX12_isDone 23 = .ok (.ireturn, 1) := by decide +kernel
theorem dX12_stripsOf_0 : decode cX12_stripsOf 0 = .ok (.aload_n 0, 1) := by decide +kernel
theorem dX12_stripsOf_1 : decode cX12_stripsOf 1 = .ok (.getfield 63, 3) := by decide +kernel
theorem dX12_stripsOf_4 : decode cX12_stripsOf 4 = .ok (.iload_n 1, 1) := by decide +kernel
theorem dX12_stripsOf_5 : decode cX12_stripsOf 5 = .ok (.iaload, 1) := by decide +kernel
theorem dX12_stripsOf_6 : decode cX12_stripsOf 6 = .ok (.aload_n 0, 1) := by decide +kernel
theorem dX12_stripsOf_7 : decode cX12_stripsOf 7 = .ok (.getfield 85, 3) := by decide +kernel
theorem dX12_stripsOf_10 : decode cX12_stripsOf 10 = .ok (.iload_n 2, 1) := by decide +kernel
theorem dX12_stripsOf_11 : decode cX12_stripsOf 11 = .ok (.iaload, 1) := by decide +kernel
theorem dX12_stripsOf_12 : decode cX12_stripsOf 12 = .ok (.iadd, 1) := by decide +kernel
theorem dX12_stripsOf_13 : decode cX12_stripsOf 13 = .ok (.iconst 1, 1) := by decide +kernel
theorem dX12_stripsOf_14 : decode cX12_stripsOf 14 = .ok (.isub, 1) := by decide +kernel
theorem dX12_stripsOf_15 : decode cX12_stripsOf 15 = .ok (.aload_n 0, 1) := by decide +kernel
theorem dX12_stripsOf_16 : decode cX12_stripsOf 16 = .ok (.getfield 85, 3) := by decide +kernel
theorem dX12_stripsOf_19 : decode cX12_stripsOf 19 = .ok (.iload_n 2, 1) := by decide +kernel
theorem dX12_stripsOf_20 : decode cX12_stripsOf 20 = .ok (.iaload, 1) := by decide +kernel
theorem dX12_stripsOf_21 : decode cX12_stripsOf 21 = .ok (.idiv, 1) := by decide +kernel
theorem dX12_stripsOf_22 : decode cX12_stripsOf 22 = .ok (.ireturn, 1) := by decide +kernel
theorem dX12_wideOf_0 : decode cX12_wideOf 0 = .ok (.aload_n 0, 1) := by decide +kernel
theorem dX12_wideOf_1 : decode cX12_wideOf 1 = .ok (.getfield 85, 3) := by decide +kernel
theorem dX12_wideOf_4 : decode cX12_wideOf 4 = .ok (.iload_n 2, 1) := by decide +kernel
theorem dX12_wideOf_5 : decode cX12_wideOf 5 = .ok (.iaload, 1) := by decide +kernel
theorem dX12_wideOf_6 : decode cX12_wideOf 6 = .ok (.aload_n 0, 1) := by decide +kernel
theorem dX12_wideOf_7 : decode cX12_wideOf 7 = .ok (.getfield 63, 3) := by decide +kernel
theorem dX12_wideOf_10 : decode cX12_wideOf 10 = .ok (.iload_n 1, 1) := by decide +kernel
theorem dX12_wideOf_11 : decode cX12_wideOf 11 = .ok (.iaload, 1) := by decide +kernel
theorem dX12_wideOf_12 : decode cX12_wideOf 12 = .ok (.iload_n 3, 1) := by decide +kernel
theorem dX12_wideOf_13 : decode cX12_wideOf 13 = .ok (.aload_n 0, 1) := by decide +kernel
theorem dX12_wideOf_14 : decode cX12_wideOf 14 = .ok (.getfield 85, 3) := by decide +kernel
theorem dX12_wideOf_17 : decode cX12_wideOf 17 = .ok (.iload_n 2, 1) := by decide +kernel
theorem dX12_wideOf_18 : decode cX12_wideOf 18 = .ok (.iaload, 1) := by decide +kernel
theorem dX12_wideOf_19 : decode cX12_wideOf 19 = .ok (.imul, 1) := by decide +kernel
theorem dX12_wideOf_20 : decode cX12_wideOf 20 = .ok (.isub, 1) := by decide +kernel
theorem dX12_wideOf_21 : decode cX12_wideOf 21 = .ok (.invokestatic 239, 3) := by decide +kernel
theorem dX12_wideOf_24 : decode cX12_wideOf 24 = .ok (.ireturn, 1) := by decide +kernel
theorem dX12_offsetOf_0 : decode cX12_offsetOf 0 = .ok (.aload_n 0, 1) := by decide +kernel
theorem dX12_offsetOf_1 : decode cX12_offsetOf 1 = .ok (.getfield 91, 3) := by decide +kernel
theorem dX12_offsetOf_4 : decode cX12_offsetOf 4 = .ok (.iload_n 1, 1) := by decide +kernel
theorem dX12_offsetOf_5 : decode cX12_offsetOf 5 = .ok (.iaload, 1) := by decide +kernel
theorem dX12_offsetOf_6 : decode cX12_offsetOf 6 = .ok (.iconst 1, 1) := by decide +kernel
theorem dX12_offsetOf_7 : decode cX12_offsetOf 7 = .ok (.if_icmp .ne 30, 3) := by decide +kernel
theorem dX12_offsetOf_10 : decode cX12_offsetOf 10 = .ok (.iload_n 3, 1) := by decide +kernel
theorem dX12_offsetOf_11 : decode cX12_offsetOf 11 = .ok (.iconst 2, 1) := by decide +kernel
theorem dX12_offsetOf_12 : decode cX12_offsetOf 12 = .ok (.irem, 1) := by decide +kernel
theorem dX12_offsetOf_13 : decode cX12_offsetOf 13 = .ok (.iconst 1, 1) := by decide +kernel
theorem dX12_offsetOf_14 : decode cX12_offsetOf 14 = .ok (.if_icmp .ne 23, 3) := by decide +kernel
theorem dX12_offsetOf_17 : decode cX12_offsetOf 17 = .ok (.iload_n 2, 1) := by decide +kernel
theorem dX12_offsetOf_18 : decode cX12_offsetOf 18 = .ok (.aload_n 0, 1) := by decide +kernel
theorem dX12_offsetOf_19 : decode cX12_offsetOf 19 = .ok (.getfield 88, 3) := by decide +kernel
theorem dX12_offsetOf_22 : decode cX12_offsetOf 22 = .ok (.iload_n 1, 1) := by decide +kernel
theorem dX12_offsetOf_23 : decode cX12_offsetOf 23 = .ok (.iaload, 1) := by decide +kernel
theorem dX12_offsetOf_24 : decode cX12_offsetOf 24 = .ok (.iconst 2, 1) := by decide +kernel
theorem dX12_offsetOf_25 : decode cX12_offsetOf 25 = .ok (.idiv, 1) := by decide +kernel
theorem dX12_offsetOf_26 : decode cX12_offsetOf 26 = .ok (.iadd, 1) := by decide +kernel
theorem dX12_offsetOf_27 : decode cX12_offsetOf 27 = .ok (.aload_n 0, 1) := by decide +kernel
theorem dX12_offsetOf_28 : decode cX12_offsetOf 28 = .ok (.getfield 88, 3) := by decide +kernel
theorem dX12_offsetOf_31 : decode cX12_offsetOf 31 = .ok (.iload_n 1, 1) := by decide +kernel
theorem dX12_offsetOf_32 : decode cX12_offsetOf 32 = .ok (.iaload, 1) := by decide +kernel
theorem dX12_offsetOf_33 : decode cX12_offsetOf 33 = .ok (.irem, 1) := by decide +kernel
theorem dX12_offsetOf_34 : decode cX12_offsetOf 34 = .ok (.goto 4, 3) := by decide +kernel
theorem dX12_offsetOf_37 : decode cX12_offsetOf 37 = .ok (.iload_n 2, 1) := by decide +kernel
theorem dX12_offsetOf_38 : decode cX12_offsetOf 38 = .ok (.ireturn, 1) := by decide +kernel
theorem dX12_measures_0 : decode cX12_measures 0 = .ok (.aload_n 0, 1) := by decide +kernel
theorem dX12_measures_1 : decode cX12_measures 1 = .ok (.iconst 0, 1) := by decide +kernel
theorem dX12_measures_2 : decode cX12_measures 2 = .ok (.putfield 318, 3) := by decide +kernel
theorem dX12_measures_5 : decode cX12_measures 5 = .ok (.iload_n 3, 1) := by decide +kernel
theorem dX12_measures_6 : decode cX12_measures 6 = .ok (.istore 4, 2) := by decide +kernel
theorem dX12_measures_8 : decode cX12_measures 8 = .ok (.aload_n 0, 1) := by decide +kernel
theorem dX12_measures_9 : decode cX12_measures 9 = .ok (.iload_n 1, 1) := by decide +kernel
theorem dX12_measures_10 : decode cX12_measures 10 = .ok (.iload_n 2, 1) := by decide +kernel
theorem dX12_measures_11 : decode cX12_measures 11 = .ok (.invokevirtual 287, 3) := by decide +kernel
theorem dX12_measures_14 : decode cX12_measures 14 = .ok (.istore 5, 2) := by decide +kernel
theorem dX12_measures_16 : decode cX12_measures 16 = .ok (.iload_n 2, 1) := by decide +kernel
theorem dX12_measures_17 : decode cX12_measures 17 = .ok (.aload_n 0, 1) := by decide +kernel
theorem dX12_measures_18 : decode cX12_measures 18 = .ok (.iload_n 1, 1) := by decide +kernel
theorem dX12_measures_19 : decode cX12_measures 19 = .ok (.iload 5, 2) := by decide +kernel
theorem dX12_measures_21 : decode cX12_measures 21 = .ok (.invokevirtual 290, 3) := by decide +kernel
theorem dX12_measures_24 : decode cX12_measures 24 = .ok (.isub, 1) := by decide +kernel
theorem dX12_measures_25 : decode cX12_measures 25 = .ok (.istore 6, 2) := by decide +kernel
theorem dX12_measures_27 : decode cX12_measures 27 = .ok (.aload_n 0, 1) := by decide +kernel
theorem dX12_measures_28 : decode cX12_measures 28 = .ok (.iload 5, 2) := by decide +kernel
theorem dX12_measures_30 : decode cX12_measures 30 = .ok (.putfield 321, 3) := by decide +kernel
theorem dX12_measures_33 : decode cX12_measures 33 = .ok (.aload_n 0, 1) := by decide +kernel
theorem dX12_measures_34 : decode cX12_measures 34 = .ok (.iload 6, 2) := by decide +kernel
theorem dX12_measures_36 : decode cX12_measures 36 = .ok (.putfield 324, 3) := by decide +kernel
theorem dX12_measures_39 : decode cX12_measures 39 = .ok (.iload 4, 2) := by decide +kernel
theorem dX12_measures_41 : decode cX12_measures 41 = .ok (.ifCond .le 102, 3) := by decide +kernel
theorem dX12_measures_44 : decode cX12_measures 44 = .ok (.iload 4, 2) := by decide +kernel
theorem dX12_measures_46 : decode cX12_measures 46 = .ok (.aload_n 0, 1) := by decide +kernel
theorem dX12_measures_47 : decode cX12_measures 47 = .ok (.getfield 11, 3) := by decide +kernel
theorem dX12_measures_50 : decode cX12_measures 50 = .ok (.iload_n 1, 1) := by decide +kernel
theorem dX12_measures_51 : decode cX12_measures 51 = .ok (.aaload, 1) := by decide +kernel
theorem dX12_measures_52 : decode cX12_measures 52 = .ok (.iload 5, 2) := by decide +kernel
theorem dX12_measures_54 : decode cX12_measures 54 = .ok (.iaload, 1) := by decide +kernel
theorem dX12_measures_55 : decode cX12_measures 55 = .ok (.iload 6, 2) := by decide +kernel
theorem dX12_measures_57 : decode cX12_measures 57 = .ok (.isub, 1) := by decide +kernel
theorem dX12_measures_58 : decode cX12_measures 58 = .ok (.invokestatic 239, 3) := by decide +kernel
theorem dX12_measures_61 : decode cX12_measures 61 = .ok (.istore 7, 2) := by decide +kernel
theorem dX12_measures_63 : decode cX12_measures 63 = .ok (.aload_n 0, 1) := by decide +kernel
theorem dX12_measures_64 : decode cX12_measures 64 = .ok (.aload_n 0, 1) := by decide +kernel
theorem dX12_measures_65 : decode cX12_measures 65 = .ok (.getfield 318, 3) := by decide +kernel
theorem dX12_measures_68 : decode cX12_measures 68 = .ok (.aload_n 0, 1) := by decide +kernel
theorem dX12_measures_69 : decode cX12_measures 69 = .ok (.iload_n 1, 1) := by decide +kernel
theorem dX12_measures_70 : decode cX12_measures 70 = .ok (.iload 5, 2) := by decide +kernel
theorem dX12_measures_72 : decode cX12_measures 72 = .ok (.iload 6, 2) := by decide +kernel
theorem dX12_measures_74 : decode cX12_measures 74 = .ok (.invokevirtual 293, 3) := by decide +kernel
theorem dX12_measures_77 : decode cX12_measures 77 = .ok (.aload_n 0, 1) := by decide +kernel
theorem dX12_measures_78 : decode cX12_measures 78 = .ok (.iload_n 1, 1) := by decide +kernel
theorem dX12_measures_79 : decode cX12_measures 79 = .ok (.iload 5, 2) := by decide +kernel
theorem dX12_measures_81 : decode cX12_measures 81 = .ok (.iload 6, 2) := by decide +kernel
theorem dX12_measures_83 : decode cX12_measures 83 = .ok (.iload 7, 2) := by decide +kernel
theorem dX12_measures_85 : decode cX12_measures 85 = .ok (.iadd, 1) := by decide +kernel
theorem dX12_measures_86 : decode cX12_measures 86 = .ok (.invokevirtual 293, 3) := by decide +kernel
theorem dX12_measures_89 : decode cX12_measures 89 = .ok (.invokestatic 327, 3) := by decide +kernel
theorem dX12_measures_92 : decode cX12_measures 92 = .ok (.invokestatic 327, 3) := by decide +kernel
theorem dX12_measures_95 : decode cX12_measures 95 = .ok (.putfield 318, 3) := by decide +kernel
theorem dX12_measures_98 : decode cX12_measures 98 = .ok (.aload_n 0, 1) := by decide +kernel
theorem dX12_measures_99 : decode cX12_measures 99 = .ok (.iload 6, 2) := by decide +kernel
theorem dX12_measures_101 : decode cX12_measures 101 = .ok (.iload 7, 2) := by decide +kernel
theorem dX12_measures_103 : decode cX12_measures 103 = .ok (.iadd, 1) := by decide +kernel
theorem dX12_measures_104 : decode cX12_measures 104 = .ok (.putfield 330, 3) := by decide +kernel
theorem dX12_measures_107 : decode cX12_measures 107 = .ok (.iload 4, 2) := by decide +kernel
theorem dX12_measures_109 : decode cX12_measures 109 = .ok (.iload 7, 2) := by decide +kernel
theorem dX12_measures_111 : decode cX12_measures 111 = .ok (.isub, 1) := by decide +kernel
theorem dX12_measures_112 : decode cX12_measures 112 = .ok (.istore 4, 2) := by decide +kernel
theorem dX12_measures_114 : decode cX12_measures 114 = .ok (.iconst 0, 1) := by decide +kernel
theorem dX12_measures_115 : decode cX12_measures 115 = .ok (.istore 6, 2) := by decide +kernel
theorem dX12_measures_117 : decode cX12_measures 117 = .ok (.iload 5, 2) := by decide +kernel
theorem dX12_measures_119 : decode cX12_measures 119 = .ok (.iconst 1, 1) := by decide +kernel
theorem dX12_measures_120 : decode cX12_measures 120 = .ok (.iadd, 1) := by decide +kernel
theorem dX12_measures_121 : decode cX12_measures 121 = .ok (.aload_n 0, 1) := by decide +kernel
theorem dX12_measures_122 : decode cX12_measures 122 = .ok (.getfield 50, 3) := by decide +kernel
theorem dX12_measures_125 : decode cX12_measures 125 = .ok (.iload_n 1, 1) := by decide +kernel
theorem dX12_measures_126 : decode cX12_measures 126 = .ok (.iaload, 1) := by decide +kernel
theorem dX12_measures_127 : decode cX12_measures 127 = .ok (.irem, 1) := by decide +kernel
theorem dX12_measures_128 : decode cX12_measures 128 = .ok (.istore 5, 2) := by decide +kernel
theorem dX12_measures_130 : decode cX12_measures 130 = .ok (.iload 4, 2) := by decide +kernel
theorem dX12_measures_132 : decode cX12_measures 132 = .ok (.ifCond .le 8, 3) := by decide +kernel
theorem dX12_measures_135 : decode cX12_measures 135 = .ok (.aload_n 0, 1) := by decide +kernel
theorem dX12_measures_136 : decode cX12_measures 136 = .ok (.iconst (-1), 1) := by decide +kernel
theorem dX12_measures_137 : decode cX12_measures 137 = .ok (.putfield 321, 3) := by decide +kernel
theorem dX12_measures_140 : decode cX12_measures 140 = .ok (.goto (-101), 3) := by decide +kernel
theorem dX12_measures_143 : decode cX12_measures 143 = .ok (.return_, 1) := by decide +kernel
theorem dX12_adds_0 : decode cX12_adds 0 = .ok (.aload_n 0, 1) := by decide +kernel
theorem dX12_adds_1 : decode cX12_adds 1 = .ok (.getfield 131, 3) := by decide +kernel
theorem dX12_adds_4 : decode cX12_adds 4 = .ok (.aload_n 0, 1) := by decide +kernel
theorem dX12_adds_5 : decode cX12_adds 5 = .ok (.getfield 333, 3) := by decide +kernel
theorem dX12_adds_8 : decode cX12_adds 8 = .ok (.iload_n 1, 1) := by decide +kernel
theorem dX12_adds_9 : decode cX12_adds 9 = .ok (.iastore, 1) := by decide +kernel
theorem dX12_adds_10 : decode cX12_adds 10 = .ok (.aload_n 0, 1) := by decide +kernel
theorem dX12_adds_11 : decode cX12_adds 11 = .ok (.getfield 134, 3) := by decide +kernel
theorem dX12_adds_14 : decode cX12_adds 14 = .ok (.aload_n 0, 1) := by decide +kernel
theorem dX12_adds_15 : decode cX12_adds 15 = .ok (.getfield 333, 3) := by decide +kernel
theorem dX12_adds_18 : decode cX12_adds 18 = .ok (.iload_n 2, 1) := by decide +kernel
theorem dX12_adds_19 : decode cX12_adds 19 = .ok (.iastore, 1) := by decide +kernel
theorem dX12_adds_20 : decode cX12_adds 20 = .ok (.aload_n 0, 1) := by decide +kernel
theorem dX12_adds_21 : decode cX12_adds 21 = .ok (.getfield 137, 3) := by decide +kernel
theorem dX12_adds_24 : decode cX12_adds 24 = .ok (.aload_n 0, 1) := by decide +kernel
theorem dX12_adds_25 : decode cX12_adds 25 = .ok (.getfield 333, 3) := by decide +kernel
theorem dX12_adds_28 : decode cX12_adds 28 = .ok (.iload_n 3, 1) := by decide +kernel
theorem dX12_adds_29 : decode cX12_adds 29 = .ok (.iastore, 1) := by decide +kernel
theorem dX12_adds_30 : decode cX12_adds 30 = .ok (.aload_n 0, 1) := by decide +kernel
theorem dX12_adds_31 : decode cX12_adds 31 = .ok (.dup, 1) := by decide +kernel
theorem dX12_adds_32 : decode cX12_adds 32 = .ok (.getfield 333, 3) := by decide +kernel
theorem dX12_adds_35 : decode cX12_adds 35 = .ok (.iconst 1, 1) := by decide +kernel
theorem dX12_adds_36 : decode cX12_adds 36 = .ok (.iadd, 1) := by decide +kernel
theorem dX12_adds_37 : decode cX12_adds 37 = .ok (.putfield 333, 3) := by decide +kernel
theorem dX12_adds_40 : decode cX12_adds 40 = .ok (.return_, 1) := by decide +kernel
theorem dX12_cuts_0 : decode cX12_cuts 0 = .ok (.iconst (-1), 1) := by decide +kernel
theorem dX12_cuts_1 : decode cX12_cuts 1 = .ok (.istore_n 3, 1) := by decide +kernel
theorem dX12_cuts_2 : decode cX12_cuts 2 = .ok (.aload_n 0, 1) := by decide +kernel
theorem dX12_cuts_3 : decode cX12_cuts 3 = .ok (.getfield 54, 3) := by decide +kernel
theorem dX12_cuts_6 : decode cX12_cuts 6 = .ok (.iload_n 1, 1) := by decide +kernel
theorem dX12_cuts_7 : decode cX12_cuts 7 = .ok (.iaload, 1) := by decide +kernel
theorem dX12_cuts_8 : decode cX12_cuts 8 = .ok (.iconst 1, 1) := by decide +kernel
theorem dX12_cuts_9 : decode cX12_cuts 9 = .ok (.isub, 1) := by decide +kernel
theorem dX12_cuts_10 : decode cX12_cuts 10 = .ok (.istore 4, 2) := by decide +kernel
theorem dX12_cuts_12 : decode cX12_cuts 12 = .ok (.iload 4, 2) := by decide +kernel
theorem dX12_cuts_14 : decode cX12_cuts 14 = .ok (.ifCond .lt 68, 3) := by decide +kernel
theorem dX12_cuts_17 : decode cX12_cuts 17 = .ok (.aload_n 0, 1) := by decide +kernel
theorem dX12_cuts_18 : decode cX12_cuts 18 = .ok (.getfield 321, 3) := by decide +kernel
theorem dX12_cuts_21 : decode cX12_cuts 21 = .ok (.iconst (-1), 1) := by decide +kernel
theorem dX12_cuts_22 : decode cX12_cuts 22 = .ok (.if_icmp .eq 60, 3) := by decide +kernel
theorem dX12_cuts_25 : decode cX12_cuts 25 = .ok (.aload_n 0, 1) := by decide +kernel
theorem dX12_cuts_26 : decode cX12_cuts 26 = .ok (.getfield 23, 3) := by decide +kernel
theorem dX12_cuts_29 : decode cX12_cuts 29 = .ok (.iload_n 1, 1) := by decide +kernel
theorem dX12_cuts_30 : decode cX12_cuts 30 = .ok (.aaload, 1) := by decide +kernel
theorem dX12_cuts_31 : decode cX12_cuts 31 = .ok (.iload 4, 2) := by decide +kernel
theorem dX12_cuts_33 : decode cX12_cuts 33 = .ok (.iaload, 1) := by decide +kernel
theorem dX12_cuts_34 : decode cX12_cuts 34 = .ok (.aload_n 0, 1) := by decide +kernel
theorem dX12_cuts_35 : decode cX12_cuts 35 = .ok (.getfield 321, 3) := by decide +kernel
theorem dX12_cuts_38 : decode cX12_cuts 38 = .ok (.if_icmp .ne 38, 3) := by decide +kernel
theorem dX12_cuts_41 : decode cX12_cuts 41 = .ok (.aload_n 0, 1) := by decide +kernel
theorem dX12_cuts_42 : decode cX12_cuts 42 = .ok (.getfield 26, 3) := by decide +kernel
theorem dX12_cuts_45 : decode cX12_cuts 45 = .ok (.iload_n 1, 1) := by decide +kernel
theorem dX12_cuts_46 : decode cX12_cuts 46 = .ok (.aaload, 1) := by decide +kernel
theorem dX12_cuts_47 : decode cX12_cuts 47 = .ok (.iload 4, 2) := by decide +kernel
theorem dX12_cuts_49 : decode cX12_cuts 49 = .ok (.iaload, 1) := by decide +kernel
theorem dX12_cuts_50 : decode cX12_cuts 50 = .ok (.aload_n 0, 1) := by decide +kernel
theorem dX12_cuts_51 : decode cX12_cuts 51 = .ok (.getfield 324, 3) := by decide +kernel
theorem dX12_cuts_54 : decode cX12_cuts 54 = .ok (.if_icmp .gt 22, 3) := by decide +kernel
theorem dX12_cuts_57 : decode cX12_cuts 57 = .ok (.aload_n 0, 1) := by decide +kernel
theorem dX12_cuts_58 : decode cX12_cuts 58 = .ok (.getfield 330, 3) := by decide +kernel
theorem dX12_cuts_61 : decode cX12_cuts 61 = .ok (.aload_n 0, 1) := by decide +kernel
theorem dX12_cuts_62 : decode cX12_cuts 62 = .ok (.getfield 29, 3) := by decide +kernel
theorem dX12_cuts_65 : decode cX12_cuts 65 = .ok (.iload_n 1, 1) := by decide +kernel
theorem dX12_cuts_66 : decode cX12_cuts 66 = .ok (.aaload, 1) := by decide +kernel
theorem dX12_cuts_67 : decode cX12_cuts 67 = .ok (.iload 4, 2) := by decide +kernel
theorem dX12_cuts_69 : decode cX12_cuts 69 = .ok (.iaload, 1) := by decide +kernel
theorem dX12_cuts_70 : decode cX12_cuts 70 = .ok (.if_icmp .gt 6, 3) := by decide +kernel
theorem dX12_cuts_73 : decode cX12_cuts 73 = .ok (.iload 4, 2) := by decide +kernel
theorem dX12_cuts_75 : decode cX12_cuts 75 = .ok (.istore_n 3, 1) := by decide +kernel
theorem dX12_cuts_76 : decode cX12_cuts 76 = .ok (.iinc 4 (-1), 3) := by decide +kernel
theorem dX12_cuts_79 : decode cX12_cuts 79 = .ok (.goto (-67), 3) := by decide +kernel
theorem dX12_cuts_82 : decode cX12_cuts 82 = .ok (.iload_n 3, 1) := by decide +kernel
theorem dX12_cuts_83 : decode cX12_cuts 83 = .ok (.iconst (-1), 1) := by decide +kernel
theorem dX12_cuts_84 : decode cX12_cuts 84 = .ok (.if_icmp .ne 14, 3) := by decide +kernel
theorem dX12_cuts_87 : decode cX12_cuts 87 = .ok (.aload_n 0, 1) := by decide +kernel
theorem dX12_cuts_88 : decode cX12_cuts 88 = .ok (.iload_n 2, 1) := by decide +kernel
theorem dX12_cuts_89 : decode cX12_cuts 89 = .ok (.iconst 0, 1) := by decide +kernel
theorem dX12_cuts_90 : decode cX12_cuts 90 = .ok (.aload_n 0, 1) := by decide +kernel
theorem dX12_cuts_91 : decode cX12_cuts 91 = .ok (.getfield 318, 3) := by decide +kernel
theorem dX12_cuts_94 : decode cX12_cuts 94 = .ok (.invokevirtual 336, 3) := by decide +kernel
theorem dX12_cuts_97 : decode cX12_cuts 97 = .ok (.return_, 1) := by decide +kernel
theorem dX12_cuts_98 : decode cX12_cuts 98 = .ok (.aload_n 0, 1) := by decide +kernel
theorem dX12_cuts_99 : decode cX12_cuts 99 = .ok (.iload_n 2, 1) := by decide +kernel
theorem dX12_cuts_100 : decode cX12_cuts 100 = .ok (.iconst 0, 1) := by decide +kernel
theorem dX12_cuts_101 : decode cX12_cuts 101 = .ok (.aload_n 0, 1) := by decide +kernel
theorem dX12_cuts_102 : decode cX12_cuts 102 = .ok (.getfield 318, 3) := by decide +kernel
theorem dX12_cuts_105 : decode cX12_cuts 105 = .ok (.aload_n 0, 1) := by decide +kernel
theorem dX12_cuts_106 : decode cX12_cuts 106 = .ok (.getfield 35, 3) := by decide +kernel
theorem dX12_cuts_109 : decode cX12_cuts 109 = .ok (.iload_n 1, 1) := by decide +kernel
theorem dX12_cuts_110 : decode cX12_cuts 110 = .ok (.aaload, 1) := by decide +kernel
theorem dX12_cuts_111 : decode cX12_cuts 111 = .ok (.iload_n 3, 1) := by decide +kernel
theorem dX12_cuts_112 : decode cX12_cuts 112 = .ok (.iaload, 1) := by decide +kernel
theorem dX12_cuts_113 : decode cX12_cuts 113 = .ok (.isub, 1) := by decide +kernel
theorem dX12_cuts_114 : decode cX12_cuts 114 = .ok (.invokevirtual 336, 3) := by decide +kernel
theorem dX12_cuts_117 : decode cX12_cuts 117 = .ok (.aload_n 0, 1) := by decide +kernel
theorem dX12_cuts_118 : decode cX12_cuts 118 = .ok (.getfield 38, 3) := by decide +kernel
theorem dX12_cuts_121 : decode cX12_cuts 121 = .ok (.iload_n 1, 1) := by decide +kernel
theorem dX12_cuts_122 : decode cX12_cuts 122 = .ok (.aaload, 1) := by decide +kernel
theorem dX12_cuts_123 : decode cX12_cuts 123 = .ok (.iload_n 3, 1) := by decide +kernel
theorem dX12_cuts_124 : decode cX12_cuts 124 = .ok (.iaload, 1) := by decide +kernel
theorem dX12_cuts_125 : decode cX12_cuts 125 = .ok (.ifCond .ne 25, 3) := by decide +kernel
theorem dX12_cuts_128 : decode cX12_cuts 128 = .ok (.aload_n 0, 1) := by decide +kernel
