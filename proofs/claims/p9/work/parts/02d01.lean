theorem dX3_stripsFor_0 : decode cX3_stripsFor 0 = .ok (.iload_n 1, 1) := by decide +kernel
theorem dX3_stripsFor_1 : decode cX3_stripsFor 1 = .ok (.aload_n 0, 1) := by decide +kernel
theorem dX3_stripsFor_2 : decode cX3_stripsFor 2 = .ok (.getfield 9, 3) := by decide +kernel
theorem dX3_stripsFor_5 : decode cX3_stripsFor 5 = .ok (.invokestatic 34, 3) := by decide +kernel
theorem dX3_stripsFor_8 : decode cX3_stripsFor 8 = .ok (.ireturn, 1) := by decide +kernel
theorem dX3_offsetOf_0 : decode cX3_offsetOf 0 = .ok (.aload_n 0, 1) := by decide +kernel
theorem dX3_offsetOf_1 : decode cX3_offsetOf 1 = .ok (.getfield 18, 3) := by decide +kernel
theorem dX3_offsetOf_4 : decode cX3_offsetOf 4 = .ok (.iconst 1, 1) := by decide +kernel
theorem dX3_offsetOf_5 : decode cX3_offsetOf 5 = .ok (.if_icmp .ne 14, 3) := by decide +kernel
theorem dX3_offsetOf_8 : decode cX3_offsetOf 8 = .ok (.iload_n 1, 1) := by decide +kernel
theorem dX3_offsetOf_9 : decode cX3_offsetOf 9 = .ok (.iconst 1, 1) := by decide +kernel
theorem dX3_offsetOf_10 : decode cX3_offsetOf 10 = .ok (.iand, 1) := by decide +kernel
theorem dX3_offsetOf_11 : decode cX3_offsetOf 11 = .ok (.iconst 1, 1) := by decide +kernel
theorem dX3_offsetOf_12 : decode cX3_offsetOf 12 = .ok (.if_icmp .ne 7, 3) := by decide +kernel
theorem dX3_offsetOf_15 : decode cX3_offsetOf 15 = .ok (.iconst 1, 1) := by decide +kernel
theorem dX3_offsetOf_16 : decode cX3_offsetOf 16 = .ok (.goto 4, 3) := by decide +kernel
theorem dX3_offsetOf_19 : decode cX3_offsetOf 19 = .ok (.iconst 0, 1) := by decide +kernel
theorem dX3_offsetOf_20 : decode cX3_offsetOf 20 = .ok (.istore_n 3, 1) := by decide +kernel
theorem dX3_offsetOf_21 : decode cX3_offsetOf 21 = .ok (.iload_n 3, 1) := by decide +kernel
theorem dX3_offsetOf_22 : decode cX3_offsetOf 22 = .ok (.ifCond .eq 14, 3) := by decide +kernel
theorem dX3_offsetOf_25 : decode cX3_offsetOf 25 = .ok (.iload_n 2, 1) := by decide +kernel
theorem dX3_offsetOf_26 : decode cX3_offsetOf 26 = .ok (.aload_n 0, 1) := by decide +kernel
theorem dX3_offsetOf_27 : decode cX3_offsetOf 27 = .ok (.getfield 15, 3) := by decide +kernel
theorem dX3_offsetOf_30 : decode cX3_offsetOf 30 = .ok (.iconst 2, 1) := by decide +kernel
theorem dX3_offsetOf_31 : decode cX3_offsetOf 31 = .ok (.idiv, 1) := by decide +kernel
theorem dX3_offsetOf_32 : decode cX3_offsetOf 32 = .ok (.iadd, 1) := by decide +kernel
theorem dX3_offsetOf_33 : decode cX3_offsetOf 33 = .ok (.goto 4, 3) := by decide +kernel
theorem dX3_offsetOf_36 : decode cX3_offsetOf 36 = .ok (.iload_n 2, 1) := by decide +kernel
theorem dX3_offsetOf_37 : decode cX3_offsetOf 37 = .ok (.aload_n 0, 1) := by decide +kernel
theorem dX3_offsetOf_38 : decode cX3_offsetOf 38 = .ok (.getfield 15, 3) := by decide +kernel
theorem dX3_offsetOf_41 : decode cX3_offsetOf 41 = .ok (.invokestatic 38, 3) := by decide +kernel
theorem dX3_offsetOf_44 : decode cX3_offsetOf 44 = .ok (.ireturn, 1) := by decide +kernel
theorem dX3_phaseAt_0 : decode cX3_phaseAt 0 = .ok (.aload_n 0, 1) := by decide +kernel
theorem dX3_phaseAt_1 : decode cX3_phaseAt 1 = .ok (.getfield 18, 3) := by decide +kernel
theorem dX3_phaseAt_4 : decode cX3_phaseAt 4 = .ok (.iconst 2, 1) := by decide +kernel
theorem dX3_phaseAt_5 : decode cX3_phaseAt 5 = .ok (.if_icmp .ne 7, 3) := by decide +kernel
theorem dX3_phaseAt_8 : decode cX3_phaseAt 8 = .ok (.iconst 0, 1) := by decide +kernel
theorem dX3_phaseAt_9 : decode cX3_phaseAt 9 = .ok (.goto 11, 3) := by decide +kernel
theorem dX3_phaseAt_12 : decode cX3_phaseAt 12 = .ok (.iload_n 1, 1) := by decide +kernel
theorem dX3_phaseAt_13 : decode cX3_phaseAt 13 = .ok (.aload_n 0, 1) := by decide +kernel
theorem dX3_phaseAt_14 : decode cX3_phaseAt 14 = .ok (.getfield 15, 3) := by decide +kernel
theorem dX3_phaseAt_17 : decode cX3_phaseAt 17 = .ok (.invokestatic 38, 3) := by decide +kernel
theorem dX3_phaseAt_20 : decode cX3_phaseAt 20 = .ok (.ireturn, 1) := by decide +kernel
theorem dX3_placeBehind_0 : decode cX3_placeBehind 0 = .ok (.aload_n 0, 1) := by decide +kernel
theorem dX3_placeBehind_1 : decode cX3_placeBehind 1 = .ok (.getfield 18, 3) := by decide +kernel
theorem dX3_placeBehind_4 : decode cX3_placeBehind 4 = .ok (.iconst 2, 1) := by decide +kernel
theorem dX3_placeBehind_5 : decode cX3_placeBehind 5 = .ok (.if_icmp .ne 7, 3) := by decide +kernel
theorem dX3_placeBehind_8 : decode cX3_placeBehind 8 = .ok (.iload_n 1, 1) := by decide +kernel
theorem dX3_placeBehind_9 : decode cX3_placeBehind 9 = .ok (.goto 15, 3) := by decide +kernel
theorem dX3_placeBehind_12 : decode cX3_placeBehind 12 = .ok (.iload_n 1, 1) := by decide +kernel
theorem dX3_placeBehind_13 : decode cX3_placeBehind 13 = .ok (.iload_n 2, 1) := by decide +kernel
theorem dX3_placeBehind_14 : decode cX3_placeBehind 14 = .ok (.iload_n 1, 1) := by decide +kernel
theorem dX3_placeBehind_15 : decode cX3_placeBehind 15 = .ok (.isub, 1) := by decide +kernel
theorem dX3_placeBehind_16 : decode cX3_placeBehind 16 = .ok (.aload_n 0, 1) := by decide +kernel
theorem dX3_placeBehind_17 : decode cX3_placeBehind 17 = .ok (.getfield 15, 3) := by decide +kernel
theorem dX3_placeBehind_20 : decode cX3_placeBehind 20 = .ok (.invokestatic 38, 3) := by decide +kernel
theorem dX3_placeBehind_23 : decode cX3_placeBehind 23 = .ok (.iadd, 1) := by decide +kernel
theorem dX3_placeBehind_24 : decode cX3_placeBehind 24 = .ok (.ireturn, 1) := by decide +kernel
theorem dX4_read_0 : decode cX4_read 0 = .ok (.aload_n 0, 1) := by decide +kernel
theorem dX4_read_1 : decode cX4_read 1 = .ok (.getfield 9, 3) := by decide +kernel
theorem dX4_read_4 : decode cX4_read 4 = .ok (.invokevirtual 15, 3) := by decide +kernel
theorem dX4_read_7 : decode cX4_read 7 = .ok (.aload_n 0, 1) := by decide +kernel
theorem dX4_read_8 : decode cX4_read 8 = .ok (.iconst 0, 1) := by decide +kernel
theorem dX4_read_9 : decode cX4_read 9 = .ok (.putfield 20, 3) := by decide +kernel
theorem dX4_read_12 : decode cX4_read 12 = .ok (.aload_n 0, 1) := by decide +kernel
theorem dX4_read_13 : decode cX4_read 13 = .ok (.aload_n 1, 1) := by decide +kernel
theorem dX4_read_14 : decode cX4_read 14 = .ok (.putfield 24, 3) := by decide +kernel
theorem dX4_read_17 : decode cX4_read 17 = .ok (.aload_n 0, 1) := by decide +kernel
theorem dX4_read_18 : decode cX4_read 18 = .ok (.getfield 24, 3) := by decide +kernel
theorem dX4_read_21 : decode cX4_read 21 = .ok (.invokevirtual 28, 3) := by decide +kernel
theorem dX4_read_24 : decode cX4_read 24 = .ok (.iconst 0, 1) := by decide +kernel
theorem dX4_read_25 : decode cX4_read 25 = .ok (.istore_n 2, 1) := by decide +kernel
theorem dX4_read_26 : decode cX4_read 26 = .ok (.iload_n 2, 1) := by decide +kernel
theorem dX4_read_27 : decode cX4_read 27 = .ok (.sipush 400, 3) := by decide +kernel
theorem dX4_read_30 : decode cX4_read 30 = .ok (.if_icmp .ge 30, 3) := by decide +kernel
theorem dX4_read_33 : decode cX4_read 33 = .ok (.aload_n 0, 1) := by decide +kernel
theorem dX4_read_34 : decode cX4_read 34 = .ok (.bipush 10, 2) := by decide +kernel
theorem dX4_read_36 : decode cX4_read 36 = .ok (.invokevirtual 33, 3) := by decide +kernel
theorem dX4_read_39 : decode cX4_read 39 = .ok (.ifCond .ne 21, 3) := by decide +kernel
theorem dX4_read_42 : decode cX4_read 42 = .ok (.aload_n 0, 1) := by decide +kernel
theorem dX4_read_43 : decode cX4_read 43 = .ok (.invokevirtual 37, 3) := by decide +kernel
theorem dX4_read_46 : decode cX4_read 46 = .ok (.ifCond .ne 8, 3) := by decide +kernel
theorem dX4_read_49 : decode cX4_read 49 = .ok (.aload_n 0, 1) := by decide +kernel
theorem dX4_read_50 : decode cX4_read 50 = .ok (.invokevirtual 41, 3) := by decide +kernel
theorem dX4_read_53 : decode cX4_read 53 = .ok (.ireturn, 1) := by decide +kernel
theorem dX4_read_54 : decode cX4_read 54 = .ok (.iinc 2 1, 3) := by decide +kernel
theorem dX4_read_57 : decode cX4_read 57 = .ok (.goto (-31), 3) := by decide +kernel
theorem dX4_read_60 : decode cX4_read 60 = .ok (.aload_n 0, 1) := by decide +kernel
theorem dX4_read_61 : decode cX4_read 61 = .ok (.getfield 24, 3) := by decide +kernel
theorem dX4_read_64 : decode cX4_read 64 = .ok (.getfield 45, 3) := by decide +kernel
theorem dX4_read_67 : decode cX4_read 67 = .ok (.getfield 49, 3) := by decide +kernel
theorem dX4_read_70 : decode cX4_read 70 = .ok (.ifCond .ne 13, 3) := by decide +kernel
theorem dX4_read_73 : decode cX4_read 73 = .ok (.aload_n 0, 1) := by decide +kernel
theorem dX4_read_74 : decode cX4_read 74 = .ok (.getfield 9, 3) := by decide +kernel
theorem dX4_read_77 : decode cX4_read 77 = .ok (.getfield 54, 3) := by decide +kernel
theorem dX4_read_80 : decode cX4_read 80 = .ok (.goto 4, 3) := by decide +kernel
theorem dX4_read_83 : decode cX4_read 83 = .ok (.iconst (-1), 1) := by decide +kernel
theorem dX4_read_84 : decode cX4_read 84 = .ok (.ireturn, 1) := by decide +kernel
theorem dX4_isNext_0 : decode cX4_isNext 0 = .ok (.aload_n 0, 1) := by decide +kernel
theorem dX4_isNext_1 : decode cX4_isNext 1 = .ok (.getfield 20, 3) := by decide +kernel
theorem dX4_isNext_4 : decode cX4_isNext 4 = .ok (.aload_n 0, 1) := by decide +kernel
theorem dX4_isNext_5 : decode cX4_isNext 5 = .ok (.getfield 9, 3) := by decide +kernel
theorem dX4_isNext_8 : decode cX4_isNext 8 = .ok (.getfield 57, 3) := by decide +kernel
theorem dX4_isNext_11 : decode cX4_isNext 11 = .ok (.if_icmp .ge 23, 3) := by decide +kernel
theorem dX4_isNext_14 : decode cX4_isNext 14 = .ok (.aload_n 0, 1) := by decide +kernel
theorem dX4_isNext_15 : decode cX4_isNext 15 = .ok (.getfield 9, 3) := by decide +kernel
theorem dX4_isNext_18 : decode cX4_isNext 18 = .ok (.getfield 60, 3) := by decide +kernel
theorem dX4_isNext_21 : decode cX4_isNext 21 = .ok (.aload_n 0, 1) := by decide +kernel
theorem dX4_isNext_22 : decode cX4_isNext 22 = .ok (.getfield 20, 3) := by decide +kernel
theorem dX4_isNext_25 : decode cX4_isNext 25 = .ok (.iaload, 1) := by decide +kernel
theorem dX4_isNext_26 : decode cX4_isNext 26 = .ok (.iload_n 1, 1) := by decide +kernel
theorem dX4_isNext_27 : decode cX4_isNext 27 = .ok (.if_icmp .ne 7, 3) := by decide +kernel
theorem dX4_isNext_30 : decode cX4_isNext 30 = .ok (.iconst 1, 1) := by decide +kernel
theorem dX4_isNext_31 : decode cX4_isNext 31 = .ok (.goto 4, 3) := by decide +kernel
theorem dX4_isNext_34 : decode cX4_isNext 34 = .ok (.iconst 0, 1) := by decide +kernel
theorem dX4_isNext_35 : decode cX4_isNext 35 = .ok (.ireturn, 1) := by decide +kernel
theorem dX4_placeOfNext_0 : decode cX4_placeOfNext 0 = .ok (.aload_n 0, 1) := by decide +kernel
theorem dX4_placeOfNext_1 : decode cX4_placeOfNext 1 = .ok (.getfield 20, 3) := by decide +kernel
theorem dX4_placeOfNext_4 : decode cX4_placeOfNext 4 = .ok (.aload_n 0, 1) := by decide +kernel
theorem dX4_placeOfNext_5 : decode cX4_placeOfNext 5 = .ok (.getfield 9, 3) := by decide +kernel
theorem dX4_placeOfNext_8 : decode cX4_placeOfNext 8 = .ok (.getfield 57, 3) := by decide +kernel
theorem dX4_placeOfNext_11 : decode cX4_placeOfNext 11 = .ok (.if_icmp .ge 18, 3) := by decide +kernel
theorem dX4_placeOfNext_14 : decode cX4_placeOfNext 14 = .ok (.aload_n 0, 1) := by decide +kernel
theorem dX4_placeOfNext_15 : decode cX4_placeOfNext 15 = .ok (.getfield 9, 3) := by decide +kernel
theorem dX4_placeOfNext_18 : decode cX4_placeOfNext 18 = .ok (.getfield 64, 3) := by decide +kernel
theorem dX4_placeOfNext_21 : decode cX4_placeOfNext 21 = .ok (.aload_n 0, 1) := by decide +kernel
theorem dX4_placeOfNext_22 : decode cX4_placeOfNext 22 = .ok (.getfield 20, 3) := by decide +kernel
theorem dX4_placeOfNext_25 : decode cX4_placeOfNext 25 = .ok (.iaload, 1) := by decide +kernel
theorem dX4_placeOfNext_26 : decode cX4_placeOfNext 26 = .ok (.goto 10, 3) := by decide +kernel
theorem dX4_placeOfNext_29 : decode cX4_placeOfNext 29 = .ok (.aload_n 0, 1) := by decide +kernel
theorem dX4_placeOfNext_30 : decode cX4_placeOfNext 30 = .ok (.getfield 9, 3) := by decide +kernel
theorem dX4_placeOfNext_33 : decode cX4_placeOfNext 33 = .ok (.getfield 54, 3) := by decide +kernel
theorem dX4_placeOfNext_36 : decode cX4_placeOfNext 36 = .ok (.ireturn, 1) := by decide +kernel
theorem dX4_readLine_0 : decode cX4_readLine 0 = .ok (.aload_n 0, 1) := by decide +kernel
theorem dX4_readLine_1 : decode cX4_readLine 1 = .ok (.iconst 0, 1) := by decide +kernel
theorem dX4_readLine_2 : decode cX4_readLine 2 = .ok (.invokevirtual 33, 3) := by decide +kernel
theorem dX4_readLine_5 : decode cX4_readLine 5 = .ok (.ifCond .eq 31, 3) := by decide +kernel
theorem dX4_readLine_8 : decode cX4_readLine 8 = .ok (.aload_n 0, 1) := by decide +kernel
theorem dX4_readLine_9 : decode cX4_readLine 9 = .ok (.getfield 24, 3) := by decide +kernel
theorem dX4_readLine_12 : decode cX4_readLine 12 = .ok (.getfield 45, 3) := by decide +kernel
theorem dX4_readLine_15 : decode cX4_readLine 15 = .ok (.getfield 49, 3) := by decide +kernel
theorem dX4_readLine_18 : decode cX4_readLine 18 = .ok (.bipush 8, 2) := by decide +kernel
theorem dX4_readLine_20 : decode cX4_readLine 20 = .ok (.if_icmp .ge 14, 3) := by decide +kernel
theorem dX4_readLine_23 : decode cX4_readLine 23 = .ok (.aload_n 0, 1) := by decide +kernel
theorem dX4_readLine_24 : decode cX4_readLine 24 = .ok (.invokevirtual 67, 3) := by decide +kernel
theorem dX4_readLine_27 : decode cX4_readLine 27 = .ok (.ifCond .eq 7, 3) := by decide +kernel
theorem dX4_readLine_30 : decode cX4_readLine 30 = .ok (.iconst 1, 1) := by decide +kernel
theorem dX4_readLine_31 : decode cX4_readLine 31 = .ok (.goto 4, 3) := by decide +kernel
theorem dX4_readLine_34 : decode cX4_readLine 34 = .ok (.iconst 0, 1) := by decide +kernel
theorem dX4_readLine_35 : decode cX4_readLine 35 = .ok (.ireturn, 1) := by decide +kernel
theorem dX4_readLine_36 : decode cX4_readLine 36 = .ok (.aload_n 0, 1) := by decide +kernel
theorem dX4_readLine_37 : decode cX4_readLine 37 = .ok (.iconst 1, 1) := by decide +kernel
theorem dX4_readLine_38 : decode cX4_readLine 38 = .ok (.invokevirtual 33, 3) := by decide +kernel
theorem dX4_readLine_41 : decode cX4_readLine 41 = .ok (.ifCond .eq 28, 3) := by decide +kernel
theorem dX4_readLine_44 : decode cX4_readLine 44 = .ok (.aload_n 0, 1) := by decide +kernel
theorem dX4_readLine_45 : decode cX4_readLine 45 = .ok (.getfield 24, 3) := by decide +kernel
theorem dX4_readLine_48 : decode cX4_readLine 48 = .ok (.getfield 70, 3) := by decide +kernel
theorem dX4_readLine_51 : decode cX4_readLine 51 = .ok (.bipush 8, 2) := by decide +kernel
theorem dX4_readLine_53 : decode cX4_readLine 53 = .ok (.if_icmp .ge 14, 3) := by decide +kernel
theorem dX4_readLine_56 : decode cX4_readLine 56 = .ok (.aload_n 0, 1) := by decide +kernel
theorem dX4_readLine_57 : decode cX4_readLine 57 = .ok (.invokevirtual 73, 3) := by decide +kernel
theorem dX4_readLine_60 : decode cX4_readLine 60 = .ok (.ifCond .eq 7, 3) := by decide +kernel
theorem dX4_readLine_63 : decode cX4_readLine 63 = .ok (.iconst 1, 1) := by decide +kernel
theorem dX4_readLine_64 : decode cX4_readLine 64 = .ok (.goto 4, 3) := by decide +kernel
theorem dX4_readLine_67 : decode cX4_readLine 67 = .ok (.iconst 0, 1) := by decide +kernel
theorem dX4_readLine_68 : decode cX4_readLine 68 = .ok (.ireturn, 1) := by decide +kernel
theorem dX4_readLine_69 : decode cX4_readLine 69 = .ok (.aload_n 0, 1) := by decide +kernel
theorem dX4_readLine_70 : decode cX4_readLine 70 = .ok (.iconst 2, 1) := by decide +kernel
theorem dX4_readLine_71 : decode cX4_readLine 71 = .ok (.invokevirtual 33, 3) := by decide +kernel
theorem dX4_readLine_74 : decode cX4_readLine 74 = .ok (.ifCond .eq 28, 3) := by decide +kernel
theorem dX4_readLine_77 : decode cX4_readLine 77 = .ok (.aload_n 0, 1) := by decide +kernel
theorem dX4_readLine_78 : decode cX4_readLine 78 = .ok (.getfield 24, 3) := by decide +kernel
theorem dX4_readLine_81 : decode cX4_readLine 81 = .ok (.getfield 70, 3) := by decide +kernel
theorem dX4_readLine_84 : decode cX4_readLine 84 = .ok (.bipush 8, 2) := by decide +kernel
theorem dX4_readLine_86 : decode cX4_readLine 86 = .ok (.if_icmp .ge 14, 3) := by decide +kernel
theorem dX4_readLine_89 : decode cX4_readLine 89 = .ok (.aload_n 0, 1) := by decide +kernel
theorem dX4_readLine_90 : decode cX4_readLine 90 = .ok (.invokevirtual 76, 3) := by decide +kernel
theorem dX4_readLine_93 : decode cX4_readLine 93 = .ok (.ifCond .eq 7, 3) := by decide +kernel
theorem dX4_readLine_96 : decode cX4_readLine 96 = .ok (.iconst 1, 1) := by decide +kernel
theorem dX4_readLine_97 : decode cX4_readLine 97 = .ok (.goto 4, 3) := by decide +kernel
theorem dX4_readLine_100 : decode cX4_readLine 100 = .ok (.iconst 0, 1) := by decide +kernel
theorem dX4_readLine_101 : decode cX4_readLine 101 = .ok (.ireturn, 1) := by decide +kernel
theorem dX4_readLine_102 : decode cX4_readLine 102 = .ok (.aload_n 0, 1) := by decide +kernel
theorem dX4_readLine_103 : decode cX4_readLine 103 = .ok (.iconst 3, 1) := by decide +kernel
theorem dX4_readLine_104 : decode cX4_readLine 104 = .ok (.invokevirtual 33, 3) := by decide +kernel
theorem dX4_readLine_107 : decode cX4_readLine 107 = .ok (.ifCond .eq 8, 3) := by decide +kernel
theorem dX4_readLine_110 : decode cX4_readLine 110 = .ok (.aload_n 0, 1) := by decide +kernel
theorem dX4_readLine_111 : decode cX4_readLine 111 = .ok (.invokevirtual 79, 3) := by decide +kernel
theorem dX4_readLine_114 : decode cX4_readLine 114 = .ok (.ireturn, 1) := by decide +kernel
theorem dX4_readLine_115 : decode cX4_readLine 115 = .ok (.aload_n 0, 1) := by decide +kernel
theorem dX4_readLine_116 : decode cX4_readLine 116 = .ok (.iconst 4, 1) := by decide +kernel
theorem dX4_readLine_117 : decode cX4_readLine 117 = .ok (.invokevirtual 33, 3) := by decide +kernel
theorem dX4_readLine_120 : decode cX4_readLine 120 = .ok (.ifCond .eq 25, 3) := by decide +kernel
theorem dX4_readLine_123 : decode cX4_readLine 123 = .ok (.aload_n 0, 1) := by decide +kernel
theorem dX4_readLine_124 : decode cX4_readLine 124 = .ok (.getfield 24, 3) := by decide +kernel
theorem dX4_readLine_127 : decode cX4_readLine 127 = .ok (.getfield 82, 3) := by decide +kernel
theorem dX4_readLine_130 : decode cX4_readLine 130 = .ok (.iconst 4, 1) := by decide +kernel
theorem dX4_readLine_131 : decode cX4_readLine 131 = .ok (.if_icmp .ge 14, 3) := by decide +kernel
theorem dX4_readLine_134 : decode cX4_readLine 134 = .ok (.aload_n 0, 1) := by decide +kernel
theorem dX4_readLine_135 : decode cX4_readLine 135 = .ok (.invokevirtual 85, 3) := by decide +kernel
theorem dX4_readLine_138 : decode cX4_readLine 138 = .ok (.ifCond .eq 7, 3) := by decide +kernel
theorem dX4_readLine_141 : decode cX4_readLine 141 = .ok (.iconst 1, 1) := by decide +kernel
theorem dX4_readLine_142 : decode cX4_readLine 142 = .ok (.goto 4, 3) := by decide +kernel
theorem dX4_readLine_145 : decode cX4_readLine 145 = .ok (.iconst 0, 1) := by decide +kernel
theorem dX4_readLine_146 : decode cX4_readLine 146 = .ok (.ireturn, 1) := by decide +kernel
theorem dX4_readWall_0 : decode cX4_readWall 0 = .ok (.aload_n 0, 1) := by decide +kernel
theorem dX4_readWall_1 : decode cX4_readWall 1 = .ok (.dup, 1) := by decide +kernel
theorem dX4_readWall_2 : decode cX4_readWall 2 = .ok (.getfield 20, 3) := by decide +kernel
theorem dX4_readWall_5 : decode cX4_readWall 5 = .ok (.iconst 1, 1) := by decide +kernel
theorem dX4_readWall_6 : decode cX4_readWall 6 = .ok (.iadd, 1) := by decide +kernel
theorem dX4_readWall_7 : decode cX4_readWall 7 = .ok (.putfield 20, 3) := by decide +kernel
theorem dX4_readWall_10 : decode cX4_readWall 10 = .ok (.aload_n 0, 1) := by decide +kernel
theorem dX4_readWall_11 : decode cX4_readWall 11 = .ok (.bipush 50, 2) := by decide +kernel
theorem dX4_readWall_13 : decode cX4_readWall 13 = .ok (.sipush 600, 3) := by decide +kernel
theorem dX4_readWall_16 : decode cX4_readWall 16 = .ok (.invokevirtual 88, 3) := by decide +kernel
theorem dX4_readWall_19 : decode cX4_readWall 19 = .ok (.istore_n 1, 1) := by decide +kernel
theorem dX4_readWall_20 : decode cX4_readWall 20 = .ok (.iload_n 1, 1) := by decide +kernel
theorem dX4_readWall_21 : decode cX4_readWall 21 = .ok (.iconst (-1), 1) := by decide +kernel
theorem dX4_readWall_22 : decode cX4_readWall 22 = .ok (.if_icmp .ne 7, 3) := by decide +kernel
theorem dX4_readWall_25 : decode cX4_readWall 25 = .ok (.iconst (-1), 1) := by decide +kernel
theorem dX4_readWall_26 : decode cX4_readWall 26 = .ok (.goto 12, 3) := by decide +kernel
theorem dX4_readWall_29 : decode cX4_readWall 29 = .ok (.aload_n 0, 1) := by decide +kernel
theorem dX4_readWall_30 : decode cX4_readWall 30 = .ok (.bipush 100, 2) := by decide +kernel
theorem dX4_readWall_32 : decode cX4_readWall 32 = .ok (.sipush 400, 3) := by decide +kernel
theorem dX4_readWall_35 : decode cX4_readWall 35 = .ok (.invokevirtual 88, 3) := by decide +kernel
theorem dX4_readWall_38 : decode cX4_readWall 38 = .ok (.istore_n 2, 1) := by decide +kernel
theorem dX4_readWall_39 : decode cX4_readWall 39 = .ok (.iload_n 2, 1) := by decide +kernel
theorem dX4_readWall_40 : decode cX4_readWall 40 = .ok (.iconst (-1), 1) := by decide +kernel
theorem dX4_readWall_41 : decode cX4_readWall 41 = .ok (.if_icmp .ne 7, 3) := by decide +kernel
theorem dX4_readWall_44 : decode cX4_readWall 44 = .ok (.iconst (-1), 1) := by decide +kernel
theorem dX4_readWall_45 : decode cX4_readWall 45 = .ok (.goto 12, 3) := by decide +kernel
theorem dX4_readWall_48 : decode cX4_readWall 48 = .ok (.aload_n 0, 1) := by decide +kernel
theorem dX4_readWall_49 : decode cX4_readWall 49 = .ok (.bipush 100, 2) := by decide +kernel
theorem dX4_readWall_51 : decode cX4_readWall 51 = .ok (.sipush 400, 3) := by decide +kernel
theorem dX4_readWall_54 : decode cX4_readWall 54 = .ok (.invokevirtual 88, 3) := by decide +kernel
theorem dX4_readWall_57 : decode cX4_readWall 57 = .ok (.istore_n 3, 1) := by decide +kernel
theorem dX4_readWall_58 : decode cX4_readWall 58 = .ok (.iload_n 3, 1) := by decide +kernel
theorem dX4_readWall_59 : decode cX4_readWall 59 = .ok (.iconst (-1), 1) := by decide +kernel
theorem dX4_readWall_60 : decode cX4_readWall 60 = .ok (.if_icmp .eq 12, 3) := by decide +kernel
theorem dX4_readWall_63 : decode cX4_readWall 63 = .ok (.aload_n 0, 1) := by decide +kernel
theorem dX4_readWall_64 : decode cX4_readWall 64 = .ok (.bipush 8, 2) := by decide +kernel
theorem dX4_readWall_66 : decode cX4_readWall 66 = .ok (.invokevirtual 92, 3) := by decide +kernel
theorem dX4_readWall_69 : decode cX4_readWall 69 = .ok (.ifCond .ne 5, 3) := by decide +kernel
theorem dX4_readWall_72 : decode cX4_readWall 72 = .ok (.iconst 0, 1) := by decide +kernel
theorem dX4_readWall_73 : decode cX4_readWall 73 = .ok (.ireturn, 1) := by decide +kernel
theorem dX4_readWall_74 : decode cX4_readWall 74 = .ok (.aload_n 0, 1) := by decide +kernel
theorem dX4_readWall_75 : decode cX4_readWall 75 = .ok (.getfield 24, 3) := by decide +kernel
theorem dX4_readWall_78 : decode cX4_readWall 78 = .ok (.getfield 45, 3) := by decide +kernel
theorem dX4_readWall_81 : decode cX4_readWall 81 = .ok (.iload_n 1, 1) := by decide +kernel
theorem dX4_readWall_82 : decode cX4_readWall 82 = .ok (.iload_n 2, 1) := by decide +kernel
theorem dX4_readWall_83 : decode cX4_readWall 83 = .ok (.iload_n 3, 1) := by decide +kernel
theorem dX4_readWall_84 : decode cX4_readWall 84 = .ok (.invokevirtual 95, 3) := by decide +kernel
theorem dX4_readWall_87 : decode cX4_readWall 87 = .ok (.iconst 1, 1) := by decide +kernel
theorem dX4_readWall_88 : decode cX4_readWall 88 = .ok (.ireturn, 1) := by decide +kernel
theorem dX4_readDoor_0 : decode cX4_readDoor 0 = .ok (.aload_n 0, 1) := by decide +kernel
theorem dX4_readDoor_1 : decode cX4_readDoor 1 = .ok (.dup, 1) := by decide +kernel
theorem dX4_readDoor_2 : decode cX4_readDoor 2 = .ok (.getfield 20, 3) := by decide +kernel
theorem dX4_readDoor_5 : decode cX4_readDoor 5 = .ok (.iconst 1, 1) := by decide +kernel
theorem dX4_readDoor_6 : decode cX4_readDoor 6 = .ok (.iadd, 1) := by decide +kernel
theorem dX4_readDoor_7 : decode cX4_readDoor 7 = .ok (.putfield 20, 3) := by decide +kernel
theorem dX4_readDoor_10 : decode cX4_readDoor 10 = .ok (.aload_n 0, 1) := by decide +kernel
theorem dX4_readDoor_11 : decode cX4_readDoor 11 = .ok (.iconst 0, 1) := by decide +kernel
theorem dX4_readDoor_12 : decode cX4_readDoor 12 = .ok (.aload_n 0, 1) := by decide +kernel
theorem dX4_readDoor_13 : decode cX4_readDoor 13 = .ok (.getfield 24, 3) := by decide +kernel
theorem dX4_readDoor_16 : decode cX4_readDoor 16 = .ok (.getfield 45, 3) := by decide +kernel
theorem dX4_readDoor_19 : decode cX4_readDoor 19 = .ok (.getfield 49, 3) := by decide +kernel
theorem dX4_readDoor_22 : decode cX4_readDoor 22 = .ok (.iconst 1, 1) := by decide +kernel
theorem dX4_readDoor_23 : decode cX4_readDoor 23 = .ok (.isub, 1) := by decide +kernel
theorem dX4_readDoor_24 : decode cX4_readDoor 24 = .ok (.invokevirtual 88, 3) := by decide +kernel
theorem dX4_readDoor_27 : decode cX4_readDoor 27 = .ok (.istore_n 1, 1) := by decide +kernel
theorem dX4_readDoor_28 : decode cX4_readDoor 28 = .ok (.iload_n 1, 1) := by decide +kernel
theorem dX4_readDoor_29 : decode cX4_readDoor 29 = .ok (.iconst (-1), 1) := by decide +kernel
theorem dX4_readDoor_30 : decode cX4_readDoor 30 = .ok (.if_icmp .ne 7, 3) := by decide +kernel
theorem dX4_readDoor_33 : decode cX4_readDoor 33 = .ok (.iconst (-1), 1) := by decide +kernel
theorem dX4_readDoor_34 : decode cX4_readDoor 34 = .ok (.goto 19, 3) := by decide +kernel
theorem dX4_readDoor_37 : decode cX4_readDoor 37 = .ok (.aload_n 0, 1) := by decide +kernel
theorem dX4_readDoor_38 : decode cX4_readDoor 38 = .ok (.iconst 0, 1) := by decide +kernel
theorem dX4_readDoor_39 : decode cX4_readDoor 39 = .ok (.aload_n 0, 1) := by decide +kernel
theorem dX4_readDoor_40 : decode cX4_readDoor 40 = .ok (.getfield 24, 3) := by decide +kernel
theorem dX4_readDoor_43 : decode cX4_readDoor 43 = .ok (.getfield 45, 3) := by decide +kernel
theorem dX4_readDoor_46 : decode cX4_readDoor 46 = .ok (.iload_n 1, 1) := by decide +kernel
theorem dX4_readDoor_47 : decode cX4_readDoor 47 = .ok (.invokevirtual 99, 3) := by decide +kernel
theorem dX4_readDoor_50 : decode cX4_readDoor 50 = .ok (.invokevirtual 88, 3) := by decide +kernel
theorem dX4_readDoor_53 : decode cX4_readDoor 53 = .ok (.istore_n 2, 1) := by decide +kernel
theorem dX4_readDoor_54 : decode cX4_readDoor 54 = .ok (.iload_n 2, 1) := by decide +kernel
theorem dX4_readDoor_55 : decode cX4_readDoor 55 = .ok (.iconst (-1), 1) := by decide +kernel
theorem dX4_readDoor_56 : decode cX4_readDoor 56 = .ok (.if_icmp .ne 7, 3) := by decide +kernel
theorem dX4_readDoor_59 : decode cX4_readDoor 59 = .ok (.iconst (-1), 1) := by decide +kernel
theorem dX4_readDoor_60 : decode cX4_readDoor 60 = .ok (.goto 21, 3) := by decide +kernel
theorem dX4_readDoor_63 : decode cX4_readDoor 63 = .ok (.aload_n 0, 1) := by decide +kernel
theorem dX4_readDoor_64 : decode cX4_readDoor 64 = .ok (.iload_n 2, 1) := by decide +kernel
theorem dX4_readDoor_65 : decode cX4_readDoor 65 = .ok (.iconst 1, 1) := by decide +kernel
theorem dX4_readDoor_66 : decode cX4_readDoor 66 = .ok (.iadd, 1) := by decide +kernel
theorem dX4_readDoor_67 : decode cX4_readDoor 67 = .ok (.aload_n 0, 1) := by decide +kernel
theorem dX4_readDoor_68 : decode cX4_readDoor 68 = .ok (.getfield 24, 3) := by decide +kernel
theorem dX4_readDoor_71 : decode cX4_readDoor 71 = .ok (.getfield 45, 3) := by decide +kernel
theorem dX4_readDoor_74 : decode cX4_readDoor 74 = .ok (.iload_n 1, 1) := by decide +kernel
theorem dX4_readDoor_75 : decode cX4_readDoor 75 = .ok (.invokevirtual 99, 3) := by decide +kernel
theorem dX4_readDoor_78 : decode cX4_readDoor 78 = .ok (.invokevirtual 88, 3) := by decide +kernel
theorem dX4_readDoor_81 : decode cX4_readDoor 81 = .ok (.istore_n 3, 1) := by decide +kernel
theorem dX4_readDoor_82 : decode cX4_readDoor 82 = .ok (.iload_n 3, 1) := by decide +kernel
theorem dX4_readDoor_83 : decode cX4_readDoor 83 = .ok (.iconst (-1), 1) := by decide +kernel
theorem dX4_readDoor_84 : decode cX4_readDoor 84 = .ok (.if_icmp .ne 7, 3) := by decide +kernel
theorem dX4_readDoor_87 : decode cX4_readDoor 87 = .ok (.iconst (-1), 1) := by decide +kernel
theorem dX4_readDoor_88 : decode cX4_readDoor 88 = .ok (.goto 22, 3) := by decide +kernel
theorem dX4_readDoor_91 : decode cX4_readDoor 91 = .ok (.aload_n 0, 1) := by decide +kernel
theorem dX4_readDoor_92 : decode cX4_readDoor 92 = .ok (.bipush 50, 2) := by decide +kernel
theorem dX4_readDoor_94 : decode cX4_readDoor 94 = .ok (.aload_n 0, 1) := by decide +kernel
theorem dX4_readDoor_95 : decode cX4_readDoor 95 = .ok (.getfield 24, 3) := by decide +kernel
theorem dX4_readDoor_98 : decode cX4_readDoor 98 = .ok (.getfield 45, 3) := by decide +kernel
theorem dX4_readDoor_101 : decode cX4_readDoor 101 = .ok (.iload_n 1, 1) := by decide +kernel
theorem dX4_readDoor_102 : decode cX4_readDoor 102 = .ok (.invokevirtual 103, 3) := by decide +kernel
theorem dX4_readDoor_105 : decode cX4_readDoor 105 = .ok (.iconst 1, 1) := by decide +kernel
theorem dX4_readDoor_106 : decode cX4_readDoor 106 = .ok (.isub, 1) := by decide +kernel
theorem dX4_readDoor_107 : decode cX4_readDoor 107 = .ok (.invokevirtual 88, 3) := by decide +kernel
theorem dX4_readDoor_110 : decode cX4_readDoor 110 = .ok (.istore 4, 2) := by decide +kernel
theorem dX4_readDoor_112 : decode cX4_readDoor 112 = .ok (.iload 4, 2) := by decide +kernel
theorem dX4_readDoor_114 : decode cX4_readDoor 114 = .ok (.iconst (-1), 1) := by decide +kernel
theorem dX4_readDoor_115 : decode cX4_readDoor 115 = .ok (.if_icmp .eq 12, 3) := by decide +kernel
theorem dX4_readDoor_118 : decode cX4_readDoor 118 = .ok (.aload_n 0, 1) := by decide +kernel
theorem dX4_readDoor_119 : decode cX4_readDoor 119 = .ok (.bipush 8, 2) := by decide +kernel
theorem dX4_readDoor_121 : decode cX4_readDoor 121 = .ok (.invokevirtual 92, 3) := by decide +kernel
theorem dX4_readDoor_124 : decode cX4_readDoor 124 = .ok (.ifCond .ne 5, 3) := by decide +kernel
theorem dX4_readDoor_127 : decode cX4_readDoor 127 = .ok (.iconst 0, 1) := by decide +kernel
theorem dX4_readDoor_128 : decode cX4_readDoor 128 = .ok (.ireturn, 1) := by decide +kernel
theorem dX4_readDoor_129 : decode cX4_readDoor 129 = .ok (.aload_n 0, 1) := by decide +kernel
theorem dX4_readDoor_130 : decode cX4_readDoor 130 = .ok (.getfield 24, 3) := by decide +kernel
theorem dX4_readDoor_133 : decode cX4_readDoor 133 = .ok (.iconst 1, 1) := by decide +kernel
theorem dX4_readDoor_134 : decode cX4_readDoor 134 = .ok (.iload_n 1, 1) := by decide +kernel
theorem dX4_readDoor_135 : decode cX4_readDoor 135 = .ok (.iload_n 2, 1) := by decide +kernel
theorem dX4_readDoor_136 : decode cX4_readDoor 136 = .ok (.iload_n 3, 1) := by decide +kernel
theorem dX4_readDoor_137 : decode cX4_readDoor 137 = .ok (.iconst 0, 1) := by decide +kernel
theorem dX4_readDoor_138 : decode cX4_readDoor 138 = .ok (.iload 4, 2) := by decide +kernel
theorem dX4_readDoor_140 : decode cX4_readDoor 140 = .ok (.invokevirtual 106, 3) := by decide +kernel
theorem dX4_readDoor_143 : decode cX4_readDoor 143 = .ok (.iconst 1, 1) := by decide +kernel
theorem dX4_readDoor_144 : decode cX4_readDoor 144 = .ok (.ireturn, 1) := by decide +kernel
theorem dX4_readWindow_0 : decode cX4_readWindow 0 = .ok (.aload_n 0, 1) := by decide +kernel
theorem dX4_readWindow_1 : decode cX4_readWindow 1 = .ok (.dup, 1) := by decide +kernel
theorem dX4_readWindow_2 : decode cX4_readWindow 2 = .ok (.getfield 20, 3) := by decide +kernel
theorem dX4_readWindow_5 : decode cX4_readWindow 5 = .ok (.iconst 1, 1) := by decide +kernel
theorem dX4_readWindow_6 : decode cX4_readWindow 6 = .ok (.iadd, 1) := by decide +kernel
theorem dX4_readWindow_7 : decode cX4_readWindow 7 = .ok (.putfield 20, 3) := by decide +kernel
theorem dX4_readWindow_10 : decode cX4_readWindow 10 = .ok (.aload_n 0, 1) := by decide +kernel
theorem dX4_readWindow_11 : decode cX4_readWindow 11 = .ok (.iconst 0, 1) := by decide +kernel
theorem dX4_readWindow_12 : decode cX4_readWindow 12 = .ok (.aload_n 0, 1) := by decide +kernel
theorem dX4_readWindow_13 : decode cX4_readWindow 13 = .ok (.getfield 24, 3) := by decide +kernel
theorem dX4_readWindow_16 : decode cX4_readWindow 16 = .ok (.getfield 45, 3) := by decide +kernel
theorem dX4_readWindow_19 : decode cX4_readWindow 19 = .ok (.getfield 49, 3) := by decide +kernel
theorem dX4_readWindow_22 : decode cX4_readWindow 22 = .ok (.iconst 1, 1) := by decide +kernel
theorem dX4_readWindow_23 : decode cX4_readWindow 23 = .ok (.isub, 1) := by decide +kernel
theorem dX4_readWindow_24 : decode cX4_readWindow 24 = .ok (.invokevirtual 88, 3) := by decide +kernel
theorem dX4_readWindow_27 : decode cX4_readWindow 27 = .ok (.istore_n 1, 1) := by decide +kernel
theorem dX4_readWindow_28 : decode cX4_readWindow 28 = .ok (.iload_n 1, 1) := by decide +kernel
theorem dX4_readWindow_29 : decode cX4_readWindow 29 = .ok (.iconst (-1), 1) := by decide +kernel
theorem dX4_readWindow_30 : decode cX4_readWindow 30 = .ok (.if_icmp .ne 7, 3) := by decide +kernel
theorem dX4_readWindow_33 : decode cX4_readWindow 33 = .ok (.iconst (-1), 1) := by decide +kernel
theorem dX4_readWindow_34 : decode cX4_readWindow 34 = .ok (.goto 19, 3) := by decide +kernel
theorem dX4_readWindow_37 : decode cX4_readWindow 37 = .ok (.aload_n 0, 1) := by decide +kernel
theorem dX4_readWindow_38 : decode cX4_readWindow 38 = .ok (.iconst 0, 1) := by decide +kernel
theorem dX4_readWindow_39 : decode cX4_readWindow 39 = .ok (.aload_n 0, 1) := by decide +kernel
theorem dX4_readWindow_40 : decode cX4_readWindow 40 = .ok (.getfield 24, 3) := by decide +kernel
theorem dX4_readWindow_43 : decode cX4_readWindow 43 = .ok (.getfield 45, 3) := by decide +kernel
theorem dX4_readWindow_46 : decode cX4_readWindow 46 = .ok (.iload_n 1, 1) := by decide +kernel
theorem dX4_readWindow_47 : decode cX4_readWindow 47 = .ok (.invokevirtual 99, 3) := by decide +kernel
theorem dX4_readWindow_50 : decode cX4_readWindow 50 = .ok (.invokevirtual 88, 3) := by decide +kernel
theorem dX4_readWindow_53 : decode cX4_readWindow 53 = .ok (.istore_n 2, 1) := by decide +kernel
theorem dX4_readWindow_54 : decode cX4_readWindow 54 = .ok (.iload_n 2, 1) := by decide +kernel
theorem dX4_readWindow_55 : decode cX4_readWindow 55 = .ok (.iconst (-1), 1) := by decide +kernel
theorem dX4_readWindow_56 : decode cX4_readWindow 56 = .ok (.if_icmp .ne 7, 3) := by decide +kernel
theorem dX4_readWindow_59 : decode cX4_readWindow 59 = .ok (.iconst (-1), 1) := by decide +kernel
theorem dX4_readWindow_60 : decode cX4_readWindow 60 = .ok (.goto 21, 3) := by decide +kernel
theorem dX4_readWindow_63 : decode cX4_readWindow 63 = .ok (.aload_n 0, 1) := by decide +kernel
theorem dX4_readWindow_64 : decode cX4_readWindow 64 = .ok (.iload_n 2, 1) := by decide +kernel
theorem dX4_readWindow_65 : decode cX4_readWindow 65 = .ok (.iconst 1, 1) := by decide +kernel
theorem dX4_readWindow_66 : decode cX4_readWindow 66 = .ok (.iadd, 1) := by decide +kernel
theorem dX4_readWindow_67 : decode cX4_readWindow 67 = .ok (.aload_n 0, 1) := by decide +kernel
theorem dX4_readWindow_68 : decode cX4_readWindow 68 = .ok (.getfield 24, 3) := by decide +kernel
theorem dX4_readWindow_71 : decode cX4_readWindow 71 = .ok (.getfield 45, 3) := by decide +kernel
theorem dX4_readWindow_74 : decode cX4_readWindow 74 = .ok (.iload_n 1, 1) := by decide +kernel
theorem dX4_readWindow_75 : decode cX4_readWindow 75 = .ok (.invokevirtual 99, 3) := by decide +kernel
theorem dX4_readWindow_78 : decode cX4_readWindow 78 = .ok (.invokevirtual 88, 3) := by decide +kernel
theorem dX4_readWindow_81 : decode cX4_readWindow 81 = .ok (.istore_n 3, 1) := by decide +kernel
theorem dX4_readWindow_82 : decode cX4_readWindow 82 = .ok (.iload_n 3, 1) := by decide +kernel
theorem dX4_readWindow_83 : decode cX4_readWindow 83 = .ok (.iconst (-1), 1) := by decide +kernel
theorem dX4_readWindow_84 : decode cX4_readWindow 84 = .ok (.if_icmp .ne 7, 3) := by decide +kernel
theorem dX4_readWindow_87 : decode cX4_readWindow 87 = .ok (.iconst (-1), 1) := by decide +kernel
theorem dX4_readWindow_88 : decode cX4_readWindow 88 = .ok (.goto 11, 3) := by decide +kernel
theorem dX4_readWindow_91 : decode cX4_readWindow 91 = .ok (.aload_n 0, 1) := by decide +kernel
theorem dX4_readWindow_92 : decode cX4_readWindow 92 = .ok (.iconst 1, 1) := by decide +kernel
theorem dX4_readWindow_93 : decode cX4_readWindow 93 = .ok (.sipush 300, 3) := by decide +kernel
theorem dX4_readWindow_96 : decode cX4_readWindow 96 = .ok (.invokevirtual 88, 3) := by decide +kernel
theorem dX4_readWindow_99 : decode cX4_readWindow 99 = .ok (.istore 4, 2) := by decide +kernel
theorem dX4_readWindow_101 : decode cX4_readWindow 101 = .ok (.iload 4, 2) := by decide +kernel
theorem dX4_readWindow_103 : decode cX4_readWindow 103 = .ok (.iconst (-1), 1) := by decide +kernel
theorem dX4_readWindow_104 : decode cX4_readWindow 104 = .ok (.if_icmp .ne 7, 3) := by decide +kernel
theorem dX4_readWindow_107 : decode cX4_readWindow 107 = .ok (.iconst (-1), 1) := by decide +kernel
theorem dX4_readWindow_108 : decode cX4_readWindow 108 = .ok (.goto 24, 3) := by decide +kernel
theorem dX4_readWindow_111 : decode cX4_readWindow 111 = .ok (.aload_n 0, 1) := by decide +kernel
theorem dX4_readWindow_112 : decode cX4_readWindow 112 = .ok (.iload 4, 2) := by decide +kernel
theorem dX4_readWindow_114 : decode cX4_readWindow 114 = .ok (.iconst 1, 1) := by decide +kernel
