theorem dX0_begin_0 : decode cX0_begin 0 = .ok (.aload_n 0, 1) := by decide +kernel
theorem dX0_begin_1 : decode cX0_begin 1 = .ok (.iload_n 2, 1) := by decide +kernel
theorem dX0_begin_2 : decode cX0_begin 2 = .ok (.bipush 100, 2) := by decide +kernel
theorem dX0_begin_4 : decode cX0_begin 4 = .ok (.idiv, 1) := by decide +kernel
theorem dX0_begin_5 : decode cX0_begin 5 = .ok (.putfield 13, 3) := by decide +kernel
theorem dX0_begin_8 : decode cX0_begin 8 = .ok (.aload_n 0, 1) := by decide +kernel
theorem dX0_begin_9 : decode cX0_begin 9 = .ok (.iload_n 2, 1) := by decide +kernel
theorem dX0_begin_10 : decode cX0_begin 10 = .ok (.bipush 100, 2) := by decide +kernel
theorem dX0_begin_12 : decode cX0_begin 12 = .ok (.irem, 1) := by decide +kernel
theorem dX0_begin_13 : decode cX0_begin 13 = .ok (.putfield 17, 3) := by decide +kernel
theorem dX0_begin_16 : decode cX0_begin 16 = .ok (.iconst 1, 1) := by decide +kernel
theorem dX0_begin_17 : decode cX0_begin 17 = .ok (.aload_n 0, 1) := by decide +kernel
theorem dX0_begin_18 : decode cX0_begin 18 = .ok (.getfield 13, 3) := by decide +kernel
theorem dX0_begin_21 : decode cX0_begin 21 = .ok (.bipush 30, 2) := by decide +kernel
theorem dX0_begin_23 : decode cX0_begin 23 = .ok (.invokestatic 20, 3) := by decide +kernel
theorem dX0_begin_26 : decode cX0_begin 26 = .ok (.ifCond .eq 16, 3) := by decide +kernel
theorem dX0_begin_29 : decode cX0_begin 29 = .ok (.iconst 0, 1) := by decide +kernel
theorem dX0_begin_30 : decode cX0_begin 30 = .ok (.aload_n 0, 1) := by decide +kernel
theorem dX0_begin_31 : decode cX0_begin 31 = .ok (.getfield 17, 3) := by decide +kernel
theorem dX0_begin_34 : decode cX0_begin 34 = .ok (.bipush 60, 2) := by decide +kernel
theorem dX0_begin_36 : decode cX0_begin 36 = .ok (.invokestatic 20, 3) := by decide +kernel
theorem dX0_begin_39 : decode cX0_begin 39 = .ok (.ifCond .ne 5, 3) := by decide +kernel
theorem dX0_begin_42 : decode cX0_begin 42 = .ok (.iconst 0, 1) := by decide +kernel
theorem dX0_begin_43 : decode cX0_begin 43 = .ok (.ireturn, 1) := by decide +kernel
theorem dX0_begin_44 : decode cX0_begin 44 = .ok (.iconst 1, 1) := by decide +kernel
theorem dX0_begin_45 : decode cX0_begin 45 = .ok (.iload_n 1, 1) := by decide +kernel
theorem dX0_begin_46 : decode cX0_begin 46 = .ok (.iconst 2, 1) := by decide +kernel
theorem dX0_begin_47 : decode cX0_begin 47 = .ok (.invokestatic 20, 3) := by decide +kernel
theorem dX0_begin_50 : decode cX0_begin 50 = .ok (.ifCond .eq 12, 3) := by decide +kernel
theorem dX0_begin_53 : decode cX0_begin 53 = .ok (.iconst 0, 1) := by decide +kernel
theorem dX0_begin_54 : decode cX0_begin 54 = .ok (.iload_n 3, 1) := by decide +kernel
theorem dX0_begin_55 : decode cX0_begin 55 = .ok (.iconst 1, 1) := by decide +kernel
theorem dX0_begin_56 : decode cX0_begin 56 = .ok (.invokestatic 20, 3) := by decide +kernel
theorem dX0_begin_59 : decode cX0_begin 59 = .ok (.ifCond .ne 5, 3) := by decide +kernel
theorem dX0_begin_62 : decode cX0_begin 62 = .ok (.iconst 0, 1) := by decide +kernel
theorem dX0_begin_63 : decode cX0_begin 63 = .ok (.ireturn, 1) := by decide +kernel
theorem dX0_begin_64 : decode cX0_begin 64 = .ok (.aload_n 0, 1) := by decide +kernel
theorem dX0_begin_65 : decode cX0_begin 65 = .ok (.iload_n 1, 1) := by decide +kernel
theorem dX0_begin_66 : decode cX0_begin 66 = .ok (.putfield 26, 3) := by decide +kernel
theorem dX0_begin_69 : decode cX0_begin 69 = .ok (.aload_n 0, 1) := by decide +kernel
theorem dX0_begin_70 : decode cX0_begin 70 = .ok (.iload_n 3, 1) := by decide +kernel
theorem dX0_begin_71 : decode cX0_begin 71 = .ok (.iconst 1, 1) := by decide +kernel
theorem dX0_begin_72 : decode cX0_begin 72 = .ok (.if_icmp .ne 7, 3) := by decide +kernel
theorem dX0_begin_75 : decode cX0_begin 75 = .ok (.iconst 1, 1) := by decide +kernel
theorem dX0_begin_76 : decode cX0_begin 76 = .ok (.goto 4, 3) := by decide +kernel
theorem dX0_begin_79 : decode cX0_begin 79 = .ok (.iconst 0, 1) := by decide +kernel
theorem dX0_begin_80 : decode cX0_begin 80 = .ok (.putfield 29, 3) := by decide +kernel
theorem dX0_begin_83 : decode cX0_begin 83 = .ok (.aload_n 0, 1) := by decide +kernel
theorem dX0_begin_84 : decode cX0_begin 84 = .ok (.iconst 0, 1) := by decide +kernel
theorem dX0_begin_85 : decode cX0_begin 85 = .ok (.putfield 33, 3) := by decide +kernel
theorem dX0_begin_88 : decode cX0_begin 88 = .ok (.aload_n 0, 1) := by decide +kernel
theorem dX0_begin_89 : decode cX0_begin 89 = .ok (.iconst 0, 1) := by decide +kernel
theorem dX0_begin_90 : decode cX0_begin 90 = .ok (.putfield 36, 3) := by decide +kernel
theorem dX0_begin_93 : decode cX0_begin 93 = .ok (.iconst 0, 1) := by decide +kernel
theorem dX0_begin_94 : decode cX0_begin 94 = .ok (.istore 4, 2) := by decide +kernel
theorem dX0_begin_96 : decode cX0_begin 96 = .ok (.iload 4, 2) := by decide +kernel
theorem dX0_begin_98 : decode cX0_begin 98 = .ok (.iconst 2, 1) := by decide +kernel
theorem dX0_begin_99 : decode cX0_begin 99 = .ok (.if_icmp .ge 17, 3) := by decide +kernel
theorem dX0_begin_102 : decode cX0_begin 102 = .ok (.aload_n 0, 1) := by decide +kernel
theorem dX0_begin_103 : decode cX0_begin 103 = .ok (.getfield 9, 3) := by decide +kernel
theorem dX0_begin_106 : decode cX0_begin 106 = .ok (.iload 4, 2) := by decide +kernel
theorem dX0_begin_108 : decode cX0_begin 108 = .ok (.iconst 0, 1) := by decide +kernel
theorem dX0_begin_109 : decode cX0_begin 109 = .ok (.iastore, 1) := by decide +kernel
theorem dX0_begin_110 : decode cX0_begin 110 = .ok (.iinc 4 1, 3) := by decide +kernel
theorem dX0_begin_113 : decode cX0_begin 113 = .ok (.goto (-17), 3) := by decide +kernel
theorem dX0_begin_116 : decode cX0_begin 116 = .ok (.iconst 1, 1) := by decide +kernel
theorem dX0_begin_117 : decode cX0_begin 117 = .ok (.ireturn, 1) := by decide +kernel
theorem dX0_take_0 : decode cX0_take 0 = .ok (.iload_n 1, 1) := by decide +kernel
theorem dX0_take_1 : decode cX0_take 1 = .ok (.ifCond .gt 4, 3) := by decide +kernel
theorem dX0_take_4 : decode cX0_take 4 = .ok (.return_, 1) := by decide +kernel
theorem dX0_take_5 : decode cX0_take 5 = .ok (.aload_n 0, 1) := by decide +kernel
theorem dX0_take_6 : decode cX0_take 6 = .ok (.invokevirtual 39, 3) := by decide +kernel
theorem dX0_take_9 : decode cX0_take 9 = .ok (.istore_n 2, 1) := by decide +kernel
theorem dX0_take_10 : decode cX0_take 10 = .ok (.iconst 2, 1) := by decide +kernel
theorem dX0_take_11 : decode cX0_take 11 = .ok (.iload_n 1, 1) := by decide +kernel
theorem dX0_take_12 : decode cX0_take 12 = .ok (.bipush 100, 2) := by decide +kernel
theorem dX0_take_14 : decode cX0_take 14 = .ok (.idiv, 1) := by decide +kernel
theorem dX0_take_15 : decode cX0_take 15 = .ok (.iadd, 1) := by decide +kernel
theorem dX0_take_16 : decode cX0_take 16 = .ok (.istore_n 3, 1) := by decide +kernel
theorem dX0_take_17 : decode cX0_take 17 = .ok (.aload_n 0, 1) := by decide +kernel
theorem dX0_take_18 : decode cX0_take 18 = .ok (.getfield 33, 3) := by decide +kernel
theorem dX0_take_21 : decode cX0_take 21 = .ok (.istore 4, 2) := by decide +kernel
theorem dX0_take_23 : decode cX0_take 23 = .ok (.aload_n 0, 1) := by decide +kernel
theorem dX0_take_24 : decode cX0_take 24 = .ok (.getfield 29, 3) := by decide +kernel
theorem dX0_take_27 : decode cX0_take 27 = .ok (.ifCond .eq 23, 3) := by decide +kernel
theorem dX0_take_30 : decode cX0_take 30 = .ok (.iload 4, 2) := by decide +kernel
theorem dX0_take_32 : decode cX0_take 32 = .ok (.aload_n 0, 1) := by decide +kernel
theorem dX0_take_33 : decode cX0_take 33 = .ok (.getfield 9, 3) := by decide +kernel
theorem dX0_take_36 : decode cX0_take 36 = .ok (.iload_n 2, 1) := by decide +kernel
theorem dX0_take_37 : decode cX0_take 37 = .ok (.iaload, 1) := by decide +kernel
theorem dX0_take_38 : decode cX0_take 38 = .ok (.aload_n 0, 1) := by decide +kernel
theorem dX0_take_39 : decode cX0_take 39 = .ok (.getfield 13, 3) := by decide +kernel
theorem dX0_take_42 : decode cX0_take 42 = .ok (.isub, 1) := by decide +kernel
theorem dX0_take_43 : decode cX0_take 43 = .ok (.iload_n 3, 1) := by decide +kernel
theorem dX0_take_44 : decode cX0_take 44 = .ok (.isub, 1) := by decide +kernel
theorem dX0_take_45 : decode cX0_take 45 = .ok (.invokestatic 43, 3) := by decide +kernel
theorem dX0_take_48 : decode cX0_take 48 = .ok (.istore 4, 2) := by decide +kernel
theorem dX0_take_50 : decode cX0_take 50 = .ok (.aload_n 0, 1) := by decide +kernel
theorem dX0_take_51 : decode cX0_take 51 = .ok (.iload 4, 2) := by decide +kernel
theorem dX0_take_53 : decode cX0_take 53 = .ok (.iload_n 3, 1) := by decide +kernel
theorem dX0_take_54 : decode cX0_take 54 = .ok (.iadd, 1) := by decide +kernel
theorem dX0_take_55 : decode cX0_take 55 = .ok (.putfield 33, 3) := by decide +kernel
theorem dX0_take_58 : decode cX0_take 58 = .ok (.aload_n 0, 1) := by decide +kernel
theorem dX0_take_59 : decode cX0_take 59 = .ok (.getfield 33, 3) := by decide +kernel
theorem dX0_take_62 : decode cX0_take 62 = .ok (.aload_n 0, 1) := by decide +kernel
theorem dX0_take_63 : decode cX0_take 63 = .ok (.getfield 13, 3) := by decide +kernel
theorem dX0_take_66 : decode cX0_take 66 = .ok (.iadd, 1) := by decide +kernel
theorem dX0_take_67 : decode cX0_take 67 = .ok (.istore 5, 2) := by decide +kernel
theorem dX0_take_69 : decode cX0_take 69 = .ok (.iload 5, 2) := by decide +kernel
theorem dX0_take_71 : decode cX0_take 71 = .ok (.aload_n 0, 1) := by decide +kernel
theorem dX0_take_72 : decode cX0_take 72 = .ok (.getfield 9, 3) := by decide +kernel
theorem dX0_take_75 : decode cX0_take 75 = .ok (.iload_n 2, 1) := by decide +kernel
theorem dX0_take_76 : decode cX0_take 76 = .ok (.iaload, 1) := by decide +kernel
theorem dX0_take_77 : decode cX0_take 77 = .ok (.invokestatic 43, 3) := by decide +kernel
theorem dX0_take_80 : decode cX0_take 80 = .ok (.istore 6, 2) := by decide +kernel
theorem dX0_take_82 : decode cX0_take 82 = .ok (.iload 6, 2) := by decide +kernel
theorem dX0_take_84 : decode cX0_take 84 = .ok (.iload 5, 2) := by decide +kernel
theorem dX0_take_86 : decode cX0_take 86 = .ok (.isub, 1) := by decide +kernel
theorem dX0_take_87 : decode cX0_take 87 = .ok (.aload_n 0, 1) := by decide +kernel
theorem dX0_take_88 : decode cX0_take 88 = .ok (.getfield 17, 3) := by decide +kernel
theorem dX0_take_91 : decode cX0_take 91 = .ok (.if_icmp .le 13, 3) := by decide +kernel
theorem dX0_take_94 : decode cX0_take 94 = .ok (.aload_n 0, 1) := by decide +kernel
theorem dX0_take_95 : decode cX0_take 95 = .ok (.dup, 1) := by decide +kernel
theorem dX0_take_96 : decode cX0_take 96 = .ok (.getfield 36, 3) := by decide +kernel
theorem dX0_take_99 : decode cX0_take 99 = .ok (.iconst 1, 1) := by decide +kernel
theorem dX0_take_100 : decode cX0_take 100 = .ok (.iadd, 1) := by decide +kernel
theorem dX0_take_101 : decode cX0_take 101 = .ok (.putfield 36, 3) := by decide +kernel
theorem dX0_take_104 : decode cX0_take 104 = .ok (.aload_n 0, 1) := by decide +kernel
theorem dX0_take_105 : decode cX0_take 105 = .ok (.getfield 9, 3) := by decide +kernel
theorem dX0_take_108 : decode cX0_take 108 = .ok (.iload_n 2, 1) := by decide +kernel
theorem dX0_take_109 : decode cX0_take 109 = .ok (.iload 6, 2) := by decide +kernel
theorem dX0_take_111 : decode cX0_take 111 = .ok (.iconst 5, 1) := by decide +kernel
theorem dX0_take_112 : decode cX0_take 112 = .ok (.iadd, 1) := by decide +kernel
theorem dX0_take_113 : decode cX0_take 113 = .ok (.iload_n 1, 1) := by decide +kernel
theorem dX0_take_114 : decode cX0_take 114 = .ok (.bipush 50, 2) := by decide +kernel
theorem dX0_take_116 : decode cX0_take 116 = .ok (.idiv, 1) := by decide +kernel
theorem dX0_take_117 : decode cX0_take 117 = .ok (.iadd, 1) := by decide +kernel
theorem dX0_take_118 : decode cX0_take 118 = .ok (.iastore, 1) := by decide +kernel
theorem dX0_take_119 : decode cX0_take 119 = .ok (.return_, 1) := by decide +kernel
theorem dX0_lastMinute_0 : decode cX0_lastMinute 0 = .ok (.aload_n 0, 1) := by decide +kernel
theorem dX0_lastMinute_1 : decode cX0_lastMinute 1 = .ok (.getfield 9, 3) := by decide +kernel
theorem dX0_lastMinute_4 : decode cX0_lastMinute 4 = .ok (.iconst 0, 1) := by decide +kernel
theorem dX0_lastMinute_5 : decode cX0_lastMinute 5 = .ok (.iaload, 1) := by decide +kernel
theorem dX0_lastMinute_6 : decode cX0_lastMinute 6 = .ok (.aload_n 0, 1) := by decide +kernel
theorem dX0_lastMinute_7 : decode cX0_lastMinute 7 = .ok (.getfield 9, 3) := by decide +kernel
theorem dX0_lastMinute_10 : decode cX0_lastMinute 10 = .ok (.iconst 1, 1) := by decide +kernel
theorem dX0_lastMinute_11 : decode cX0_lastMinute 11 = .ok (.iaload, 1) := by decide +kernel
theorem dX0_lastMinute_12 : decode cX0_lastMinute 12 = .ok (.invokestatic 43, 3) := by decide +kernel
theorem dX0_lastMinute_15 : decode cX0_lastMinute 15 = .ok (.ireturn, 1) := by decide +kernel
theorem dX0_freeFirst_0 : decode cX0_freeFirst 0 = .ok (.aload_n 0, 1) := by decide +kernel
theorem dX0_freeFirst_1 : decode cX0_freeFirst 1 = .ok (.getfield 26, 3) := by decide +kernel
theorem dX0_freeFirst_4 : decode cX0_freeFirst 4 = .ok (.iconst 2, 1) := by decide +kernel
theorem dX0_freeFirst_5 : decode cX0_freeFirst 5 = .ok (.if_icmp .ne 22, 3) := by decide +kernel
theorem dX0_freeFirst_8 : decode cX0_freeFirst 8 = .ok (.aload_n 0, 1) := by decide +kernel
theorem dX0_freeFirst_9 : decode cX0_freeFirst 9 = .ok (.getfield 9, 3) := by decide +kernel
theorem dX0_freeFirst_12 : decode cX0_freeFirst 12 = .ok (.iconst 1, 1) := by decide +kernel
theorem dX0_freeFirst_13 : decode cX0_freeFirst 13 = .ok (.iaload, 1) := by decide +kernel
theorem dX0_freeFirst_14 : decode cX0_freeFirst 14 = .ok (.aload_n 0, 1) := by decide +kernel
theorem dX0_freeFirst_15 : decode cX0_freeFirst 15 = .ok (.getfield 9, 3) := by decide +kernel
theorem dX0_freeFirst_18 : decode cX0_freeFirst 18 = .ok (.iconst 0, 1) := by decide +kernel
theorem dX0_freeFirst_19 : decode cX0_freeFirst 19 = .ok (.iaload, 1) := by decide +kernel
theorem dX0_freeFirst_20 : decode cX0_freeFirst 20 = .ok (.if_icmp .ge 7, 3) := by decide +kernel
theorem dX0_freeFirst_23 : decode cX0_freeFirst 23 = .ok (.iconst 1, 1) := by decide +kernel
theorem dX0_freeFirst_24 : decode cX0_freeFirst 24 = .ok (.goto 4, 3) := by decide +kernel
theorem dX0_freeFirst_27 : decode cX0_freeFirst 27 = .ok (.iconst 0, 1) := by decide +kernel
theorem dX0_freeFirst_28 : decode cX0_freeFirst 28 = .ok (.ireturn, 1) := by decide +kernel
theorem dX3_stripsFor_0 : decode cX3_stripsFor 0 = .ok (.iload_n 1, 1) := by decide +kernel
theorem dX3_stripsFor_1 : decode cX3_stripsFor 1 = .ok (.aload_n 0, 1) := by decide +kernel
theorem dX3_stripsFor_2 : decode cX3_stripsFor 2 = .ok (.getfield 9, 3) := by decide +kernel
theorem dX3_stripsFor_5 : decode cX3_stripsFor 5 = .ok (.invokestatic 34, 3) := by decide +kernel
theorem dX3_stripsFor_8 : decode cX3_stripsFor 8 = .ok (.ireturn, 1) := by decide +kernel
theorem dX3_offsetOf_0 : decode cX3_offsetOf 0 = .ok (.aload_n 0, 1) := by decide +kernel
theorem dX3_offsetOf_1 : decode cX3_offsetOf 1 = .ok (.getfield 18, 3) := by decide +kernel
theorem dX3_offsetOf_4 : decode cX3_offsetOf 4 = .ok (.iconst 1, 1) := by decide +kernel
theorem dX3_offsetOf_5 : decode cX3_offsetOf 5 = .ok (.if_icmp .ne 14, 3) := by decide +kernel
theorem dX3_offsetOf_8 : decode cX3_offsetOf 8 = .ok (.iload_n 1, 1) := by decide +kernel
theorem dX3_offsetOf_9 : decode cX3_offsetOf 9 = .ok (.iconst 1, 1) := by decide +kernel
theorem dX3_offsetOf_10 : decode cX3_offsetOf 10 = .ok (.iand, 1) := by decide +kernel
theorem dX3_offsetOf_11 : decode cX3_offsetOf 11 = .ok (.iconst 1, 1) := by decide +kernel
theorem dX3_offsetOf_12 : decode cX3_offsetOf 12 = .ok (.if_icmp .ne 7, 3) := by decide +kernel
theorem dX3_offsetOf_15 : decode cX3_offsetOf 15 = .ok (.iconst 1, 1) := by decide +kernel
theorem dX3_offsetOf_16 : decode cX3_offsetOf 16 = .ok (.goto 4, 3) := by decide +kernel
theorem dX3_offsetOf_19 : decode cX3_offsetOf 19 = .ok (.iconst 0, 1) := by decide +kernel
theorem dX3_offsetOf_20 : decode cX3_offsetOf 20 = .ok (.istore_n 3, 1) := by decide +kernel
theorem dX3_offsetOf_21 : decode cX3_offsetOf 21 = .ok (.iload_n 3, 1) := by decide +kernel
theorem dX3_offsetOf_22 : decode cX3_offsetOf 22 = .ok (.ifCond .eq 14, 3) := by decide +kernel
theorem dX3_offsetOf_25 : decode cX3_offsetOf 25 = .ok (.iload_n 2, 1) := by decide +kernel
theorem dX3_offsetOf_26 : decode cX3_offsetOf 26 = .ok (.aload_n 0, 1) := by decide +kernel
theorem dX3_offsetOf_27 : decode cX3_offsetOf 27 = .ok (.getfield 15, 3) := by decide +kernel
theorem dX3_offsetOf_30 : decode cX3_offsetOf 30 = .ok (.iconst 2, 1) := by decide +kernel
theorem dX3_offsetOf_31 : decode cX3_offsetOf 31 = .ok (.idiv, 1) := by decide +kernel
theorem dX3_offsetOf_32 : decode cX3_offsetOf 32 = .ok (.iadd, 1) := by decide +kernel
theorem dX3_offsetOf_33 : decode cX3_offsetOf 33 = .ok (.goto 4, 3) := by decide +kernel
theorem dX3_offsetOf_36 : decode cX3_offsetOf 36 = .ok (.iload_n 2, 1) := by decide +kernel
theorem dX3_offsetOf_37 : decode cX3_offsetOf 37 = .ok (.aload_n 0, 1) := by decide +kernel
theorem dX3_offsetOf_38 : decode cX3_offsetOf 38 = .ok (.getfield 15, 3) := by decide +kernel
theorem dX3_offsetOf_41 : decode cX3_offsetOf 41 = .ok (.invokestatic 38, 3) := by decide +kernel
theorem dX3_offsetOf_44 : decode cX3_offsetOf 44 = .ok (.ireturn, 1) := by decide +kernel
theorem dX3_phaseAt_0 : decode cX3_phaseAt 0 = .ok (.aload_n 0, 1) := by decide +kernel
theorem dX3_phaseAt_1 : decode cX3_phaseAt 1 = .ok (.getfield 18, 3) := by decide +kernel
theorem dX3_phaseAt_4 : decode cX3_phaseAt 4 = .ok (.iconst 2, 1) := by decide +kernel
theorem dX3_phaseAt_5 : decode cX3_phaseAt 5 = .ok (.if_icmp .ne 7, 3) := by decide +kernel
theorem dX3_phaseAt_8 : decode cX3_phaseAt 8 = .ok (.iconst 0, 1) := by decide +kernel
theorem dX3_phaseAt_9 : decode cX3_phaseAt 9 = .ok (.goto 11, 3) := by decide +kernel
theorem dX3_phaseAt_12 : decode cX3_phaseAt 12 = .ok (.iload_n 1, 1) := by decide +kernel
theorem dX3_phaseAt_13 : decode cX3_phaseAt 13 = .ok (.aload_n 0, 1) := by decide +kernel
theorem dX3_phaseAt_14 : decode cX3_phaseAt 14 = .ok (.getfield 15, 3) := by decide +kernel
theorem dX3_phaseAt_17 : decode cX3_phaseAt 17 = .ok (.invokestatic 38, 3) := by decide +kernel
theorem dX3_phaseAt_20 : decode cX3_phaseAt 20 = .ok (.ireturn, 1) := by decide +kernel
theorem dX3_placeBehind_0 : decode cX3_placeBehind 0 = .ok (.aload_n 0, 1) := by decide +kernel
theorem dX3_placeBehind_1 : decode cX3_placeBehind 1 = .ok (.getfield 18, 3) := by decide +kernel
theorem dX3_placeBehind_4 : decode cX3_placeBehind 4 = .ok (.iconst 2, 1) := by decide +kernel
theorem dX3_placeBehind_5 : decode cX3_placeBehind 5 = .ok (.if_icmp .ne 7, 3) := by decide +kernel
theorem dX3_placeBehind_8 : decode cX3_placeBehind 8 = .ok (.iload_n 1, 1) := by decide +kernel
theorem dX3_placeBehind_9 : decode cX3_placeBehind 9 = .ok (.goto 15, 3) := by decide +kernel
theorem dX3_placeBehind_12 : decode cX3_placeBehind 12 = .ok (.iload_n 1, 1) := by decide +kernel
theorem dX3_placeBehind_13 : decode cX3_placeBehind 13 = .ok (.iload_n 2, 1) := by decide +kernel
theorem dX3_placeBehind_14 : decode cX3_placeBehind 14 = .ok (.iload_n 1, 1) := by decide +kernel
theorem dX3_placeBehind_15 : decode cX3_placeBehind 15 = .ok (.isub, 1) := by decide +kernel
theorem dX3_placeBehind_16 : decode cX3_placeBehind 16 = .ok (.aload_n 0, 1) := by decide +kernel
theorem dX3_placeBehind_17 : decode cX3_placeBehind 17 = .ok (.getfield 15, 3) := by decide +kernel
theorem dX3_placeBehind_20 : decode cX3_placeBehind 20 = .ok (.invokestatic 38, 3) := by decide +kernel
theorem dX3_placeBehind_23 : decode cX3_placeBehind 23 = .ok (.iadd, 1) := by decide +kernel
theorem dX3_placeBehind_24 : decode cX3_placeBehind 24 = .ok (.ireturn, 1) := by decide +kernel
theorem dX4_read_0 : decode cX4_read 0 = .ok (.aload_n 0, 1) := by decide +kernel
theorem dX4_read_1 : decode cX4_read 1 = .ok (.getfield 9, 3) := by decide +kernel
theorem dX4_read_4 : decode cX4_read 4 = .ok (.invokevirtual 15, 3) := by decide +kernel
theorem dX4_read_7 : decode cX4_read 7 = .ok (.aload_n 0, 1) := by decide +kernel
theorem dX4_read_8 : decode cX4_read 8 = .ok (.iconst 0, 1) := by decide +kernel
theorem dX4_read_9 : decode cX4_read 9 = .ok (.putfield 20, 3) := by decide +kernel
theorem dX4_read_12 : decode cX4_read 12 = .ok (.aload_n 0, 1) := by decide +kernel
theorem dX4_read_13 : decode cX4_read 13 = .ok (.aload_n 1, 1) := by decide +kernel
theorem dX4_read_14 : decode cX4_read 14 = .ok (.putfield 24, 3) := by decide +kernel
theorem dX4_read_17 : decode cX4_read 17 = .ok (.aload_n 0, 1) := by decide +kernel
theorem dX4_read_18 : decode cX4_read 18 = .ok (.getfield 24, 3) := by decide +kernel
theorem dX4_read_21 : decode cX4_read 21 = .ok (.invokevirtual 28, 3) := by decide +kernel
theorem dX4_read_24 : decode cX4_read 24 = .ok (.iconst 0, 1) := by decide +kernel
theorem dX4_read_25 : decode cX4_read 25 = .ok (.istore_n 2, 1) := by decide +kernel
theorem dX4_read_26 : decode cX4_read 26 = .ok (.iload_n 2, 1) := by decide +kernel
theorem dX4_read_27 : decode cX4_read 27 = .ok (.sipush 400, 3) := by decide +kernel
theorem dX4_read_30 : decode cX4_read 30 = .ok (.if_icmp .ge 30, 3) := by decide +kernel
theorem dX4_read_33 : decode cX4_read 33 = .ok (.aload_n 0, 1) := by decide +kernel
theorem dX4_read_34 : decode cX4_read 34 = .ok (.bipush 10, 2) := by decide +kernel
theorem dX4_read_36 : decode cX4_read 36 = .ok (.invokevirtual 33, 3) := by decide +kernel
theorem dX4_read_39 : decode cX4_read 39 = .ok (.ifCond .ne 21, 3) := by decide +kernel
theorem dX4_read_42 : decode cX4_read 42 = .ok (.aload_n 0, 1) := by decide +kernel
theorem dX4_read_43 : decode cX4_read 43 = .ok (.invokevirtual 37, 3) := by decide +kernel
theorem dX4_read_46 : decode cX4_read 46 = .ok (.ifCond .ne 8, 3) := by decide +kernel
theorem dX4_read_49 : decode cX4_read 49 = .ok (.aload_n 0, 1) := by decide +kernel
theorem dX4_read_50 : decode cX4_read 50 = .ok (.invokevirtual 41, 3) := by decide +kernel
theorem dX4_read_53 : decode cX4_read 53 = .ok (.ireturn, 1) := by decide +kernel
theorem dX4_read_54 : decode cX4_read 54 = .ok (.iinc 2 1, 3) := by decide +kernel
theorem dX4_read_57 : decode cX4_read 57 = .ok (.goto (-31), 3) := by decide +kernel
theorem dX4_read_60 : decode cX4_read 60 = .ok (.aload_n 0, 1) := by decide +kernel
theorem dX4_read_61 : decode cX4_read 61 = .ok (.getfield 24, 3) := by decide +kernel
theorem dX4_read_64 : decode cX4_read 64 = .ok (.getfield 45, 3) := by decide +kernel
theorem dX4_read_67 : decode cX4_read 67 = .ok (.getfield 49, 3) := by decide +kernel
theorem dX4_read_70 : decode cX4_read 70 = .ok (.ifCond .ne 13, 3) := by decide +kernel
theorem dX4_read_73 : decode cX4_read 73 = .ok (.aload_n 0, 1) := by decide +kernel
theorem dX4_read_74 : decode cX4_read 74 = .ok (.getfield 9, 3) := by decide +kernel
theorem dX4_read_77 : decode cX4_read 77 = .ok (.getfield 54, 3) := by decide +kernel
theorem dX4_read_80 : decode cX4_read 80 = .ok (.goto 4, 3) := by decide +kernel
theorem dX4_read_83 : decode cX4_read 83 = .ok (.iconst (-1), 1) := by decide +kernel
theorem dX4_read_84 : decode cX4_read 84 = .ok (.ireturn, 1) := by decide +kernel
theorem dX4_isNext_0 : decode cX4_isNext 0 = .ok (.aload_n 0, 1) := by decide +kernel
theorem dX4_isNext_1 : decode cX4_isNext 1 = .ok (.getfield 20, 3) := by decide +kernel
theorem dX4_isNext_4 : decode cX4_isNext 4 = .ok (.aload_n 0, 1) := by decide +kernel
theorem dX4_isNext_5 : decode cX4_isNext 5 = .ok (.getfield 9, 3) := by decide +kernel
theorem dX4_isNext_8 : decode cX4_isNext 8 = .ok (.getfield 57, 3) := by decide +kernel
theorem dX4_isNext_11 : decode cX4_isNext 11 = .ok (.if_icmp .ge 23, 3) := by decide +kernel
theorem dX4_isNext_14 : decode cX4_isNext 14 = .ok (.aload_n 0, 1) := by decide +kernel
theorem dX4_isNext_15 : decode cX4_isNext 15 = .ok (.getfield 9, 3) := by decide +kernel
theorem dX4_isNext_18 : decode cX4_isNext 18 = .ok (.getfield 60, 3) := by decide +kernel
theorem dX4_isNext_21 : decode cX4_isNext 21 = .ok (.aload_n 0, 1) := by decide +kernel
theorem dX4_isNext_22 : decode cX4_isNext 22 = .ok (.getfield 20, 3) := by decide +kernel
theorem dX4_isNext_25 : decode cX4_isNext 25 = .ok (.iaload, 1) := by decide +kernel
theorem dX4_isNext_26 : decode cX4_isNext 26 = .ok (.iload_n 1, 1) := by decide +kernel
theorem dX4_isNext_27 : decode cX4_isNext 27 = .ok (.if_icmp .ne 7, 3) := by decide +kernel
theorem dX4_isNext_30 : decode cX4_isNext 30 = .ok (.iconst 1, 1) := by decide +kernel
theorem dX4_isNext_31 : decode cX4_isNext 31 = .ok (.goto 4, 3) := by decide +kernel
theorem dX4_isNext_34 : decode cX4_isNext 34 = .ok (.iconst 0, 1) := by decide +kernel
theorem dX4_isNext_35 : decode cX4_isNext 35 = .ok (.ireturn, 1) := by decide +kernel
theorem dX4_placeOfNext_0 : decode cX4_placeOfNext 0 = .ok (.aload_n 0, 1) := by decide +kernel
theorem dX4_placeOfNext_1 : decode cX4_placeOfNext 1 = .ok (.getfield 20, 3) := by decide +kernel
theorem dX4_placeOfNext_4 : decode cX4_placeOfNext 4 = .ok (.aload_n 0, 1) := by decide +kernel
theorem dX4_placeOfNext_5 : decode cX4_placeOfNext 5 = .ok (.getfield 9, 3) := by decide +kernel
theorem dX4_placeOfNext_8 : decode cX4_placeOfNext 8 = .ok (.getfield 57, 3) := by decide +kernel
theorem dX4_placeOfNext_11 : decode cX4_placeOfNext 11 = .ok (.if_icmp .ge 18, 3) := by decide +kernel
theorem dX4_placeOfNext_14 : decode cX4_placeOfNext 14 = .ok (.aload_n 0, 1) := by decide +kernel
theorem dX4_placeOfNext_15 : decode cX4_placeOfNext 15 = .ok (.getfield 9, 3) := by decide +kernel
theorem dX4_placeOfNext_18 : decode cX4_placeOfNext 18 = .ok (.getfield 64, 3) := by decide +kernel
theorem dX4_placeOfNext_21 : decode cX4_placeOfNext 21 = .ok (.aload_n 0, 1) := by decide +kernel
theorem dX4_placeOfNext_22 : decode cX4_placeOfNext 22 = .ok (.getfield 20, 3) := by decide +kernel
theorem dX4_placeOfNext_25 : decode cX4_placeOfNext 25 = .ok (.iaload, 1) := by decide +kernel
theorem dX4_placeOfNext_26 : decode cX4_placeOfNext 26 = .ok (.goto 10, 3) := by decide +kernel
theorem dX4_placeOfNext_29 : decode cX4_placeOfNext 29 = .ok (.aload_n 0, 1) := by decide +kernel
theorem dX4_placeOfNext_30 : decode cX4_placeOfNext 30 = .ok (.getfield 9, 3) := by decide +kernel
theorem dX4_placeOfNext_33 : decode cX4_placeOfNext 33 = .ok (.getfield 54, 3) := by decide +kernel
theorem dX4_placeOfNext_36 : decode cX4_placeOfNext 36 = .ok (.ireturn, 1) := by decide +kernel
theorem dX4_readLine_0 : decode cX4_readLine 0 = .ok (.aload_n 0, 1) := by decide +kernel
theorem dX4_readLine_1 : decode cX4_readLine 1 = .ok (.iconst 0, 1) := by decide +kernel
theorem dX4_readLine_2 : decode cX4_readLine 2 = .ok (.invokevirtual 33, 3) := by decide +kernel
theorem dX4_readLine_5 : decode cX4_readLine 5 = .ok (.ifCond .eq 31, 3) := by decide +kernel
theorem dX4_readLine_8 : decode cX4_readLine 8 = .ok (.aload_n 0, 1) := by decide +kernel
theorem dX4_readLine_9 : decode cX4_readLine 9 = .ok (.getfield 24, 3) := by decide +kernel
theorem dX4_readLine_12 : decode cX4_readLine 12 = .ok (.getfield 45, 3) := by decide +kernel
theorem dX4_readLine_15 : decode cX4_readLine 15 = .ok (.getfield 49, 3) := by decide +kernel
theorem dX4_readLine_18 : decode cX4_readLine 18 = .ok (.bipush 8, 2) := by decide +kernel
theorem dX4_readLine_20 : decode cX4_readLine 20 = .ok (.if_icmp .ge 14, 3) := by decide +kernel
theorem dX4_readLine_23 : decode cX4_readLine 23 = .ok (.aload_n 0, 1) := by decide +kernel
theorem dX4_readLine_24 : decode cX4_readLine 24 = .ok (.invokevirtual 67, 3) := by decide +kernel
theorem dX4_readLine_27 : decode cX4_readLine 27 = .ok (.ifCond .eq 7, 3) := by decide +kernel
theorem dX4_readLine_30 : decode cX4_readLine 30 = .ok (.iconst 1, 1) := by decide +kernel
theorem dX4_readLine_31 : decode cX4_readLine 31 = .ok (.goto 4, 3) := by decide +kernel
theorem dX4_readLine_34 : decode cX4_readLine 34 = .ok (.iconst 0, 1) := by decide +kernel
theorem dX4_readLine_35 : decode cX4_readLine 35 = .ok (.ireturn, 1) := by decide +kernel
theorem dX4_readLine_36 : decode cX4_readLine 36 = .ok (.aload_n 0, 1) := by decide +kernel
theorem dX4_readLine_37 : decode cX4_readLine 37 = .ok (.iconst 1, 1) := by decide +kernel
theorem dX4_readLine_38 : decode cX4_readLine 38 = .ok (.invokevirtual 33, 3) := by decide +kernel
theorem dX4_readLine_41 : decode cX4_readLine 41 = .ok (.ifCond .eq 28, 3) := by decide +kernel
theorem dX4_readLine_44 : decode cX4_readLine 44 = .ok (.aload_n 0, 1) := by decide +kernel
theorem dX4_readLine_45 : decode cX4_readLine 45 = .ok (.getfield 24, 3) := by decide +kernel
theorem dX4_readLine_48 : decode cX4_readLine 48 = .ok (.getfield 70, 3) := by decide +kernel
theorem dX4_readLine_51 : decode cX4_readLine 51 = .ok (.bipush 8, 2) := by decide +kernel
theorem dX4_readLine_53 : decode cX4_readLine 53 = .ok (.if_icmp .ge 14, 3) := by decide +kernel
theorem dX4_readLine_56 : decode cX4_readLine 56 = .ok (.aload_n 0, 1) := by decide +kernel
theorem dX4_readLine_57 : decode cX4_readLine 57 = .ok (.invokevirtual 73, 3) := by decide +kernel
theorem dX4_readLine_60 : decode cX4_readLine 60 = .ok (.ifCond .eq 7, 3) := by decide +kernel
theorem dX4_readLine_63 : decode cX4_readLine 63 = .ok (.iconst 1, 1) := by decide +kernel
theorem dX4_readLine_64 : decode cX4_readLine 64 = .ok (.goto 4, 3) := by decide +kernel
theorem dX4_readLine_67 : decode cX4_readLine 67 = .ok (.iconst 0, 1) := by decide +kernel
theorem dX4_readLine_68 : decode cX4_readLine 68 = .ok (.ireturn, 1) := by decide +kernel
theorem dX4_readLine_69 : decode cX4_readLine 69 = .ok (.aload_n 0, 1) := by decide +kernel
theorem dX4_readLine_70 : decode cX4_readLine 70 = .ok (.iconst 2, 1) := by decide +kernel
theorem dX4_readLine_71 : decode cX4_readLine 71 = .ok (.invokevirtual 33, 3) := by decide +kernel
theorem dX4_readLine_74 : decode cX4_readLine 74 = .ok (.ifCond .eq 28, 3) := by decide +kernel
theorem dX4_readLine_77 : decode cX4_readLine 77 = .ok (.aload_n 0, 1) := by decide +kernel
theorem dX4_readLine_78 : decode cX4_readLine 78 = .ok (.getfield 24, 3) := by decide +kernel
theorem dX4_readLine_81 : decode cX4_readLine 81 = .ok (.getfield 70, 3) := by decide +kernel
theorem dX4_readLine_84 : decode cX4_readLine 84 = .ok (.bipush 8, 2) := by decide +kernel
theorem dX4_readLine_86 : decode cX4_readLine 86 = .ok (.if_icmp .ge 14, 3) := by decide +kernel
theorem dX4_readLine_89 : decode cX4_readLine 89 = .ok (.aload_n 0, 1) := by decide +kernel
theorem dX4_readLine_90 : decode cX4_readLine 90 = .ok (.invokevirtual 76, 3) := by decide +kernel
theorem dX4_readLine_93 : decode cX4_readLine 93 = .ok (.ifCond .eq 7, 3) := by decide +kernel
theorem dX4_readLine_96 : decode cX4_readLine 96 = .ok (.iconst 1, 1) := by decide +kernel
theorem dX4_readLine_97 : decode cX4_readLine 97 = .ok (.goto 4, 3) := by decide +kernel
theorem dX4_readLine_100 : decode cX4_readLine 100 = .ok (.iconst 0, 1) := by decide +kernel
theorem dX4_readLine_101 : decode cX4_readLine 101 = .ok (.ireturn, 1) := by decide +kernel
theorem dX4_readLine_102 : decode cX4_readLine 102 = .ok (.aload_n 0, 1) := by decide +kernel
theorem dX4_readLine_103 : decode cX4_readLine 103 = .ok (.iconst 3, 1) := by decide +kernel
theorem dX4_readLine_104 : decode cX4_readLine 104 = .ok (.invokevirtual 33, 3) := by decide +kernel
theorem dX4_readLine_107 : decode cX4_readLine 107 = .ok (.ifCond .eq 8, 3) := by decide +kernel
theorem dX4_readLine_110 : decode cX4_readLine 110 = .ok (.aload_n 0, 1) := by decide +kernel
theorem dX4_readLine_111 : decode cX4_readLine 111 = .ok (.invokevirtual 79, 3) := by decide +kernel
theorem dX4_readLine_114 : decode cX4_readLine 114 = .ok (.ireturn, 1) := by decide +kernel
theorem dX4_readLine_115 : decode cX4_readLine 115 = .ok (.aload_n 0, 1) := by decide +kernel
theorem dX4_readLine_116 : decode cX4_readLine 116 = .ok (.iconst 4, 1) := by decide +kernel
theorem dX4_readLine_117 : decode cX4_readLine 117 = .ok (.invokevirtual 33, 3) := by decide +kernel
theorem dX4_readLine_120 : decode cX4_readLine 120 = .ok (.ifCond .eq 25, 3) := by decide +kernel
theorem dX4_readLine_123 : decode cX4_readLine 123 = .ok (.aload_n 0, 1) := by decide +kernel
theorem dX4_readLine_124 : decode cX4_readLine 124 = .ok (.getfield 24, 3) := by decide +kernel
theorem dX4_readLine_127 : decode cX4_readLine 127 = .ok (.getfield 82, 3) := by decide +kernel
theorem dX4_readLine_130 : decode cX4_readLine 130 = .ok (.iconst 4, 1) := by decide +kernel
theorem dX4_readLine_131 : decode cX4_readLine 131 = .ok (.if_icmp .ge 14, 3) := by decide +kernel
theorem dX4_readLine_134 : decode cX4_readLine 134 = .ok (.aload_n 0, 1) := by decide +kernel
theorem dX4_readLine_135 : decode cX4_readLine 135 = .ok (.invokevirtual 85, 3) := by decide +kernel
theorem dX4_readLine_138 : decode cX4_readLine 138 = .ok (.ifCond .eq 7, 3) := by decide +kernel
theorem dX4_readLine_141 : decode cX4_readLine 141 = .ok (.iconst 1, 1) := by decide +kernel
theorem dX4_readLine_142 : decode cX4_readLine 142 = .ok (.goto 4, 3) := by decide +kernel
theorem dX4_readLine_145 : decode cX4_readLine 145 = .ok (.iconst 0, 1) := by decide +kernel
theorem dX4_readLine_146 : decode cX4_readLine 146 = .ok (.ireturn, 1) := by decide +kernel
theorem dX4_readWall_0 : decode cX4_readWall 0 = .ok (.aload_n 0, 1) := by decide +kernel
theorem dX4_readWall_1 : decode cX4_readWall 1 = .ok (.dup, 1) := by decide +kernel
theorem dX4_readWall_2 : decode cX4_readWall 2 = .ok (.getfield 20, 3) := by decide +kernel
theorem dX4_readWall_5 : decode cX4_readWall 5 = .ok (.iconst 1, 1) := by decide +kernel
theorem dX4_readWall_6 : decode cX4_readWall 6 = .ok (.iadd, 1) := by decide +kernel
theorem dX4_readWall_7 : decode cX4_readWall 7 = .ok (.putfield 20, 3) := by decide +kernel
theorem dX4_readWall_10 : decode cX4_readWall 10 = .ok (.aload_n 0, 1) := by decide +kernel
theorem dX4_readWall_11 : decode cX4_readWall 11 = .ok (.bipush 50, 2) := by decide +kernel
theorem dX4_readWall_13 : decode cX4_readWall 13 = .ok (.sipush 600, 3) := by decide +kernel
theorem dX4_readWall_16 : decode cX4_readWall 16 = .ok (.invokevirtual 88, 3) := by decide +kernel
theorem dX4_readWall_19 : decode cX4_readWall 19 = .ok (.istore_n 1, 1) := by decide +kernel
theorem dX4_readWall_20 : decode cX4_readWall 20 = .ok (.iload_n 1, 1) := by decide +kernel
theorem dX4_readWall_21 : decode cX4_readWall 21 = .ok (.iconst (-1), 1) := by decide +kernel
theorem dX4_readWall_22 : decode cX4_readWall 22 = .ok (.if_icmp .ne 7, 3) := by decide +kernel
theorem dX4_readWall_25 : decode cX4_readWall 25 = .ok (.iconst (-1), 1) := by decide +kernel
theorem dX4_readWall_26 : decode cX4_readWall 26 = .ok (.goto 12, 3) := by decide +kernel
theorem dX4_readWall_29 : decode cX4_readWall 29 = .ok (.aload_n 0, 1) := by decide +kernel
theorem dX4_readWall_30 : decode cX4_readWall 30 = .ok (.bipush 100, 2) := by decide +kernel
theorem dX4_readWall_32 : decode cX4_readWall 32 = .ok (.sipush 400, 3) := by decide +kernel
theorem dX4_readWall_35 : decode cX4_readWall 35 = .ok (.invokevirtual 88, 3) := by decide +kernel
theorem dX4_readWall_38 : decode cX4_readWall 38 = .ok (.istore_n 2, 1) := by decide +kernel
theorem dX4_readWall_39 : decode cX4_readWall 39 = .ok (.iload_n 2, 1) := by decide +kernel
theorem dX4_readWall_40 : decode cX4_readWall 40 = .ok (.iconst (-1), 1) := by decide +kernel
theorem dX4_readWall_41 : decode cX4_readWall 41 = .ok (.if_icmp .ne 7, 3) := by decide +kernel
theorem dX4_readWall_44 : decode cX4_readWall 44 = .ok (.iconst (-1), 1) := by decide +kernel
theorem dX4_readWall_45 : decode cX4_readWall 45 = .ok (.goto 12, 3) := by decide +kernel
theorem dX4_readWall_48 : decode cX4_readWall 48 = .ok (.aload_n 0, 1) := by decide +kernel
theorem dX4_readWall_49 : decode cX4_readWall 49 = .ok (.bipush 100, 2) := by decide +kernel
theorem dX4_readWall_51 : decode cX4_readWall 51 = .ok (.sipush 400, 3) := by decide +kernel
