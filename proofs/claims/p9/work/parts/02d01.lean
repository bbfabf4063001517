theorem dX0_begin_0 : decode cX0_begin 0 = .ok (.aload_n 0, 1) := by decide +kernel
theorem dX0_begin_1 : decode cX0_begin 1 = .ok (.iload_n 2, 1) := by decide +kernel
theorem dX0_begin_2 : decode cX0_begin 2 = .ok (.bipush 100, 2) := by decide +kernel
theorem dX0_begin_4 : decode cX0_begin 4 = .ok (.idiv, 1) := by decide +kernel
theorem dX0_begin_5 : decode cX0_begin 5 = .ok (.putfield 13, 3) := by decide +kernel
theorem dX0_begin_8 : decode cX0_begin 8 = .ok (.aload_n 0, 1) := by decide +kernel
theorem dX0_begin_9 : decode cX0_begin 9 = .ok (.iload_n 2, 1) := by decide +kernel
theorem dX0_begin_10 : decode cX0_begin 10 = .ok (.bipush 100, 2) := by decide +kernel
theorem dX0_begin_12 : decode cX0_begin 12 = .ok (.irem, 1) := by decide +kernel
theorem dX0_begin_13 : decode cX0_begin 13 = .ok (.putfield 17, 3) := by decide +kernel
theorem dX0_begin_16 : decode cX0_begin 16 = .ok (.iconst 1, 1) := by decide +kernel
theorem dX0_begin_17 : decode cX0_begin 17 = .ok (.aload_n 0, 1) := by decide +kernel
theorem dX0_begin_18 : decode cX0_begin 18 = .ok (.getfield 13, 3) := by decide +kernel
theorem dX0_begin_21 : decode cX0_begin 21 = .ok (.bipush 30, 2) := by decide +kernel
theorem dX0_begin_23 : decode cX0_begin 23 = .ok (.invokestatic 20, 3) := by decide +kernel
theorem dX0_begin_26 : decode cX0_begin 26 = .ok (.ifCond .eq 16, 3) := by decide +kernel
theorem dX0_begin_29 : decode cX0_begin 29 = .ok (.iconst 0, 1) := by decide +kernel
theorem dX0_begin_30 : decode cX0_begin 30 = .ok (.aload_n 0, 1) := by decide +kernel
theorem dX0_begin_31 : decode cX0_begin 31 = .ok (.getfield 17, 3) := by decide +kernel
theorem dX0_begin_34 : decode cX0_begin 34 = .ok (.bipush 60, 2) := by decide +kernel
theorem dX0_begin_36 : decode cX0_begin 36 = .ok (.invokestatic 20, 3) := by decide +kernel
theorem dX0_begin_39 : decode cX0_begin 39 = .ok (.ifCond .ne 5, 3) := by decide +kernel
theorem dX0_begin_42 : decode cX0_begin 42 = .ok (.iconst 0, 1) := by decide +kernel
theorem dX0_begin_43 : decode cX0_begin 43 = .ok (.ireturn, 1) := by decide +kernel
theorem dX0_begin_44 : decode cX0_begin 44 = .ok (.iconst 1, 1) := by decide +kernel
theorem dX0_begin_45 : decode cX0_begin 45 = .ok (.iload_n 1, 1) := by decide +kernel
theorem dX0_begin_46 : decode cX0_begin 46 = .ok (.iconst 2, 1) := by decide +kernel
theorem dX0_begin_47 : decode cX0_begin 47 = .ok (.invokestatic 20, 3) := by decide +kernel
theorem dX0_begin_50 : decode cX0_begin 50 = .ok (.ifCond .eq 12, 3) := by decide +kernel
theorem dX0_begin_53 : decode cX0_begin 53 = .ok (.iconst 0, 1) := by decide +kernel
theorem dX0_begin_54 : decode cX0_begin 54 = .ok (.iload_n 3, 1) := by decide +kernel
theorem dX0_begin_55 : decode cX0_begin 55 = .ok (.iconst 1, 1) := by decide +kernel
theorem dX0_begin_56 : decode cX0_begin 56 = .ok (.invokestatic 20, 3) := by decide +kernel
theorem dX0_begin_59 : decode cX0_begin 59 = .ok (.ifCond .ne 5, 3) := by decide +kernel
theorem dX0_begin_62 : decode cX0_begin 62 = .ok (.iconst 0, 1) := by decide +kernel
theorem dX0_begin_63 : decode cX0_begin 63 = .ok (.ireturn, 1) := by decide +kernel
theorem dX0_begin_64 : decode cX0_begin 64 = .ok (.aload_n 0, 1) := by decide +kernel
theorem dX0_begin_65 : decode cX0_begin 65 = .ok (.iload_n 1, 1) := by decide +kernel
theorem dX0_begin_66 : decode cX0_begin 66 = .ok (.putfield 26, 3) := by decide +kernel
theorem dX0_begin_69 : decode cX0_begin 69 = .ok (.aload_n 0, 1) := by decide +kernel
theorem dX0_begin_70 : decode cX0_begin 70 = .ok (.iload_n 3, 1) := by decide +kernel
theorem dX0_begin_71 : decode cX0_begin 71 = .ok (.iconst 1, 1) := by decide +kernel
theorem dX0_begin_72 : decode cX0_begin 72 = .ok (.if_icmp .ne 7, 3) := by decide +kernel
theorem dX0_begin_75 : decode cX0_begin 75 = .ok (.iconst 1, 1) := by decide +kernel
theorem dX0_begin_76 : decode cX0_begin 76 = .ok (.goto 4, 3) := by decide +kernel
theorem dX0_begin_79 : decode cX0_begin 79 = .ok (.iconst 0, 1) := by decide +kernel
theorem dX0_begin_80 : decode cX0_begin 80 = .ok (.putfield 29, 3) := by decide +kernel
theorem dX0_begin_83 : decode cX0_begin 83 = .ok (.aload_n 0, 1) := by decide +kernel
theorem dX0_begin_84 : decode cX0_begin 84 = .ok (.iconst 0, 1) := by decide +kernel
theorem dX0_begin_85 : decode cX0_begin 85 = .ok (.putfield 33, 3) := by decide +kernel
theorem dX0_begin_88 : decode cX0_begin 88 = .ok (.aload_n 0, 1) := by decide +kernel
theorem dX0_begin_89 : decode cX0_begin 89 = .ok (.iconst 0, 1) := by decide +kernel
theorem dX0_begin_90 : decode cX0_begin 90 = .ok (.putfield 36, 3) := by decide +kernel
theorem dX0_begin_93 : decode cX0_begin 93 = .ok (.iconst 0, 1) := by decide +kernel
theorem dX0_begin_94 : decode cX0_begin 94 = .ok (.istore 4, 2) := by decide +kernel
theorem dX0_begin_96 : decode cX0_begin 96 = .ok (.iload 4, 2) := by decide +kernel
theorem dX0_begin_98 : decode cX0_begin 98 = .ok (.iconst 2, 1) := by decide +kernel
theorem dX0_begin_99 : decode cX0_begin 99 = .ok (.if_icmp .ge 17, 3) := by decide +kernel
theorem dX0_begin_102 : decode cX0_begin 102 = .ok (.aload_n 0, 1) := by decide +kernel
theorem dX0_begin_103 : decode cX0_begin 103 = .ok (.getfield 9, 3) := by decide +kernel
theorem dX0_begin_106 : decode cX0_begin 106 = .ok (.iload 4, 2) := by decide +kernel
theorem dX0_begin_108 : decode cX0_begin 108 = .ok (.iconst 0, 1) := by decide +kernel
theorem dX0_begin_109 : decode cX0_begin 109 = .ok (.iastore, 1) := by decide +kernel
theorem dX0_begin_110 : decode cX0_begin 110 = .ok (.iinc 4 1, 3) := by decide +kernel
theorem dX0_begin_113 : decode cX0_begin 113 = .ok (.goto (-17), 3) := by decide +kernel
theorem dX0_begin_116 : decode cX0_begin 116 = .ok (.iconst 1, 1) := by decide +kernel
theorem dX0_begin_117 : decode cX0_begin 117 = .ok (.ireturn, 1) := by decide +kernel
theorem dX0_take_0 : decode cX0_take 0 = .ok (.iload_n 1, 1) := by decide +kernel
theorem dX0_take_1 : decode cX0_take 1 = .ok (.ifCond .gt 4, 3) := by decide +kernel
theorem dX0_take_4 : decode cX0_take 4 = .ok (.return_, 1) := by decide +kernel
theorem dX0_take_5 : decode cX0_take 5 = .ok (.aload_n 0, 1) := by decide +kernel
theorem dX0_take_6 : decode cX0_take 6 = .ok (.invokevirtual 39, 3) := by decide +kernel
theorem dX0_take_9 : decode cX0_take 9 = .ok (.istore_n 2, 1) := by decide +kernel
theorem dX0_take_10 : decode cX0_take 10 = .ok (.iconst 2, 1) := by decide +kernel
theorem dX0_take_11 : decode cX0_take 11 = .ok (.iload_n 1, 1) := by decide +kernel
theorem dX0_take_12 : decode cX0_take 12 = .ok (.bipush 100, 2) := by decide +kernel
theorem dX0_take_14 : decode cX0_take 14 = .ok (.idiv, 1) := by decide +kernel
theorem dX0_take_15 : decode cX0_take 15 = .ok (.iadd, 1) := by decide +kernel
theorem dX0_take_16 : decode cX0_take 16 = .ok (.istore_n 3, 1) := by decide +kernel
theorem dX0_take_17 : decode cX0_take 17 = .ok (.aload_n 0, 1) := by decide +kernel
theorem dX0_take_18 : decode cX0_take 18 = .ok (.getfield 33, 3) := by decide +kernel
theorem dX0_take_21 : decode cX0_take 21 = .ok (.istore 4, 2) := by decide +kernel
theorem dX0_take_23 : decode cX0_take 23 = .ok (.aload_n 0, 1) := by decide +kernel
theorem dX0_take_24 : decode cX0_take 24 = .ok (.getfield 29, 3) := by decide +kernel
theorem dX0_take_27 : decode cX0_take 27 = .ok (.ifCond .eq 23, 3) := by decide +kernel
theorem dX0_take_30 : decode cX0_take 30 = .ok (.iload 4, 2) := by decide +kernel
theorem dX0_take_32 : decode cX0_take 32 = .ok (.aload_n 0, 1) := by decide +kernel
theorem dX0_take_33 : decode cX0_take 33 = .ok (.getfield 9, 3) := by decide +kernel
theorem dX0_take_36 : decode cX0_take 36 = .ok (.iload_n 2, 1) := by decide +kernel
theorem dX0_take_37 : decode cX0_take 37 = .ok (.iaload, 1) := by decide +kernel
theorem dX0_take_38 : decode cX0_take 38 = .ok (.aload_n 0, 1) := by decide +kernel
theorem dX0_take_39 : decode cX0_take 39 = .ok (.getfield 13, 3) := by decide +kernel
theorem dX0_take_42 : decode cX0_take 42 = .ok (.isub, 1) := by decide +kernel
theorem dX0_take_43 : decode cX0_take 43 = .ok (.iload_n 3, 1) := by decide +kernel
theorem dX0_take_44 : decode cX0_take 44 = .ok (.isub, 1) := by decide +kernel
theorem dX0_take_45 : decode cX0_take 45 = .ok (.invokestatic 43, 3) := by decide +kernel
theorem dX0_take_48 : decode cX0_take 48 = .ok (.istore 4, 2) := by decide +kernel
theorem dX0_take_50 : decode cX0_take 50 = .ok (.aload_n 0, 1) := by decide +kernel
theorem dX0_take_51 : decode cX0_take 51 = .ok (.iload 4, 2) := by decide +kernel
theorem dX0_take_53 : decode cX0_take 53 = .ok (.iload_n 3, 1) := by decide +kernel
theorem dX0_take_54 : decode cX0_take 54 = .ok (.iadd, 1) := by decide +kernel
theorem dX0_take_55 : decode cX0_take 55 = .ok (.putfield 33, 3) := by decide +kernel
theorem dX0_take_58 : decode cX0_take 58 = .ok (.aload_n 0, 1) := by decide +kernel
theorem dX0_take_59 : decode cX0_take 59 = .ok (.getfield 33, 3) := by decide +kernel
theorem dX0_take_62 : decode cX0_take 62 = .ok (.aload_n 0, 1) := by decide +kernel
theorem dX0_take_63 : decode cX0_take 63 = .ok (.getfield 13, 3) := by decide +kernel
theorem dX0_take_66 : decode cX0_take 66 = .ok (.iadd, 1) := by decide +kernel
theorem dX0_take_67 : decode cX0_take 67 = .ok (.istore 5, 2) := by decide +kernel
theorem dX0_take_69 : decode cX0_take 69 = .ok (.iload 5, 2) := by decide +kernel
theorem dX0_take_71 : decode cX0_take 71 = .ok (.aload_n 0, 1) := by decide +kernel
theorem dX0_take_72 : decode cX0_take 72 = .ok (.getfield 9, 3) := by decide +kernel
theorem dX0_take_75 : decode cX0_take 75 = .ok (.iload_n 2, 1) := by decide +kernel
theorem dX0_take_76 : decode cX0_take 76 = .ok (.iaload, 1) := by decide +kernel
theorem dX0_take_77 : decode cX0_take 77 = .ok (.invokestatic 43, 3) := by decide +kernel
theorem dX0_take_80 : decode cX0_take 80 = .ok (.istore 6, 2) := by decide +kernel
theorem dX0_take_82 : decode cX0_take 82 = .ok (.iload 6, 2) := by decide +kernel
theorem dX0_take_84 : decode cX0_take 84 = .ok (.iload 5, 2) := by decide +kernel
theorem dX0_take_86 : decode cX0_take 86 = .ok (.isub, 1) := by decide +kernel
theorem dX0_take_87 : decode cX0_take 87 = .ok (.aload_n 0, 1) := by decide +kernel
theorem dX0_take_88 : decode cX0_take 88 = .ok (.getfield 17, 3) := by decide +kernel
theorem dX0_take_91 : decode cX0_take 91 = .ok (.if_icmp .le 13, 3) := by decide +kernel
theorem dX0_take_94 : decode cX0_take 94 = .ok (.aload_n 0, 1) := by decide +kernel
theorem dX0_take_95 : decode cX0_take 95 = .ok (.dup, 1) := by decide +kernel
theorem dX0_take_96 : decode cX0_take 96 = .ok (.getfield 36, 3) := by decide +kernel
theorem dX0_take_99 : decode cX0_take 99 = .ok (.iconst 1, 1) := by decide +kernel
theorem dX0_take_100 : decode cX0_take 100 = .ok (.iadd, 1) := by decide +kernel
theorem dX0_take_101 : decode cX0_take 101 = .ok (.putfield 36, 3) := by decide +kernel
theorem dX0_take_104 : decode cX0_take 104 = .ok (.aload_n 0, 1) := by decide +kernel
theorem dX0_take_105 : decode cX0_take 105 = .ok (.getfield 9, 3) := by decide +kernel
theorem dX0_take_108 : decode cX0_take 108 = .ok (.iload_n 2, 1) := by decide +kernel
theorem dX0_take_109 : decode cX0_take 109 = .ok (.iload 6, 2) := by decide +kernel
theorem dX0_take_111 : decode cX0_take 111 = .ok (.iconst 5, 1) := by decide +kernel
theorem dX0_take_112 : decode cX0_take 112 = .ok (.iadd, 1) := by decide +kernel
theorem dX0_take_113 : decode cX0_take 113 = .ok (.iload_n 1, 1) := by decide +kernel
theorem dX0_take_114 : decode cX0_take 114 = .ok (.bipush 50, 2) := by decide +kernel
theorem dX0_take_116 : decode cX0_take 116 = .ok (.idiv, 1) := by decide +kernel
theorem dX0_take_117 : decode cX0_take 117 = .ok (.iadd, 1) := by decide +kernel
theorem dX0_take_118 : decode cX0_take 118 = .ok (.iastore, 1) := by decide +kernel
theorem dX0_take_119 : decode cX0_take 119 = .ok (.return_, 1) := by decide +kernel
theorem dX0_lastMinute_0 : decode cX0_lastMinute 0 = .ok (.aload_n 0, 1) := by decide +kernel
theorem dX0_lastMinute_1 : decode cX0_lastMinute 1 = .ok (.getfield 9, 3) := by decide +kernel
theorem dX0_lastMinute_4 : decode cX0_lastMinute 4 = .ok (.iconst 0, 1) := by decide +kernel
theorem dX0_lastMinute_5 : decode cX0_lastMinute 5 = .ok (.iaload, 1) := by decide +kernel
theorem dX0_lastMinute_6 : decode cX0_lastMinute 6 = .ok (.aload_n 0, 1) := by decide +kernel
theorem dX0_lastMinute_7 : decode cX0_lastMinute 7 = .ok (.getfield 9, 3) := by decide +kernel
theorem dX0_lastMinute_10 : decode cX0_lastMinute 10 = .ok (.iconst 1, 1) := by decide +kernel
theorem dX0_lastMinute_11 : decode cX0_lastMinute 11 = .ok (.iaload, 1) := by decide +kernel
theorem dX0_lastMinute_12 : decode cX0_lastMinute 12 = .ok (.invokestatic 43, 3) := by decide +kernel
theorem dX0_lastMinute_15 : decode cX0_lastMinute 15 = .ok (.ireturn, 1) := by decide +kernel
theorem dX0_freeFirst_0 : decode cX0_freeFirst 0 = .ok (.aload_n 0, 1) := by decide +kernel
theorem dX0_freeFirst_1 : decode cX0_freeFirst 1 = .ok (.getfield 26, 3) := by decide +kernel
theorem dX0_freeFirst_4 : decode cX0_freeFirst 4 = .ok (.iconst 2, 1) := by decide +kernel
theorem dX0_freeFirst_5 : decode cX0_freeFirst 5 = .ok (.if_icmp .ne 22, 3) := by decide +kernel
theorem dX0_freeFirst_8 : decode cX0_freeFirst 8 = .ok (.aload_n 0, 1) := by decide +kernel
theorem dX0_freeFirst_9 : decode cX0_freeFirst 9 = .ok (.getfield 9, 3) := by decide +kernel
theorem dX0_freeFirst_12 : decode cX0_freeFirst 12 = .ok (.iconst 1, 1) := by decide +kernel
theorem dX0_freeFirst_13 : decode cX0_freeFirst 13 = .ok (.iaload, 1) := by decide +kernel
theorem dX0_freeFirst_14 : decode cX0_freeFirst 14 = .ok (.aload_n 0, 1) := by decide +kernel
theorem dX0_freeFirst_15 : decode cX0_freeFirst 15 = .ok (.getfield 9, 3) := by decide +kernel
theorem dX0_freeFirst_18 : decode cX0_freeFirst 18 = .ok (.iconst 0, 1) := by decide +kernel
theorem dX0_freeFirst_19 : decode cX0_freeFirst 19 = .ok (.iaload, 1) := by decide +kernel
theorem dX0_freeFirst_20 : decode cX0_freeFirst 20 = .ok (.if_icmp .ge 7, 3) := by decide +kernel
theorem dX0_freeFirst_23 : decode cX0_freeFirst 23 = .ok (.iconst 1, 1) := by decide +kernel
theorem dX0_freeFirst_24 : decode cX0_freeFirst 24 = .ok (.goto 4, 3) := by decide +kernel
theorem dX0_freeFirst_27 : decode cX0_freeFirst 27 = .ok (.iconst 0, 1) := by decide +kernel
theorem dX0_freeFirst_28 : decode cX0_freeFirst 28 = .ok (.ireturn, 1) := by decide +kernel
theorem dX2_beginOf_0 : decode cX2_beginOf 0 = .ok (.aload_n 0, 1) := by decide +kernel
theorem dX2_beginOf_1 : decode cX2_beginOf 1 = .ok (.getfield 47, 3) := by decide +kernel
theorem dX2_beginOf_4 : decode cX2_beginOf 4 = .ok (.iload_n 1, 1) := by decide +kernel
theorem dX2_beginOf_5 : decode cX2_beginOf 5 = .ok (.aload_n 0, 1) := by decide +kernel
theorem dX2_beginOf_6 : decode cX2_beginOf 6 = .ok (.getfield 43, 3) := by decide +kernel
theorem dX2_beginOf_9 : decode cX2_beginOf 9 = .ok (.getfield 93, 3) := by decide +kernel
theorem dX2_beginOf_12 : decode cX2_beginOf 12 = .ok (.imul, 1) := by decide +kernel
theorem dX2_beginOf_13 : decode cX2_beginOf 13 = .ok (.iadd, 1) := by decide +kernel
theorem dX2_beginOf_14 : decode cX2_beginOf 14 = .ok (.aload_n 0, 1) := by decide +kernel
theorem dX2_beginOf_15 : decode cX2_beginOf 15 = .ok (.getfield 39, 3) := by decide +kernel
theorem dX2_beginOf_18 : decode cX2_beginOf 18 = .ok (.getfield 57, 3) := by decide +kernel
theorem dX2_beginOf_21 : decode cX2_beginOf 21 = .ok (.getfield 63, 3) := by decide +kernel
theorem dX2_beginOf_24 : decode cX2_beginOf 24 = .ok (.invokestatic 96, 3) := by decide +kernel
theorem dX2_beginOf_27 : decode cX2_beginOf 27 = .ok (.ireturn, 1) := by decide +kernel
theorem dX2_widthOf_0 : decode cX2_widthOf 0 = .ok (.aload_n 0, 1) := by decide +kernel
theorem dX2_widthOf_1 : decode cX2_widthOf 1 = .ok (.getfield 43, 3) := by decide +kernel
theorem dX2_widthOf_4 : decode cX2_widthOf 4 = .ok (.getfield 93, 3) := by decide +kernel
theorem dX2_widthOf_7 : decode cX2_widthOf 7 = .ok (.aload_n 0, 1) := by decide +kernel
theorem dX2_widthOf_8 : decode cX2_widthOf 8 = .ok (.getfield 39, 3) := by decide +kernel
theorem dX2_widthOf_11 : decode cX2_widthOf 11 = .ok (.getfield 57, 3) := by decide +kernel
theorem dX2_widthOf_14 : decode cX2_widthOf 14 = .ok (.getfield 63, 3) := by decide +kernel
theorem dX2_widthOf_17 : decode cX2_widthOf 17 = .ok (.iload_n 1, 1) := by decide +kernel
theorem dX2_widthOf_18 : decode cX2_widthOf 18 = .ok (.aload_n 0, 1) := by decide +kernel
theorem dX2_widthOf_19 : decode cX2_widthOf 19 = .ok (.getfield 43, 3) := by decide +kernel
theorem dX2_widthOf_22 : decode cX2_widthOf 22 = .ok (.getfield 93, 3) := by decide +kernel
theorem dX2_widthOf_25 : decode cX2_widthOf 25 = .ok (.imul, 1) := by decide +kernel
theorem dX2_widthOf_26 : decode cX2_widthOf 26 = .ok (.isub, 1) := by decide +kernel
theorem dX2_widthOf_27 : decode cX2_widthOf 27 = .ok (.invokestatic 74, 3) := by decide +kernel
theorem dX2_widthOf_30 : decode cX2_widthOf 30 = .ok (.ireturn, 1) := by decide +kernel
theorem dX2_longTogether_0 : decode cX2_longTogether 0 = .ok (.iconst 0, 1) := by decide +kernel
theorem dX2_longTogether_1 : decode cX2_longTogether 1 = .ok (.istore_n 3, 1) := by decide +kernel
theorem dX2_longTogether_2 : decode cX2_longTogether 2 = .ok (.iconst 0, 1) := by decide +kernel
theorem dX2_longTogether_3 : decode cX2_longTogether 3 = .ok (.iload_n 1, 1) := by decide +kernel
theorem dX2_longTogether_4 : decode cX2_longTogether 4 = .ok (.invokestatic 112, 3) := by decide +kernel
theorem dX2_longTogether_7 : decode cX2_longTogether 7 = .ok (.istore 4, 2) := by decide +kernel
theorem dX2_longTogether_9 : decode cX2_longTogether 9 = .ok (.iload 4, 2) := by decide +kernel
theorem dX2_longTogether_11 : decode cX2_longTogether 11 = .ok (.iload_n 2, 1) := by decide +kernel
theorem dX2_longTogether_12 : decode cX2_longTogether 12 = .ok (.if_icmp .ge 28, 3) := by decide +kernel
theorem dX2_longTogether_15 : decode cX2_longTogether 15 = .ok (.iload 4, 2) := by decide +kernel
theorem dX2_longTogether_17 : decode cX2_longTogether 17 = .ok (.aload_n 0, 1) := by decide +kernel
theorem dX2_longTogether_18 : decode cX2_longTogether 18 = .ok (.getfield 83, 3) := by decide +kernel
theorem dX2_longTogether_21 : decode cX2_longTogether 21 = .ok (.if_icmp .ge 19, 3) := by decide +kernel
theorem dX2_longTogether_24 : decode cX2_longTogether 24 = .ok (.iload_n 3, 1) := by decide +kernel
theorem dX2_longTogether_25 : decode cX2_longTogether 25 = .ok (.aload_n 0, 1) := by decide +kernel
theorem dX2_longTogether_26 : decode cX2_longTogether 26 = .ok (.getfield 27, 3) := by decide +kernel
theorem dX2_longTogether_29 : decode cX2_longTogether 29 = .ok (.iload 4, 2) := by decide +kernel
theorem dX2_longTogether_31 : decode cX2_longTogether 31 = .ok (.iaload, 1) := by decide +kernel
theorem dX2_longTogether_32 : decode cX2_longTogether 32 = .ok (.iadd, 1) := by decide +kernel
theorem dX2_longTogether_33 : decode cX2_longTogether 33 = .ok (.istore_n 3, 1) := by decide +kernel
theorem dX2_longTogether_34 : decode cX2_longTogether 34 = .ok (.iinc 4 1, 3) := by decide +kernel
theorem dX2_longTogether_37 : decode cX2_longTogether 37 = .ok (.goto (-28), 3) := by decide +kernel
theorem dX2_longTogether_40 : decode cX2_longTogether 40 = .ok (.iload_n 3, 1) := by decide +kernel
theorem dX2_longTogether_41 : decode cX2_longTogether 41 = .ok (.ireturn, 1) := by decide +kernel
theorem dX2_fitsEnd_0 : decode cX2_fitsEnd 0 = .ok (.iconst 0, 1) := by decide +kernel
theorem dX2_fitsEnd_1 : decode cX2_fitsEnd 1 = .ok (.iload_n 1, 1) := by decide +kernel
theorem dX2_fitsEnd_2 : decode cX2_fitsEnd 2 = .ok (.aload_n 0, 1) := by decide +kernel
theorem dX2_fitsEnd_3 : decode cX2_fitsEnd 3 = .ok (.getfield 83, 3) := by decide +kernel
theorem dX2_fitsEnd_6 : decode cX2_fitsEnd 6 = .ok (.iconst 1, 1) := by decide +kernel
theorem dX2_fitsEnd_7 : decode cX2_fitsEnd 7 = .ok (.isub, 1) := by decide +kernel
theorem dX2_fitsEnd_8 : decode cX2_fitsEnd 8 = .ok (.invokestatic 154, 3) := by decide +kernel
theorem dX2_fitsEnd_11 : decode cX2_fitsEnd 11 = .ok (.ifCond .ne 5, 3) := by decide +kernel
theorem dX2_fitsEnd_14 : decode cX2_fitsEnd 14 = .ok (.iconst 0, 1) := by decide +kernel
theorem dX2_fitsEnd_15 : decode cX2_fitsEnd 15 = .ok (.ireturn, 1) := by decide +kernel
theorem dX2_fitsEnd_16 : decode cX2_fitsEnd 16 = .ok (.aload_n 0, 1) := by decide +kernel
theorem dX2_fitsEnd_17 : decode cX2_fitsEnd 17 = .ok (.getfield 43, 3) := by decide +kernel
theorem dX2_fitsEnd_20 : decode cX2_fitsEnd 20 = .ok (.iload_n 3, 1) := by decide +kernel
theorem dX2_fitsEnd_21 : decode cX2_fitsEnd 21 = .ok (.aload_n 0, 1) := by decide +kernel
theorem dX2_fitsEnd_22 : decode cX2_fitsEnd 22 = .ok (.getfield 30, 3) := by decide +kernel
theorem dX2_fitsEnd_25 : decode cX2_fitsEnd 25 = .ok (.iload_n 1, 1) := by decide +kernel
theorem dX2_fitsEnd_26 : decode cX2_fitsEnd 26 = .ok (.iaload, 1) := by decide +kernel
theorem dX2_fitsEnd_27 : decode cX2_fitsEnd 27 = .ok (.invokevirtual 158, 3) := by decide +kernel
theorem dX2_fitsEnd_30 : decode cX2_fitsEnd 30 = .ok (.aload_n 0, 1) := by decide +kernel
theorem dX2_fitsEnd_31 : decode cX2_fitsEnd 31 = .ok (.getfield 27, 3) := by decide +kernel
theorem dX2_fitsEnd_34 : decode cX2_fitsEnd 34 = .ok (.iload_n 1, 1) := by decide +kernel
theorem dX2_fitsEnd_35 : decode cX2_fitsEnd 35 = .ok (.iaload, 1) := by decide +kernel
theorem dX2_fitsEnd_36 : decode cX2_fitsEnd 36 = .ok (.iadd, 1) := by decide +kernel
theorem dX2_fitsEnd_37 : decode cX2_fitsEnd 37 = .ok (.iload_n 3, 1) := by decide +kernel
theorem dX2_fitsEnd_38 : decode cX2_fitsEnd 38 = .ok (.iload_n 2, 1) := by decide +kernel
theorem dX2_fitsEnd_39 : decode cX2_fitsEnd 39 = .ok (.iadd, 1) := by decide +kernel
theorem dX2_fitsEnd_40 : decode cX2_fitsEnd 40 = .ok (.if_icmp .gt 7, 3) := by decide +kernel
theorem dX2_fitsEnd_43 : decode cX2_fitsEnd 43 = .ok (.iconst 1, 1) := by decide +kernel
theorem dX2_fitsEnd_44 : decode cX2_fitsEnd 44 = .ok (.goto 4, 3) := by decide +kernel
theorem dX2_fitsEnd_47 : decode cX2_fitsEnd 47 = .ok (.iconst 0, 1) := by decide +kernel
theorem dX2_fitsEnd_48 : decode cX2_fitsEnd 48 = .ok (.ireturn, 1) := by decide +kernel
theorem dX3_stripsFor_0 : decode cX3_stripsFor 0 = .ok (.iload_n 1, 1) := by decide +kernel
theorem dX3_stripsFor_1 : decode cX3_stripsFor 1 = .ok (.aload_n 0, 1) := by decide +kernel
theorem dX3_stripsFor_2 : decode cX3_stripsFor 2 = .ok (.getfield 9, 3) := by decide +kernel
theorem dX3_stripsFor_5 : decode cX3_stripsFor 5 = .ok (.invokestatic 34, 3) := by decide +kernel
theorem dX3_stripsFor_8 : decode cX3_stripsFor 8 = .ok (.ireturn, 1) := by decide +kernel
theorem dX3_offsetOf_0 : decode cX3_offsetOf 0 = .ok (.aload_n 0, 1) := by decide +kernel
theorem dX3_offsetOf_1 : decode cX3_offsetOf 1 = .ok (.getfield 18, 3) := by decide +kernel
theorem dX3_offsetOf_4 : decode cX3_offsetOf 4 = .ok (.iconst 1, 1) := by decide +kernel
theorem dX3_offsetOf_5 : decode cX3_offsetOf 5 = .ok (.if_icmp .ne 14, 3) := by decide +kernel
theorem dX3_offsetOf_8 : decode cX3_offsetOf 8 = .ok (.iload_n 1, 1) := by decide +kernel
theorem dX3_offsetOf_9 : decode cX3_offsetOf 9 = .ok (.iconst 1, 1) := by decide +kernel
theorem dX3_offsetOf_10 : decode cX3_offsetOf 10 = .ok (.iand, 1) := by decide +kernel
theorem dX3_offsetOf_11 : decode cX3_offsetOf 11 = .ok (.iconst 1, 1) := by decide +kernel
theorem dX3_offsetOf_12 : decode cX3_offsetOf 12 = .ok (.if_icmp .ne 7, 3) := by decide +kernel
theorem dX3_offsetOf_15 : decode cX3_offsetOf 15 = .ok (.iconst 1, 1) := by decide +kernel
theorem dX3_offsetOf_16 : decode cX3_offsetOf 16 = .ok (.goto 4, 3) := by decide +kernel
theorem dX3_offsetOf_19 : decode cX3_offsetOf 19 = .ok (.iconst 0, 1) := by decide +kernel
theorem dX3_offsetOf_20 : decode cX3_offsetOf 20 = .ok (.istore_n 3, 1) := by decide +kernel
theorem dX3_offsetOf_21 : decode cX3_offsetOf 21 = .ok (.iload_n 3, 1) := by decide +kernel
theorem dX3_offsetOf_22 : decode cX3_offsetOf 22 = .ok (.ifCond .eq 14, 3) := by decide +kernel
theorem dX3_offsetOf_25 : decode cX3_offsetOf 25 = .ok (.iload_n 2, 1) := by decide +kernel
theorem dX3_offsetOf_26 : decode cX3_offsetOf 26 = .ok (.aload_n 0, 1) := by decide +kernel
theorem dX3_offsetOf_27 : decode cX3_offsetOf 27 = .ok (.getfield 15, 3) := by decide +kernel
theorem dX3_offsetOf_30 : decode cX3_offsetOf 30 = .ok (.iconst 2, 1) := by decide +kernel
theorem dX3_offsetOf_31 : decode cX3_offsetOf 31 = .ok (.idiv, 1) := by decide +kernel
theorem dX3_offsetOf_32 : decode cX3_offsetOf 32 = .ok (.iadd, 1) := by decide +kernel
theorem dX3_offsetOf_33 : decode cX3_offsetOf 33 = .ok (.goto 4, 3) := by decide +kernel
theorem dX3_offsetOf_36 : decode cX3_offsetOf 36 = .ok (.iload_n 2, 1) := by decide +kernel
theorem dX3_offsetOf_37 : decode cX3_offsetOf 37 = .ok (.aload_n 0, 1) := by decide +kernel
theorem dX3_offsetOf_38 : decode cX3_offsetOf 38 = .ok (.getfield 15, 3) := by decide +kernel
theorem dX3_offsetOf_41 : decode cX3_offsetOf 41 = .ok (.invokestatic 38, 3) := by decide +kernel
theorem dX3_offsetOf_44 : decode cX3_offsetOf 44 = .ok (.ireturn, 1) := by decide +kernel
theorem dX3_phaseAt_0 : decode cX3_phaseAt 0 = .ok (.aload_n 0, 1) := by decide +kernel
theorem dX3_phaseAt_1 : decode cX3_phaseAt 1 = .ok (.getfield 18, 3) := by decide +kernel
theorem dX3_phaseAt_4 : decode cX3_phaseAt 4 = .ok (.iconst 2, 1) := by decide +kernel
theorem dX3_phaseAt_5 : decode cX3_phaseAt 5 = .ok (.if_icmp .ne 7, 3) := by decide +kernel
theorem dX3_phaseAt_8 : decode cX3_phaseAt 8 = .ok (.iconst 0, 1) := by decide +kernel
theorem dX3_phaseAt_9 : decode cX3_phaseAt 9 = .ok (.goto 11, 3) := by decide +kernel
theorem dX3_phaseAt_12 : decode cX3_phaseAt 12 = .ok (.iload_n 1, 1) := by decide +kernel
theorem dX3_phaseAt_13 : decode cX3_phaseAt 13 = .ok (.aload_n 0, 1) := by decide +kernel
theorem dX3_phaseAt_14 : decode cX3_phaseAt 14 = .ok (.getfield 15, 3) := by decide +kernel
theorem dX3_phaseAt_17 : decode cX3_phaseAt 17 = .ok (.invokestatic 38, 3) := by decide +kernel
theorem dX3_phaseAt_20 : decode cX3_phaseAt 20 = .ok (.ireturn, 1) := by decide +kernel
theorem dX3_placeBehind_0 : decode cX3_placeBehind 0 = .ok (.aload_n 0, 1) := by decide +kernel
theorem dX3_placeBehind_1 : decode cX3_placeBehind 1 = .ok (.getfield 18, 3) := by decide +kernel
theorem dX3_placeBehind_4 : decode cX3_placeBehind 4 = .ok (.iconst 2, 1) := by decide +kernel
theorem dX3_placeBehind_5 : decode cX3_placeBehind 5 = .ok (.if_icmp .ne 7, 3) := by decide +kernel
theorem dX3_placeBehind_8 : decode cX3_placeBehind 8 = .ok (.iload_n 1, 1) := by decide +kernel
theorem dX3_placeBehind_9 : decode cX3_placeBehind 9 = .ok (.goto 15, 3) := by decide +kernel
theorem dX3_placeBehind_12 : decode cX3_placeBehind 12 = .ok (.iload_n 1, 1) := by decide +kernel
theorem dX3_placeBehind_13 : decode cX3_placeBehind 13 = .ok (.iload_n 2, 1) := by decide +kernel
theorem dX3_placeBehind_14 : decode cX3_placeBehind 14 = .ok (.iload_n 1, 1) := by decide +kernel
theorem dX3_placeBehind_15 : decode cX3_placeBehind 15 = .ok (.isub, 1) := by decide +kernel
theorem dX3_placeBehind_16 : decode cX3_placeBehind 16 = .ok (.aload_n 0, 1) := by decide +kernel
theorem dX3_placeBehind_17 : decode cX3_placeBehind 17 = .ok (.getfield 15, 3) := by decide +kernel
theorem dX3_placeBehind_20 : decode cX3_placeBehind 20 = .ok (.invokestatic 38, 3) := by decide +kernel
theorem dX3_placeBehind_23 : decode cX3_placeBehind 23 = .ok (.iadd, 1) := by decide +kernel
theorem dX3_placeBehind_24 : decode cX3_placeBehind 24 = .ok (.ireturn, 1) := by decide +kernel
theorem dX4_read_0 : decode cX4_read 0 = .ok (.aload_n 0, 1) := by decide +kernel
theorem dX4_read_1 : decode cX4_read 1 = .ok (.getfield 9, 3) := by decide +kernel
theorem dX4_read_4 : decode cX4_read 4 = .ok (.invokevirtual 15, 3) := by decide +kernel
theorem dX4_read_7 : decode cX4_read 7 = .ok (.aload_n 0, 1) := by decide +kernel
theorem dX4_read_8 : decode cX4_read 8 = .ok (.iconst 0, 1) := by decide +kernel
theorem dX4_read_9 : decode cX4_read 9 = .ok (.putfield 20, 3) := by decide +kernel
theorem dX4_read_12 : decode cX4_read 12 = .ok (.aload_n 0, 1) := by decide +kernel
theorem dX4_read_13 : decode cX4_read 13 = .ok (.aload_n 1, 1) := by decide +kernel
theorem dX4_read_14 : decode cX4_read 14 = .ok (.putfield 24, 3) := by decide +kernel
theorem dX4_read_17 : decode cX4_read 17 = .ok (.aload_n 0, 1) := by decide +kernel
theorem dX4_read_18 : decode cX4_read 18 = .ok (.getfield 24, 3) := by decide +kernel
theorem dX4_read_21 : decode cX4_read 21 = .ok (.invokevirtual 28, 3) := by decide +kernel
theorem dX4_read_24 : decode cX4_read 24 = .ok (.iconst 0, 1) := by decide +kernel
theorem dX4_read_25 : decode cX4_read 25 = .ok (.istore_n 2, 1) := by decide +kernel
theorem dX4_read_26 : decode cX4_read 26 = .ok (.iload_n 2, 1) := by decide +kernel
theorem dX4_read_27 : decode cX4_read 27 = .ok (.sipush 400, 3) := by decide +kernel
theorem dX4_read_30 : decode cX4_read 30 = .ok (.if_icmp .ge 30, 3) := by decide +kernel
theorem dX4_read_33 : decode cX4_read 33 = .ok (.aload_n 0, 1) := by decide +kernel
theorem dX4_read_34 : decode cX4_read 34 = .ok (.bipush 10, 2) := by decide +kernel
theorem dX4_read_36 : decode cX4_read 36 = .ok (.invokevirtual 33, 3) := by decide +kernel
theorem dX4_read_39 : decode cX4_read 39 = .ok (.ifCond .ne 21, 3) := by decide +kernel
theorem dX4_read_42 : decode cX4_read 42 = .ok (.aload_n 0, 1) := by decide +kernel
theorem dX4_read_43 : decode cX4_read 43 = .ok (.invokevirtual 37, 3) := by decide +kernel
theorem dX4_read_46 : decode cX4_read 46 = .ok (.ifCond .ne 8, 3) := by decide +kernel
theorem dX4_read_49 : decode cX4_read 49 = .ok (.aload_n 0, 1) := by decide +kernel
theorem dX4_read_50 : decode cX4_read 50 = .ok (.invokevirtual 41, 3) := by decide +kernel
theorem dX4_read_53 : decode cX4_read 53 = .ok (.ireturn, 1) := by decide +kernel
theorem dX4_read_54 : decode cX4_read 54 = .ok (.iinc 2 1, 3) := by decide +kernel
theorem dX4_read_57 : decode cX4_read 57 = .ok (.goto (-31), 3) := by decide +kernel
theorem dX4_read_60 : decode cX4_read 60 = .ok (.aload_n 0, 1) := by decide +kernel
theorem dX4_read_61 : decode cX4_read 61 = .ok (.getfield 24, 3) := by decide +kernel
theorem dX4_read_64 : decode cX4_read 64 = .ok (.getfield 45, 3) := by decide +kernel
theorem dX4_read_67 : decode cX4_read 67 = .ok (.getfield 49, 3) := by decide +kernel
theorem dX4_read_70 : decode cX4_read 70 = .ok (.ifCond .ne 13, 3) := by decide +kernel
theorem dX4_read_73 : decode cX4_read 73 = .ok (.aload_n 0, 1) := by decide +kernel
theorem dX4_read_74 : decode cX4_read 74 = .ok (.getfield 9, 3) := by decide +kernel
theorem dX4_read_77 : decode cX4_read 77 = .ok (.getfield 54, 3) := by decide +kernel
theorem dX4_read_80 : decode cX4_read 80 = .ok (.goto 4, 3) := by decide +kernel
theorem dX4_read_83 : decode cX4_read 83 = .ok (.iconst (-1), 1) := by decide +kernel
theorem dX4_read_84 : decode cX4_read 84 = .ok (.ireturn, 1) := by decide +kernel
theorem dX4_isNext_0 : decode cX4_isNext 0 = .ok (.aload_n 0, 1) := by decide +kernel
theorem dX4_isNext_1 : decode cX4_isNext 1 = .ok (.getfield 20, 3) := by decide +kernel
theorem dX4_isNext_4 : decode cX4_isNext 4 = .ok (.aload_n 0, 1) := by decide +kernel
theorem dX4_isNext_5 : decode cX4_isNext 5 = .ok (.getfield 9, 3) := by decide +kernel
theorem dX4_isNext_8 : decode cX4_isNext 8 = .ok (.getfield 57, 3) := by decide +kernel
theorem dX4_isNext_11 : decode cX4_isNext 11 = .ok (.if_icmp .ge 23, 3) := by decide +kernel
theorem dX4_isNext_14 : decode cX4_isNext 14 = .ok (.aload_n 0, 1) := by decide +kernel
theorem dX4_isNext_15 : decode cX4_isNext 15 = .ok (.getfield 9, 3) := by decide +kernel
theorem dX4_isNext_18 : decode cX4_isNext 18 = .ok (.getfield 60, 3) := by decide +kernel
theorem dX4_isNext_21 : decode cX4_isNext 21 = .ok (.aload_n 0, 1) := by decide +kernel
theorem dX4_isNext_22 : decode cX4_isNext 22 = .ok (.getfield 20, 3) := by decide +kernel
theorem dX4_isNext_25 : decode cX4_isNext 25 = .ok (.iaload, 1) := by decide +kernel
theorem dX4_isNext_26 : decode cX4_isNext 26 = .ok (.iload_n 1, 1) := by decide +kernel
theorem dX4_isNext_27 : decode cX4_isNext 27 = .ok (.if_icmp .ne 7, 3) := by decide +kernel
theorem dX4_isNext_30 : decode cX4_isNext 30 = .ok (.iconst 1, 1) := by decide +kernel
theorem dX4_isNext_31 : decode cX4_isNext 31 = .ok (.goto 4, 3) := by decide +kernel
theorem dX4_isNext_34 : decode cX4_isNext 34 = .ok (.iconst 0, 1) := by decide +kernel
theorem dX4_isNext_35 : decode cX4_isNext 35 = .ok (.ireturn, 1) := by decide +kernel
theorem dX4_placeOfNext_0 : decode cX4_placeOfNext 0 = .ok (.aload_n 0, 1) := by decide +kernel
theorem dX4_placeOfNext_1 : decode cX4_placeOfNext 1 = .ok (.getfield 20, 3) := by decide +kernel
theorem dX4_placeOfNext_4 : decode cX4_placeOfNext 4 = .ok (.aload_n 0, 1) := by decide +kernel
theorem dX4_placeOfNext_5 : decode cX4_placeOfNext 5 = .ok (.getfield 9, 3) := by decide +kernel
theorem dX4_placeOfNext_8 : decode cX4_placeOfNext 8 = .ok (.getfield 57, 3) := by decide +kernel
theorem dX4_placeOfNext_11 : decode cX4_placeOfNext 11 = .ok (.if_icmp .ge 18, 3) := by decide +kernel
theorem dX4_placeOfNext_14 : decode cX4_placeOfNext 14 = .ok (.aload_n 0, 1) := by decide +kernel
theorem dX4_placeOfNext_15 : decode cX4_placeOfNext 15 = .ok (.getfield 9, 3) := by decide +kernel
theorem dX4_placeOfNext_18 : decode cX4_placeOfNext 18 = .ok (.getfield 64, 3) := by decide +kernel
theorem dX4_placeOfNext_21 : decode cX4_placeOfNext 21 = .ok (.aload_n 0, 1) := by decide +kernel
theorem dX4_placeOfNext_22 : decode cX4_placeOfNext 22 = .ok (.getfield 20, 3) := by decide +kernel
theorem dX4_placeOfNext_25 : decode cX4_placeOfNext 25 = .ok (.iaload, 1) := by decide +kernel
theorem dX4_placeOfNext_26 : decode cX4_placeOfNext 26 = .ok (.goto 10, 3) := by decide +kernel
theorem dX4_placeOfNext_29 : decode cX4_placeOfNext 29 = .ok (.aload_n 0, 1) := by decide +kernel
theorem dX4_placeOfNext_30 : decode cX4_placeOfNext 30 = .ok (.getfield 9, 3) := by decide +kernel
theorem dX4_placeOfNext_33 : decode cX4_placeOfNext 33 = .ok (.getfield 54, 3) := by decide +kernel
theorem dX4_placeOfNext_36 : decode cX4_placeOfNext 36 = .ok (.ireturn, 1) := by decide +kernel
theorem dX4_readLine_0 : decode cX4_readLine 0 = .ok (.aload_n 0, 1) := by decide +kernel
theorem dX4_readLine_1 : decode cX4_readLine 1 = .ok (.iconst 0, 1) := by decide +kernel
theorem dX4_readLine_2 : decode cX4_readLine 2 = .ok (.invokevirtual 33, 3) := by decide +kernel
theorem dX4_readLine_5 : decode cX4_readLine 5 = .ok (.ifCond .eq 31, 3) := by decide +kernel
theorem dX4_readLine_8 : decode cX4_readLine 8 = .ok (.aload_n 0, 1) := by decide +kernel
theorem dX4_readLine_9 : decode cX4_readLine 9 = .ok (.getfield 24, 3) := by decide +kernel
theorem dX4_readLine_12 : decode cX4_readLine 12 = .ok (.getfield 45, 3) := by decide +kernel
theorem dX4_readLine_15 : decode cX4_readLine 15 = .ok (.getfield 49, 3) := by decide +kernel
theorem dX4_readLine_18 : decode cX4_readLine 18 = .ok (.bipush 8, 2) := by decide +kernel
theorem dX4_readLine_20 : decode cX4_readLine 20 = .ok (.if_icmp .ge 14, 3) := by decide +kernel
theorem dX4_readLine_23 : decode cX4_readLine 23 = .ok (.aload_n 0, 1) := by decide +kernel
theorem dX4_readLine_24 : decode cX4_readLine 24 = .ok (.invokevirtual 67, 3) := by decide +kernel
theorem dX4_readLine_27 : decode cX4_readLine 27 = .ok (.ifCond .eq 7, 3) := by decide +kernel
theorem dX4_readLine_30 : decode cX4_readLine 30 = .ok (.iconst 1, 1) := by decide +kernel
theorem dX4_readLine_31 : decode cX4_readLine 31 = .ok (.goto 4, 3) := by decide +kernel
theorem dX4_readLine_34 : decode cX4_readLine 34 = .ok (.iconst 0, 1) := by decide +kernel
theorem dX4_readLine_35 : decode cX4_readLine 35 = .ok (.ireturn, 1) := by decide +kernel
