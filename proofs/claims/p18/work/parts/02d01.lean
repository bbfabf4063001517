theorem dX0_begin_0 : decode cX0_begin 0 = .ok (.aload_n 0, 1) := by decide +kernel
theorem dX0_begin_1 : decode cX0_begin 1 = .ok (.iload_n 2, 1) := by decide +kernel
theorem dX0_begin_2 : decode cX0_begin 2 = .ok (.bipush 100, 2) := by decide +kernel
theorem dX0_begin_4 : decode cX0_begin 4 = .ok (.idiv, 1) := by decide +kernel
theorem dX0_begin_5 : decode cX0_begin 5 = .ok (.putfield 13, 3) := by decide +kernel
theorem dX0_begin_8 : decode cX0_begin 8 = .ok (.aload_n 0, 1) := by decide +kernel
theorem dX0_begin_9 : decode cX0_begin 9 = .ok (.iload_n 2, 1) := by decide +kernel
theorem dX0_begin_10 : decode cX0_begin 10 = .ok (.bipush 100, 2) := by decide +kernel
theorem dX0_begin_12 : decode cX0_begin 12 = .ok (.irem, 1) := by decide +kernel
theorem dX0_begin_13 : decode cX0_begin 13 = .ok (.putfield 17, 3) := by decide +kernel
theorem dX0_begin_16 : decode cX0_begin 16 = .ok (.iconst 1, 1) := by decide +kernel
theorem dX0_begin_17 : decode cX0_begin 17 = .ok (.aload_n 0, 1) := by decide +kernel
theorem dX0_begin_18 : decode cX0_begin 18 = .ok (.getfield 13, 3) := by decide +kernel
theorem dX0_begin_21 : decode cX0_begin 21 = .ok (.bipush 30, 2) := by decide +kernel
theorem dX0_begin_23 : decode cX0_begin 23 = .ok (.invokestatic 20, 3) := by decide +kernel
theorem dX0_begin_26 : decode cX0_begin 26 = .ok (.ifCond .eq 16, 3) := by decide +kernel
theorem dX0_begin_29 : decode cX0_begin 29 = .ok (.iconst 0, 1) := by decide +kernel
theorem dX0_begin_30 : decode cX0_begin 30 = .ok (.aload_n 0, 1) := by decide +kernel
theorem dX0_begin_31 : decode cX0_begin 31 = .ok (.getfield 17, 3) := by decide +kernel
theorem dX0_begin_34 : decode cX0_begin 34 = .ok (.bipush 60, 2) := by decide +kernel
theorem dX0_begin_36 : decode cX0_begin 36 = .ok (.invokestatic 20, 3) := by decide +kernel
theorem dX0_begin_39 : decode cX0_begin 39 = .ok (.ifCond .ne 5, 3) := by decide +kernel
theorem dX0_begin_42 : decode cX0_begin 42 = .ok (.iconst 0, 1) := by decide +kernel
theorem dX0_begin_43 : decode cX0_begin 43 = .ok (.ireturn, 1) := by decide +kernel
theorem dX0_begin_44 : decode cX0_begin 44 = .ok (.iconst 1, 1) := by decide +kernel
theorem dX0_begin_45 : decode cX0_begin 45 = .ok (.iload_n 1, 1) := by decide +kernel
theorem dX0_begin_46 : decode cX0_begin 46 = .ok (.iconst 2, 1) := by decide +kernel
theorem dX0_begin_47 : decode cX0_begin 47 = .ok (.invokestatic 20, 3) := by decide +kernel
theorem dX0_begin_50 : decode cX0_begin 50 = .ok (.ifCond .eq 12, 3) := by decide +kernel
theorem dX0_begin_53 : decode cX0_begin 53 = .ok (.iconst 0, 1) := by decide +kernel
theorem dX0_begin_54 : decode cX0_begin 54 = .ok (.iload_n 3, 1) := by decide +kernel
theorem dX0_begin_55 : decode cX0_begin 55 = .ok (.iconst 1, 1) := by decide +kernel
theorem dX0_begin_56 : decode cX0_begin 56 = .ok (.invokestatic 20, 3) := by decide +kernel
theorem dX0_begin_59 : decode cX0_begin 59 = .ok (.ifCond .ne 5, 3) := by decide +kernel
theorem dX0_begin_62 : decode cX0_begin 62 = .ok (.iconst 0, 1) := by decide +kernel
theorem dX0_begin_63 : decode cX0_begin 63 = .ok (.ireturn, 1) := by decide +kernel
theorem dX0_begin_64 : decode cX0_begin 64 = .ok (.aload_n 0, 1) := by decide +kernel
theorem dX0_begin_65 : decode cX0_begin 65 = .ok (.iload_n 1, 1) := by decide +kernel
theorem dX0_begin_66 : decode cX0_begin 66 = .ok (.putfield 26, 3) := by decide +kernel
theorem dX0_begin_69 : decode cX0_begin 69 = .ok (.aload_n 0, 1) := by decide +kernel
theorem dX0_begin_70 : decode cX0_begin 70 = .ok (.iload_n 3, 1) := by decide +kernel
theorem dX0_begin_71 : decode cX0_begin 71 = .ok (.iconst 1, 1) := by decide +kernel
theorem dX0_begin_72 : decode cX0_begin 72 = .ok (.if_icmp .ne 7, 3) := by decide +kernel
theorem dX0_begin_75 : decode cX0_begin 75 = .ok (.iconst 1, 1) := by decide +kernel
theorem dX0_begin_76 : decode cX0_begin 76 = .ok (.goto 4, 3) := by decide +kernel
theorem dX0_begin_79 : decode cX0_begin 79 = .ok (.iconst 0, 1) := by decide +kernel
theorem dX0_begin_80 : decode cX0_begin 80 = .ok (.putfield 29, 3) := by decide +kernel
theorem dX0_begin_83 : decode cX0_begin 83 = .ok (.aload_n 0, 1) := by decide +kernel
theorem dX0_begin_84 : decode cX0_begin 84 = .ok (.iconst 0, 1) := by decide +kernel
theorem dX0_begin_85 : decode cX0_begin 85 = .ok (.putfield 33, 3) := by decide +kernel
theorem dX0_begin_88 : decode cX0_begin 88 = .ok (.aload_n 0, 1) := by decide +kernel
theorem dX0_begin_89 : decode cX0_begin 89 = .ok (.iconst 0, 1) := by decide +kernel
theorem dX0_begin_90 : decode cX0_begin 90 = .ok (.putfield 36, 3) := by decide +kernel
theorem dX0_begin_93 : decode cX0_begin 93 = .ok (.iconst 0, 1) := by decide +kernel
theorem dX0_begin_94 : decode cX0_begin 94 = .ok (.istore 4, 2) := by decide +kernel
theorem dX0_begin_96 : decode cX0_begin 96 = .ok (.iload 4, 2) := by decide +kernel
theorem dX0_begin_98 : decode cX0_begin 98 = .ok (.iconst 2, 1) := by decide +kernel
theorem dX0_begin_99 : decode cX0_begin 99 = .ok (.if_icmp .ge 17, 3) := by decide +kernel
theorem dX0_begin_102 : decode cX0_begin 102 = .ok (.aload_n 0, 1) := by decide +kernel
theorem dX0_begin_103 : decode cX0_begin 103 = .ok (.getfield 9, 3) := by decide +kernel
theorem dX0_begin_106 : decode cX0_begin 106 = .ok (.iload 4, 2) := by decide +kernel
theorem dX0_begin_108 : decode cX0_begin 108 = .ok (.iconst 0, 1) := by decide +kernel
theorem dX0_begin_109 : decode cX0_begin 109 = .ok (.iastore, 1) := by decide +kernel
theorem dX0_begin_110 : decode cX0_begin 110 = .ok (.iinc 4 1, 3) := by decide +kernel
theorem dX0_begin_113 : decode cX0_begin 113 = .ok (.goto (-17), 3) := by decide +kernel
theorem dX0_begin_116 : decode cX0_begin 116 = .ok (.iconst 1, 1) := by decide +kernel
theorem dX0_begin_117 : decode cX0_begin 117 = .ok (.ireturn, 1) := by decide +kernel
theorem dX0_take_0 : decode cX0_take 0 = .ok (.iload_n 1, 1) := by decide +kernel
theorem dX0_take_1 : decode cX0_take 1 = .ok (.ifCond .gt 4, 3) := by decide +kernel
theorem dX0_take_4 : decode cX0_take 4 = .ok (.return_, 1) := by decide +kernel
theorem dX0_take_5 : decode cX0_take 5 = .ok (.aload_n 0, 1) := by decide +kernel
theorem dX0_take_6 : decode cX0_take 6 = .ok (.invokevirtual 39, 3) := by decide +kernel
theorem dX0_take_9 : decode cX0_take 9 = .ok (.istore_n 2, 1) := by decide +kernel
theorem dX0_take_10 : decode cX0_take 10 = .ok (.iconst 2, 1) := by decide +kernel
theorem dX0_take_11 : decode cX0_take 11 = .ok (.iload_n 1, 1) := by decide +kernel
theorem dX0_take_12 : decode cX0_take 12 = .ok (.bipush 100, 2) := by decide +kernel
theorem dX0_take_14 : decode cX0_take 14 = .ok (.idiv, 1) := by decide +kernel
theorem dX0_take_15 : decode cX0_take 15 = .ok (.iadd, 1) := by decide +kernel
theorem dX0_take_16 : decode cX0_take 16 = .ok (.istore_n 3, 1) := by decide +kernel
theorem dX0_take_17 : decode cX0_take 17 = .ok (.aload_n 0, 1) := by decide +kernel
theorem dX0_take_18 : decode cX0_take 18 = .ok (.getfield 33, 3) := by decide +kernel
theorem dX0_take_21 : decode cX0_take 21 = .ok (.istore 4, 2) := by decide +kernel
theorem dX0_take_23 : decode cX0_take 23 = .ok (.aload_n 0, 1) := by decide +kernel
theorem dX0_take_24 : decode cX0_take 24 = .ok (.getfield 29, 3) := by decide +kernel
theorem dX0_take_27 : decode cX0_take 27 = .ok (.ifCond .eq 23, 3) := by decide +kernel
theorem dX0_take_30 : decode cX0_take 30 = .ok (.iload 4, 2) := by decide +kernel
theorem dX0_take_32 : decode cX0_take 32 = .ok (.aload_n 0, 1) := by decide +kernel
theorem dX0_take_33 : decode cX0_take 33 = .ok (.getfield 9, 3) := by decide +kernel
theorem dX0_take_36 : decode cX0_take 36 = .ok (.iload_n 2, 1) := by decide +kernel
theorem dX0_take_37 : decode cX0_take 37 = .ok (.iaload, 1) := by decide +kernel
theorem dX0_take_38 : decode cX0_take 38 = .ok (.aload_n 0, 1) := by decide +kernel
theorem dX0_take_39 : decode cX0_take 39 = .ok (.getfield 13, 3) := by decide +kernel
theorem dX0_take_42 : decode cX0_take 42 = .ok (.isub, 1) := by decide +kernel
theorem dX0_take_43 : decode cX0_take 43 = .ok (.iload_n 3, 1) := by decide +kernel
theorem dX0_take_44 : decode cX0_take 44 = .ok (.isub, 1) := by decide +kernel
theorem dX0_take_45 : decode cX0_take 45 = .ok (.invokestatic 43, 3) := by decide +kernel
theorem dX0_take_48 : decode cX0_take 48 = .ok (.istore 4, 2) := by decide +kernel
theorem dX0_take_50 : decode cX0_take 50 = .ok (.aload_n 0, 1) := by decide +kernel
theorem dX0_take_51 : decode cX0_take 51 = .ok (.iload 4, 2) := by decide +kernel
theorem dX0_take_53 : decode cX0_take 53 = .ok (.iload_n 3, 1) := by decide +kernel
theorem dX0_take_54 : decode cX0_take 54 = .ok (.iadd, 1) := by decide +kernel
theorem dX0_take_55 : decode cX0_take 55 = .ok (.putfield 33, 3) := by decide +kernel
theorem dX0_take_58 : decode cX0_take 58 = .ok (.aload_n 0, 1) := by decide +kernel
theorem dX0_take_59 : decode cX0_take 59 = .ok (.getfield 33, 3) := by decide +kernel
theorem dX0_take_62 : decode cX0_take 62 = .ok (.aload_n 0, 1) := by decide +kernel
theorem dX0_take_63 : decode cX0_take 63 = .ok (.getfield 13, 3) := by decide +kernel
theorem dX0_take_66 : decode cX0_take 66 = .ok (.iadd, 1) := by decide +kernel
theorem dX0_take_67 : decode cX0_take 67 = .ok (.istore 5, 2) := by decide +kernel
theorem dX0_take_69 : decode cX0_take 69 = .ok (.iload 5, 2) := by decide +kernel
theorem dX0_take_71 : decode cX0_take 71 = .ok (.aload_n 0, 1) := by decide +kernel
theorem dX0_take_72 : decode cX0_take 72 = .ok (.getfield 9, 3) := by decide +kernel
theorem dX0_take_75 : decode cX0_take 75 = .ok (.iload_n 2, 1) := by decide +kernel
theorem dX0_take_76 : decode cX0_take 76 = .ok (.iaload, 1) := by decide +kernel
theorem dX0_take_77 : decode cX0_take 77 = .ok (.invokestatic 43, 3) := by decide +kernel
theorem dX0_take_80 : decode cX0_take 80 = .ok (.istore 6, 2) := by decide +kernel
theorem dX0_take_82 : decode cX0_take 82 = .ok (.iload 6, 2) := by decide +kernel
theorem dX0_take_84 : decode cX0_take 84 = .ok (.iload 5, 2) := by decide +kernel
theorem dX0_take_86 : decode cX0_take 86 = .ok (.isub, 1) := by decide +kernel
theorem dX0_take_87 : decode cX0_take 87 = .ok (.aload_n 0, 1) := by decide +kernel
theorem dX0_take_88 : decode cX0_take 88 = .ok (.getfield 17, 3) := by decide +kernel
theorem dX0_take_91 : decode cX0_take 91 = .ok (.if_icmp .le 13, 3) := by decide +kernel
theorem dX0_take_94 : decode cX0_take 94 = .ok (.aload_n 0, 1) := by decide +kernel
theorem dX0_take_95 : decode cX0_take 95 = .ok (.dup, 1) := by decide +kernel
theorem dX0_take_96 : decode cX0_take 96 = .ok (.getfield 36, 3) := by decide +kernel
theorem dX0_take_99 : decode cX0_take 99 = .ok (.iconst 1, 1) := by decide +kernel
theorem dX0_take_100 : decode cX0_take 100 = .ok (.iadd, 1) := by decide +kernel
theorem dX0_take_101 : decode cX0_take 101 = .ok (.putfield 36, 3) := by decide +kernel
theorem dX0_take_104 : decode cX0_take 104 = .ok (.aload_n 0, 1) := by decide +kernel
theorem dX0_take_105 : decode cX0_take 105 = .ok (.getfield 9, 3) := by decide +kernel
theorem dX0_take_108 : decode cX0_take 108 = .ok (.iload_n 2, 1) := by decide +kernel
theorem dX0_take_109 : decode cX0_take 109 = .ok (.iload 6, 2) := by decide +kernel
theorem dX0_take_111 : decode cX0_take 111 = .ok (.iconst 5, 1) := by decide +kernel
theorem dX0_take_112 : decode cX0_take 112 = .ok (.iadd, 1) := by decide +kernel
theorem dX0_take_113 : decode cX0_take 113 = .ok (.iload_n 1, 1) := by decide +kernel
theorem dX0_take_114 : decode cX0_take 114 = .ok (.bipush 50, 2) := by decide +kernel
theorem dX0_take_116 : decode cX0_take 116 = .ok (.idiv, 1) := by decide +kernel
theorem dX0_take_117 : decode cX0_take 117 = .ok (.iadd, 1) := by decide +kernel
theorem dX0_take_118 : decode cX0_take 118 = .ok (.iastore, 1) := by decide +kernel
theorem dX0_take_119 : decode cX0_take 119 = .ok (.return_, 1) := by decide +kernel
theorem dX0_lastMinute_0 : decode cX0_lastMinute 0 = .ok (.aload_n 0, 1) := by decide +kernel
theorem dX0_lastMinute_1 : decode cX0_lastMinute 1 = .ok (.getfield 9, 3) := by decide +kernel
theorem dX0_lastMinute_4 : decode cX0_lastMinute 4 = .ok (.iconst 0, 1) := by decide +kernel
theorem dX0_lastMinute_5 : decode cX0_lastMinute 5 = .ok (.iaload, 1) := by decide +kernel
theorem dX0_lastMinute_6 : decode cX0_lastMinute 6 = .ok (.aload_n 0, 1) := by decide +kernel
theorem dX0_lastMinute_7 : decode cX0_lastMinute 7 = .ok (.getfield 9, 3) := by decide +kernel
theorem dX0_lastMinute_10 : decode cX0_lastMinute 10 = .ok (.iconst 1, 1) := by decide +kernel
theorem dX0_lastMinute_11 : decode cX0_lastMinute 11 = .ok (.iaload, 1) := by decide +kernel
theorem dX0_lastMinute_12 : decode cX0_lastMinute 12 = .ok (.invokestatic 43, 3) := by decide +kernel
theorem dX0_lastMinute_15 : decode cX0_lastMinute 15 = .ok (.ireturn, 1) := by decide +kernel
theorem dX0_freeFirst_0 : decode cX0_freeFirst 0 = .ok (.aload_n 0, 1) := by decide +kernel
theorem dX0_freeFirst_1 : decode cX0_freeFirst 1 = .ok (.getfield 26, 3) := by decide +kernel
theorem dX0_freeFirst_4 : decode cX0_freeFirst 4 = .ok (.iconst 2, 1) := by decide +kernel
theorem dX0_freeFirst_5 : decode cX0_freeFirst 5 = .ok (.if_icmp .ne 22, 3) := by decide +kernel
theorem dX0_freeFirst_8 : decode cX0_freeFirst 8 = .ok (.aload_n 0, 1) := by decide +kernel
theorem dX0_freeFirst_9 : decode cX0_freeFirst 9 = .ok (.getfield 9, 3) := by decide +kernel
theorem dX0_freeFirst_12 : decode cX0_freeFirst 12 = .ok (.iconst 1, 1) := by decide +kernel
theorem dX0_freeFirst_13 : decode cX0_freeFirst 13 = .ok (.iaload, 1) := by decide +kernel
theorem dX0_freeFirst_14 : decode cX0_freeFirst 14 = .ok (.aload_n 0, 1) := by decide +kernel
theorem dX0_freeFirst_15 : decode cX0_freeFirst 15 = .ok (.getfield 9, 3) := by decide +kernel
theorem dX0_freeFirst_18 : decode cX0_freeFirst 18 = .ok (.iconst 0, 1) := by decide +kernel
theorem dX0_freeFirst_19 : decode cX0_freeFirst 19 = .ok (.iaload, 1) := by decide +kernel
theorem dX0_freeFirst_20 : decode cX0_freeFirst 20 = .ok (.if_icmp .ge 7, 3) := by decide +kernel
theorem dX0_freeFirst_23 : decode cX0_freeFirst 23 = .ok (.iconst 1, 1) := by decide +kernel
theorem dX0_freeFirst_24 : decode cX0_freeFirst 24 = .ok (.goto 4, 3) := by decide +kernel
theorem dX0_freeFirst_27 : decode cX0_freeFirst 27 = .ok (.iconst 0, 1) := by decide +kernel
theorem dX0_freeFirst_28 : decode cX0_freeFirst 28 = .ok (.ireturn, 1) := by decide +kernel
theorem dX2_lay_0 : decode cX2_lay 0 = .ok (.aload_n 0, 1) := by decide +kernel
theorem dX2_lay_1 : decode cX2_lay 1 = .ok (.aload_n 1, 1) := by decide +kernel
theorem dX2_lay_2 : decode cX2_lay 2 = .ok (.putfield 39, 3) := by decide +kernel
theorem dX2_lay_5 : decode cX2_lay 5 = .ok (.aload_n 0, 1) := by decide +kernel
theorem dX2_lay_6 : decode cX2_lay 6 = .ok (.aload_n 2, 1) := by decide +kernel
theorem dX2_lay_7 : decode cX2_lay 7 = .ok (.putfield 43, 3) := by decide +kernel
theorem dX2_lay_10 : decode cX2_lay 10 = .ok (.aload_n 0, 1) := by decide +kernel
theorem dX2_lay_11 : decode cX2_lay 11 = .ok (.iload_n 3, 1) := by decide +kernel
theorem dX2_lay_12 : decode cX2_lay 12 = .ok (.putfield 47, 3) := by decide +kernel
theorem dX2_lay_15 : decode cX2_lay 15 = .ok (.aload_n 0, 1) := by decide +kernel
theorem dX2_lay_16 : decode cX2_lay 16 = .ok (.iload 4, 2) := by decide +kernel
theorem dX2_lay_18 : decode cX2_lay 18 = .ok (.putfield 51, 3) := by decide +kernel
theorem dX2_lay_21 : decode cX2_lay 21 = .ok (.aload_n 0, 1) := by decide +kernel
theorem dX2_lay_22 : decode cX2_lay 22 = .ok (.iload 5, 2) := by decide +kernel
theorem dX2_lay_24 : decode cX2_lay 24 = .ok (.putfield 54, 3) := by decide +kernel
theorem dX2_lay_27 : decode cX2_lay 27 = .ok (.aload_n 0, 1) := by decide +kernel
theorem dX2_lay_28 : decode cX2_lay 28 = .ok (.sipush 240, 3) := by decide +kernel
theorem dX2_lay_31 : decode cX2_lay 31 = .ok (.aload_n 0, 1) := by decide +kernel
theorem dX2_lay_32 : decode cX2_lay 32 = .ok (.getfield 43, 3) := by decide +kernel
theorem dX2_lay_35 : decode cX2_lay 35 = .ok (.aload_n 0, 1) := by decide +kernel
theorem dX2_lay_36 : decode cX2_lay 36 = .ok (.getfield 39, 3) := by decide +kernel
theorem dX2_lay_39 : decode cX2_lay 39 = .ok (.getfield 57, 3) := by decide +kernel
theorem dX2_lay_42 : decode cX2_lay 42 = .ok (.getfield 63, 3) := by decide +kernel
theorem dX2_lay_45 : decode cX2_lay 45 = .ok (.invokevirtual 68, 3) := by decide +kernel
theorem dX2_lay_48 : decode cX2_lay 48 = .ok (.invokestatic 74, 3) := by decide +kernel
theorem dX2_lay_51 : decode cX2_lay 51 = .ok (.putfield 80, 3) := by decide +kernel
theorem dX2_lay_54 : decode cX2_lay 54 = .ok (.aload_n 0, 1) := by decide +kernel
theorem dX2_lay_55 : decode cX2_lay 55 = .ok (.iconst 0, 1) := by decide +kernel
theorem dX2_lay_56 : decode cX2_lay 56 = .ok (.putfield 83, 3) := by decide +kernel
theorem dX2_lay_59 : decode cX2_lay 59 = .ok (.iconst 0, 1) := by decide +kernel
theorem dX2_lay_60 : decode cX2_lay 60 = .ok (.istore 6, 2) := by decide +kernel
theorem dX2_lay_62 : decode cX2_lay 62 = .ok (.iload 6, 2) := by decide +kernel
theorem dX2_lay_64 : decode cX2_lay 64 = .ok (.aload_n 0, 1) := by decide +kernel
theorem dX2_lay_65 : decode cX2_lay 65 = .ok (.getfield 80, 3) := by decide +kernel
theorem dX2_lay_68 : decode cX2_lay 68 = .ok (.if_icmp .ge 32, 3) := by decide +kernel
theorem dX2_lay_71 : decode cX2_lay 71 = .ok (.aload_n 0, 1) := by decide +kernel
theorem dX2_lay_72 : decode cX2_lay 72 = .ok (.getfield 15, 3) := by decide +kernel
theorem dX2_lay_75 : decode cX2_lay 75 = .ok (.iload 6, 2) := by decide +kernel
theorem dX2_lay_77 : decode cX2_lay 77 = .ok (.aload_n 0, 1) := by decide +kernel
theorem dX2_lay_78 : decode cX2_lay 78 = .ok (.getfield 83, 3) := by decide +kernel
theorem dX2_lay_81 : decode cX2_lay 81 = .ok (.iastore, 1) := by decide +kernel
theorem dX2_lay_82 : decode cX2_lay 82 = .ok (.aload_n 0, 1) := by decide +kernel
theorem dX2_lay_83 : decode cX2_lay 83 = .ok (.iload 6, 2) := by decide +kernel
theorem dX2_lay_85 : decode cX2_lay 85 = .ok (.aload_n 0, 1) := by decide +kernel
theorem dX2_lay_86 : decode cX2_lay 86 = .ok (.iload 6, 2) := by decide +kernel
theorem dX2_lay_88 : decode cX2_lay 88 = .ok (.invokevirtual 86, 3) := by decide +kernel
theorem dX2_lay_91 : decode cX2_lay 91 = .ok (.invokevirtual 89, 3) := by decide +kernel
theorem dX2_lay_94 : decode cX2_lay 94 = .ok (.iinc 6 1, 3) := by decide +kernel
theorem dX2_lay_97 : decode cX2_lay 97 = .ok (.goto (-35), 3) := by decide +kernel
theorem dX2_lay_100 : decode cX2_lay 100 = .ok (.aload_n 0, 1) := by decide +kernel
theorem dX2_lay_101 : decode cX2_lay 101 = .ok (.getfield 15, 3) := by decide +kernel
theorem dX2_lay_104 : decode cX2_lay 104 = .ok (.aload_n 0, 1) := by decide +kernel
theorem dX2_lay_105 : decode cX2_lay 105 = .ok (.getfield 80, 3) := by decide +kernel
theorem dX2_lay_108 : decode cX2_lay 108 = .ok (.aload_n 0, 1) := by decide +kernel
theorem dX2_lay_109 : decode cX2_lay 109 = .ok (.getfield 83, 3) := by decide +kernel
theorem dX2_lay_112 : decode cX2_lay 112 = .ok (.iastore, 1) := by decide +kernel
theorem dX2_lay_113 : decode cX2_lay 113 = .ok (.return_, 1) := by decide +kernel
theorem dX2_beginOf_0 : decode cX2_beginOf 0 = .ok (.aload_n 0, 1) := by decide +kernel
theorem dX2_beginOf_1 : decode cX2_beginOf 1 = .ok (.getfield 47, 3) := by decide +kernel
theorem dX2_beginOf_4 : decode cX2_beginOf 4 = .ok (.iload_n 1, 1) := by decide +kernel
theorem dX2_beginOf_5 : decode cX2_beginOf 5 = .ok (.aload_n 0, 1) := by decide +kernel
theorem dX2_beginOf_6 : decode cX2_beginOf 6 = .ok (.getfield 43, 3) := by decide +kernel
theorem dX2_beginOf_9 : decode cX2_beginOf 9 = .ok (.getfield 93, 3) := by decide +kernel
theorem dX2_beginOf_12 : decode cX2_beginOf 12 = .ok (.imul, 1) := by decide +kernel
theorem dX2_beginOf_13 : decode cX2_beginOf 13 = .ok (.iadd, 1) := by decide +kernel
theorem dX2_beginOf_14 : decode cX2_beginOf 14 = .ok (.aload_n 0, 1) := by decide +kernel
theorem dX2_beginOf_15 : decode cX2_beginOf 15 = .ok (.getfield 39, 3) := by decide +kernel
theorem dX2_beginOf_18 : decode cX2_beginOf 18 = .ok (.getfield 57, 3) := by decide +kernel
theorem dX2_beginOf_21 : decode cX2_beginOf 21 = .ok (.getfield 63, 3) := by decide +kernel
theorem dX2_beginOf_24 : decode cX2_beginOf 24 = .ok (.invokestatic 96, 3) := by decide +kernel
theorem dX2_beginOf_27 : decode cX2_beginOf 27 = .ok (.ireturn, 1) := by decide +kernel
theorem dX2_widthOf_0 : decode cX2_widthOf 0 = .ok (.aload_n 0, 1) := by decide +kernel
theorem dX2_widthOf_1 : decode cX2_widthOf 1 = .ok (.getfield 43, 3) := by decide +kernel
theorem dX2_widthOf_4 : decode cX2_widthOf 4 = .ok (.getfield 93, 3) := by decide +kernel
theorem dX2_widthOf_7 : decode cX2_widthOf 7 = .ok (.aload_n 0, 1) := by decide +kernel
theorem dX2_widthOf_8 : decode cX2_widthOf 8 = .ok (.getfield 39, 3) := by decide +kernel
theorem dX2_widthOf_11 : decode cX2_widthOf 11 = .ok (.getfield 57, 3) := by decide +kernel
theorem dX2_widthOf_14 : decode cX2_widthOf 14 = .ok (.getfield 63, 3) := by decide +kernel
theorem dX2_widthOf_17 : decode cX2_widthOf 17 = .ok (.iload_n 1, 1) := by decide +kernel
theorem dX2_widthOf_18 : decode cX2_widthOf 18 = .ok (.aload_n 0, 1) := by decide +kernel
theorem dX2_widthOf_19 : decode cX2_widthOf 19 = .ok (.getfield 43, 3) := by decide +kernel
theorem dX2_widthOf_22 : decode cX2_widthOf 22 = .ok (.getfield 93, 3) := by decide +kernel
theorem dX2_widthOf_25 : decode cX2_widthOf 25 = .ok (.imul, 1) := by decide +kernel
theorem dX2_widthOf_26 : decode cX2_widthOf 26 = .ok (.isub, 1) := by decide +kernel
theorem dX2_widthOf_27 : decode cX2_widthOf 27 = .ok (.invokestatic 74, 3) := by decide +kernel
theorem dX2_widthOf_30 : decode cX2_widthOf 30 = .ok (.ireturn, 1) := by decide +kernel
theorem dX2_measure_0 : decode cX2_measure 0 = .ok (.aload_n 0, 1) := by decide +kernel
theorem dX2_measure_1 : decode cX2_measure 1 = .ok (.getfield 39, 3) := by decide +kernel
theorem dX2_measure_4 : decode cX2_measure 4 = .ok (.getfield 57, 3) := by decide +kernel
theorem dX2_measure_7 : decode cX2_measure 7 = .ok (.astore_n 2, 1) := by decide +kernel
theorem dX2_measure_8 : decode cX2_measure 8 = .ok (.aload_n 0, 1) := by decide +kernel
theorem dX2_measure_9 : decode cX2_measure 9 = .ok (.iload_n 1, 1) := by decide +kernel
theorem dX2_measure_10 : decode cX2_measure 10 = .ok (.invokevirtual 99, 3) := by decide +kernel
theorem dX2_measure_13 : decode cX2_measure 13 = .ok (.istore_n 3, 1) := by decide +kernel
theorem dX2_measure_14 : decode cX2_measure 14 = .ok (.iload_n 3, 1) := by decide +kernel
theorem dX2_measure_15 : decode cX2_measure 15 = .ok (.aload_n 0, 1) := by decide +kernel
theorem dX2_measure_16 : decode cX2_measure 16 = .ok (.iload_n 1, 1) := by decide +kernel
theorem dX2_measure_17 : decode cX2_measure 17 = .ok (.invokevirtual 102, 3) := by decide +kernel
theorem dX2_measure_20 : decode cX2_measure 20 = .ok (.iadd, 1) := by decide +kernel
theorem dX2_measure_21 : decode cX2_measure 21 = .ok (.istore 4, 2) := by decide +kernel
theorem dX2_measure_23 : decode cX2_measure 23 = .ok (.aload_n 2, 1) := by decide +kernel
theorem dX2_measure_24 : decode cX2_measure 24 = .ok (.iload_n 3, 1) := by decide +kernel
theorem dX2_measure_25 : decode cX2_measure 25 = .ok (.invokevirtual 105, 3) := by decide +kernel
theorem dX2_measure_28 : decode cX2_measure 28 = .ok (.istore 5, 2) := by decide +kernel
theorem dX2_measure_30 : decode cX2_measure 30 = .ok (.iload_n 3, 1) := by decide +kernel
theorem dX2_measure_31 : decode cX2_measure 31 = .ok (.aload_n 2, 1) := by decide +kernel
theorem dX2_measure_32 : decode cX2_measure 32 = .ok (.iload 5, 2) := by decide +kernel
theorem dX2_measure_34 : decode cX2_measure 34 = .ok (.invokevirtual 108, 3) := by decide +kernel
theorem dX2_measure_37 : decode cX2_measure 37 = .ok (.isub, 1) := by decide +kernel
theorem dX2_measure_38 : decode cX2_measure 38 = .ok (.istore 6, 2) := by decide +kernel
theorem dX2_measure_40 : decode cX2_measure 40 = .ok (.iload 4, 2) := by decide +kernel
theorem dX2_measure_42 : decode cX2_measure 42 = .ok (.iconst 1, 1) := by decide +kernel
theorem dX2_measure_43 : decode cX2_measure 43 = .ok (.isub, 1) := by decide +kernel
theorem dX2_measure_44 : decode cX2_measure 44 = .ok (.aload_n 2, 1) := by decide +kernel
theorem dX2_measure_45 : decode cX2_measure 45 = .ok (.getfield 63, 3) := by decide +kernel
theorem dX2_measure_48 : decode cX2_measure 48 = .ok (.invokestatic 96, 3) := by decide +kernel
theorem dX2_measure_51 : decode cX2_measure 51 = .ok (.istore 7, 2) := by decide +kernel
theorem dX2_measure_53 : decode cX2_measure 53 = .ok (.aload_n 2, 1) := by decide +kernel
theorem dX2_measure_54 : decode cX2_measure 54 = .ok (.iload 7, 2) := by decide +kernel
theorem dX2_measure_56 : decode cX2_measure 56 = .ok (.invokevirtual 105, 3) := by decide +kernel
theorem dX2_measure_59 : decode cX2_measure 59 = .ok (.istore 8, 2) := by decide +kernel
theorem dX2_measure_61 : decode cX2_measure 61 = .ok (.iload 7, 2) := by decide +kernel
theorem dX2_measure_63 : decode cX2_measure 63 = .ok (.aload_n 2, 1) := by decide +kernel
theorem dX2_measure_64 : decode cX2_measure 64 = .ok (.iload 8, 2) := by decide +kernel
theorem dX2_measure_66 : decode cX2_measure 66 = .ok (.invokevirtual 108, 3) := by decide +kernel
theorem dX2_measure_69 : decode cX2_measure 69 = .ok (.isub, 1) := by decide +kernel
theorem dX2_measure_70 : decode cX2_measure 70 = .ok (.iconst 1, 1) := by decide +kernel
theorem dX2_measure_71 : decode cX2_measure 71 = .ok (.iadd, 1) := by decide +kernel
theorem dX2_measure_72 : decode cX2_measure 72 = .ok (.istore 9, 2) := by decide +kernel
theorem dX2_measure_74 : decode cX2_measure 74 = .ok (.aload_n 2, 1) := by decide +kernel
theorem dX2_measure_75 : decode cX2_measure 75 = .ok (.iload 5, 2) := by decide +kernel
theorem dX2_measure_77 : decode cX2_measure 77 = .ok (.iload 6, 2) := by decide +kernel
theorem dX2_measure_79 : decode cX2_measure 79 = .ok (.invokevirtual 109, 3) := by decide +kernel
theorem dX2_measure_82 : decode cX2_measure 82 = .ok (.aload_n 2, 1) := by decide +kernel
theorem dX2_measure_83 : decode cX2_measure 83 = .ok (.iload 8, 2) := by decide +kernel
theorem dX2_measure_85 : decode cX2_measure 85 = .ok (.iload 9, 2) := by decide +kernel
theorem dX2_measure_87 : decode cX2_measure 87 = .ok (.invokevirtual 109, 3) := by decide +kernel
theorem dX2_measure_90 : decode cX2_measure 90 = .ok (.invokestatic 112, 3) := by decide +kernel
theorem dX2_measure_93 : decode cX2_measure 93 = .ok (.istore 10, 2) := by decide +kernel
theorem dX2_measure_95 : decode cX2_measure 95 = .ok (.aload_n 0, 1) := by decide +kernel
theorem dX2_measure_96 : decode cX2_measure 96 = .ok (.getfield 11, 3) := by decide +kernel
theorem dX2_measure_99 : decode cX2_measure 99 = .ok (.iload_n 1, 1) := by decide +kernel
theorem dX2_measure_100 : decode cX2_measure 100 = .ok (.iload 10, 2) := by decide +kernel
theorem dX2_measure_102 : decode cX2_measure 102 = .ok (.aload_n 2, 1) := by decide +kernel
theorem dX2_measure_103 : decode cX2_measure 103 = .ok (.iload_n 3, 1) := by decide +kernel
theorem dX2_measure_104 : decode cX2_measure 104 = .ok (.iload 4, 2) := by decide +kernel
theorem dX2_measure_106 : decode cX2_measure 106 = .ok (.invokevirtual 115, 3) := by decide +kernel
theorem dX2_measure_109 : decode cX2_measure 109 = .ok (.invokestatic 112, 3) := by decide +kernel
theorem dX2_measure_112 : decode cX2_measure 112 = .ok (.iastore, 1) := by decide +kernel
theorem dX2_measure_113 : decode cX2_measure 113 = .ok (.iload 5, 2) := by decide +kernel
theorem dX2_measure_115 : decode cX2_measure 115 = .ok (.iload 8, 2) := by decide +kernel
theorem dX2_measure_117 : decode cX2_measure 117 = .ok (.if_icmp .ne 19, 3) := by decide +kernel
theorem dX2_measure_120 : decode cX2_measure 120 = .ok (.aload_n 0, 1) := by decide +kernel
theorem dX2_measure_121 : decode cX2_measure 121 = .ok (.getfield 39, 3) := by decide +kernel
theorem dX2_measure_124 : decode cX2_measure 124 = .ok (.iload 5, 2) := by decide +kernel
theorem dX2_measure_126 : decode cX2_measure 126 = .ok (.iload 6, 2) := by decide +kernel
theorem dX2_measure_128 : decode cX2_measure 128 = .ok (.iload 9, 2) := by decide +kernel
theorem dX2_measure_130 : decode cX2_measure 130 = .ok (.invokevirtual 118, 3) := by decide +kernel
theorem dX2_measure_133 : decode cX2_measure 133 = .ok (.goto 4, 3) := by decide +kernel
theorem dX2_measure_136 : decode cX2_measure 136 = .ok (.iconst (-1), 1) := by decide +kernel
theorem dX2_measure_137 : decode cX2_measure 137 = .ok (.ireturn, 1) := by decide +kernel
theorem dX2_addPieces_0 : decode cX2_addPieces 0 = .ok (.aload_n 0, 1) := by decide +kernel
theorem dX2_addPieces_1 : decode cX2_addPieces 1 = .ok (.getfield 11, 3) := by decide +kernel
theorem dX2_addPieces_4 : decode cX2_addPieces 4 = .ok (.iload_n 1, 1) := by decide +kernel
theorem dX2_addPieces_5 : decode cX2_addPieces 5 = .ok (.iaload, 1) := by decide +kernel
theorem dX2_addPieces_6 : decode cX2_addPieces 6 = .ok (.istore_n 3, 1) := by decide +kernel
theorem dX2_addPieces_7 : decode cX2_addPieces 7 = .ok (.aload_n 0, 1) := by decide +kernel
theorem dX2_addPieces_8 : decode cX2_addPieces 8 = .ok (.getfield 43, 3) := by decide +kernel
theorem dX2_addPieces_11 : decode cX2_addPieces 11 = .ok (.iload_n 1, 1) := by decide +kernel
theorem dX2_addPieces_12 : decode cX2_addPieces 12 = .ok (.aload_n 0, 1) := by decide +kernel
theorem dX2_addPieces_13 : decode cX2_addPieces 13 = .ok (.getfield 51, 3) := by decide +kernel
theorem dX2_addPieces_16 : decode cX2_addPieces 16 = .ok (.invokevirtual 122, 3) := by decide +kernel
theorem dX2_addPieces_19 : decode cX2_addPieces 19 = .ok (.istore 4, 2) := by decide +kernel
theorem dX2_addPieces_21 : decode cX2_addPieces 21 = .ok (.aload_n 0, 1) := by decide +kernel
theorem dX2_addPieces_22 : decode cX2_addPieces 22 = .ok (.iload_n 1, 1) := by decide +kernel
theorem dX2_addPieces_23 : decode cX2_addPieces 23 = .ok (.iload 4, 2) := by decide +kernel
theorem dX2_addPieces_25 : decode cX2_addPieces 25 = .ok (.iconst 0, 1) := by decide +kernel
theorem dX2_addPieces_26 : decode cX2_addPieces 26 = .ok (.iload_n 3, 1) := by decide +kernel
theorem dX2_addPieces_27 : decode cX2_addPieces 27 = .ok (.aload_n 0, 1) := by decide +kernel
theorem dX2_addPieces_28 : decode cX2_addPieces 28 = .ok (.getfield 39, 3) := by decide +kernel
theorem dX2_addPieces_31 : decode cX2_addPieces 31 = .ok (.iload_n 2, 1) := by decide +kernel
theorem dX2_addPieces_32 : decode cX2_addPieces 32 = .ok (.invokevirtual 125, 3) := by decide +kernel
theorem dX2_addPieces_35 : decode cX2_addPieces 35 = .ok (.isub, 1) := by decide +kernel
theorem dX2_addPieces_36 : decode cX2_addPieces 36 = .ok (.invokevirtual 128, 3) := by decide +kernel
theorem dX2_addPieces_39 : decode cX2_addPieces 39 = .ok (.aload_n 0, 1) := by decide +kernel
theorem dX2_addPieces_40 : decode cX2_addPieces 40 = .ok (.getfield 39, 3) := by decide +kernel
theorem dX2_addPieces_43 : decode cX2_addPieces 43 = .ok (.iload_n 2, 1) := by decide +kernel
theorem dX2_addPieces_44 : decode cX2_addPieces 44 = .ok (.invokevirtual 132, 3) := by decide +kernel
theorem dX2_addPieces_47 : decode cX2_addPieces 47 = .ok (.ifCond .eq 21, 3) := by decide +kernel
theorem dX2_addPieces_50 : decode cX2_addPieces 50 = .ok (.aload_n 0, 1) := by decide +kernel
theorem dX2_addPieces_51 : decode cX2_addPieces 51 = .ok (.iload_n 1, 1) := by decide +kernel
theorem dX2_addPieces_52 : decode cX2_addPieces 52 = .ok (.iload 4, 2) := by decide +kernel
theorem dX2_addPieces_54 : decode cX2_addPieces 54 = .ok (.iload_n 3, 1) := by decide +kernel
theorem dX2_addPieces_55 : decode cX2_addPieces 55 = .ok (.aload_n 0, 1) := by decide +kernel
theorem dX2_addPieces_56 : decode cX2_addPieces 56 = .ok (.getfield 39, 3) := by decide +kernel
theorem dX2_addPieces_59 : decode cX2_addPieces 59 = .ok (.iload_n 2, 1) := by decide +kernel
theorem dX2_addPieces_60 : decode cX2_addPieces 60 = .ok (.invokevirtual 136, 3) := by decide +kernel
theorem dX2_addPieces_63 : decode cX2_addPieces 63 = .ok (.isub, 1) := by decide +kernel
theorem dX2_addPieces_64 : decode cX2_addPieces 64 = .ok (.iload_n 3, 1) := by decide +kernel
theorem dX2_addPieces_65 : decode cX2_addPieces 65 = .ok (.invokevirtual 128, 3) := by decide +kernel
theorem dX2_addPieces_68 : decode cX2_addPieces 68 = .ok (.return_, 1) := by decide +kernel
theorem dX2_addPiece_0 : decode cX2_addPiece 0 = .ok (.aload_n 0, 1) := by decide +kernel
theorem dX2_addPiece_1 : decode cX2_addPiece 1 = .ok (.getfield 83, 3) := by decide +kernel
theorem dX2_addPiece_4 : decode cX2_addPiece 4 = .ok (.sipush 480, 3) := by decide +kernel
theorem dX2_addPiece_7 : decode cX2_addPiece 7 = .ok (.if_icmp .lt 4, 3) := by decide +kernel
theorem dX2_addPiece_10 : decode cX2_addPiece 10 = .ok (.return_, 1) := by decide +kernel
theorem dX2_addPiece_11 : decode cX2_addPiece 11 = .ok (.aload_n 0, 1) := by decide +kernel
theorem dX2_addPiece_12 : decode cX2_addPiece 12 = .ok (.getfield 18, 3) := by decide +kernel
theorem dX2_addPiece_15 : decode cX2_addPiece 15 = .ok (.aload_n 0, 1) := by decide +kernel
theorem dX2_addPiece_16 : decode cX2_addPiece 16 = .ok (.getfield 83, 3) := by decide +kernel
theorem dX2_addPiece_19 : decode cX2_addPiece 19 = .ok (.iload_n 1, 1) := by decide +kernel
theorem dX2_addPiece_20 : decode cX2_addPiece 20 = .ok (.iastore, 1) := by decide +kernel
theorem dX2_addPiece_21 : decode cX2_addPiece 21 = .ok (.aload_n 0, 1) := by decide +kernel
theorem dX2_addPiece_22 : decode cX2_addPiece 22 = .ok (.getfield 21, 3) := by decide +kernel
theorem dX2_addPiece_25 : decode cX2_addPiece 25 = .ok (.aload_n 0, 1) := by decide +kernel
theorem dX2_addPiece_26 : decode cX2_addPiece 26 = .ok (.getfield 83, 3) := by decide +kernel
theorem dX2_addPiece_29 : decode cX2_addPiece 29 = .ok (.iload_n 3, 1) := by decide +kernel
theorem dX2_addPiece_30 : decode cX2_addPiece 30 = .ok (.iastore, 1) := by decide +kernel
theorem dX2_addPiece_31 : decode cX2_addPiece 31 = .ok (.aload_n 0, 1) := by decide +kernel
theorem dX2_addPiece_32 : decode cX2_addPiece 32 = .ok (.getfield 24, 3) := by decide +kernel
theorem dX2_addPiece_35 : decode cX2_addPiece 35 = .ok (.aload_n 0, 1) := by decide +kernel
theorem dX2_addPiece_36 : decode cX2_addPiece 36 = .ok (.getfield 83, 3) := by decide +kernel
theorem dX2_addPiece_39 : decode cX2_addPiece 39 = .ok (.iload 4, 2) := by decide +kernel
theorem dX2_addPiece_41 : decode cX2_addPiece 41 = .ok (.iastore, 1) := by decide +kernel
theorem dX2_addPiece_42 : decode cX2_addPiece 42 = .ok (.aload_n 0, 1) := by decide +kernel
theorem dX2_addPiece_43 : decode cX2_addPiece 43 = .ok (.getfield 27, 3) := by decide +kernel
theorem dX2_addPiece_46 : decode cX2_addPiece 46 = .ok (.aload_n 0, 1) := by decide +kernel
theorem dX2_addPiece_47 : decode cX2_addPiece 47 = .ok (.getfield 83, 3) := by decide +kernel
theorem dX2_addPiece_50 : decode cX2_addPiece 50 = .ok (.iload 4, 2) := by decide +kernel
theorem dX2_addPiece_52 : decode cX2_addPiece 52 = .ok (.iload_n 3, 1) := by decide +kernel
theorem dX2_addPiece_53 : decode cX2_addPiece 53 = .ok (.isub, 1) := by decide +kernel
theorem dX2_addPiece_54 : decode cX2_addPiece 54 = .ok (.iconst 2, 1) := by decide +kernel
theorem dX2_addPiece_55 : decode cX2_addPiece 55 = .ok (.aload_n 0, 1) := by decide +kernel
theorem dX2_addPiece_56 : decode cX2_addPiece 56 = .ok (.getfield 54, 3) := by decide +kernel
