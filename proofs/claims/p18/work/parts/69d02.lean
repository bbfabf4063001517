theorem dX1_standsWithin_96 : decode cX1_standsWithin 96 = .ok (.iconst 0, 1) := by decide +kernel
theorem dX1_standsWithin_97 : decode cX1_standsWithin 97 = .ok (.istore 9, 2) := by decide +kernel
theorem dX1_standsWithin_99 : decode cX1_standsWithin 99 = .ok (.iload 9, 2) := by decide +kernel
theorem dX1_standsWithin_101 : decode cX1_standsWithin 101 = .ok (.ifCond .eq 36, 3) := by decide +kernel
theorem dX1_standsWithin_104 : decode cX1_standsWithin 104 = .ok (.aload_n 0, 1) := by decide +kernel
theorem dX1_standsWithin_105 : decode cX1_standsWithin 105 = .ok (.getfield 24, 3) := by decide +kernel
theorem dX1_standsWithin_108 : decode cX1_standsWithin 108 = .ok (.getfield 39, 3) := by decide +kernel
theorem dX1_standsWithin_111 : decode cX1_standsWithin 111 = .ok (.ifCond .le 26, 3) := by decide +kernel
theorem dX1_standsWithin_114 : decode cX1_standsWithin 114 = .ok (.iload 7, 2) := by decide +kernel
theorem dX1_standsWithin_116 : decode cX1_standsWithin 116 = .ok (.aload_n 0, 1) := by decide +kernel
theorem dX1_standsWithin_117 : decode cX1_standsWithin 117 = .ok (.getfield 24, 3) := by decide +kernel
theorem dX1_standsWithin_120 : decode cX1_standsWithin 120 = .ok (.getfield 39, 3) := by decide +kernel
theorem dX1_standsWithin_123 : decode cX1_standsWithin 123 = .ok (.idiv, 1) := by decide +kernel
theorem dX1_standsWithin_124 : decode cX1_standsWithin 124 = .ok (.iconst 1, 1) := by decide +kernel
theorem dX1_standsWithin_125 : decode cX1_standsWithin 125 = .ok (.iand, 1) := by decide +kernel
theorem dX1_standsWithin_126 : decode cX1_standsWithin 126 = .ok (.iload_n 2, 1) := by decide +kernel
theorem dX1_standsWithin_127 : decode cX1_standsWithin 127 = .ok (.if_icmp .ne 10, 3) := by decide +kernel
theorem dX1_standsWithin_130 : decode cX1_standsWithin 130 = .ok (.iload_n 3, 1) := by decide +kernel
theorem dX1_standsWithin_131 : decode cX1_standsWithin 131 = .ok (.iconst 1, 1) := by decide +kernel
theorem dX1_standsWithin_132 : decode cX1_standsWithin 132 = .ok (.iload 4, 2) := by decide +kernel
theorem dX1_standsWithin_134 : decode cX1_standsWithin 134 = .ok (.ishl, 1) := by decide +kernel
theorem dX1_standsWithin_135 : decode cX1_standsWithin 135 = .ok (.ior, 1) := by decide +kernel
theorem dX1_standsWithin_136 : decode cX1_standsWithin 136 = .ok (.istore_n 3, 1) := by decide +kernel
theorem dX1_standsWithin_137 : decode cX1_standsWithin 137 = .ok (.iinc 4 1, 3) := by decide +kernel
theorem dX1_standsWithin_140 : decode cX1_standsWithin 140 = .ok (.goto (-135), 3) := by decide +kernel
theorem dX1_standsWithin_143 : decode cX1_standsWithin 143 = .ok (.iload_n 3, 1) := by decide +kernel
theorem dX1_standsWithin_144 : decode cX1_standsWithin 144 = .ok (.ireturn, 1) := by decide +kernel
theorem dX1_wholeFigures_0 : decode cX1_wholeFigures 0 = .ok (.iconst 0, 1) := by decide +kernel
theorem dX1_wholeFigures_1 : decode cX1_wholeFigures 1 = .ok (.istore_n 2, 1) := by decide +kernel
theorem dX1_wholeFigures_2 : decode cX1_wholeFigures 2 = .ok (.iconst 0, 1) := by decide +kernel
theorem dX1_wholeFigures_3 : decode cX1_wholeFigures 3 = .ok (.istore_n 3, 1) := by decide +kernel
theorem dX1_wholeFigures_4 : decode cX1_wholeFigures 4 = .ok (.iload_n 3, 1) := by decide +kernel
theorem dX1_wholeFigures_5 : decode cX1_wholeFigures 5 = .ok (.aload_n 0, 1) := by decide +kernel
theorem dX1_wholeFigures_6 : decode cX1_wholeFigures 6 = .ok (.getfield 20, 3) := by decide +kernel
theorem dX1_wholeFigures_9 : decode cX1_wholeFigures 9 = .ok (.getfield 90, 3) := by decide +kernel
theorem dX1_wholeFigures_12 : decode cX1_wholeFigures 12 = .ok (.if_icmp .ge 95, 3) := by decide +kernel
theorem dX1_wholeFigures_15 : decode cX1_wholeFigures 15 = .ok (.aload_n 0, 1) := by decide +kernel
theorem dX1_wholeFigures_16 : decode cX1_wholeFigures 16 = .ok (.getfield 20, 3) := by decide +kernel
theorem dX1_wholeFigures_19 : decode cX1_wholeFigures 19 = .ok (.iload_n 3, 1) := by decide +kernel
theorem dX1_wholeFigures_20 : decode cX1_wholeFigures 20 = .ok (.invokevirtual 129, 3) := by decide +kernel
theorem dX1_wholeFigures_23 : decode cX1_wholeFigures 23 = .ok (.istore 4, 2) := by decide +kernel
theorem dX1_wholeFigures_25 : decode cX1_wholeFigures 25 = .ok (.aload_n 0, 1) := by decide +kernel
theorem dX1_wholeFigures_26 : decode cX1_wholeFigures 26 = .ok (.getfield 20, 3) := by decide +kernel
theorem dX1_wholeFigures_29 : decode cX1_wholeFigures 29 = .ok (.getfield 28, 3) := by decide +kernel
theorem dX1_wholeFigures_32 : decode cX1_wholeFigures 32 = .ok (.iload 4, 2) := by decide +kernel
theorem dX1_wholeFigures_34 : decode cX1_wholeFigures 34 = .ok (.invokevirtual 65, 3) := by decide +kernel
theorem dX1_wholeFigures_37 : decode cX1_wholeFigures 37 = .ok (.istore 5, 2) := by decide +kernel
theorem dX1_wholeFigures_39 : decode cX1_wholeFigures 39 = .ok (.iload 4, 2) := by decide +kernel
theorem dX1_wholeFigures_41 : decode cX1_wholeFigures 41 = .ok (.aload_n 0, 1) := by decide +kernel
theorem dX1_wholeFigures_42 : decode cX1_wholeFigures 42 = .ok (.getfield 20, 3) := by decide +kernel
theorem dX1_wholeFigures_45 : decode cX1_wholeFigures 45 = .ok (.getfield 28, 3) := by decide +kernel
theorem dX1_wholeFigures_48 : decode cX1_wholeFigures 48 = .ok (.iload 5, 2) := by decide +kernel
theorem dX1_wholeFigures_50 : decode cX1_wholeFigures 50 = .ok (.invokevirtual 68, 3) := by decide +kernel
theorem dX1_wholeFigures_53 : decode cX1_wholeFigures 53 = .ok (.isub, 1) := by decide +kernel
theorem dX1_wholeFigures_54 : decode cX1_wholeFigures 54 = .ok (.istore 6, 2) := by decide +kernel
theorem dX1_wholeFigures_56 : decode cX1_wholeFigures 56 = .ok (.aload_n 0, 1) := by decide +kernel
theorem dX1_wholeFigures_57 : decode cX1_wholeFigures 57 = .ok (.getfield 24, 3) := by decide +kernel
theorem dX1_wholeFigures_60 : decode cX1_wholeFigures 60 = .ok (.getfield 48, 3) := by decide +kernel
theorem dX1_wholeFigures_63 : decode cX1_wholeFigures 63 = .ok (.iconst 2, 1) := by decide +kernel
theorem dX1_wholeFigures_64 : decode cX1_wholeFigures 64 = .ok (.if_icmp .ne 18, 3) := by decide +kernel
theorem dX1_wholeFigures_67 : decode cX1_wholeFigures 67 = .ok (.aload_n 0, 1) := by decide +kernel
theorem dX1_wholeFigures_68 : decode cX1_wholeFigures 68 = .ok (.iload_n 3, 1) := by decide +kernel
theorem dX1_wholeFigures_69 : decode cX1_wholeFigures 69 = .ok (.iload 5, 2) := by decide +kernel
theorem dX1_wholeFigures_71 : decode cX1_wholeFigures 71 = .ok (.iload 6, 2) := by decide +kernel
theorem dX1_wholeFigures_73 : decode cX1_wholeFigures 73 = .ok (.invokevirtual 137, 3) := by decide +kernel
theorem dX1_wholeFigures_76 : decode cX1_wholeFigures 76 = .ok (.ifCond .eq 25, 3) := by decide +kernel
theorem dX1_wholeFigures_79 : decode cX1_wholeFigures 79 = .ok (.goto 16, 3) := by decide +kernel
theorem dX1_wholeFigures_82 : decode cX1_wholeFigures 82 = .ok (.aload_n 0, 1) := by decide +kernel
theorem dX1_wholeFigures_83 : decode cX1_wholeFigures 83 = .ok (.iload_n 3, 1) := by decide +kernel
theorem dX1_wholeFigures_84 : decode cX1_wholeFigures 84 = .ok (.iload 5, 2) := by decide +kernel
theorem dX1_wholeFigures_86 : decode cX1_wholeFigures 86 = .ok (.iload 6, 2) := by decide +kernel
theorem dX1_wholeFigures_88 : decode cX1_wholeFigures 88 = .ok (.iload_n 1, 1) := by decide +kernel
theorem dX1_wholeFigures_89 : decode cX1_wholeFigures 89 = .ok (.invokevirtual 140, 3) := by decide +kernel
theorem dX1_wholeFigures_92 : decode cX1_wholeFigures 92 = .ok (.ifCond .eq 9, 3) := by decide +kernel
theorem dX1_wholeFigures_95 : decode cX1_wholeFigures 95 = .ok (.iload_n 2, 1) := by decide +kernel
theorem dX1_wholeFigures_96 : decode cX1_wholeFigures 96 = .ok (.iconst 1, 1) := by decide +kernel
theorem dX1_wholeFigures_97 : decode cX1_wholeFigures 97 = .ok (.iload_n 3, 1) := by decide +kernel
theorem dX1_wholeFigures_98 : decode cX1_wholeFigures 98 = .ok (.ishl, 1) := by decide +kernel
theorem dX1_wholeFigures_99 : decode cX1_wholeFigures 99 = .ok (.ior, 1) := by decide +kernel
theorem dX1_wholeFigures_100 : decode cX1_wholeFigures 100 = .ok (.istore_n 2, 1) := by decide +kernel
theorem dX1_wholeFigures_101 : decode cX1_wholeFigures 101 = .ok (.iinc 3 1, 3) := by decide +kernel
theorem dX1_wholeFigures_104 : decode cX1_wholeFigures 104 = .ok (.goto (-100), 3) := by decide +kernel
theorem dX1_wholeFigures_107 : decode cX1_wholeFigures 107 = .ok (.iload_n 2, 1) := by decide +kernel
theorem dX1_wholeFigures_108 : decode cX1_wholeFigures 108 = .ok (.ireturn, 1) := by decide +kernel
theorem dX1_standsClear_0 : decode cX1_standsClear 0 = .ok (.aload_n 0, 1) := by decide +kernel
theorem dX1_standsClear_1 : decode cX1_standsClear 1 = .ok (.getfield 20, 3) := by decide +kernel
theorem dX1_standsClear_4 : decode cX1_standsClear 4 = .ok (.iload_n 1, 1) := by decide +kernel
theorem dX1_standsClear_5 : decode cX1_standsClear 5 = .ok (.invokevirtual 144, 3) := by decide +kernel
theorem dX1_standsClear_8 : decode cX1_standsClear 8 = .ok (.istore 4, 2) := by decide +kernel
theorem dX1_standsClear_10 : decode cX1_standsClear 10 = .ok (.aload_n 0, 1) := by decide +kernel
theorem dX1_standsClear_11 : decode cX1_standsClear 11 = .ok (.getfield 20, 3) := by decide +kernel
theorem dX1_standsClear_14 : decode cX1_standsClear 14 = .ok (.iload_n 2, 1) := by decide +kernel
theorem dX1_standsClear_15 : decode cX1_standsClear 15 = .ok (.iload_n 3, 1) := by decide +kernel
theorem dX1_standsClear_16 : decode cX1_standsClear 16 = .ok (.iload 4, 2) := by decide +kernel
theorem dX1_standsClear_18 : decode cX1_standsClear 18 = .ok (.iconst 1, 1) := by decide +kernel
theorem dX1_standsClear_19 : decode cX1_standsClear 19 = .ok (.isub, 1) := by decide +kernel
theorem dX1_standsClear_20 : decode cX1_standsClear 20 = .ok (.iload 4, 2) := by decide +kernel
theorem dX1_standsClear_22 : decode cX1_standsClear 22 = .ok (.iconst 1, 1) := by decide +kernel
theorem dX1_standsClear_23 : decode cX1_standsClear 23 = .ok (.iadd, 1) := by decide +kernel
theorem dX1_standsClear_24 : decode cX1_standsClear 24 = .ok (.invokevirtual 147, 3) := by decide +kernel
theorem dX1_standsClear_27 : decode cX1_standsClear 27 = .ok (.ifCond .ne 7, 3) := by decide +kernel
theorem dX1_standsClear_30 : decode cX1_standsClear 30 = .ok (.iconst 1, 1) := by decide +kernel
theorem dX1_standsClear_31 : decode cX1_standsClear 31 = .ok (.goto 4, 3) := by decide +kernel
theorem dX1_standsClear_34 : decode cX1_standsClear 34 = .ok (.iconst 0, 1) := by decide +kernel
theorem dX1_standsClear_35 : decode cX1_standsClear 35 = .ok (.ireturn, 1) := by decide +kernel
theorem dX1_figureIsWhole_0 : decode cX1_figureIsWhole 0 = .ok (.aload_n 0, 1) := by decide +kernel
theorem dX1_figureIsWhole_1 : decode cX1_figureIsWhole 1 = .ok (.getfield 20, 3) := by decide +kernel
theorem dX1_figureIsWhole_4 : decode cX1_figureIsWhole 4 = .ok (.getfield 28, 3) := by decide +kernel
theorem dX1_figureIsWhole_7 : decode cX1_figureIsWhole 7 = .ok (.iload_n 2, 1) := by decide +kernel
theorem dX1_figureIsWhole_8 : decode cX1_figureIsWhole 8 = .ok (.iload_n 3, 1) := by decide +kernel
theorem dX1_figureIsWhole_9 : decode cX1_figureIsWhole 9 = .ok (.invokevirtual 75, 3) := by decide +kernel
theorem dX1_figureIsWhole_12 : decode cX1_figureIsWhole 12 = .ok (.istore 5, 2) := by decide +kernel
theorem dX1_figureIsWhole_14 : decode cX1_figureIsWhole 14 = .ok (.iload 5, 2) := by decide +kernel
theorem dX1_figureIsWhole_16 : decode cX1_figureIsWhole 16 = .ok (.aload_n 0, 1) := by decide +kernel
theorem dX1_figureIsWhole_17 : decode cX1_figureIsWhole 17 = .ok (.getfield 20, 3) := by decide +kernel
theorem dX1_figureIsWhole_20 : decode cX1_figureIsWhole 20 = .ok (.iload_n 1, 1) := by decide +kernel
theorem dX1_figureIsWhole_21 : decode cX1_figureIsWhole 21 = .ok (.invokevirtual 144, 3) := by decide +kernel
theorem dX1_figureIsWhole_24 : decode cX1_figureIsWhole 24 = .ok (.isub, 1) := by decide +kernel
theorem dX1_figureIsWhole_25 : decode cX1_figureIsWhole 25 = .ok (.istore 6, 2) := by decide +kernel
theorem dX1_figureIsWhole_27 : decode cX1_figureIsWhole 27 = .ok (.iload 6, 2) := by decide +kernel
theorem dX1_figureIsWhole_29 : decode cX1_figureIsWhole 29 = .ok (.iload 4, 2) := by decide +kernel
theorem dX1_figureIsWhole_31 : decode cX1_figureIsWhole 31 = .ok (.iadd, 1) := by decide +kernel
theorem dX1_figureIsWhole_32 : decode cX1_figureIsWhole 32 = .ok (.aload_n 0, 1) := by decide +kernel
theorem dX1_figureIsWhole_33 : decode cX1_figureIsWhole 33 = .ok (.getfield 24, 3) := by decide +kernel
theorem dX1_figureIsWhole_36 : decode cX1_figureIsWhole 36 = .ok (.getfield 150, 3) := by decide +kernel
theorem dX1_figureIsWhole_39 : decode cX1_figureIsWhole 39 = .ok (.isub, 1) := by decide +kernel
theorem dX1_figureIsWhole_40 : decode cX1_figureIsWhole 40 = .ok (.aload_n 0, 1) := by decide +kernel
theorem dX1_figureIsWhole_41 : decode cX1_figureIsWhole 41 = .ok (.getfield 24, 3) := by decide +kernel
theorem dX1_figureIsWhole_44 : decode cX1_figureIsWhole 44 = .ok (.getfield 59, 3) := by decide +kernel
theorem dX1_figureIsWhole_47 : decode cX1_figureIsWhole 47 = .ok (.invokestatic 44, 3) := by decide +kernel
theorem dX1_figureIsWhole_50 : decode cX1_figureIsWhole 50 = .ok (.istore 7, 2) := by decide +kernel
theorem dX1_figureIsWhole_52 : decode cX1_figureIsWhole 52 = .ok (.iload 6, 2) := by decide +kernel
theorem dX1_figureIsWhole_54 : decode cX1_figureIsWhole 54 = .ok (.iload 7, 2) := by decide +kernel
theorem dX1_figureIsWhole_56 : decode cX1_figureIsWhole 56 = .ok (.isub, 1) := by decide +kernel
theorem dX1_figureIsWhole_57 : decode cX1_figureIsWhole 57 = .ok (.istore 8, 2) := by decide +kernel
theorem dX1_figureIsWhole_59 : decode cX1_figureIsWhole 59 = .ok (.iload 8, 2) := by decide +kernel
theorem dX1_figureIsWhole_61 : decode cX1_figureIsWhole 61 = .ok (.aload_n 0, 1) := by decide +kernel
theorem dX1_figureIsWhole_62 : decode cX1_figureIsWhole 62 = .ok (.getfield 24, 3) := by decide +kernel
theorem dX1_figureIsWhole_65 : decode cX1_figureIsWhole 65 = .ok (.getfield 153, 3) := by decide +kernel
theorem dX1_figureIsWhole_68 : decode cX1_figureIsWhole 68 = .ok (.iadd, 1) := by decide +kernel
theorem dX1_figureIsWhole_69 : decode cX1_figureIsWhole 69 = .ok (.istore 9, 2) := by decide +kernel
theorem dX1_figureIsWhole_71 : decode cX1_figureIsWhole 71 = .ok (.iload 6, 2) := by decide +kernel
theorem dX1_figureIsWhole_73 : decode cX1_figureIsWhole 73 = .ok (.ifCond .lt 27, 3) := by decide +kernel
theorem dX1_figureIsWhole_76 : decode cX1_figureIsWhole 76 = .ok (.iload 7, 2) := by decide +kernel
theorem dX1_figureIsWhole_78 : decode cX1_figureIsWhole 78 = .ok (.aload_n 0, 1) := by decide +kernel
theorem dX1_figureIsWhole_79 : decode cX1_figureIsWhole 79 = .ok (.getfield 24, 3) := by decide +kernel
theorem dX1_figureIsWhole_82 : decode cX1_figureIsWhole 82 = .ok (.getfield 153, 3) := by decide +kernel
theorem dX1_figureIsWhole_85 : decode cX1_figureIsWhole 85 = .ok (.if_icmp .ge 15, 3) := by decide +kernel
theorem dX1_figureIsWhole_88 : decode cX1_figureIsWhole 88 = .ok (.iload 8, 2) := by decide +kernel
theorem dX1_figureIsWhole_90 : decode cX1_figureIsWhole 90 = .ok (.ifCond .lt 10, 3) := by decide +kernel
theorem dX1_figureIsWhole_93 : decode cX1_figureIsWhole 93 = .ok (.iload 9, 2) := by decide +kernel
theorem dX1_figureIsWhole_95 : decode cX1_figureIsWhole 95 = .ok (.iload 5, 2) := by decide +kernel
theorem dX1_figureIsWhole_97 : decode cX1_figureIsWhole 97 = .ok (.if_icmp .le 5, 3) := by decide +kernel
theorem dX1_figureIsWhole_100 : decode cX1_figureIsWhole 100 = .ok (.iconst 0, 1) := by decide +kernel
theorem dX1_figureIsWhole_101 : decode cX1_figureIsWhole 101 = .ok (.ireturn, 1) := by decide +kernel
theorem dX1_figureIsWhole_102 : decode cX1_figureIsWhole 102 = .ok (.aload_n 0, 1) := by decide +kernel
theorem dX1_figureIsWhole_103 : decode cX1_figureIsWhole 103 = .ok (.getfield 20, 3) := by decide +kernel
theorem dX1_figureIsWhole_106 : decode cX1_figureIsWhole 106 = .ok (.iload_n 2, 1) := by decide +kernel
theorem dX1_figureIsWhole_107 : decode cX1_figureIsWhole 107 = .ok (.iload_n 3, 1) := by decide +kernel
theorem dX1_figureIsWhole_108 : decode cX1_figureIsWhole 108 = .ok (.iload 5, 2) := by decide +kernel
theorem dX1_figureIsWhole_110 : decode cX1_figureIsWhole 110 = .ok (.iload 9, 2) := by decide +kernel
theorem dX1_figureIsWhole_112 : decode cX1_figureIsWhole 112 = .ok (.isub, 1) := by decide +kernel
theorem dX1_figureIsWhole_113 : decode cX1_figureIsWhole 113 = .ok (.iload 5, 2) := by decide +kernel
theorem dX1_figureIsWhole_115 : decode cX1_figureIsWhole 115 = .ok (.iload 8, 2) := by decide +kernel
theorem dX1_figureIsWhole_117 : decode cX1_figureIsWhole 117 = .ok (.isub, 1) := by decide +kernel
theorem dX1_figureIsWhole_118 : decode cX1_figureIsWhole 118 = .ok (.invokevirtual 147, 3) := by decide +kernel
theorem dX1_figureIsWhole_121 : decode cX1_figureIsWhole 121 = .ok (.ifCond .ne 7, 3) := by decide +kernel
theorem dX1_figureIsWhole_124 : decode cX1_figureIsWhole 124 = .ok (.iconst 1, 1) := by decide +kernel
theorem dX1_figureIsWhole_125 : decode cX1_figureIsWhole 125 = .ok (.goto 4, 3) := by decide +kernel
theorem dX1_figureIsWhole_128 : decode cX1_figureIsWhole 128 = .ok (.iconst 0, 1) := by decide +kernel
theorem dX1_figureIsWhole_129 : decode cX1_figureIsWhole 129 = .ok (.ireturn, 1) := by decide +kernel
theorem dX7_begin_0 : decode cX7_begin 0 = .ok (.aload_n 0, 1) := by decide +kernel
theorem dX7_begin_1 : decode cX7_begin 1 = .ok (.aload_n 1, 1) := by decide +kernel
theorem dX7_begin_2 : decode cX7_begin 2 = .ok (.putfield 44, 3) := by decide +kernel
theorem dX7_begin_5 : decode cX7_begin 5 = .ok (.aload_n 0, 1) := by decide +kernel
theorem dX7_begin_6 : decode cX7_begin 6 = .ok (.iload_n 2, 1) := by decide +kernel
theorem dX7_begin_7 : decode cX7_begin 7 = .ok (.putfield 48, 3) := by decide +kernel
theorem dX7_begin_10 : decode cX7_begin 10 = .ok (.aload_n 0, 1) := by decide +kernel
theorem dX7_begin_11 : decode cX7_begin 11 = .ok (.bipush 8, 2) := by decide +kernel
theorem dX7_begin_13 : decode cX7_begin 13 = .ok (.aload_n 0, 1) := by decide +kernel
theorem dX7_begin_14 : decode cX7_begin 14 = .ok (.getfield 44, 3) := by decide +kernel
theorem dX7_begin_17 : decode cX7_begin 17 = .ok (.getfield 51, 3) := by decide +kernel
theorem dX7_begin_20 : decode cX7_begin 20 = .ok (.getfield 57, 3) := by decide +kernel
theorem dX7_begin_23 : decode cX7_begin 23 = .ok (.invokestatic 60, 3) := by decide +kernel
theorem dX7_begin_26 : decode cX7_begin 26 = .ok (.putfield 66, 3) := by decide +kernel
theorem dX7_begin_29 : decode cX7_begin 29 = .ok (.iconst 0, 1) := by decide +kernel
theorem dX7_begin_30 : decode cX7_begin 30 = .ok (.istore_n 3, 1) := by decide +kernel
theorem dX7_begin_31 : decode cX7_begin 31 = .ok (.iload_n 3, 1) := by decide +kernel
theorem dX7_begin_32 : decode cX7_begin 32 = .ok (.aload_n 0, 1) := by decide +kernel
theorem dX7_begin_33 : decode cX7_begin 33 = .ok (.getfield 66, 3) := by decide +kernel
theorem dX7_begin_36 : decode cX7_begin 36 = .ok (.if_icmp .ge 23, 3) := by decide +kernel
theorem dX7_begin_39 : decode cX7_begin 39 = .ok (.aload_n 0, 1) := by decide +kernel
theorem dX7_begin_40 : decode cX7_begin 40 = .ok (.getfield 23, 3) := by decide +kernel
theorem dX7_begin_43 : decode cX7_begin 43 = .ok (.iload_n 3, 1) := by decide +kernel
theorem dX7_begin_44 : decode cX7_begin 44 = .ok (.aload_n 0, 1) := by decide +kernel
theorem dX7_begin_45 : decode cX7_begin 45 = .ok (.getfield 44, 3) := by decide +kernel
theorem dX7_begin_48 : decode cX7_begin 48 = .ok (.iload_n 3, 1) := by decide +kernel
theorem dX7_begin_49 : decode cX7_begin 49 = .ok (.invokevirtual 67, 3) := by decide +kernel
theorem dX7_begin_52 : decode cX7_begin 52 = .ok (.bastore, 1) := by decide +kernel
theorem dX7_begin_53 : decode cX7_begin 53 = .ok (.iinc 3 1, 3) := by decide +kernel
theorem dX7_begin_56 : decode cX7_begin 56 = .ok (.goto (-25), 3) := by decide +kernel
theorem dX7_begin_59 : decode cX7_begin 59 = .ok (.return_, 1) := by decide +kernel
theorem dX7_share_0 : decode cX7_share 0 = .ok (.aload_n 0, 1) := by decide +kernel
theorem dX7_share_1 : decode cX7_share 1 = .ok (.sipush 1000, 3) := by decide +kernel
theorem dX7_share_4 : decode cX7_share 4 = .ok (.putfield 71, 3) := by decide +kernel
theorem dX7_share_7 : decode cX7_share 7 = .ok (.aload_n 0, 1) := by decide +kernel
theorem dX7_share_8 : decode cX7_share 8 = .ok (.iconst 0, 1) := by decide +kernel
theorem dX7_share_9 : decode cX7_share 9 = .ok (.iconst 0, 1) := by decide +kernel
theorem dX7_share_10 : decode cX7_share 10 = .ok (.invokevirtual 74, 3) := by decide +kernel
theorem dX7_share_13 : decode cX7_share 13 = .ok (.aload_n 0, 1) := by decide +kernel
theorem dX7_share_14 : decode cX7_share 14 = .ok (.getfield 71, 3) := by decide +kernel
theorem dX7_share_17 : decode cX7_share 17 = .ok (.sipush 1000, 3) := by decide +kernel
theorem dX7_share_20 : decode cX7_share 20 = .ok (.if_icmp .eq 7, 3) := by decide +kernel
theorem dX7_share_23 : decode cX7_share 23 = .ok (.iconst 1, 1) := by decide +kernel
theorem dX7_share_24 : decode cX7_share 24 = .ok (.goto 4, 3) := by decide +kernel
theorem dX7_share_27 : decode cX7_share 27 = .ok (.iconst 0, 1) := by decide +kernel
theorem dX7_share_28 : decode cX7_share 28 = .ok (.ireturn, 1) := by decide +kernel
theorem dX7_choose_0 : decode cX7_choose 0 = .ok (.iload_n 2, 1) := by decide +kernel
theorem dX7_choose_1 : decode cX7_choose 1 = .ok (.aload_n 0, 1) := by decide +kernel
theorem dX7_choose_2 : decode cX7_choose 2 = .ok (.getfield 71, 3) := by decide +kernel
theorem dX7_choose_5 : decode cX7_choose 5 = .ok (.if_icmp .lt 4, 3) := by decide +kernel
theorem dX7_choose_8 : decode cX7_choose 8 = .ok (.return_, 1) := by decide +kernel
theorem dX7_choose_9 : decode cX7_choose 9 = .ok (.iload_n 1, 1) := by decide +kernel
theorem dX7_choose_10 : decode cX7_choose 10 = .ok (.aload_n 0, 1) := by decide +kernel
theorem dX7_choose_11 : decode cX7_choose 11 = .ok (.getfield 66, 3) := by decide +kernel
theorem dX7_choose_14 : decode cX7_choose 14 = .ok (.if_icmp .lt 9, 3) := by decide +kernel
theorem dX7_choose_17 : decode cX7_choose 17 = .ok (.aload_n 0, 1) := by decide +kernel
theorem dX7_choose_18 : decode cX7_choose 18 = .ok (.iload_n 2, 1) := by decide +kernel
theorem dX7_choose_19 : decode cX7_choose 19 = .ok (.invokevirtual 78, 3) := by decide +kernel
theorem dX7_choose_22 : decode cX7_choose 22 = .ok (.return_, 1) := by decide +kernel
theorem dX7_choose_23 : decode cX7_choose 23 = .ok (.iconst 0, 1) := by decide +kernel
theorem dX7_choose_24 : decode cX7_choose 24 = .ok (.istore_n 3, 1) := by decide +kernel
theorem dX7_choose_25 : decode cX7_choose 25 = .ok (.iload_n 3, 1) := by decide +kernel
theorem dX7_choose_26 : decode cX7_choose 26 = .ok (.aload_n 0, 1) := by decide +kernel
theorem dX7_choose_27 : decode cX7_choose 27 = .ok (.getfield 36, 3) := by decide +kernel
theorem dX7_choose_30 : decode cX7_choose 30 = .ok (.if_icmp .ge 106, 3) := by decide +kernel
theorem dX7_choose_33 : decode cX7_choose 33 = .ok (.aload_n 0, 1) := by decide +kernel
theorem dX7_choose_34 : decode cX7_choose 34 = .ok (.getfield 11, 3) := by decide +kernel
theorem dX7_choose_37 : decode cX7_choose 37 = .ok (.iload_n 3, 1) := by decide +kernel
theorem dX7_choose_38 : decode cX7_choose 38 = .ok (.iaload, 1) := by decide +kernel
theorem dX7_choose_39 : decode cX7_choose 39 = .ok (.aload_n 0, 1) := by decide +kernel
theorem dX7_choose_40 : decode cX7_choose 40 = .ok (.getfield 48, 3) := by decide +kernel
theorem dX7_choose_43 : decode cX7_choose 43 = .ok (.if_icmp .ne 87, 3) := by decide +kernel
theorem dX7_choose_46 : decode cX7_choose 46 = .ok (.aload_n 0, 1) := by decide +kernel
theorem dX7_choose_47 : decode cX7_choose 47 = .ok (.getfield 27, 3) := by decide +kernel
theorem dX7_choose_50 : decode cX7_choose 50 = .ok (.iload_n 3, 1) := by decide +kernel
theorem dX7_choose_51 : decode cX7_choose 51 = .ok (.iaload, 1) := by decide +kernel
theorem dX7_choose_52 : decode cX7_choose 52 = .ok (.aload_n 0, 1) := by decide +kernel
theorem dX7_choose_53 : decode cX7_choose 53 = .ok (.getfield 20, 3) := by decide +kernel
theorem dX7_choose_56 : decode cX7_choose 56 = .ok (.iload_n 1, 1) := by decide +kernel
theorem dX7_choose_57 : decode cX7_choose 57 = .ok (.iaload, 1) := by decide +kernel
theorem dX7_choose_58 : decode cX7_choose 58 = .ok (.iadd, 1) := by decide +kernel
theorem dX7_choose_59 : decode cX7_choose 59 = .ok (.aload_n 0, 1) := by decide +kernel
theorem dX7_choose_60 : decode cX7_choose 60 = .ok (.getfield 15, 3) := by decide +kernel
theorem dX7_choose_63 : decode cX7_choose 63 = .ok (.iload_n 3, 1) := by decide +kernel
theorem dX7_choose_64 : decode cX7_choose 64 = .ok (.iaload, 1) := by decide +kernel
theorem dX7_choose_65 : decode cX7_choose 65 = .ok (.if_icmp .gt 65, 3) := by decide +kernel
theorem dX7_choose_68 : decode cX7_choose 68 = .ok (.aload_n 0, 1) := by decide +kernel
theorem dX7_choose_69 : decode cX7_choose 69 = .ok (.getfield 30, 3) := by decide +kernel
theorem dX7_choose_72 : decode cX7_choose 72 = .ok (.iload_n 1, 1) := by decide +kernel
theorem dX7_choose_73 : decode cX7_choose 73 = .ok (.iload_n 3, 1) := by decide +kernel
theorem dX7_choose_74 : decode cX7_choose 74 = .ok (.iastore, 1) := by decide +kernel
theorem dX7_choose_75 : decode cX7_choose 75 = .ok (.aload_n 0, 1) := by decide +kernel
theorem dX7_choose_76 : decode cX7_choose 76 = .ok (.getfield 27, 3) := by decide +kernel
theorem dX7_choose_79 : decode cX7_choose 79 = .ok (.iload_n 3, 1) := by decide +kernel
theorem dX7_choose_80 : decode cX7_choose 80 = .ok (.dup2, 1) := by decide +kernel
theorem dX7_choose_81 : decode cX7_choose 81 = .ok (.iaload, 1) := by decide +kernel
theorem dX7_choose_82 : decode cX7_choose 82 = .ok (.aload_n 0, 1) := by decide +kernel
theorem dX7_choose_83 : decode cX7_choose 83 = .ok (.getfield 20, 3) := by decide +kernel
theorem dX7_choose_86 : decode cX7_choose 86 = .ok (.iload_n 1, 1) := by decide +kernel
theorem dX7_choose_87 : decode cX7_choose 87 = .ok (.iaload, 1) := by decide +kernel
theorem dX7_choose_88 : decode cX7_choose 88 = .ok (.iadd, 1) := by decide +kernel
theorem dX7_choose_89 : decode cX7_choose 89 = .ok (.iastore, 1) := by decide +kernel
theorem dX7_choose_90 : decode cX7_choose 90 = .ok (.aload_n 0, 1) := by decide +kernel
theorem dX7_choose_91 : decode cX7_choose 91 = .ok (.iload_n 1, 1) := by decide +kernel
theorem dX7_choose_92 : decode cX7_choose 92 = .ok (.iconst 1, 1) := by decide +kernel
theorem dX7_choose_93 : decode cX7_choose 93 = .ok (.iadd, 1) := by decide +kernel
theorem dX7_choose_94 : decode cX7_choose 94 = .ok (.iload_n 1, 1) := by decide +kernel
theorem dX7_choose_95 : decode cX7_choose 95 = .ok (.ifCond .ne 7, 3) := by decide +kernel
theorem dX7_choose_98 : decode cX7_choose 98 = .ok (.iload_n 2, 1) := by decide +kernel
theorem dX7_choose_99 : decode cX7_choose 99 = .ok (.goto 13, 3) := by decide +kernel
theorem dX7_choose_102 : decode cX7_choose 102 = .ok (.iload_n 2, 1) := by decide +kernel
theorem dX7_choose_103 : decode cX7_choose 103 = .ok (.aload_n 0, 1) := by decide +kernel
theorem dX7_choose_104 : decode cX7_choose 104 = .ok (.iload_n 1, 1) := by decide +kernel
theorem dX7_choose_105 : decode cX7_choose 105 = .ok (.iconst 1, 1) := by decide +kernel
theorem dX7_choose_106 : decode cX7_choose 106 = .ok (.isub, 1) := by decide +kernel
theorem dX7_choose_107 : decode cX7_choose 107 = .ok (.iload_n 1, 1) := by decide +kernel
theorem dX7_choose_108 : decode cX7_choose 108 = .ok (.invokevirtual 82, 3) := by decide +kernel
theorem dX7_choose_111 : decode cX7_choose 111 = .ok (.iadd, 1) := by decide +kernel
theorem dX7_choose_112 : decode cX7_choose 112 = .ok (.invokevirtual 74, 3) := by decide +kernel
theorem dX7_choose_115 : decode cX7_choose 115 = .ok (.aload_n 0, 1) := by decide +kernel
theorem dX7_choose_116 : decode cX7_choose 116 = .ok (.getfield 27, 3) := by decide +kernel
theorem dX7_choose_119 : decode cX7_choose 119 = .ok (.iload_n 3, 1) := by decide +kernel
theorem dX7_choose_120 : decode cX7_choose 120 = .ok (.dup2, 1) := by decide +kernel
theorem dX7_choose_121 : decode cX7_choose 121 = .ok (.iaload, 1) := by decide +kernel
theorem dX7_choose_122 : decode cX7_choose 122 = .ok (.aload_n 0, 1) := by decide +kernel
theorem dX7_choose_123 : decode cX7_choose 123 = .ok (.getfield 20, 3) := by decide +kernel
theorem dX7_choose_126 : decode cX7_choose 126 = .ok (.iload_n 1, 1) := by decide +kernel
theorem dX7_choose_127 : decode cX7_choose 127 = .ok (.iaload, 1) := by decide +kernel
theorem dX7_choose_128 : decode cX7_choose 128 = .ok (.isub, 1) := by decide +kernel
theorem dX7_choose_129 : decode cX7_choose 129 = .ok (.iastore, 1) := by decide +kernel
theorem dX7_choose_130 : decode cX7_choose 130 = .ok (.iinc 3 1, 3) := by decide +kernel
theorem dX7_choose_133 : decode cX7_choose 133 = .ok (.goto (-108), 3) := by decide +kernel
theorem dX7_choose_136 : decode cX7_choose 136 = .ok (.return_, 1) := by decide +kernel
theorem dX7_pick_0 : decode cX7_pick 0 = .ok (.iload_n 1, 1) := by decide +kernel
theorem dX7_pick_1 : decode cX7_pick 1 = .ok (.aload_n 0, 1) := by decide +kernel
theorem dX7_pick_2 : decode cX7_pick 2 = .ok (.aload_n 0, 1) := by decide +kernel
theorem dX7_pick_3 : decode cX7_pick 3 = .ok (.getfield 66, 3) := by decide +kernel
theorem dX7_pick_6 : decode cX7_pick 6 = .ok (.iconst 1, 1) := by decide +kernel
theorem dX7_pick_7 : decode cX7_pick 7 = .ok (.isub, 1) := by decide +kernel
theorem dX7_pick_8 : decode cX7_pick 8 = .ok (.iconst 0, 1) := by decide +kernel
theorem dX7_pick_9 : decode cX7_pick 9 = .ok (.invokevirtual 82, 3) := by decide +kernel
theorem dX7_pick_12 : decode cX7_pick 12 = .ok (.iadd, 1) := by decide +kernel
theorem dX7_pick_13 : decode cX7_pick 13 = .ok (.istore_n 2, 1) := by decide +kernel
theorem dX7_pick_14 : decode cX7_pick 14 = .ok (.iload_n 2, 1) := by decide +kernel
theorem dX7_pick_15 : decode cX7_pick 15 = .ok (.aload_n 0, 1) := by decide +kernel
theorem dX7_pick_16 : decode cX7_pick 16 = .ok (.getfield 71, 3) := by decide +kernel
theorem dX7_pick_19 : decode cX7_pick 19 = .ok (.if_icmp .lt 4, 3) := by decide +kernel
theorem dX7_pick_22 : decode cX7_pick 22 = .ok (.return_, 1) := by decide +kernel
theorem dX7_pick_23 : decode cX7_pick 23 = .ok (.aload_n 0, 1) := by decide +kernel
theorem dX7_pick_24 : decode cX7_pick 24 = .ok (.iload_n 2, 1) := by decide +kernel
theorem dX7_pick_25 : decode cX7_pick 25 = .ok (.putfield 71, 3) := by decide +kernel
theorem dX7_pick_28 : decode cX7_pick 28 = .ok (.iconst 0, 1) := by decide +kernel
theorem dX7_pick_29 : decode cX7_pick 29 = .ok (.istore_n 3, 1) := by decide +kernel
theorem dX7_pick_30 : decode cX7_pick 30 = .ok (.iload_n 3, 1) := by decide +kernel
theorem dX7_pick_31 : decode cX7_pick 31 = .ok (.aload_n 0, 1) := by decide +kernel
theorem dX7_pick_32 : decode cX7_pick 32 = .ok (.getfield 66, 3) := by decide +kernel
theorem dX7_pick_35 : decode cX7_pick 35 = .ok (.if_icmp .ge 21, 3) := by decide +kernel
theorem dX7_pick_38 : decode cX7_pick 38 = .ok (.aload_n 0, 1) := by decide +kernel
theorem dX7_pick_39 : decode cX7_pick 39 = .ok (.getfield 33, 3) := by decide +kernel
theorem dX7_pick_42 : decode cX7_pick 42 = .ok (.iload_n 3, 1) := by decide +kernel
theorem dX7_pick_43 : decode cX7_pick 43 = .ok (.aload_n 0, 1) := by decide +kernel
theorem dX7_pick_44 : decode cX7_pick 44 = .ok (.getfield 30, 3) := by decide +kernel
theorem dX7_pick_47 : decode cX7_pick 47 = .ok (.iload_n 3, 1) := by decide +kernel
theorem dX7_pick_48 : decode cX7_pick 48 = .ok (.iaload, 1) := by decide +kernel
theorem dX7_pick_49 : decode cX7_pick 49 = .ok (.iastore, 1) := by decide +kernel
theorem dX7_pick_50 : decode cX7_pick 50 = .ok (.iinc 3 1, 3) := by decide +kernel
theorem dX7_pick_53 : decode cX7_pick 53 = .ok (.goto (-23), 3) := by decide +kernel
theorem dX7_pick_56 : decode cX7_pick 56 = .ok (.return_, 1) := by decide +kernel
theorem dX7_seenBetween_0 : decode cX7_seenBetween 0 = .ok (.iconst 0, 1) := by decide +kernel
theorem dX7_seenBetween_1 : decode cX7_seenBetween 1 = .ok (.iload_n 1, 1) := by decide +kernel
theorem dX7_seenBetween_2 : decode cX7_seenBetween 2 = .ok (.aload_n 0, 1) := by decide +kernel
theorem dX7_seenBetween_3 : decode cX7_seenBetween 3 = .ok (.getfield 66, 3) := by decide +kernel
theorem dX7_seenBetween_6 : decode cX7_seenBetween 6 = .ok (.iconst 1, 1) := by decide +kernel
theorem dX7_seenBetween_7 : decode cX7_seenBetween 7 = .ok (.isub, 1) := by decide +kernel
theorem dX7_seenBetween_8 : decode cX7_seenBetween 8 = .ok (.invokestatic 40, 3) := by decide +kernel
theorem dX7_seenBetween_11 : decode cX7_seenBetween 11 = .ok (.ifCond .eq 17, 3) := by decide +kernel
theorem dX7_seenBetween_14 : decode cX7_seenBetween 14 = .ok (.iconst 0, 1) := by decide +kernel
theorem dX7_seenBetween_15 : decode cX7_seenBetween 15 = .ok (.iload_n 2, 1) := by decide +kernel
theorem dX7_seenBetween_16 : decode cX7_seenBetween 16 = .ok (.aload_n 0, 1) := by decide +kernel
theorem dX7_seenBetween_17 : decode cX7_seenBetween 17 = .ok (.getfield 66, 3) := by decide +kernel
theorem dX7_seenBetween_20 : decode cX7_seenBetween 20 = .ok (.iconst 1, 1) := by decide +kernel
theorem dX7_seenBetween_21 : decode cX7_seenBetween 21 = .ok (.isub, 1) := by decide +kernel
theorem dX7_seenBetween_22 : decode cX7_seenBetween 22 = .ok (.invokestatic 40, 3) := by decide +kernel
theorem dX7_seenBetween_25 : decode cX7_seenBetween 25 = .ok (.ifCond .ne 5, 3) := by decide +kernel
theorem dX7_seenBetween_28 : decode cX7_seenBetween 28 = .ok (.iconst 0, 1) := by decide +kernel
theorem dX7_seenBetween_29 : decode cX7_seenBetween 29 = .ok (.ireturn, 1) := by decide +kernel
theorem dX7_seenBetween_30 : decode cX7_seenBetween 30 = .ok (.aload_n 0, 1) := by decide +kernel
theorem dX7_seenBetween_31 : decode cX7_seenBetween 31 = .ok (.getfield 23, 3) := by decide +kernel
theorem dX7_seenBetween_34 : decode cX7_seenBetween 34 = .ok (.iload_n 1, 1) := by decide +kernel
theorem dX7_seenBetween_35 : decode cX7_seenBetween 35 = .ok (.baload, 1) := by decide +kernel
theorem dX7_seenBetween_36 : decode cX7_seenBetween 36 = .ok (.ifCond .ne 18, 3) := by decide +kernel
theorem dX7_seenBetween_39 : decode cX7_seenBetween 39 = .ok (.aload_n 0, 1) := by decide +kernel
theorem dX7_seenBetween_40 : decode cX7_seenBetween 40 = .ok (.getfield 30, 3) := by decide +kernel
theorem dX7_seenBetween_43 : decode cX7_seenBetween 43 = .ok (.iload_n 1, 1) := by decide +kernel
theorem dX7_seenBetween_44 : decode cX7_seenBetween 44 = .ok (.iaload, 1) := by decide +kernel
theorem dX7_seenBetween_45 : decode cX7_seenBetween 45 = .ok (.aload_n 0, 1) := by decide +kernel
theorem dX7_seenBetween_46 : decode cX7_seenBetween 46 = .ok (.getfield 30, 3) := by decide +kernel
theorem dX7_seenBetween_49 : decode cX7_seenBetween 49 = .ok (.iload_n 2, 1) := by decide +kernel
theorem dX7_seenBetween_50 : decode cX7_seenBetween 50 = .ok (.iaload, 1) := by decide +kernel
theorem dX7_seenBetween_51 : decode cX7_seenBetween 51 = .ok (.if_icmp .ne 7, 3) := by decide +kernel
theorem dX7_seenBetween_54 : decode cX7_seenBetween 54 = .ok (.iconst 0, 1) := by decide +kernel
theorem dX7_seenBetween_55 : decode cX7_seenBetween 55 = .ok (.goto 4, 3) := by decide +kernel
theorem dX7_seenBetween_58 : decode cX7_seenBetween 58 = .ok (.iconst 1, 1) := by decide +kernel
theorem dX7_seenBetween_59 : decode cX7_seenBetween 59 = .ok (.ireturn, 1) := by decide +kernel
theorem dX8_leastEndsFor_0 : decode cX8_leastEndsFor 0 = .ok (.aload_n 1, 1) := by decide +kernel
theorem dX8_leastEndsFor_1 : decode cX8_leastEndsFor 1 = .ok (.ifnull 17, 3) := by decide +kernel
theorem dX8_leastEndsFor_4 : decode cX8_leastEndsFor 4 = .ok (.iconst 0, 1) := by decide +kernel
theorem dX8_leastEndsFor_5 : decode cX8_leastEndsFor 5 = .ok (.iload_n 2, 1) := by decide +kernel
theorem dX8_leastEndsFor_6 : decode cX8_leastEndsFor 6 = .ok (.aload_n 1, 1) := by decide +kernel
theorem dX8_leastEndsFor_7 : decode cX8_leastEndsFor 7 = .ok (.getfield 41, 3) := by decide +kernel
theorem dX8_leastEndsFor_10 : decode cX8_leastEndsFor 10 = .ok (.iconst 1, 1) := by decide +kernel
theorem dX8_leastEndsFor_11 : decode cX8_leastEndsFor 11 = .ok (.isub, 1) := by decide +kernel
theorem dX8_leastEndsFor_12 : decode cX8_leastEndsFor 12 = .ok (.invokestatic 37, 3) := by decide +kernel
theorem dX8_leastEndsFor_15 : decode cX8_leastEndsFor 15 = .ok (.ifCond .ne 5, 3) := by decide +kernel
theorem dX8_leastEndsFor_18 : decode cX8_leastEndsFor 18 = .ok (.iconst (-1), 1) := by decide +kernel
theorem dX8_leastEndsFor_19 : decode cX8_leastEndsFor 19 = .ok (.ireturn, 1) := by decide +kernel
theorem dX8_leastEndsFor_20 : decode cX8_leastEndsFor 20 = .ok (.aload_n 1, 1) := by decide +kernel
theorem dX8_leastEndsFor_21 : decode cX8_leastEndsFor 21 = .ok (.getfield 46, 3) := by decide +kernel
theorem dX8_leastEndsFor_24 : decode cX8_leastEndsFor 24 = .ok (.iload_n 2, 1) := by decide +kernel
theorem dX8_leastEndsFor_25 : decode cX8_leastEndsFor 25 = .ok (.iaload, 1) := by decide +kernel
theorem dX8_leastEndsFor_26 : decode cX8_leastEndsFor 26 = .ok (.istore 4, 2) := by decide +kernel
theorem dX8_leastEndsFor_28 : decode cX8_leastEndsFor 28 = .ok (.aload_n 1, 1) := by decide +kernel
theorem dX8_leastEndsFor_29 : decode cX8_leastEndsFor 29 = .ok (.getfield 46, 3) := by decide +kernel
theorem dX8_leastEndsFor_32 : decode cX8_leastEndsFor 32 = .ok (.iload_n 2, 1) := by decide +kernel
theorem dX8_leastEndsFor_33 : decode cX8_leastEndsFor 33 = .ok (.iconst 1, 1) := by decide +kernel
theorem dX8_leastEndsFor_34 : decode cX8_leastEndsFor 34 = .ok (.iadd, 1) := by decide +kernel
theorem dX8_leastEndsFor_35 : decode cX8_leastEndsFor 35 = .ok (.iaload, 1) := by decide +kernel
theorem dX8_leastEndsFor_36 : decode cX8_leastEndsFor 36 = .ok (.iload 4, 2) := by decide +kernel
theorem dX8_leastEndsFor_38 : decode cX8_leastEndsFor 38 = .ok (.isub, 1) := by decide +kernel
