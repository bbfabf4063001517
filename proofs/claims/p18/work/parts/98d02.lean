theorem dX12_canCut_46 : decode cX12_canCut 46 = .ok (.getfield 88, 3) := by decide +kernel
theorem dX12_canCut_49 : decode cX12_canCut 49 = .ok (.aload_n 0, 1) := by decide +kernel
theorem dX12_canCut_50 : decode cX12_canCut 50 = .ok (.getfield 340, 3) := by decide +kernel
theorem dX12_canCut_53 : decode cX12_canCut 53 = .ok (.iaload, 1) := by decide +kernel
theorem dX12_canCut_54 : decode cX12_canCut 54 = .ok (.invokestatic 359, 3) := by decide +kernel
theorem dX12_canCut_57 : decode cX12_canCut 57 = .ok (.istore 4, 2) := by decide +kernel
theorem dX12_canCut_59 : decode cX12_canCut 59 = .ok (.iload 4, 2) := by decide +kernel
theorem dX12_canCut_61 : decode cX12_canCut 61 = .ok (.aload_n 0, 1) := by decide +kernel
theorem dX12_canCut_62 : decode cX12_canCut 62 = .ok (.iload_n 2, 1) := by decide +kernel
theorem dX12_canCut_63 : decode cX12_canCut 63 = .ok (.invokevirtual 381, 3) := by decide +kernel
theorem dX12_canCut_66 : decode cX12_canCut 66 = .ok (.iadd, 1) := by decide +kernel
theorem dX12_canCut_67 : decode cX12_canCut 67 = .ok (.aload_n 0, 1) := by decide +kernel
theorem dX12_canCut_68 : decode cX12_canCut 68 = .ok (.getfield 176, 3) := by decide +kernel
theorem dX12_canCut_71 : decode cX12_canCut 71 = .ok (.iload_n 3, 1) := by decide +kernel
theorem dX12_canCut_72 : decode cX12_canCut 72 = .ok (.iaload, 1) := by decide +kernel
theorem dX12_canCut_73 : decode cX12_canCut 73 = .ok (.if_icmp .gt 7, 3) := by decide +kernel
theorem dX12_canCut_76 : decode cX12_canCut 76 = .ok (.iconst 1, 1) := by decide +kernel
theorem dX12_canCut_77 : decode cX12_canCut 77 = .ok (.goto 4, 3) := by decide +kernel
theorem dX12_canCut_80 : decode cX12_canCut 80 = .ok (.iconst 0, 1) := by decide +kernel
theorem dX12_canCut_81 : decode cX12_canCut 81 = .ok (.ireturn, 1) := by decide +kernel
theorem dX12_mended_0 : decode cX12_mended 0 = .ok (.aload_n 0, 1) := by decide +kernel
theorem dX12_mended_1 : decode cX12_mended 1 = .ok (.iload_n 1, 1) := by decide +kernel
theorem dX12_mended_2 : decode cX12_mended 2 = .ok (.invokevirtual 362, 3) := by decide +kernel
theorem dX12_mended_5 : decode cX12_mended 5 = .ok (.ifCond .ne 5, 3) := by decide +kernel
theorem dX12_mended_8 : decode cX12_mended 8 = .ok (.iconst (-1), 1) := by decide +kernel
theorem dX12_mended_9 : decode cX12_mended 9 = .ok (.ireturn, 1) := by decide +kernel
theorem dX12_mended_10 : decode cX12_mended 10 = .ok (.aload_n 0, 1) := by decide +kernel
theorem dX12_mended_11 : decode cX12_mended 11 = .ok (.iload_n 1, 1) := by decide +kernel
theorem dX12_mended_12 : decode cX12_mended 12 = .ok (.invokevirtual 369, 3) := by decide +kernel
theorem dX12_mended_15 : decode cX12_mended 15 = .ok (.iload_n 2, 1) := by decide +kernel
theorem dX12_mended_16 : decode cX12_mended 16 = .ok (.i2l, 1) := by decide +kernel
theorem dX12_mended_17 : decode cX12_mended 17 = .ok (.lconst 0, 1) := by decide +kernel
theorem dX12_mended_18 : decode cX12_mended 18 = .ok (.aload_n 0, 1) := by decide +kernel
theorem dX12_mended_19 : decode cX12_mended 19 = .ok (.getfield 343, 3) := by decide +kernel
theorem dX12_mended_22 : decode cX12_mended 22 = .ok (.iconst 1, 1) := by decide +kernel
theorem dX12_mended_23 : decode cX12_mended 23 = .ok (.isub, 1) := by decide +kernel
theorem dX12_mended_24 : decode cX12_mended 24 = .ok (.i2l, 1) := by decide +kernel
theorem dX12_mended_25 : decode cX12_mended 25 = .ok (.invokestatic 205, 3) := by decide +kernel
theorem dX12_mended_28 : decode cX12_mended 28 = .ok (.ifCond .ne 5, 3) := by decide +kernel
theorem dX12_mended_31 : decode cX12_mended 31 = .ok (.iconst (-1), 1) := by decide +kernel
theorem dX12_mended_32 : decode cX12_mended 32 = .ok (.ireturn, 1) := by decide +kernel
theorem dX12_mended_33 : decode cX12_mended 33 = .ok (.aload_n 0, 1) := by decide +kernel
theorem dX12_mended_34 : decode cX12_mended 34 = .ok (.getfield 125, 3) := by decide +kernel
theorem dX12_mended_37 : decode cX12_mended 37 = .ok (.iload_n 2, 1) := by decide +kernel
theorem dX12_mended_38 : decode cX12_mended 38 = .ok (.iaload, 1) := by decide +kernel
theorem dX12_mended_39 : decode cX12_mended 39 = .ok (.istore_n 3, 1) := by decide +kernel
theorem dX12_mended_40 : decode cX12_mended 40 = .ok (.iconst (-1), 1) := by decide +kernel
theorem dX12_mended_41 : decode cX12_mended 41 = .ok (.istore 4, 2) := by decide +kernel
theorem dX12_mended_43 : decode cX12_mended 43 = .ok (.iconst 0, 1) := by decide +kernel
theorem dX12_mended_44 : decode cX12_mended 44 = .ok (.istore 5, 2) := by decide +kernel
theorem dX12_mended_46 : decode cX12_mended 46 = .ok (.iload 5, 2) := by decide +kernel
theorem dX12_mended_48 : decode cX12_mended 48 = .ok (.aload_n 0, 1) := by decide +kernel
theorem dX12_mended_49 : decode cX12_mended 49 = .ok (.getfield 449, 3) := by decide +kernel
theorem dX12_mended_52 : decode cX12_mended 52 = .ok (.if_icmp .ge 126, 3) := by decide +kernel
theorem dX12_mended_55 : decode cX12_mended 55 = .ok (.aload_n 0, 1) := by decide +kernel
theorem dX12_mended_56 : decode cX12_mended 56 = .ok (.iload_n 1, 1) := by decide +kernel
theorem dX12_mended_57 : decode cX12_mended 57 = .ok (.iload_n 3, 1) := by decide +kernel
theorem dX12_mended_58 : decode cX12_mended 58 = .ok (.iload 5, 2) := by decide +kernel
theorem dX12_mended_60 : decode cX12_mended 60 = .ok (.invokevirtual 452, 3) := by decide +kernel
theorem dX12_mended_63 : decode cX12_mended 63 = .ok (.ifCond .ne 6, 3) := by decide +kernel
theorem dX12_mended_66 : decode cX12_mended 66 = .ok (.goto 106, 3) := by decide +kernel
theorem dX12_mended_69 : decode cX12_mended 69 = .ok (.iconst 0, 1) := by decide +kernel
theorem dX12_mended_70 : decode cX12_mended 70 = .ok (.istore 6, 2) := by decide +kernel
theorem dX12_mended_72 : decode cX12_mended 72 = .ok (.iload 6, 2) := by decide +kernel
theorem dX12_mended_74 : decode cX12_mended 74 = .ok (.aload_n 0, 1) := by decide +kernel
theorem dX12_mended_75 : decode cX12_mended 75 = .ok (.getfield 449, 3) := by decide +kernel
theorem dX12_mended_78 : decode cX12_mended 78 = .ok (.if_icmp .ge 94, 3) := by decide +kernel
theorem dX12_mended_81 : decode cX12_mended 81 = .ok (.aload_n 0, 1) := by decide +kernel
theorem dX12_mended_82 : decode cX12_mended 82 = .ok (.getfield 128, 3) := by decide +kernel
theorem dX12_mended_85 : decode cX12_mended 85 = .ok (.iload_n 2, 1) := by decide +kernel
theorem dX12_mended_86 : decode cX12_mended 86 = .ok (.iaload, 1) := by decide +kernel
theorem dX12_mended_87 : decode cX12_mended 87 = .ok (.iconst 2, 1) := by decide +kernel
theorem dX12_mended_88 : decode cX12_mended 88 = .ok (.if_icmp .ne 7, 3) := by decide +kernel
theorem dX12_mended_91 : decode cX12_mended 91 = .ok (.iconst 1, 1) := by decide +kernel
theorem dX12_mended_92 : decode cX12_mended 92 = .ok (.goto 4, 3) := by decide +kernel
theorem dX12_mended_95 : decode cX12_mended 95 = .ok (.iconst 0, 1) := by decide +kernel
theorem dX12_mended_96 : decode cX12_mended 96 = .ok (.istore 7, 2) := by decide +kernel
theorem dX12_mended_98 : decode cX12_mended 98 = .ok (.iload 7, 2) := by decide +kernel
theorem dX12_mended_100 : decode cX12_mended 100 = .ok (.ifCond .eq 26, 3) := by decide +kernel
theorem dX12_mended_103 : decode cX12_mended 103 = .ok (.iload 5, 2) := by decide +kernel
theorem dX12_mended_105 : decode cX12_mended 105 = .ok (.iload 6, 2) := by decide +kernel
theorem dX12_mended_107 : decode cX12_mended 107 = .ok (.if_icmp .eq 59, 3) := by decide +kernel
theorem dX12_mended_110 : decode cX12_mended 110 = .ok (.aload_n 0, 1) := by decide +kernel
theorem dX12_mended_111 : decode cX12_mended 111 = .ok (.iload_n 1, 1) := by decide +kernel
theorem dX12_mended_112 : decode cX12_mended 112 = .ok (.iload_n 3, 1) := by decide +kernel
theorem dX12_mended_113 : decode cX12_mended 113 = .ok (.iconst 1, 1) := by decide +kernel
theorem dX12_mended_114 : decode cX12_mended 114 = .ok (.iadd, 1) := by decide +kernel
theorem dX12_mended_115 : decode cX12_mended 115 = .ok (.iload 6, 2) := by decide +kernel
theorem dX12_mended_117 : decode cX12_mended 117 = .ok (.invokevirtual 452, 3) := by decide +kernel
theorem dX12_mended_120 : decode cX12_mended 120 = .ok (.ifCond .ne 6, 3) := by decide +kernel
theorem dX12_mended_123 : decode cX12_mended 123 = .ok (.goto 43, 3) := by decide +kernel
theorem dX12_mended_126 : decode cX12_mended 126 = .ok (.iload 7, 2) := by decide +kernel
theorem dX12_mended_128 : decode cX12_mended 128 = .ok (.ifCond .eq 15, 3) := by decide +kernel
theorem dX12_mended_131 : decode cX12_mended 131 = .ok (.iconst 1, 1) := by decide +kernel
theorem dX12_mended_132 : decode cX12_mended 132 = .ok (.iload 5, 2) := by decide +kernel
theorem dX12_mended_134 : decode cX12_mended 134 = .ok (.ishl, 1) := by decide +kernel
theorem dX12_mended_135 : decode cX12_mended 135 = .ok (.iconst 1, 1) := by decide +kernel
theorem dX12_mended_136 : decode cX12_mended 136 = .ok (.iload 6, 2) := by decide +kernel
theorem dX12_mended_138 : decode cX12_mended 138 = .ok (.ishl, 1) := by decide +kernel
theorem dX12_mended_139 : decode cX12_mended 139 = .ok (.ior, 1) := by decide +kernel
theorem dX12_mended_140 : decode cX12_mended 140 = .ok (.goto 7, 3) := by decide +kernel
theorem dX12_mended_143 : decode cX12_mended 143 = .ok (.iconst 1, 1) := by decide +kernel
theorem dX12_mended_144 : decode cX12_mended 144 = .ok (.iload 5, 2) := by decide +kernel
theorem dX12_mended_146 : decode cX12_mended 146 = .ok (.ishl, 1) := by decide +kernel
theorem dX12_mended_147 : decode cX12_mended 147 = .ok (.istore 8, 2) := by decide +kernel
theorem dX12_mended_149 : decode cX12_mended 149 = .ok (.iload 4, 2) := by decide +kernel
theorem dX12_mended_151 : decode cX12_mended 151 = .ok (.iconst (-1), 1) := by decide +kernel
theorem dX12_mended_152 : decode cX12_mended 152 = .ok (.if_icmp .eq 10, 3) := by decide +kernel
theorem dX12_mended_155 : decode cX12_mended 155 = .ok (.iload 8, 2) := by decide +kernel
theorem dX12_mended_157 : decode cX12_mended 157 = .ok (.iload 4, 2) := by decide +kernel
theorem dX12_mended_159 : decode cX12_mended 159 = .ok (.if_icmp .ge 7, 3) := by decide +kernel
theorem dX12_mended_162 : decode cX12_mended 162 = .ok (.iload 8, 2) := by decide +kernel
theorem dX12_mended_164 : decode cX12_mended 164 = .ok (.istore 4, 2) := by decide +kernel
theorem dX12_mended_166 : decode cX12_mended 166 = .ok (.iinc 6 1, 3) := by decide +kernel
theorem dX12_mended_169 : decode cX12_mended 169 = .ok (.goto (-97), 3) := by decide +kernel
theorem dX12_mended_172 : decode cX12_mended 172 = .ok (.iinc 5 1, 3) := by decide +kernel
theorem dX12_mended_175 : decode cX12_mended 175 = .ok (.goto (-129), 3) := by decide +kernel
theorem dX12_mended_178 : decode cX12_mended 178 = .ok (.iload 4, 2) := by decide +kernel
theorem dX12_mended_180 : decode cX12_mended 180 = .ok (.ireturn, 1) := by decide +kernel
theorem dX12_border_0 : decode cX12_border 0 = .ok (.aload_n 0, 1) := by decide +kernel
theorem dX12_border_1 : decode cX12_border 1 = .ok (.iload_n 1, 1) := by decide +kernel
theorem dX12_border_2 : decode cX12_border 2 = .ok (.invokevirtual 284, 3) := by decide +kernel
theorem dX12_border_5 : decode cX12_border 5 = .ok (.ifCond .eq 29, 3) := by decide +kernel
theorem dX12_border_8 : decode cX12_border 8 = .ok (.iload_n 2, 1) := by decide +kernel
theorem dX12_border_9 : decode cX12_border 9 = .ok (.i2l, 1) := by decide +kernel
theorem dX12_border_10 : decode cX12_border 10 = .ok (.lconst 0, 1) := by decide +kernel
theorem dX12_border_11 : decode cX12_border 11 = .ok (.ldc2_w 455, 3) := by decide +kernel
theorem dX12_border_14 : decode cX12_border 14 = .ok (.invokestatic 205, 3) := by decide +kernel
theorem dX12_border_17 : decode cX12_border 17 = .ok (.ifCond .eq 17, 3) := by decide +kernel
theorem dX12_border_20 : decode cX12_border 20 = .ok (.iload_n 3, 1) := by decide +kernel
theorem dX12_border_21 : decode cX12_border 21 = .ok (.i2l, 1) := by decide +kernel
theorem dX12_border_22 : decode cX12_border 22 = .ok (.ldc2_w 420, 3) := by decide +kernel
theorem dX12_border_25 : decode cX12_border 25 = .ok (.ldc2_w 307, 3) := by decide +kernel
theorem dX12_border_28 : decode cX12_border 28 = .ok (.invokestatic 205, 3) := by decide +kernel
theorem dX12_border_31 : decode cX12_border 31 = .ok (.ifCond .ne 5, 3) := by decide +kernel
theorem dX12_border_34 : decode cX12_border 34 = .ok (.iconst (-1), 1) := by decide +kernel
theorem dX12_border_35 : decode cX12_border 35 = .ok (.ireturn, 1) := by decide +kernel
theorem dX12_border_36 : decode cX12_border 36 = .ok (.aload_n 0, 1) := by decide +kernel
theorem dX12_border_37 : decode cX12_border 37 = .ok (.getfield 63, 3) := by decide +kernel
theorem dX12_border_40 : decode cX12_border 40 = .ok (.iload_n 1, 1) := by decide +kernel
theorem dX12_border_41 : decode cX12_border 41 = .ok (.iaload, 1) := by decide +kernel
theorem dX12_border_42 : decode cX12_border 42 = .ok (.istore 4, 2) := by decide +kernel
theorem dX12_border_44 : decode cX12_border 44 = .ok (.iconst 0, 1) := by decide +kernel
theorem dX12_border_45 : decode cX12_border 45 = .ok (.istore 5, 2) := by decide +kernel
theorem dX12_border_47 : decode cX12_border 47 = .ok (.iload 5, 2) := by decide +kernel
theorem dX12_border_49 : decode cX12_border 49 = .ok (.aload_n 0, 1) := by decide +kernel
theorem dX12_border_50 : decode cX12_border 50 = .ok (.getfield 54, 3) := by decide +kernel
theorem dX12_border_53 : decode cX12_border 53 = .ok (.iload_n 1, 1) := by decide +kernel
theorem dX12_border_54 : decode cX12_border 54 = .ok (.iaload, 1) := by decide +kernel
theorem dX12_border_55 : decode cX12_border 55 = .ok (.if_icmp .ge 63, 3) := by decide +kernel
theorem dX12_border_58 : decode cX12_border 58 = .ok (.iload 4, 2) := by decide +kernel
theorem dX12_border_60 : decode cX12_border 60 = .ok (.aload_n 0, 1) := by decide +kernel
theorem dX12_border_61 : decode cX12_border 61 = .ok (.getfield 38, 3) := by decide +kernel
theorem dX12_border_64 : decode cX12_border 64 = .ok (.iload_n 1, 1) := by decide +kernel
theorem dX12_border_65 : decode cX12_border 65 = .ok (.aaload, 1) := by decide +kernel
theorem dX12_border_66 : decode cX12_border 66 = .ok (.iload 5, 2) := by decide +kernel
theorem dX12_border_68 : decode cX12_border 68 = .ok (.iaload, 1) := by decide +kernel
theorem dX12_border_69 : decode cX12_border 69 = .ok (.iconst 1, 1) := by decide +kernel
theorem dX12_border_70 : decode cX12_border 70 = .ok (.if_icmp .ne 38, 3) := by decide +kernel
theorem dX12_border_73 : decode cX12_border 73 = .ok (.aload_n 0, 1) := by decide +kernel
theorem dX12_border_74 : decode cX12_border 74 = .ok (.getfield 35, 3) := by decide +kernel
theorem dX12_border_77 : decode cX12_border 77 = .ok (.iload_n 1, 1) := by decide +kernel
theorem dX12_border_78 : decode cX12_border 78 = .ok (.aaload, 1) := by decide +kernel
theorem dX12_border_79 : decode cX12_border 79 = .ok (.iload 5, 2) := by decide +kernel
theorem dX12_border_81 : decode cX12_border 81 = .ok (.iaload, 1) := by decide +kernel
theorem dX12_border_82 : decode cX12_border 82 = .ok (.iload_n 2, 1) := by decide +kernel
theorem dX12_border_83 : decode cX12_border 83 = .ok (.if_icmp .le 25, 3) := by decide +kernel
theorem dX12_border_86 : decode cX12_border 86 = .ok (.aload_n 0, 1) := by decide +kernel
theorem dX12_border_87 : decode cX12_border 87 = .ok (.getfield 29, 3) := by decide +kernel
theorem dX12_border_90 : decode cX12_border 90 = .ok (.iload_n 1, 1) := by decide +kernel
theorem dX12_border_91 : decode cX12_border 91 = .ok (.aaload, 1) := by decide +kernel
theorem dX12_border_92 : decode cX12_border 92 = .ok (.iload 5, 2) := by decide +kernel
theorem dX12_border_94 : decode cX12_border 94 = .ok (.iaload, 1) := by decide +kernel
theorem dX12_border_95 : decode cX12_border 95 = .ok (.aload_n 0, 1) := by decide +kernel
theorem dX12_border_96 : decode cX12_border 96 = .ok (.getfield 26, 3) := by decide +kernel
theorem dX12_border_99 : decode cX12_border 99 = .ok (.iload_n 1, 1) := by decide +kernel
theorem dX12_border_100 : decode cX12_border 100 = .ok (.aaload, 1) := by decide +kernel
theorem dX12_border_101 : decode cX12_border 101 = .ok (.iload 5, 2) := by decide +kernel
theorem dX12_border_103 : decode cX12_border 103 = .ok (.iaload, 1) := by decide +kernel
theorem dX12_border_104 : decode cX12_border 104 = .ok (.isub, 1) := by decide +kernel
theorem dX12_border_105 : decode cX12_border 105 = .ok (.goto 4, 3) := by decide +kernel
theorem dX12_border_108 : decode cX12_border 108 = .ok (.iconst 0, 1) := by decide +kernel
theorem dX12_border_109 : decode cX12_border 109 = .ok (.isub, 1) := by decide +kernel
theorem dX12_border_110 : decode cX12_border 110 = .ok (.istore 4, 2) := by decide +kernel
theorem dX12_border_112 : decode cX12_border 112 = .ok (.iinc 5 1, 3) := by decide +kernel
theorem dX12_border_115 : decode cX12_border 115 = .ok (.goto (-68), 3) := by decide +kernel
theorem dX12_border_118 : decode cX12_border 118 = .ok (.iconst 0, 1) := by decide +kernel
theorem dX12_border_119 : decode cX12_border 119 = .ok (.iload 4, 2) := by decide +kernel
theorem dX12_border_121 : decode cX12_border 121 = .ok (.invokestatic 327, 3) := by decide +kernel
theorem dX12_border_124 : decode cX12_border 124 = .ok (.iload_n 3, 1) := by decide +kernel
theorem dX12_border_125 : decode cX12_border 125 = .ok (.iadd, 1) := by decide +kernel
theorem dX12_border_126 : decode cX12_border 126 = .ok (.iconst 1, 1) := by decide +kernel
theorem dX12_border_127 : decode cX12_border 127 = .ok (.isub, 1) := by decide +kernel
theorem dX12_border_128 : decode cX12_border 128 = .ok (.iload_n 3, 1) := by decide +kernel
theorem dX12_border_129 : decode cX12_border 129 = .ok (.idiv, 1) := by decide +kernel
theorem dX12_border_130 : decode cX12_border 130 = .ok (.ireturn, 1) := by decide +kernel
theorem dX12_longAll_0 : decode cX12_longAll 0 = .ok (.iconst 0, 1) := by decide +kernel
theorem dX12_longAll_1 : decode cX12_longAll 1 = .ok (.istore_n 2, 1) := by decide +kernel
theorem dX12_longAll_2 : decode cX12_longAll 2 = .ok (.iconst 0, 1) := by decide +kernel
theorem dX12_longAll_3 : decode cX12_longAll 3 = .ok (.istore_n 3, 1) := by decide +kernel
theorem dX12_longAll_4 : decode cX12_longAll 4 = .ok (.iload_n 3, 1) := by decide +kernel
theorem dX12_longAll_5 : decode cX12_longAll 5 = .ok (.aload_n 0, 1) := by decide +kernel
theorem dX12_longAll_6 : decode cX12_longAll 6 = .ok (.getfield 128, 3) := by decide +kernel
theorem dX12_longAll_9 : decode cX12_longAll 9 = .ok (.iload_n 1, 1) := by decide +kernel
theorem dX12_longAll_10 : decode cX12_longAll 10 = .ok (.iaload, 1) := by decide +kernel
theorem dX12_longAll_11 : decode cX12_longAll 11 = .ok (.if_icmp .ge 24, 3) := by decide +kernel
theorem dX12_longAll_14 : decode cX12_longAll 14 = .ok (.iload_n 2, 1) := by decide +kernel
theorem dX12_longAll_15 : decode cX12_longAll 15 = .ok (.aload_n 0, 1) := by decide +kernel
theorem dX12_longAll_16 : decode cX12_longAll 16 = .ok (.aload_n 0, 1) := by decide +kernel
theorem dX12_longAll_17 : decode cX12_longAll 17 = .ok (.getfield 125, 3) := by decide +kernel
theorem dX12_longAll_20 : decode cX12_longAll 20 = .ok (.iload_n 1, 1) := by decide +kernel
theorem dX12_longAll_21 : decode cX12_longAll 21 = .ok (.iaload, 1) := by decide +kernel
theorem dX12_longAll_22 : decode cX12_longAll 22 = .ok (.iload_n 3, 1) := by decide +kernel
theorem dX12_longAll_23 : decode cX12_longAll 23 = .ok (.iadd, 1) := by decide +kernel
theorem dX12_longAll_24 : decode cX12_longAll 24 = .ok (.invokevirtual 381, 3) := by decide +kernel
theorem dX12_longAll_27 : decode cX12_longAll 27 = .ok (.iadd, 1) := by decide +kernel
theorem dX12_longAll_28 : decode cX12_longAll 28 = .ok (.istore_n 2, 1) := by decide +kernel
theorem dX12_longAll_29 : decode cX12_longAll 29 = .ok (.iinc 3 1, 3) := by decide +kernel
theorem dX12_longAll_32 : decode cX12_longAll 32 = .ok (.goto (-28), 3) := by decide +kernel
theorem dX12_longAll_35 : decode cX12_longAll 35 = .ok (.iload_n 2, 1) := by decide +kernel
theorem dX12_longAll_36 : decode cX12_longAll 36 = .ok (.ireturn, 1) := by decide +kernel
theorem dX12_day_0 : decode cX12_day 0 = .ok (.aload_n 0, 1) := by decide +kernel
theorem dX12_day_1 : decode cX12_day 1 = .ok (.iload_n 1, 1) := by decide +kernel
theorem dX12_day_2 : decode cX12_day 2 = .ok (.invokevirtual 362, 3) := by decide +kernel
theorem dX12_day_5 : decode cX12_day 5 = .ok (.ifCond .eq 71, 3) := by decide +kernel
theorem dX12_day_8 : decode cX12_day 8 = .ok (.iload_n 2, 1) := by decide +kernel
theorem dX12_day_9 : decode cX12_day 9 = .ok (.i2l, 1) := by decide +kernel
theorem dX12_day_10 : decode cX12_day 10 = .ok (.lconst 1, 1) := by decide +kernel
theorem dX12_day_11 : decode cX12_day 11 = .ok (.ldc2_w 303, 3) := by decide +kernel
theorem dX12_day_14 : decode cX12_day 14 = .ok (.invokestatic 205, 3) := by decide +kernel
theorem dX12_day_17 : decode cX12_day 17 = .ok (.ifCond .eq 59, 3) := by decide +kernel
theorem dX12_day_20 : decode cX12_day 20 = .ok (.iload_n 3, 1) := by decide +kernel
theorem dX12_day_21 : decode cX12_day 21 = .ok (.ifCond .lt 55, 3) := by decide +kernel
theorem dX12_day_24 : decode cX12_day 24 = .ok (.iload_n 3, 1) := by decide +kernel
theorem dX12_day_25 : decode cX12_day 25 = .ok (.bipush 100, 2) := by decide +kernel
theorem dX12_day_27 : decode cX12_day 27 = .ok (.idiv, 1) := by decide +kernel
theorem dX12_day_28 : decode cX12_day 28 = .ok (.i2l, 1) := by decide +kernel
theorem dX12_day_29 : decode cX12_day 29 = .ok (.lconst 1, 1) := by decide +kernel
theorem dX12_day_30 : decode cX12_day 30 = .ok (.ldc2_w 432, 3) := by decide +kernel
theorem dX12_day_33 : decode cX12_day 33 = .ok (.invokestatic 205, 3) := by decide +kernel
theorem dX12_day_36 : decode cX12_day 36 = .ok (.ifCond .eq 40, 3) := by decide +kernel
theorem dX12_day_39 : decode cX12_day 39 = .ok (.iload_n 3, 1) := by decide +kernel
theorem dX12_day_40 : decode cX12_day 40 = .ok (.bipush 100, 2) := by decide +kernel
theorem dX12_day_42 : decode cX12_day 42 = .ok (.irem, 1) := by decide +kernel
theorem dX12_day_43 : decode cX12_day 43 = .ok (.i2l, 1) := by decide +kernel
theorem dX12_day_44 : decode cX12_day 44 = .ok (.lconst 0, 1) := by decide +kernel
theorem dX12_day_45 : decode cX12_day 45 = .ok (.ldc2_w 457, 3) := by decide +kernel
theorem dX12_day_48 : decode cX12_day 48 = .ok (.invokestatic 205, 3) := by decide +kernel
theorem dX12_day_51 : decode cX12_day 51 = .ok (.ifCond .eq 25, 3) := by decide +kernel
theorem dX12_day_54 : decode cX12_day 54 = .ok (.iload 4, 2) := by decide +kernel
theorem dX12_day_56 : decode cX12_day 56 = .ok (.i2l, 1) := by decide +kernel
theorem dX12_day_57 : decode cX12_day 57 = .ok (.lconst 0, 1) := by decide +kernel
theorem dX12_day_58 : decode cX12_day 58 = .ok (.lconst 1, 1) := by decide +kernel
theorem dX12_day_59 : decode cX12_day 59 = .ok (.invokestatic 205, 3) := by decide +kernel
theorem dX12_day_62 : decode cX12_day 62 = .ok (.ifCond .eq 14, 3) := by decide +kernel
theorem dX12_day_65 : decode cX12_day 65 = .ok (.iload 5, 2) := by decide +kernel
theorem dX12_day_67 : decode cX12_day 67 = .ok (.i2l, 1) := by decide +kernel
theorem dX12_day_68 : decode cX12_day 68 = .ok (.lconst 0, 1) := by decide +kernel
theorem dX12_day_69 : decode cX12_day 69 = .ok (.lconst 1, 1) := by decide +kernel
theorem dX12_day_70 : decode cX12_day 70 = .ok (.invokestatic 205, 3) := by decide +kernel
theorem dX12_day_73 : decode cX12_day 73 = .ok (.ifCond .ne 5, 3) := by decide +kernel
theorem dX12_day_76 : decode cX12_day 76 = .ok (.iconst (-1), 1) := by decide +kernel
theorem dX12_day_77 : decode cX12_day 77 = .ok (.ireturn, 1) := by decide +kernel
theorem dX12_day_78 : decode cX12_day 78 = .ok (.aload_n 0, 1) := by decide +kernel
theorem dX12_day_79 : decode cX12_day 79 = .ok (.iload_n 1, 1) := by decide +kernel
theorem dX12_day_80 : decode cX12_day 80 = .ok (.invokevirtual 369, 3) := by decide +kernel
theorem dX12_day_83 : decode cX12_day 83 = .ok (.iload_n 3, 1) := by decide +kernel
theorem dX12_day_84 : decode cX12_day 84 = .ok (.bipush 100, 2) := by decide +kernel
theorem dX12_day_86 : decode cX12_day 86 = .ok (.idiv, 1) := by decide +kernel
theorem dX12_day_87 : decode cX12_day 87 = .ok (.istore 6, 2) := by decide +kernel
theorem dX12_day_89 : decode cX12_day 89 = .ok (.iconst 0, 1) := by decide +kernel
theorem dX12_day_90 : decode cX12_day 90 = .ok (.istore 7, 2) := by decide +kernel
theorem dX12_day_92 : decode cX12_day 92 = .ok (.iconst 0, 1) := by decide +kernel
theorem dX12_day_93 : decode cX12_day 93 = .ok (.istore 8, 2) := by decide +kernel
theorem dX12_day_95 : decode cX12_day 95 = .ok (.iconst 0, 1) := by decide +kernel
theorem dX12_day_96 : decode cX12_day 96 = .ok (.istore 9, 2) := by decide +kernel
theorem dX12_day_98 : decode cX12_day 98 = .ok (.iconst 0, 1) := by decide +kernel
theorem dX12_day_99 : decode cX12_day 99 = .ok (.istore 10, 2) := by decide +kernel
theorem dX12_day_101 : decode cX12_day 101 = .ok (.iconst 0, 1) := by decide +kernel
theorem dX12_day_102 : decode cX12_day 102 = .ok (.istore 11, 2) := by decide +kernel
theorem dX12_day_104 : decode cX12_day 104 = .ok (.aload_n 0, 1) := by decide +kernel
theorem dX12_day_105 : decode cX12_day 105 = .ok (.getfield 116, 3) := by decide +kernel
theorem dX12_day_108 : decode cX12_day 108 = .ok (.iload_n 1, 1) := by decide +kernel
theorem dX12_day_109 : decode cX12_day 109 = .ok (.iaload, 1) := by decide +kernel
theorem dX12_day_110 : decode cX12_day 110 = .ok (.istore 12, 2) := by decide +kernel
theorem dX12_day_112 : decode cX12_day 112 = .ok (.iload 12, 2) := by decide +kernel
theorem dX12_day_114 : decode cX12_day 114 = .ok (.aload_n 0, 1) := by decide +kernel
theorem dX12_day_115 : decode cX12_day 115 = .ok (.getfield 343, 3) := by decide +kernel
theorem dX12_day_118 : decode cX12_day 118 = .ok (.if_icmp .ge 160, 3) := by decide +kernel
theorem dX12_day_121 : decode cX12_day 121 = .ok (.aload_n 0, 1) := by decide +kernel
theorem dX12_day_122 : decode cX12_day 122 = .ok (.iload 12, 2) := by decide +kernel
theorem dX12_day_124 : decode cX12_day 124 = .ok (.invokevirtual 459, 3) := by decide +kernel
theorem dX12_day_127 : decode cX12_day 127 = .ok (.istore 13, 2) := by decide +kernel
theorem dX12_day_129 : decode cX12_day 129 = .ok (.iconst 2, 1) := by decide +kernel
theorem dX12_day_130 : decode cX12_day 130 = .ok (.iload 13, 2) := by decide +kernel
theorem dX12_day_132 : decode cX12_day 132 = .ok (.bipush 100, 2) := by decide +kernel
theorem dX12_day_134 : decode cX12_day 134 = .ok (.idiv, 1) := by decide +kernel
theorem dX12_day_135 : decode cX12_day 135 = .ok (.iadd, 1) := by decide +kernel
theorem dX12_day_136 : decode cX12_day 136 = .ok (.istore 14, 2) := by decide +kernel
theorem dX12_day_138 : decode cX12_day 138 = .ok (.iload_n 2, 1) := by decide +kernel
theorem dX12_day_139 : decode cX12_day 139 = .ok (.iconst 1, 1) := by decide +kernel
theorem dX12_day_140 : decode cX12_day 140 = .ok (.if_icmp .ne 8, 3) := by decide +kernel
theorem dX12_day_143 : decode cX12_day 143 = .ok (.iload 7, 2) := by decide +kernel
theorem dX12_day_145 : decode cX12_day 145 = .ok (.goto 10, 3) := by decide +kernel
theorem dX12_day_148 : decode cX12_day 148 = .ok (.iload 7, 2) := by decide +kernel
theorem dX12_day_150 : decode cX12_day 150 = .ok (.iload 8, 2) := by decide +kernel
theorem dX12_day_152 : decode cX12_day 152 = .ok (.invokestatic 239, 3) := by decide +kernel
theorem dX12_day_155 : decode cX12_day 155 = .ok (.istore 15, 2) := by decide +kernel
theorem dX12_day_157 : decode cX12_day 157 = .ok (.iload 4, 2) := by decide +kernel
theorem dX12_day_159 : decode cX12_day 159 = .ok (.iconst 1, 1) := by decide +kernel
theorem dX12_day_160 : decode cX12_day 160 = .ok (.if_icmp .ne 19, 3) := by decide +kernel
theorem dX12_day_163 : decode cX12_day 163 = .ok (.iload 9, 2) := by decide +kernel
theorem dX12_day_165 : decode cX12_day 165 = .ok (.iload 15, 2) := by decide +kernel
theorem dX12_day_167 : decode cX12_day 167 = .ok (.iload 6, 2) := by decide +kernel
theorem dX12_day_169 : decode cX12_day 169 = .ok (.isub, 1) := by decide +kernel
theorem dX12_day_170 : decode cX12_day 170 = .ok (.iload 14, 2) := by decide +kernel
theorem dX12_day_172 : decode cX12_day 172 = .ok (.isub, 1) := by decide +kernel
theorem dX12_day_173 : decode cX12_day 173 = .ok (.invokestatic 327, 3) := by decide +kernel
theorem dX12_day_176 : decode cX12_day 176 = .ok (.goto 5, 3) := by decide +kernel
theorem dX12_day_179 : decode cX12_day 179 = .ok (.iload 9, 2) := by decide +kernel
theorem dX12_day_181 : decode cX12_day 181 = .ok (.istore 16, 2) := by decide +kernel
theorem dX12_day_183 : decode cX12_day 183 = .ok (.iload 16, 2) := by decide +kernel
theorem dX12_day_185 : decode cX12_day 185 = .ok (.iload 14, 2) := by decide +kernel
theorem dX12_day_187 : decode cX12_day 187 = .ok (.iadd, 1) := by decide +kernel
theorem dX12_day_188 : decode cX12_day 188 = .ok (.istore 9, 2) := by decide +kernel
theorem dX12_day_190 : decode cX12_day 190 = .ok (.iload 9, 2) := by decide +kernel
theorem dX12_day_192 : decode cX12_day 192 = .ok (.iload 6, 2) := by decide +kernel
theorem dX12_day_194 : decode cX12_day 194 = .ok (.iadd, 1) := by decide +kernel
theorem dX12_day_195 : decode cX12_day 195 = .ok (.istore 17, 2) := by decide +kernel
theorem dX12_day_197 : decode cX12_day 197 = .ok (.iload 17, 2) := by decide +kernel
theorem dX12_day_199 : decode cX12_day 199 = .ok (.iload 15, 2) := by decide +kernel
theorem dX12_day_201 : decode cX12_day 201 = .ok (.invokestatic 327, 3) := by decide +kernel
theorem dX12_day_204 : decode cX12_day 204 = .ok (.istore 18, 2) := by decide +kernel
theorem dX12_day_206 : decode cX12_day 206 = .ok (.iload 10, 2) := by decide +kernel
theorem dX12_day_208 : decode cX12_day 208 = .ok (.iload 18, 2) := by decide +kernel
theorem dX12_day_210 : decode cX12_day 210 = .ok (.iload 17, 2) := by decide +kernel
theorem dX12_day_212 : decode cX12_day 212 = .ok (.isub, 1) := by decide +kernel
theorem dX12_day_213 : decode cX12_day 213 = .ok (.iload_n 3, 1) := by decide +kernel
theorem dX12_day_214 : decode cX12_day 214 = .ok (.bipush 100, 2) := by decide +kernel
theorem dX12_day_216 : decode cX12_day 216 = .ok (.irem, 1) := by decide +kernel
theorem dX12_day_217 : decode cX12_day 217 = .ok (.if_icmp .le 7, 3) := by decide +kernel
theorem dX12_day_220 : decode cX12_day 220 = .ok (.iconst 1, 1) := by decide +kernel
theorem dX12_day_221 : decode cX12_day 221 = .ok (.goto 4, 3) := by decide +kernel
theorem dX12_day_224 : decode cX12_day 224 = .ok (.iconst 0, 1) := by decide +kernel
theorem dX12_day_225 : decode cX12_day 225 = .ok (.iadd, 1) := by decide +kernel
theorem dX12_day_226 : decode cX12_day 226 = .ok (.istore 10, 2) := by decide +kernel
theorem dX12_day_228 : decode cX12_day 228 = .ok (.iload 18, 2) := by decide +kernel
theorem dX12_day_230 : decode cX12_day 230 = .ok (.iconst 5, 1) := by decide +kernel
theorem dX12_day_231 : decode cX12_day 231 = .ok (.iadd, 1) := by decide +kernel
theorem dX12_day_232 : decode cX12_day 232 = .ok (.iload 13, 2) := by decide +kernel
theorem dX12_day_234 : decode cX12_day 234 = .ok (.bipush 50, 2) := by decide +kernel
theorem dX12_day_236 : decode cX12_day 236 = .ok (.idiv, 1) := by decide +kernel
theorem dX12_day_237 : decode cX12_day 237 = .ok (.iadd, 1) := by decide +kernel
theorem dX12_day_238 : decode cX12_day 238 = .ok (.istore 19, 2) := by decide +kernel
theorem dX12_day_240 : decode cX12_day 240 = .ok (.iload_n 2, 1) := by decide +kernel
theorem dX12_day_241 : decode cX12_day 241 = .ok (.iconst 1, 1) := by decide +kernel
theorem dX12_day_242 : decode cX12_day 242 = .ok (.if_icmp .eq 10, 3) := by decide +kernel
theorem dX12_day_245 : decode cX12_day 245 = .ok (.iload 7, 2) := by decide +kernel
theorem dX12_day_247 : decode cX12_day 247 = .ok (.iload 8, 2) := by decide +kernel
theorem dX12_day_249 : decode cX12_day 249 = .ok (.if_icmp .gt 10, 3) := by decide +kernel
theorem dX12_day_252 : decode cX12_day 252 = .ok (.iload 19, 2) := by decide +kernel
theorem dX12_day_254 : decode cX12_day 254 = .ok (.istore 7, 2) := by decide +kernel
theorem dX12_day_256 : decode cX12_day 256 = .ok (.goto 7, 3) := by decide +kernel
theorem dX12_day_259 : decode cX12_day 259 = .ok (.iload 19, 2) := by decide +kernel
theorem dX12_day_261 : decode cX12_day 261 = .ok (.istore 8, 2) := by decide +kernel
theorem dX12_day_263 : decode cX12_day 263 = .ok (.iload 11, 2) := by decide +kernel
theorem dX12_day_265 : decode cX12_day 265 = .ok (.iload 19, 2) := by decide +kernel
theorem dX12_day_267 : decode cX12_day 267 = .ok (.invokestatic 327, 3) := by decide +kernel
theorem dX12_day_270 : decode cX12_day 270 = .ok (.istore 11, 2) := by decide +kernel
theorem dX12_day_272 : decode cX12_day 272 = .ok (.iinc 12 1, 3) := by decide +kernel
theorem dX12_day_275 : decode cX12_day 275 = .ok (.goto (-163), 3) := by decide +kernel
theorem dX12_day_278 : decode cX12_day 278 = .ok (.iload 5, 2) := by decide +kernel
theorem dX12_day_280 : decode cX12_day 280 = .ok (.ifCond .ne 8, 3) := by decide +kernel
theorem dX12_day_283 : decode cX12_day 283 = .ok (.iload 11, 2) := by decide +kernel
theorem dX12_day_285 : decode cX12_day 285 = .ok (.goto 5, 3) := by decide +kernel
theorem dX12_day_288 : decode cX12_day 288 = .ok (.iload 10, 2) := by decide +kernel
theorem dX12_day_290 : decode cX12_day 290 = .ok (.ireturn, 1) := by decide +kernel
theorem dX12_hang_0 : decode cX12_hang 0 = .ok (.aload_n 0, 1) := by decide +kernel
theorem dX12_hang_1 : decode cX12_hang 1 = .ok (.iload_n 1, 1) := by decide +kernel
theorem dX12_hang_2 : decode cX12_hang 2 = .ok (.invokevirtual 362, 3) := by decide +kernel
theorem dX12_hang_5 : decode cX12_hang 5 = .ok (.ifCond .eq 34, 3) := by decide +kernel
theorem dX12_hang_8 : decode cX12_hang 8 = .ok (.iload_n 2, 1) := by decide +kernel
theorem dX12_hang_9 : decode cX12_hang 9 = .ok (.iconst 1, 1) := by decide +kernel
theorem dX12_hang_10 : decode cX12_hang 10 = .ok (.if_icmp .lt 29, 3) := by decide +kernel
theorem dX12_hang_13 : decode cX12_hang 13 = .ok (.aload_n 0, 1) := by decide +kernel
theorem dX12_hang_14 : decode cX12_hang 14 = .ok (.getfield 116, 3) := by decide +kernel
theorem dX12_hang_17 : decode cX12_hang 17 = .ok (.iload_n 1, 1) := by decide +kernel
theorem dX12_hang_18 : decode cX12_hang 18 = .ok (.iaload, 1) := by decide +kernel
theorem dX12_hang_19 : decode cX12_hang 19 = .ok (.i2l, 1) := by decide +kernel
theorem dX12_hang_20 : decode cX12_hang 20 = .ok (.iload_n 2, 1) := by decide +kernel
theorem dX12_hang_21 : decode cX12_hang 21 = .ok (.i2l, 1) := by decide +kernel
theorem dX12_hang_22 : decode cX12_hang 22 = .ok (.ladd, 1) := by decide +kernel
theorem dX12_hang_23 : decode cX12_hang 23 = .ok (.aload_n 0, 1) := by decide +kernel
theorem dX12_hang_24 : decode cX12_hang 24 = .ok (.iload_n 1, 1) := by decide +kernel
theorem dX12_hang_25 : decode cX12_hang 25 = .ok (.aload_n 0, 1) := by decide +kernel
theorem dX12_hang_26 : decode cX12_hang 26 = .ok (.getfield 107, 3) := by decide +kernel
theorem dX12_hang_29 : decode cX12_hang 29 = .ok (.iload_n 1, 1) := by decide +kernel
theorem dX12_hang_30 : decode cX12_hang 30 = .ok (.iaload, 1) := by decide +kernel
theorem dX12_hang_31 : decode cX12_hang 31 = .ok (.invokevirtual 315, 3) := by decide +kernel
theorem dX12_hang_34 : decode cX12_hang 34 = .ok (.i2l, 1) := by decide +kernel
