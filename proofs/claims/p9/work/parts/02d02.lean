theorem dX4_readWindow_115 : decode cX4_readWindow 115 = .ok (.iadd, 1) := by decide +kernel
theorem dX4_readWindow_116 : decode cX4_readWindow 116 = .ok (.aload_n 0, 1) := by decide +kernel
theorem dX4_readWindow_117 : decode cX4_readWindow 117 = .ok (.getfield 24, 3) := by decide +kernel
theorem dX4_readWindow_120 : decode cX4_readWindow 120 = .ok (.getfield 45, 3) := by decide +kernel
theorem dX4_readWindow_123 : decode cX4_readWindow 123 = .ok (.iload_n 1, 1) := by decide +kernel
theorem dX4_readWindow_124 : decode cX4_readWindow 124 = .ok (.invokevirtual 103, 3) := by decide +kernel
theorem dX4_readWindow_127 : decode cX4_readWindow 127 = .ok (.iconst 1, 1) := by decide +kernel
theorem dX4_readWindow_128 : decode cX4_readWindow 128 = .ok (.isub, 1) := by decide +kernel
theorem dX4_readWindow_129 : decode cX4_readWindow 129 = .ok (.invokevirtual 88, 3) := by decide +kernel
theorem dX4_readWindow_132 : decode cX4_readWindow 132 = .ok (.istore 5, 2) := by decide +kernel
theorem dX4_readWindow_134 : decode cX4_readWindow 134 = .ok (.iload 5, 2) := by decide +kernel
theorem dX4_readWindow_136 : decode cX4_readWindow 136 = .ok (.iconst (-1), 1) := by decide +kernel
theorem dX4_readWindow_137 : decode cX4_readWindow 137 = .ok (.if_icmp .eq 12, 3) := by decide +kernel
theorem dX4_readWindow_140 : decode cX4_readWindow 140 = .ok (.aload_n 0, 1) := by decide +kernel
theorem dX4_readWindow_141 : decode cX4_readWindow 141 = .ok (.bipush 8, 2) := by decide +kernel
theorem dX4_readWindow_143 : decode cX4_readWindow 143 = .ok (.invokevirtual 92, 3) := by decide +kernel
theorem dX4_readWindow_146 : decode cX4_readWindow 146 = .ok (.ifCond .ne 5, 3) := by decide +kernel
theorem dX4_readWindow_149 : decode cX4_readWindow 149 = .ok (.iconst 0, 1) := by decide +kernel
theorem dX4_readWindow_150 : decode cX4_readWindow 150 = .ok (.ireturn, 1) := by decide +kernel
theorem dX4_readWindow_151 : decode cX4_readWindow 151 = .ok (.aload_n 0, 1) := by decide +kernel
theorem dX4_readWindow_152 : decode cX4_readWindow 152 = .ok (.getfield 24, 3) := by decide +kernel
theorem dX4_readWindow_155 : decode cX4_readWindow 155 = .ok (.iconst 0, 1) := by decide +kernel
theorem dX4_readWindow_156 : decode cX4_readWindow 156 = .ok (.iload_n 1, 1) := by decide +kernel
theorem dX4_readWindow_157 : decode cX4_readWindow 157 = .ok (.iload_n 2, 1) := by decide +kernel
theorem dX4_readWindow_158 : decode cX4_readWindow 158 = .ok (.iload_n 3, 1) := by decide +kernel
theorem dX4_readWindow_159 : decode cX4_readWindow 159 = .ok (.iload 4, 2) := by decide +kernel
theorem dX4_readWindow_161 : decode cX4_readWindow 161 = .ok (.iload 5, 2) := by decide +kernel
theorem dX4_readWindow_163 : decode cX4_readWindow 163 = .ok (.invokevirtual 106, 3) := by decide +kernel
theorem dX4_readWindow_166 : decode cX4_readWindow 166 = .ok (.iconst 1, 1) := by decide +kernel
theorem dX4_readWindow_167 : decode cX4_readWindow 167 = .ok (.ireturn, 1) := by decide +kernel
theorem dX4_readLean_0 : decode cX4_readLean 0 = .ok (.aload_n 0, 1) := by decide +kernel
theorem dX4_readLean_1 : decode cX4_readLean 1 = .ok (.dup, 1) := by decide +kernel
theorem dX4_readLean_2 : decode cX4_readLean 2 = .ok (.getfield 20, 3) := by decide +kernel
theorem dX4_readLean_5 : decode cX4_readLean 5 = .ok (.iconst 1, 1) := by decide +kernel
theorem dX4_readLean_6 : decode cX4_readLean 6 = .ok (.iadd, 1) := by decide +kernel
theorem dX4_readLean_7 : decode cX4_readLean 7 = .ok (.putfield 20, 3) := by decide +kernel
theorem dX4_readLean_10 : decode cX4_readLean 10 = .ok (.aload_n 0, 1) := by decide +kernel
theorem dX4_readLean_11 : decode cX4_readLean 11 = .ok (.bipush 6, 2) := by decide +kernel
theorem dX4_readLean_13 : decode cX4_readLean 13 = .ok (.invokevirtual 33, 3) := by decide +kernel
theorem dX4_readLean_16 : decode cX4_readLean 16 = .ok (.ifCond .eq 30, 3) := by decide +kernel
theorem dX4_readLean_19 : decode cX4_readLean 19 = .ok (.aload_n 0, 1) := by decide +kernel
theorem dX4_readLean_20 : decode cX4_readLean 20 = .ok (.getfield 24, 3) := by decide +kernel
theorem dX4_readLean_23 : decode cX4_readLean 23 = .ok (.getfield 45, 3) := by decide +kernel
theorem dX4_readLean_26 : decode cX4_readLean 26 = .ok (.aload_n 0, 1) := by decide +kernel
theorem dX4_readLean_27 : decode cX4_readLean 27 = .ok (.getfield 9, 3) := by decide +kernel
theorem dX4_readLean_30 : decode cX4_readLean 30 = .ok (.getfield 110, 3) := by decide +kernel
theorem dX4_readLean_33 : decode cX4_readLean 33 = .ok (.aload_n 0, 1) := by decide +kernel
theorem dX4_readLean_34 : decode cX4_readLean 34 = .ok (.getfield 20, 3) := by decide +kernel
theorem dX4_readLean_37 : decode cX4_readLean 37 = .ok (.iaload, 1) := by decide +kernel
theorem dX4_readLean_38 : decode cX4_readLean 38 = .ok (.invokevirtual 113, 3) := by decide +kernel
theorem dX4_readLean_41 : decode cX4_readLean 41 = .ok (.ifCond .eq 5, 3) := by decide +kernel
theorem dX4_readLean_44 : decode cX4_readLean 44 = .ok (.iconst 0, 1) := by decide +kernel
theorem dX4_readLean_45 : decode cX4_readLean 45 = .ok (.ireturn, 1) := by decide +kernel
theorem dX4_readLean_46 : decode cX4_readLean 46 = .ok (.aload_n 0, 1) := by decide +kernel
theorem dX4_readLean_47 : decode cX4_readLean 47 = .ok (.iconst 0, 1) := by decide +kernel
theorem dX4_readLean_48 : decode cX4_readLean 48 = .ok (.aload_n 0, 1) := by decide +kernel
theorem dX4_readLean_49 : decode cX4_readLean 49 = .ok (.getfield 24, 3) := by decide +kernel
theorem dX4_readLean_52 : decode cX4_readLean 52 = .ok (.getfield 45, 3) := by decide +kernel
theorem dX4_readLean_55 : decode cX4_readLean 55 = .ok (.getfield 49, 3) := by decide +kernel
theorem dX4_readLean_58 : decode cX4_readLean 58 = .ok (.iconst 1, 1) := by decide +kernel
theorem dX4_readLean_59 : decode cX4_readLean 59 = .ok (.isub, 1) := by decide +kernel
theorem dX4_readLean_60 : decode cX4_readLean 60 = .ok (.invokevirtual 88, 3) := by decide +kernel
theorem dX4_readLean_63 : decode cX4_readLean 63 = .ok (.istore_n 1, 1) := by decide +kernel
theorem dX4_readLean_64 : decode cX4_readLean 64 = .ok (.iload_n 1, 1) := by decide +kernel
theorem dX4_readLean_65 : decode cX4_readLean 65 = .ok (.iconst (-1), 1) := by decide +kernel
theorem dX4_readLean_66 : decode cX4_readLean 66 = .ok (.if_icmp .ne 5, 3) := by decide +kernel
theorem dX4_readLean_69 : decode cX4_readLean 69 = .ok (.iconst 0, 1) := by decide +kernel
theorem dX4_readLean_70 : decode cX4_readLean 70 = .ok (.ireturn, 1) := by decide +kernel
theorem dX4_readLean_71 : decode cX4_readLean 71 = .ok (.aload_n 0, 1) := by decide +kernel
theorem dX4_readLean_72 : decode cX4_readLean 72 = .ok (.bipush 7, 2) := by decide +kernel
theorem dX4_readLean_74 : decode cX4_readLean 74 = .ok (.invokevirtual 92, 3) := by decide +kernel
theorem dX4_readLean_77 : decode cX4_readLean 77 = .ok (.ifCond .eq 7, 3) := by decide +kernel
theorem dX4_readLean_80 : decode cX4_readLean 80 = .ok (.iconst (-1), 1) := by decide +kernel
theorem dX4_readLean_81 : decode cX4_readLean 81 = .ok (.goto 4, 3) := by decide +kernel
theorem dX4_readLean_84 : decode cX4_readLean 84 = .ok (.iconst 1, 1) := by decide +kernel
theorem dX4_readLean_85 : decode cX4_readLean 85 = .ok (.istore_n 2, 1) := by decide +kernel
theorem dX4_readLean_86 : decode cX4_readLean 86 = .ok (.aload_n 0, 1) := by decide +kernel
theorem dX4_readLean_87 : decode cX4_readLean 87 = .ok (.iconst 0, 1) := by decide +kernel
theorem dX4_readLean_88 : decode cX4_readLean 88 = .ok (.bipush 50, 2) := by decide +kernel
theorem dX4_readLean_90 : decode cX4_readLean 90 = .ok (.invokevirtual 88, 3) := by decide +kernel
theorem dX4_readLean_93 : decode cX4_readLean 93 = .ok (.istore_n 3, 1) := by decide +kernel
theorem dX4_readLean_94 : decode cX4_readLean 94 = .ok (.iload_n 3, 1) := by decide +kernel
theorem dX4_readLean_95 : decode cX4_readLean 95 = .ok (.iconst (-1), 1) := by decide +kernel
theorem dX4_readLean_96 : decode cX4_readLean 96 = .ok (.if_icmp .eq 12, 3) := by decide +kernel
theorem dX4_readLean_99 : decode cX4_readLean 99 = .ok (.aload_n 0, 1) := by decide +kernel
theorem dX4_readLean_100 : decode cX4_readLean 100 = .ok (.bipush 8, 2) := by decide +kernel
theorem dX4_readLean_102 : decode cX4_readLean 102 = .ok (.invokevirtual 92, 3) := by decide +kernel
theorem dX4_readLean_105 : decode cX4_readLean 105 = .ok (.ifCond .ne 5, 3) := by decide +kernel
theorem dX4_readLean_108 : decode cX4_readLean 108 = .ok (.iconst 0, 1) := by decide +kernel
theorem dX4_readLean_109 : decode cX4_readLean 109 = .ok (.ireturn, 1) := by decide +kernel
theorem dX4_readLean_110 : decode cX4_readLean 110 = .ok (.aload_n 0, 1) := by decide +kernel
theorem dX4_readLean_111 : decode cX4_readLean 111 = .ok (.getfield 24, 3) := by decide +kernel
theorem dX4_readLean_114 : decode cX4_readLean 114 = .ok (.getfield 45, 3) := by decide +kernel
theorem dX4_readLean_117 : decode cX4_readLean 117 = .ok (.iload_n 1, 1) := by decide +kernel
theorem dX4_readLean_118 : decode cX4_readLean 118 = .ok (.iload_n 2, 1) := by decide +kernel
theorem dX4_readLean_119 : decode cX4_readLean 119 = .ok (.iload_n 3, 1) := by decide +kernel
theorem dX4_readLean_120 : decode cX4_readLean 120 = .ok (.imul, 1) := by decide +kernel
theorem dX4_readLean_121 : decode cX4_readLean 121 = .ok (.invokevirtual 116, 3) := by decide +kernel
theorem dX4_readLean_124 : decode cX4_readLean 124 = .ok (.iconst 1, 1) := by decide +kernel
theorem dX4_readLean_125 : decode cX4_readLean 125 = .ok (.ireturn, 1) := by decide +kernel
theorem dX4_readStand_0 : decode cX4_readStand 0 = .ok (.aload_n 0, 1) := by decide +kernel
theorem dX4_readStand_1 : decode cX4_readStand 1 = .ok (.dup, 1) := by decide +kernel
theorem dX4_readStand_2 : decode cX4_readStand 2 = .ok (.getfield 20, 3) := by decide +kernel
theorem dX4_readStand_5 : decode cX4_readStand 5 = .ok (.iconst 1, 1) := by decide +kernel
theorem dX4_readStand_6 : decode cX4_readStand 6 = .ok (.iadd, 1) := by decide +kernel
theorem dX4_readStand_7 : decode cX4_readStand 7 = .ok (.putfield 20, 3) := by decide +kernel
theorem dX4_readStand_10 : decode cX4_readStand 10 = .ok (.aload_n 0, 1) := by decide +kernel
theorem dX4_readStand_11 : decode cX4_readStand 11 = .ok (.iconst 0, 1) := by decide +kernel
theorem dX4_readStand_12 : decode cX4_readStand 12 = .ok (.aload_n 0, 1) := by decide +kernel
theorem dX4_readStand_13 : decode cX4_readStand 13 = .ok (.getfield 24, 3) := by decide +kernel
theorem dX4_readStand_16 : decode cX4_readStand 16 = .ok (.getfield 45, 3) := by decide +kernel
theorem dX4_readStand_19 : decode cX4_readStand 19 = .ok (.getfield 49, 3) := by decide +kernel
theorem dX4_readStand_22 : decode cX4_readStand 22 = .ok (.iconst 1, 1) := by decide +kernel
theorem dX4_readStand_23 : decode cX4_readStand 23 = .ok (.isub, 1) := by decide +kernel
theorem dX4_readStand_24 : decode cX4_readStand 24 = .ok (.invokevirtual 88, 3) := by decide +kernel
theorem dX4_readStand_27 : decode cX4_readStand 27 = .ok (.istore_n 1, 1) := by decide +kernel
theorem dX4_readStand_28 : decode cX4_readStand 28 = .ok (.iload_n 1, 1) := by decide +kernel
theorem dX4_readStand_29 : decode cX4_readStand 29 = .ok (.iconst (-1), 1) := by decide +kernel
theorem dX4_readStand_30 : decode cX4_readStand 30 = .ok (.if_icmp .ne 7, 3) := by decide +kernel
theorem dX4_readStand_33 : decode cX4_readStand 33 = .ok (.iconst (-1), 1) := by decide +kernel
theorem dX4_readStand_34 : decode cX4_readStand 34 = .ok (.goto 19, 3) := by decide +kernel
theorem dX4_readStand_37 : decode cX4_readStand 37 = .ok (.aload_n 0, 1) := by decide +kernel
theorem dX4_readStand_38 : decode cX4_readStand 38 = .ok (.iconst 0, 1) := by decide +kernel
theorem dX4_readStand_39 : decode cX4_readStand 39 = .ok (.aload_n 0, 1) := by decide +kernel
theorem dX4_readStand_40 : decode cX4_readStand 40 = .ok (.getfield 24, 3) := by decide +kernel
theorem dX4_readStand_43 : decode cX4_readStand 43 = .ok (.getfield 45, 3) := by decide +kernel
theorem dX4_readStand_46 : decode cX4_readStand 46 = .ok (.iload_n 1, 1) := by decide +kernel
theorem dX4_readStand_47 : decode cX4_readStand 47 = .ok (.invokevirtual 99, 3) := by decide +kernel
theorem dX4_readStand_50 : decode cX4_readStand 50 = .ok (.invokevirtual 88, 3) := by decide +kernel
theorem dX4_readStand_53 : decode cX4_readStand 53 = .ok (.istore_n 2, 1) := by decide +kernel
theorem dX4_readStand_54 : decode cX4_readStand 54 = .ok (.iload_n 2, 1) := by decide +kernel
theorem dX4_readStand_55 : decode cX4_readStand 55 = .ok (.iconst (-1), 1) := by decide +kernel
theorem dX4_readStand_56 : decode cX4_readStand 56 = .ok (.if_icmp .ne 7, 3) := by decide +kernel
theorem dX4_readStand_59 : decode cX4_readStand 59 = .ok (.iconst (-1), 1) := by decide +kernel
theorem dX4_readStand_60 : decode cX4_readStand 60 = .ok (.goto 11, 3) := by decide +kernel
theorem dX4_readStand_63 : decode cX4_readStand 63 = .ok (.aload_n 0, 1) := by decide +kernel
theorem dX4_readStand_64 : decode cX4_readStand 64 = .ok (.iconst 0, 1) := by decide +kernel
theorem dX4_readStand_65 : decode cX4_readStand 65 = .ok (.sipush 400, 3) := by decide +kernel
theorem dX4_readStand_68 : decode cX4_readStand 68 = .ok (.invokevirtual 88, 3) := by decide +kernel
theorem dX4_readStand_71 : decode cX4_readStand 71 = .ok (.istore_n 3, 1) := by decide +kernel
theorem dX4_readStand_72 : decode cX4_readStand 72 = .ok (.iload_n 3, 1) := by decide +kernel
theorem dX4_readStand_73 : decode cX4_readStand 73 = .ok (.iconst (-1), 1) := by decide +kernel
theorem dX4_readStand_74 : decode cX4_readStand 74 = .ok (.if_icmp .eq 12, 3) := by decide +kernel
theorem dX4_readStand_77 : decode cX4_readStand 77 = .ok (.aload_n 0, 1) := by decide +kernel
theorem dX4_readStand_78 : decode cX4_readStand 78 = .ok (.bipush 8, 2) := by decide +kernel
theorem dX4_readStand_80 : decode cX4_readStand 80 = .ok (.invokevirtual 92, 3) := by decide +kernel
theorem dX4_readStand_83 : decode cX4_readStand 83 = .ok (.ifCond .ne 5, 3) := by decide +kernel
theorem dX4_readStand_86 : decode cX4_readStand 86 = .ok (.iconst 0, 1) := by decide +kernel
theorem dX4_readStand_87 : decode cX4_readStand 87 = .ok (.ireturn, 1) := by decide +kernel
theorem dX4_readStand_88 : decode cX4_readStand 88 = .ok (.aload_n 0, 1) := by decide +kernel
theorem dX4_readStand_89 : decode cX4_readStand 89 = .ok (.getfield 24, 3) := by decide +kernel
theorem dX4_readStand_92 : decode cX4_readStand 92 = .ok (.iload_n 1, 1) := by decide +kernel
theorem dX4_readStand_93 : decode cX4_readStand 93 = .ok (.iload_n 2, 1) := by decide +kernel
theorem dX4_readStand_94 : decode cX4_readStand 94 = .ok (.iload_n 3, 1) := by decide +kernel
theorem dX4_readStand_95 : decode cX4_readStand 95 = .ok (.invokevirtual 120, 3) := by decide +kernel
theorem dX4_readStand_98 : decode cX4_readStand 98 = .ok (.iconst 1, 1) := by decide +kernel
theorem dX4_readStand_99 : decode cX4_readStand 99 = .ok (.ireturn, 1) := by decide +kernel
theorem dX4_readNumber_0 : decode cX4_readNumber 0 = .ok (.aload_n 0, 1) := by decide +kernel
theorem dX4_readNumber_1 : decode cX4_readNumber 1 = .ok (.bipush 6, 2) := by decide +kernel
theorem dX4_readNumber_3 : decode cX4_readNumber 3 = .ok (.invokevirtual 33, 3) := by decide +kernel
theorem dX4_readNumber_6 : decode cX4_readNumber 6 = .ok (.ifCond .eq 23, 3) := by decide +kernel
theorem dX4_readNumber_9 : decode cX4_readNumber 9 = .ok (.iload_n 1, 1) := by decide +kernel
theorem dX4_readNumber_10 : decode cX4_readNumber 10 = .ok (.aload_n 0, 1) := by decide +kernel
theorem dX4_readNumber_11 : decode cX4_readNumber 11 = .ok (.getfield 9, 3) := by decide +kernel
theorem dX4_readNumber_14 : decode cX4_readNumber 14 = .ok (.getfield 110, 3) := by decide +kernel
theorem dX4_readNumber_17 : decode cX4_readNumber 17 = .ok (.aload_n 0, 1) := by decide +kernel
theorem dX4_readNumber_18 : decode cX4_readNumber 18 = .ok (.getfield 20, 3) := by decide +kernel
theorem dX4_readNumber_21 : decode cX4_readNumber 21 = .ok (.iaload, 1) := by decide +kernel
theorem dX4_readNumber_22 : decode cX4_readNumber 22 = .ok (.iload_n 2, 1) := by decide +kernel
theorem dX4_readNumber_23 : decode cX4_readNumber 23 = .ok (.invokestatic 123, 3) := by decide +kernel
theorem dX4_readNumber_26 : decode cX4_readNumber 26 = .ok (.ifCond .ne 5, 3) := by decide +kernel
theorem dX4_readNumber_29 : decode cX4_readNumber 29 = .ok (.iconst (-1), 1) := by decide +kernel
theorem dX4_readNumber_30 : decode cX4_readNumber 30 = .ok (.ireturn, 1) := by decide +kernel
theorem dX4_readNumber_31 : decode cX4_readNumber 31 = .ok (.aload_n 0, 1) := by decide +kernel
theorem dX4_readNumber_32 : decode cX4_readNumber 32 = .ok (.dup, 1) := by decide +kernel
theorem dX4_readNumber_33 : decode cX4_readNumber 33 = .ok (.getfield 20, 3) := by decide +kernel
theorem dX4_readNumber_36 : decode cX4_readNumber 36 = .ok (.iconst 1, 1) := by decide +kernel
theorem dX4_readNumber_37 : decode cX4_readNumber 37 = .ok (.iadd, 1) := by decide +kernel
theorem dX4_readNumber_38 : decode cX4_readNumber 38 = .ok (.putfield 20, 3) := by decide +kernel
theorem dX4_readNumber_41 : decode cX4_readNumber 41 = .ok (.aload_n 0, 1) := by decide +kernel
theorem dX4_readNumber_42 : decode cX4_readNumber 42 = .ok (.getfield 9, 3) := by decide +kernel
theorem dX4_readNumber_45 : decode cX4_readNumber 45 = .ok (.getfield 110, 3) := by decide +kernel
theorem dX4_readNumber_48 : decode cX4_readNumber 48 = .ok (.aload_n 0, 1) := by decide +kernel
theorem dX4_readNumber_49 : decode cX4_readNumber 49 = .ok (.getfield 20, 3) := by decide +kernel
theorem dX4_readNumber_52 : decode cX4_readNumber 52 = .ok (.iconst 1, 1) := by decide +kernel
theorem dX4_readNumber_53 : decode cX4_readNumber 53 = .ok (.isub, 1) := by decide +kernel
theorem dX4_readNumber_54 : decode cX4_readNumber 54 = .ok (.iaload, 1) := by decide +kernel
theorem dX4_readNumber_55 : decode cX4_readNumber 55 = .ok (.ireturn, 1) := by decide +kernel
theorem dX4_readSign_0 : decode cX4_readSign 0 = .ok (.aload_n 0, 1) := by decide +kernel
theorem dX4_readSign_1 : decode cX4_readSign 1 = .ok (.iload_n 1, 1) := by decide +kernel
theorem dX4_readSign_2 : decode cX4_readSign 2 = .ok (.invokevirtual 33, 3) := by decide +kernel
theorem dX4_readSign_5 : decode cX4_readSign 5 = .ok (.ifCond .ne 5, 3) := by decide +kernel
theorem dX4_readSign_8 : decode cX4_readSign 8 = .ok (.iconst 0, 1) := by decide +kernel
theorem dX4_readSign_9 : decode cX4_readSign 9 = .ok (.ireturn, 1) := by decide +kernel
theorem dX4_readSign_10 : decode cX4_readSign 10 = .ok (.aload_n 0, 1) := by decide +kernel
theorem dX4_readSign_11 : decode cX4_readSign 11 = .ok (.dup, 1) := by decide +kernel
theorem dX4_readSign_12 : decode cX4_readSign 12 = .ok (.getfield 20, 3) := by decide +kernel
theorem dX4_readSign_15 : decode cX4_readSign 15 = .ok (.iconst 1, 1) := by decide +kernel
theorem dX4_readSign_16 : decode cX4_readSign 16 = .ok (.iadd, 1) := by decide +kernel
theorem dX4_readSign_17 : decode cX4_readSign 17 = .ok (.putfield 20, 3) := by decide +kernel
theorem dX4_readSign_20 : decode cX4_readSign 20 = .ok (.iconst 1, 1) := by decide +kernel
theorem dX4_readSign_21 : decode cX4_readSign 21 = .ok (.ireturn, 1) := by decide +kernel
theorem dX6_clear_0 : decode cX6_clear 0 = .ok (.aload_n 0, 1) := by decide +kernel
theorem dX6_clear_1 : decode cX6_clear 1 = .ok (.getfield 12, 3) := by decide +kernel
theorem dX6_clear_4 : decode cX6_clear 4 = .ok (.invokevirtual 47, 3) := by decide +kernel
theorem dX6_clear_7 : decode cX6_clear 7 = .ok (.aload_n 0, 1) := by decide +kernel
theorem dX6_clear_8 : decode cX6_clear 8 = .ok (.iconst 0, 1) := by decide +kernel
theorem dX6_clear_9 : decode cX6_clear 9 = .ok (.putfield 50, 3) := by decide +kernel
theorem dX6_clear_12 : decode cX6_clear 12 = .ok (.aload_n 0, 1) := by decide +kernel
theorem dX6_clear_13 : decode cX6_clear 13 = .ok (.iconst 0, 1) := by decide +kernel
theorem dX6_clear_14 : decode cX6_clear 14 = .ok (.putfield 54, 3) := by decide +kernel
theorem dX6_clear_17 : decode cX6_clear 17 = .ok (.return_, 1) := by decide +kernel
theorem dX6_addOpening_0 : decode cX6_addOpening 0 = .ok (.aload_n 0, 1) := by decide +kernel
theorem dX6_addOpening_1 : decode cX6_addOpening 1 = .ok (.getfield 50, 3) := by decide +kernel
theorem dX6_addOpening_4 : decode cX6_addOpening 4 = .ok (.bipush 8, 2) := by decide +kernel
theorem dX6_addOpening_6 : decode cX6_addOpening 6 = .ok (.if_icmp .lt 4, 3) := by decide +kernel
theorem dX6_addOpening_9 : decode cX6_addOpening 9 = .ok (.return_, 1) := by decide +kernel
theorem dX6_addOpening_10 : decode cX6_addOpening 10 = .ok (.aload_n 0, 1) := by decide +kernel
theorem dX6_addOpening_11 : decode cX6_addOpening 11 = .ok (.getfield 18, 3) := by decide +kernel
theorem dX6_addOpening_14 : decode cX6_addOpening 14 = .ok (.aload_n 0, 1) := by decide +kernel
theorem dX6_addOpening_15 : decode cX6_addOpening 15 = .ok (.getfield 50, 3) := by decide +kernel
theorem dX6_addOpening_18 : decode cX6_addOpening 18 = .ok (.iload_n 1, 1) := by decide +kernel
theorem dX6_addOpening_19 : decode cX6_addOpening 19 = .ok (.bastore, 1) := by decide +kernel
theorem dX6_addOpening_20 : decode cX6_addOpening 20 = .ok (.aload_n 0, 1) := by decide +kernel
theorem dX6_addOpening_21 : decode cX6_addOpening 21 = .ok (.getfield 22, 3) := by decide +kernel
theorem dX6_addOpening_24 : decode cX6_addOpening 24 = .ok (.aload_n 0, 1) := by decide +kernel
theorem dX6_addOpening_25 : decode cX6_addOpening 25 = .ok (.getfield 50, 3) := by decide +kernel
theorem dX6_addOpening_28 : decode cX6_addOpening 28 = .ok (.iload_n 2, 1) := by decide +kernel
theorem dX6_addOpening_29 : decode cX6_addOpening 29 = .ok (.iastore, 1) := by decide +kernel
theorem dX6_addOpening_30 : decode cX6_addOpening 30 = .ok (.aload_n 0, 1) := by decide +kernel
theorem dX6_addOpening_31 : decode cX6_addOpening 31 = .ok (.getfield 26, 3) := by decide +kernel
theorem dX6_addOpening_34 : decode cX6_addOpening 34 = .ok (.aload_n 0, 1) := by decide +kernel
theorem dX6_addOpening_35 : decode cX6_addOpening 35 = .ok (.getfield 50, 3) := by decide +kernel
theorem dX6_addOpening_38 : decode cX6_addOpening 38 = .ok (.iload_n 3, 1) := by decide +kernel
theorem dX6_addOpening_39 : decode cX6_addOpening 39 = .ok (.iastore, 1) := by decide +kernel
theorem dX6_addOpening_40 : decode cX6_addOpening 40 = .ok (.aload_n 0, 1) := by decide +kernel
theorem dX6_addOpening_41 : decode cX6_addOpening 41 = .ok (.getfield 29, 3) := by decide +kernel
theorem dX6_addOpening_44 : decode cX6_addOpening 44 = .ok (.aload_n 0, 1) := by decide +kernel
theorem dX6_addOpening_45 : decode cX6_addOpening 45 = .ok (.getfield 50, 3) := by decide +kernel
theorem dX6_addOpening_48 : decode cX6_addOpening 48 = .ok (.iload 4, 2) := by decide +kernel
theorem dX6_addOpening_50 : decode cX6_addOpening 50 = .ok (.iastore, 1) := by decide +kernel
theorem dX6_addOpening_51 : decode cX6_addOpening 51 = .ok (.aload_n 0, 1) := by decide +kernel
theorem dX6_addOpening_52 : decode cX6_addOpening 52 = .ok (.getfield 32, 3) := by decide +kernel
theorem dX6_addOpening_55 : decode cX6_addOpening 55 = .ok (.aload_n 0, 1) := by decide +kernel
theorem dX6_addOpening_56 : decode cX6_addOpening 56 = .ok (.getfield 50, 3) := by decide +kernel
theorem dX6_addOpening_59 : decode cX6_addOpening 59 = .ok (.iload 5, 2) := by decide +kernel
theorem dX6_addOpening_61 : decode cX6_addOpening 61 = .ok (.iastore, 1) := by decide +kernel
theorem dX6_addOpening_62 : decode cX6_addOpening 62 = .ok (.aload_n 0, 1) := by decide +kernel
theorem dX6_addOpening_63 : decode cX6_addOpening 63 = .ok (.getfield 35, 3) := by decide +kernel
theorem dX6_addOpening_66 : decode cX6_addOpening 66 = .ok (.aload_n 0, 1) := by decide +kernel
theorem dX6_addOpening_67 : decode cX6_addOpening 67 = .ok (.getfield 50, 3) := by decide +kernel
theorem dX6_addOpening_70 : decode cX6_addOpening 70 = .ok (.iload 6, 2) := by decide +kernel
theorem dX6_addOpening_72 : decode cX6_addOpening 72 = .ok (.iastore, 1) := by decide +kernel
theorem dX6_addOpening_73 : decode cX6_addOpening 73 = .ok (.aload_n 0, 1) := by decide +kernel
theorem dX6_addOpening_74 : decode cX6_addOpening 74 = .ok (.dup, 1) := by decide +kernel
theorem dX6_addOpening_75 : decode cX6_addOpening 75 = .ok (.getfield 50, 3) := by decide +kernel
theorem dX6_addOpening_78 : decode cX6_addOpening 78 = .ok (.iconst 1, 1) := by decide +kernel
theorem dX6_addOpening_79 : decode cX6_addOpening 79 = .ok (.iadd, 1) := by decide +kernel
theorem dX6_addOpening_80 : decode cX6_addOpening 80 = .ok (.putfield 50, 3) := by decide +kernel
theorem dX6_addOpening_83 : decode cX6_addOpening 83 = .ok (.return_, 1) := by decide +kernel
theorem dX6_addStand_0 : decode cX6_addStand 0 = .ok (.aload_n 0, 1) := by decide +kernel
theorem dX6_addStand_1 : decode cX6_addStand 1 = .ok (.getfield 54, 3) := by decide +kernel
theorem dX6_addStand_4 : decode cX6_addStand 4 = .ok (.iconst 4, 1) := by decide +kernel
theorem dX6_addStand_5 : decode cX6_addStand 5 = .ok (.if_icmp .lt 4, 3) := by decide +kernel
theorem dX6_addStand_8 : decode cX6_addStand 8 = .ok (.return_, 1) := by decide +kernel
theorem dX6_addStand_9 : decode cX6_addStand 9 = .ok (.aload_n 0, 1) := by decide +kernel
theorem dX6_addStand_10 : decode cX6_addStand 10 = .ok (.getfield 38, 3) := by decide +kernel
theorem dX6_addStand_13 : decode cX6_addStand 13 = .ok (.aload_n 0, 1) := by decide +kernel
theorem dX6_addStand_14 : decode cX6_addStand 14 = .ok (.getfield 54, 3) := by decide +kernel
theorem dX6_addStand_17 : decode cX6_addStand 17 = .ok (.iload_n 1, 1) := by decide +kernel
theorem dX6_addStand_18 : decode cX6_addStand 18 = .ok (.iastore, 1) := by decide +kernel
theorem dX6_addStand_19 : decode cX6_addStand 19 = .ok (.aload_n 0, 1) := by decide +kernel
theorem dX6_addStand_20 : decode cX6_addStand 20 = .ok (.getfield 41, 3) := by decide +kernel
theorem dX6_addStand_23 : decode cX6_addStand 23 = .ok (.aload_n 0, 1) := by decide +kernel
theorem dX6_addStand_24 : decode cX6_addStand 24 = .ok (.getfield 54, 3) := by decide +kernel
theorem dX6_addStand_27 : decode cX6_addStand 27 = .ok (.iload_n 2, 1) := by decide +kernel
theorem dX6_addStand_28 : decode cX6_addStand 28 = .ok (.iastore, 1) := by decide +kernel
theorem dX6_addStand_29 : decode cX6_addStand 29 = .ok (.aload_n 0, 1) := by decide +kernel
theorem dX6_addStand_30 : decode cX6_addStand 30 = .ok (.getfield 44, 3) := by decide +kernel
theorem dX6_addStand_33 : decode cX6_addStand 33 = .ok (.aload_n 0, 1) := by decide +kernel
theorem dX6_addStand_34 : decode cX6_addStand 34 = .ok (.getfield 54, 3) := by decide +kernel
theorem dX6_addStand_37 : decode cX6_addStand 37 = .ok (.iload_n 3, 1) := by decide +kernel
theorem dX6_addStand_38 : decode cX6_addStand 38 = .ok (.iastore, 1) := by decide +kernel
theorem dX6_addStand_39 : decode cX6_addStand 39 = .ok (.aload_n 0, 1) := by decide +kernel
theorem dX6_addStand_40 : decode cX6_addStand 40 = .ok (.dup, 1) := by decide +kernel
theorem dX6_addStand_41 : decode cX6_addStand 41 = .ok (.getfield 54, 3) := by decide +kernel
theorem dX6_addStand_44 : decode cX6_addStand 44 = .ok (.iconst 1, 1) := by decide +kernel
theorem dX6_addStand_45 : decode cX6_addStand 45 = .ok (.iadd, 1) := by decide +kernel
theorem dX6_addStand_46 : decode cX6_addStand 46 = .ok (.putfield 54, 3) := by decide +kernel
theorem dX6_addStand_49 : decode cX6_addStand 49 = .ok (.return_, 1) := by decide +kernel
theorem dX6_isWindow_0 : decode cX6_isWindow 0 = .ok (.iconst 0, 1) := by decide +kernel
theorem dX6_isWindow_1 : decode cX6_isWindow 1 = .ok (.iload_n 1, 1) := by decide +kernel
theorem dX6_isWindow_2 : decode cX6_isWindow 2 = .ok (.aload_n 0, 1) := by decide +kernel
theorem dX6_isWindow_3 : decode cX6_isWindow 3 = .ok (.getfield 50, 3) := by decide +kernel
theorem dX6_isWindow_6 : decode cX6_isWindow 6 = .ok (.iconst 1, 1) := by decide +kernel
theorem dX6_isWindow_7 : decode cX6_isWindow 7 = .ok (.isub, 1) := by decide +kernel
theorem dX6_isWindow_8 : decode cX6_isWindow 8 = .ok (.invokestatic 57, 3) := by decide +kernel
theorem dX6_isWindow_11 : decode cX6_isWindow 11 = .ok (.ifCond .eq 16, 3) := by decide +kernel
theorem dX6_isWindow_14 : decode cX6_isWindow 14 = .ok (.aload_n 0, 1) := by decide +kernel
theorem dX6_isWindow_15 : decode cX6_isWindow 15 = .ok (.getfield 18, 3) := by decide +kernel
theorem dX6_isWindow_18 : decode cX6_isWindow 18 = .ok (.iload_n 1, 1) := by decide +kernel
theorem dX6_isWindow_19 : decode cX6_isWindow 19 = .ok (.baload, 1) := by decide +kernel
theorem dX6_isWindow_20 : decode cX6_isWindow 20 = .ok (.ifCond .ne 7, 3) := by decide +kernel
theorem dX6_isWindow_23 : decode cX6_isWindow 23 = .ok (.iconst 1, 1) := by decide +kernel
theorem dX6_isWindow_24 : decode cX6_isWindow 24 = .ok (.goto 4, 3) := by decide +kernel
theorem dX6_isWindow_27 : decode cX6_isWindow 27 = .ok (.iconst 0, 1) := by decide +kernel
theorem dX6_isWindow_28 : decode cX6_isWindow 28 = .ok (.ireturn, 1) := by decide +kernel
theorem dX6_lowerOf_0 : decode cX6_lowerOf 0 = .ok (.iconst 0, 1) := by decide +kernel
theorem dX6_lowerOf_1 : decode cX6_lowerOf 1 = .ok (.iload_n 1, 1) := by decide +kernel
theorem dX6_lowerOf_2 : decode cX6_lowerOf 2 = .ok (.aload_n 0, 1) := by decide +kernel
theorem dX6_lowerOf_3 : decode cX6_lowerOf 3 = .ok (.getfield 50, 3) := by decide +kernel
theorem dX6_lowerOf_6 : decode cX6_lowerOf 6 = .ok (.iconst 1, 1) := by decide +kernel
theorem dX6_lowerOf_7 : decode cX6_lowerOf 7 = .ok (.isub, 1) := by decide +kernel
theorem dX6_lowerOf_8 : decode cX6_lowerOf 8 = .ok (.invokestatic 57, 3) := by decide +kernel
theorem dX6_lowerOf_11 : decode cX6_lowerOf 11 = .ok (.ifCond .eq 12, 3) := by decide +kernel
theorem dX6_lowerOf_14 : decode cX6_lowerOf 14 = .ok (.aload_n 0, 1) := by decide +kernel
theorem dX6_lowerOf_15 : decode cX6_lowerOf 15 = .ok (.getfield 32, 3) := by decide +kernel
theorem dX6_lowerOf_18 : decode cX6_lowerOf 18 = .ok (.iload_n 1, 1) := by decide +kernel
theorem dX6_lowerOf_19 : decode cX6_lowerOf 19 = .ok (.iaload, 1) := by decide +kernel
theorem dX6_lowerOf_20 : decode cX6_lowerOf 20 = .ok (.goto 4, 3) := by decide +kernel
theorem dX6_lowerOf_23 : decode cX6_lowerOf 23 = .ok (.iconst 0, 1) := by decide +kernel
theorem dX6_lowerOf_24 : decode cX6_lowerOf 24 = .ok (.ireturn, 1) := by decide +kernel
theorem dX6_upperOf_0 : decode cX6_upperOf 0 = .ok (.iconst 0, 1) := by decide +kernel
theorem dX6_upperOf_1 : decode cX6_upperOf 1 = .ok (.iload_n 1, 1) := by decide +kernel
theorem dX6_upperOf_2 : decode cX6_upperOf 2 = .ok (.aload_n 0, 1) := by decide +kernel
theorem dX6_upperOf_3 : decode cX6_upperOf 3 = .ok (.getfield 50, 3) := by decide +kernel
theorem dX6_upperOf_6 : decode cX6_upperOf 6 = .ok (.iconst 1, 1) := by decide +kernel
theorem dX6_upperOf_7 : decode cX6_upperOf 7 = .ok (.isub, 1) := by decide +kernel
theorem dX6_upperOf_8 : decode cX6_upperOf 8 = .ok (.invokestatic 57, 3) := by decide +kernel
theorem dX6_upperOf_11 : decode cX6_upperOf 11 = .ok (.ifCond .eq 12, 3) := by decide +kernel
theorem dX6_upperOf_14 : decode cX6_upperOf 14 = .ok (.aload_n 0, 1) := by decide +kernel
theorem dX6_upperOf_15 : decode cX6_upperOf 15 = .ok (.getfield 35, 3) := by decide +kernel
theorem dX6_upperOf_18 : decode cX6_upperOf 18 = .ok (.iload_n 1, 1) := by decide +kernel
theorem dX6_upperOf_19 : decode cX6_upperOf 19 = .ok (.iaload, 1) := by decide +kernel
theorem dX6_upperOf_20 : decode cX6_upperOf 20 = .ok (.goto 4, 3) := by decide +kernel
theorem dX6_upperOf_23 : decode cX6_upperOf 23 = .ok (.iconst 0, 1) := by decide +kernel
theorem dX6_upperOf_24 : decode cX6_upperOf 24 = .ok (.ireturn, 1) := by decide +kernel
theorem dX6_lies_0 : decode cX6_lies 0 = .ok (.aload_n 0, 1) := by decide +kernel
theorem dX6_lies_1 : decode cX6_lies 1 = .ok (.getfield 22, 3) := by decide +kernel
theorem dX6_lies_4 : decode cX6_lies 4 = .ok (.iload_n 3, 1) := by decide +kernel
theorem dX6_lies_5 : decode cX6_lies 5 = .ok (.iaload, 1) := by decide +kernel
theorem dX6_lies_6 : decode cX6_lies 6 = .ok (.iload_n 1, 1) := by decide +kernel
theorem dX6_lies_7 : decode cX6_lies 7 = .ok (.if_icmp .ne 26, 3) := by decide +kernel
theorem dX6_lies_10 : decode cX6_lies 10 = .ok (.aload_n 0, 1) := by decide +kernel
theorem dX6_lies_11 : decode cX6_lies 11 = .ok (.getfield 26, 3) := by decide +kernel
theorem dX6_lies_14 : decode cX6_lies 14 = .ok (.iload_n 3, 1) := by decide +kernel
theorem dX6_lies_15 : decode cX6_lies 15 = .ok (.iaload, 1) := by decide +kernel
theorem dX6_lies_16 : decode cX6_lies 16 = .ok (.iload_n 2, 1) := by decide +kernel
theorem dX6_lies_17 : decode cX6_lies 17 = .ok (.aload_n 0, 1) := by decide +kernel
theorem dX6_lies_18 : decode cX6_lies 18 = .ok (.getfield 29, 3) := by decide +kernel
theorem dX6_lies_21 : decode cX6_lies 21 = .ok (.iload_n 3, 1) := by decide +kernel
theorem dX6_lies_22 : decode cX6_lies 22 = .ok (.iaload, 1) := by decide +kernel
theorem dX6_lies_23 : decode cX6_lies 23 = .ok (.invokestatic 57, 3) := by decide +kernel
theorem dX6_lies_26 : decode cX6_lies 26 = .ok (.ifCond .eq 7, 3) := by decide +kernel
theorem dX6_lies_29 : decode cX6_lies 29 = .ok (.iconst 1, 1) := by decide +kernel
theorem dX6_lies_30 : decode cX6_lies 30 = .ok (.goto 4, 3) := by decide +kernel
theorem dX6_lies_33 : decode cX6_lies 33 = .ok (.iconst 0, 1) := by decide +kernel
theorem dX6_lies_34 : decode cX6_lies 34 = .ok (.ireturn, 1) := by decide +kernel
theorem dX6_openingWith_0 : decode cX6_openingWith 0 = .ok (.iconst 0, 1) := by decide +kernel
theorem dX6_openingWith_1 : decode cX6_openingWith 1 = .ok (.istore 4, 2) := by decide +kernel
theorem dX6_openingWith_3 : decode cX6_openingWith 3 = .ok (.iload 4, 2) := by decide +kernel
theorem dX6_openingWith_5 : decode cX6_openingWith 5 = .ok (.aload_n 0, 1) := by decide +kernel
theorem dX6_openingWith_6 : decode cX6_openingWith 6 = .ok (.getfield 50, 3) := by decide +kernel
theorem dX6_openingWith_9 : decode cX6_openingWith 9 = .ok (.if_icmp .ge 34, 3) := by decide +kernel
theorem dX6_openingWith_12 : decode cX6_openingWith 12 = .ok (.aload_n 0, 1) := by decide +kernel
theorem dX6_openingWith_13 : decode cX6_openingWith 13 = .ok (.iload_n 1, 1) := by decide +kernel
theorem dX6_openingWith_14 : decode cX6_openingWith 14 = .ok (.iload_n 2, 1) := by decide +kernel
theorem dX6_openingWith_15 : decode cX6_openingWith 15 = .ok (.iload 4, 2) := by decide +kernel
theorem dX6_openingWith_17 : decode cX6_openingWith 17 = .ok (.invokevirtual 61, 3) := by decide +kernel
theorem dX6_openingWith_20 : decode cX6_openingWith 20 = .ok (.ifCond .eq 17, 3) := by decide +kernel
theorem dX6_openingWith_23 : decode cX6_openingWith 23 = .ok (.aload_n 0, 1) := by decide +kernel
theorem dX6_openingWith_24 : decode cX6_openingWith 24 = .ok (.iload_n 1, 1) := by decide +kernel
theorem dX6_openingWith_25 : decode cX6_openingWith 25 = .ok (.iload_n 3, 1) := by decide +kernel
theorem dX6_openingWith_26 : decode cX6_openingWith 26 = .ok (.iload 4, 2) := by decide +kernel
theorem dX6_openingWith_28 : decode cX6_openingWith 28 = .ok (.invokevirtual 61, 3) := by decide +kernel
theorem dX6_openingWith_31 : decode cX6_openingWith 31 = .ok (.ifCond .eq 6, 3) := by decide +kernel
theorem dX6_openingWith_34 : decode cX6_openingWith 34 = .ok (.iload 4, 2) := by decide +kernel
theorem dX6_openingWith_36 : decode cX6_openingWith 36 = .ok (.ireturn, 1) := by decide +kernel
theorem dX6_openingWith_37 : decode cX6_openingWith 37 = .ok (.iinc 4 1, 3) := by decide +kernel
theorem dX6_openingWith_40 : decode cX6_openingWith 40 = .ok (.goto (-37), 3) := by decide +kernel
theorem dX6_openingWith_43 : decode cX6_openingWith 43 = .ok (.iconst (-1), 1) := by decide +kernel
theorem dX6_openingWith_44 : decode cX6_openingWith 44 = .ok (.ireturn, 1) := by decide +kernel
theorem dX6_opensAt_0 : decode cX6_opensAt 0 = .ok (.iconst 0, 1) := by decide +kernel
theorem dX6_opensAt_1 : decode cX6_opensAt 1 = .ok (.istore 5, 2) := by decide +kernel
theorem dX6_opensAt_3 : decode cX6_opensAt 3 = .ok (.iload 5, 2) := by decide +kernel
theorem dX6_opensAt_5 : decode cX6_opensAt 5 = .ok (.aload_n 0, 1) := by decide +kernel
theorem dX6_opensAt_6 : decode cX6_opensAt 6 = .ok (.getfield 50, 3) := by decide +kernel
theorem dX6_opensAt_9 : decode cX6_opensAt 9 = .ok (.if_icmp .ge 45, 3) := by decide +kernel
theorem dX6_opensAt_12 : decode cX6_opensAt 12 = .ok (.aload_n 0, 1) := by decide +kernel
theorem dX6_opensAt_13 : decode cX6_opensAt 13 = .ok (.iload_n 1, 1) := by decide +kernel
theorem dX6_opensAt_14 : decode cX6_opensAt 14 = .ok (.iload_n 2, 1) := by decide +kernel
theorem dX6_opensAt_15 : decode cX6_opensAt 15 = .ok (.iload 5, 2) := by decide +kernel
theorem dX6_opensAt_17 : decode cX6_opensAt 17 = .ok (.invokevirtual 61, 3) := by decide +kernel
theorem dX6_opensAt_20 : decode cX6_opensAt 20 = .ok (.ifCond .eq 28, 3) := by decide +kernel
theorem dX6_opensAt_23 : decode cX6_opensAt 23 = .ok (.aload_n 0, 1) := by decide +kernel
theorem dX6_opensAt_24 : decode cX6_opensAt 24 = .ok (.getfield 32, 3) := by decide +kernel
theorem dX6_opensAt_27 : decode cX6_opensAt 27 = .ok (.iload 5, 2) := by decide +kernel
theorem dX6_opensAt_29 : decode cX6_opensAt 29 = .ok (.iaload, 1) := by decide +kernel
theorem dX6_opensAt_30 : decode cX6_opensAt 30 = .ok (.iload 4, 2) := by decide +kernel
theorem dX6_opensAt_32 : decode cX6_opensAt 32 = .ok (.if_icmp .ge 16, 3) := by decide +kernel
