theorem dX8_copyFrom_88 : decode cX8_copyFrom 88 = .ok (.aload_n 1, 1) := by decide +kernel
theorem dX8_copyFrom_89 : decode cX8_copyFrom 89 = .ok (.getfield 24, 3) := by decide +kernel
theorem dX8_copyFrom_92 : decode cX8_copyFrom 92 = .ok (.iload_n 2, 1) := by decide +kernel
theorem dX8_copyFrom_93 : decode cX8_copyFrom 93 = .ok (.iaload, 1) := by decide +kernel
theorem dX8_copyFrom_94 : decode cX8_copyFrom 94 = .ok (.iastore, 1) := by decide +kernel
theorem dX8_copyFrom_95 : decode cX8_copyFrom 95 = .ok (.aload_n 0, 1) := by decide +kernel
theorem dX8_copyFrom_96 : decode cX8_copyFrom 96 = .ok (.getfield 27, 3) := by decide +kernel
theorem dX8_copyFrom_99 : decode cX8_copyFrom 99 = .ok (.iload_n 2, 1) := by decide +kernel
theorem dX8_copyFrom_100 : decode cX8_copyFrom 100 = .ok (.aload_n 1, 1) := by decide +kernel
theorem dX8_copyFrom_101 : decode cX8_copyFrom 101 = .ok (.getfield 27, 3) := by decide +kernel
theorem dX8_copyFrom_104 : decode cX8_copyFrom 104 = .ok (.iload_n 2, 1) := by decide +kernel
theorem dX8_copyFrom_105 : decode cX8_copyFrom 105 = .ok (.iaload, 1) := by decide +kernel
theorem dX8_copyFrom_106 : decode cX8_copyFrom 106 = .ok (.iastore, 1) := by decide +kernel
theorem dX8_copyFrom_107 : decode cX8_copyFrom 107 = .ok (.aload_n 0, 1) := by decide +kernel
theorem dX8_copyFrom_108 : decode cX8_copyFrom 108 = .ok (.getfield 30, 3) := by decide +kernel
theorem dX8_copyFrom_111 : decode cX8_copyFrom 111 = .ok (.iload_n 2, 1) := by decide +kernel
theorem dX8_copyFrom_112 : decode cX8_copyFrom 112 = .ok (.aload_n 1, 1) := by decide +kernel
theorem dX8_copyFrom_113 : decode cX8_copyFrom 113 = .ok (.getfield 30, 3) := by decide +kernel
theorem dX8_copyFrom_116 : decode cX8_copyFrom 116 = .ok (.iload_n 2, 1) := by decide +kernel
theorem dX8_copyFrom_117 : decode cX8_copyFrom 117 = .ok (.iaload, 1) := by decide +kernel
theorem dX8_copyFrom_118 : decode cX8_copyFrom 118 = .ok (.iastore, 1) := by decide +kernel
theorem dX8_copyFrom_119 : decode cX8_copyFrom 119 = .ok (.iinc 2 1, 3) := by decide +kernel
theorem dX8_copyFrom_122 : decode cX8_copyFrom 122 = .ok (.goto (-45), 3) := by decide +kernel
theorem dX8_copyFrom_125 : decode cX8_copyFrom 125 = .ok (.return_, 1) := by decide +kernel
theorem dX8_addEnd_0 : decode cX8_addEnd 0 = .ok (.aload_n 0, 1) := by decide +kernel
theorem dX8_addEnd_1 : decode cX8_addEnd 1 = .ok (.getfield 33, 3) := by decide +kernel
theorem dX8_addEnd_4 : decode cX8_addEnd 4 = .ok (.bipush 10, 2) := by decide +kernel
theorem dX8_addEnd_6 : decode cX8_addEnd 6 = .ok (.if_icmp .ge 14, 3) := by decide +kernel
theorem dX8_addEnd_9 : decode cX8_addEnd 9 = .ok (.iconst 1, 1) := by decide +kernel
theorem dX8_addEnd_10 : decode cX8_addEnd 10 = .ok (.iload_n 2, 1) := by decide +kernel
theorem dX8_addEnd_11 : decode cX8_addEnd 11 = .ok (.sipush 2000, 3) := by decide +kernel
theorem dX8_addEnd_14 : decode cX8_addEnd 14 = .ok (.invokestatic 37, 3) := by decide +kernel
theorem dX8_addEnd_17 : decode cX8_addEnd 17 = .ok (.ifCond .ne 5, 3) := by decide +kernel
theorem dX8_addEnd_20 : decode cX8_addEnd 20 = .ok (.iconst (-1), 1) := by decide +kernel
theorem dX8_addEnd_21 : decode cX8_addEnd 21 = .ok (.ireturn, 1) := by decide +kernel
theorem dX8_addEnd_22 : decode cX8_addEnd 22 = .ok (.aload_n 0, 1) := by decide +kernel
theorem dX8_addEnd_23 : decode cX8_addEnd 23 = .ok (.getfield 24, 3) := by decide +kernel
theorem dX8_addEnd_26 : decode cX8_addEnd 26 = .ok (.aload_n 0, 1) := by decide +kernel
theorem dX8_addEnd_27 : decode cX8_addEnd 27 = .ok (.getfield 33, 3) := by decide +kernel
theorem dX8_addEnd_30 : decode cX8_addEnd 30 = .ok (.iload_n 1, 1) := by decide +kernel
theorem dX8_addEnd_31 : decode cX8_addEnd 31 = .ok (.iastore, 1) := by decide +kernel
theorem dX8_addEnd_32 : decode cX8_addEnd 32 = .ok (.aload_n 0, 1) := by decide +kernel
theorem dX8_addEnd_33 : decode cX8_addEnd 33 = .ok (.getfield 27, 3) := by decide +kernel
theorem dX8_addEnd_36 : decode cX8_addEnd 36 = .ok (.aload_n 0, 1) := by decide +kernel
theorem dX8_addEnd_37 : decode cX8_addEnd 37 = .ok (.getfield 33, 3) := by decide +kernel
theorem dX8_addEnd_40 : decode cX8_addEnd 40 = .ok (.iload_n 2, 1) := by decide +kernel
theorem dX8_addEnd_41 : decode cX8_addEnd 41 = .ok (.iastore, 1) := by decide +kernel
theorem dX8_addEnd_42 : decode cX8_addEnd 42 = .ok (.aload_n 0, 1) := by decide +kernel
theorem dX8_addEnd_43 : decode cX8_addEnd 43 = .ok (.getfield 30, 3) := by decide +kernel
theorem dX8_addEnd_46 : decode cX8_addEnd 46 = .ok (.aload_n 0, 1) := by decide +kernel
theorem dX8_addEnd_47 : decode cX8_addEnd 47 = .ok (.getfield 33, 3) := by decide +kernel
theorem dX8_addEnd_50 : decode cX8_addEnd 50 = .ok (.iload_n 3, 1) := by decide +kernel
theorem dX8_addEnd_51 : decode cX8_addEnd 51 = .ok (.iastore, 1) := by decide +kernel
theorem dX8_addEnd_52 : decode cX8_addEnd 52 = .ok (.aload_n 0, 1) := by decide +kernel
theorem dX8_addEnd_53 : decode cX8_addEnd 53 = .ok (.dup, 1) := by decide +kernel
theorem dX8_addEnd_54 : decode cX8_addEnd 54 = .ok (.getfield 33, 3) := by decide +kernel
theorem dX8_addEnd_57 : decode cX8_addEnd 57 = .ok (.iconst 1, 1) := by decide +kernel
theorem dX8_addEnd_58 : decode cX8_addEnd 58 = .ok (.iadd, 1) := by decide +kernel
theorem dX8_addEnd_59 : decode cX8_addEnd 59 = .ok (.putfield 33, 3) := by decide +kernel
theorem dX8_addEnd_62 : decode cX8_addEnd 62 = .ok (.aload_n 0, 1) := by decide +kernel
theorem dX8_addEnd_63 : decode cX8_addEnd 63 = .ok (.getfield 33, 3) := by decide +kernel
theorem dX8_addEnd_66 : decode cX8_addEnd 66 = .ok (.iconst 1, 1) := by decide +kernel
theorem dX8_addEnd_67 : decode cX8_addEnd 67 = .ok (.isub, 1) := by decide +kernel
theorem dX8_addEnd_68 : decode cX8_addEnd 68 = .ok (.ireturn, 1) := by decide +kernel
theorem dX9_hasSpaceFor_0 : decode cX9_hasSpaceFor 0 = .ok (.iload_n 1, 1) := by decide +kernel
theorem dX9_hasSpaceFor_1 : decode cX9_hasSpaceFor 1 = .ok (.ifCond .lt 19, 3) := by decide +kernel
theorem dX9_hasSpaceFor_4 : decode cX9_hasSpaceFor 4 = .ok (.iload_n 1, 1) := by decide +kernel
theorem dX9_hasSpaceFor_5 : decode cX9_hasSpaceFor 5 = .ok (.sipush 400, 3) := by decide +kernel
theorem dX9_hasSpaceFor_8 : decode cX9_hasSpaceFor 8 = .ok (.aload_n 0, 1) := by decide +kernel
theorem dX9_hasSpaceFor_9 : decode cX9_hasSpaceFor 9 = .ok (.getfield 22, 3) := by decide +kernel
theorem dX9_hasSpaceFor_12 : decode cX9_hasSpaceFor 12 = .ok (.isub, 1) := by decide +kernel
theorem dX9_hasSpaceFor_13 : decode cX9_hasSpaceFor 13 = .ok (.if_icmp .gt 7, 3) := by decide +kernel
theorem dX9_hasSpaceFor_16 : decode cX9_hasSpaceFor 16 = .ok (.iconst 1, 1) := by decide +kernel
theorem dX9_hasSpaceFor_17 : decode cX9_hasSpaceFor 17 = .ok (.goto 4, 3) := by decide +kernel
theorem dX9_hasSpaceFor_20 : decode cX9_hasSpaceFor 20 = .ok (.iconst 0, 1) := by decide +kernel
theorem dX9_hasSpaceFor_21 : decode cX9_hasSpaceFor 21 = .ok (.ireturn, 1) := by decide +kernel
theorem dX9_add_0 : decode cX9_add 0 = .ok (.aload_n 0, 1) := by decide +kernel
theorem dX9_add_1 : decode cX9_add 1 = .ok (.iconst 4, 1) := by decide +kernel
theorem dX9_add_2 : decode cX9_add 2 = .ok (.invokevirtual 26, 3) := by decide +kernel
theorem dX9_add_5 : decode cX9_add 5 = .ok (.ifCond .ne 4, 3) := by decide +kernel
theorem dX9_add_8 : decode cX9_add 8 = .ok (.return_, 1) := by decide +kernel
theorem dX9_add_9 : decode cX9_add 9 = .ok (.bipush 24, 2) := by decide +kernel
theorem dX9_add_11 : decode cX9_add 11 = .ok (.istore_n 2, 1) := by decide +kernel
theorem dX9_add_12 : decode cX9_add 12 = .ok (.iload_n 2, 1) := by decide +kernel
theorem dX9_add_13 : decode cX9_add 13 = .ok (.ifCond .lt 35, 3) := by decide +kernel
theorem dX9_add_16 : decode cX9_add 16 = .ok (.aload_n 0, 1) := by decide +kernel
theorem dX9_add_17 : decode cX9_add 17 = .ok (.getfield 9, 3) := by decide +kernel
theorem dX9_add_20 : decode cX9_add 20 = .ok (.aload_n 0, 1) := by decide +kernel
theorem dX9_add_21 : decode cX9_add 21 = .ok (.getfield 22, 3) := by decide +kernel
theorem dX9_add_24 : decode cX9_add 24 = .ok (.iload_n 1, 1) := by decide +kernel
theorem dX9_add_25 : decode cX9_add 25 = .ok (.iload_n 2, 1) := by decide +kernel
theorem dX9_add_26 : decode cX9_add 26 = .ok (.iushr, 1) := by decide +kernel
theorem dX9_add_27 : decode cX9_add 27 = .ok (.sipush 255, 3) := by decide +kernel
theorem dX9_add_30 : decode cX9_add 30 = .ok (.iand, 1) := by decide +kernel
theorem dX9_add_31 : decode cX9_add 31 = .ok (.iastore, 1) := by decide +kernel
theorem dX9_add_32 : decode cX9_add 32 = .ok (.aload_n 0, 1) := by decide +kernel
theorem dX9_add_33 : decode cX9_add 33 = .ok (.dup, 1) := by decide +kernel
theorem dX9_add_34 : decode cX9_add 34 = .ok (.getfield 22, 3) := by decide +kernel
theorem dX9_add_37 : decode cX9_add 37 = .ok (.iconst 1, 1) := by decide +kernel
theorem dX9_add_38 : decode cX9_add 38 = .ok (.iadd, 1) := by decide +kernel
theorem dX9_add_39 : decode cX9_add 39 = .ok (.putfield 22, 3) := by decide +kernel
theorem dX9_add_42 : decode cX9_add 42 = .ok (.iinc 2 (-8), 3) := by decide +kernel
theorem dX9_add_45 : decode cX9_add 45 = .ok (.goto (-33), 3) := by decide +kernel
theorem dX9_add_48 : decode cX9_add 48 = .ok (.return_, 1) := by decide +kernel
theorem dX9_shorten_0 : decode cX9_shorten 0 = .ok (.iconst 0, 1) := by decide +kernel
theorem dX9_shorten_1 : decode cX9_shorten 1 = .ok (.iload_n 1, 1) := by decide +kernel
theorem dX9_shorten_2 : decode cX9_shorten 2 = .ok (.aload_n 0, 1) := by decide +kernel
theorem dX9_shorten_3 : decode cX9_shorten 3 = .ok (.getfield 22, 3) := by decide +kernel
theorem dX9_shorten_6 : decode cX9_shorten 6 = .ok (.invokestatic 30, 3) := by decide +kernel
theorem dX9_shorten_9 : decode cX9_shorten 9 = .ok (.ifCond .ne 5, 3) := by decide +kernel
theorem dX9_shorten_12 : decode cX9_shorten 12 = .ok (.iconst 0, 1) := by decide +kernel
theorem dX9_shorten_13 : decode cX9_shorten 13 = .ok (.ireturn, 1) := by decide +kernel
theorem dX9_shorten_14 : decode cX9_shorten 14 = .ok (.aload_n 0, 1) := by decide +kernel
theorem dX9_shorten_15 : decode cX9_shorten 15 = .ok (.iload_n 1, 1) := by decide +kernel
theorem dX9_shorten_16 : decode cX9_shorten 16 = .ok (.putfield 22, 3) := by decide +kernel
theorem dX9_shorten_19 : decode cX9_shorten 19 = .ok (.iconst 1, 1) := by decide +kernel
theorem dX9_shorten_20 : decode cX9_shorten 20 = .ok (.ireturn, 1) := by decide +kernel
theorem dX9_split_0 : decode cX9_split 0 = .ok (.aload_n 0, 1) := by decide +kernel
theorem dX9_split_1 : decode cX9_split 1 = .ok (.iconst 0, 1) := by decide +kernel
theorem dX9_split_2 : decode cX9_split 2 = .ok (.putfield 36, 3) := by decide +kernel
theorem dX9_split_5 : decode cX9_split 5 = .ok (.iconst 0, 1) := by decide +kernel
theorem dX9_split_6 : decode cX9_split 6 = .ok (.istore_n 1, 1) := by decide +kernel
theorem dX9_split_7 : decode cX9_split 7 = .ok (.iload_n 1, 1) := by decide +kernel
theorem dX9_split_8 : decode cX9_split 8 = .ok (.aload_n 0, 1) := by decide +kernel
theorem dX9_split_9 : decode cX9_split 9 = .ok (.getfield 22, 3) := by decide +kernel
theorem dX9_split_12 : decode cX9_split 12 = .ok (.if_icmp .ge 138, 3) := by decide +kernel
theorem dX9_split_15 : decode cX9_split 15 = .ok (.iload_n 1, 1) := by decide +kernel
theorem dX9_split_16 : decode cX9_split 16 = .ok (.iconst 1, 1) := by decide +kernel
theorem dX9_split_17 : decode cX9_split 17 = .ok (.iadd, 1) := by decide +kernel
theorem dX9_split_18 : decode cX9_split 18 = .ok (.istore_n 2, 1) := by decide +kernel
theorem dX9_split_19 : decode cX9_split 19 = .ok (.bipush 97, 2) := by decide +kernel
theorem dX9_split_21 : decode cX9_split 21 = .ok (.aload_n 0, 1) := by decide +kernel
theorem dX9_split_22 : decode cX9_split 22 = .ok (.getfield 9, 3) := by decide +kernel
theorem dX9_split_25 : decode cX9_split 25 = .ok (.iload_n 1, 1) := by decide +kernel
theorem dX9_split_26 : decode cX9_split 26 = .ok (.iaload, 1) := by decide +kernel
theorem dX9_split_27 : decode cX9_split 27 = .ok (.bipush 122, 2) := by decide +kernel
theorem dX9_split_29 : decode cX9_split 29 = .ok (.invokestatic 30, 3) := by decide +kernel
theorem dX9_split_32 : decode cX9_split 32 = .ok (.ifCond .eq 28, 3) := by decide +kernel
theorem dX9_split_35 : decode cX9_split 35 = .ok (.aload_n 0, 1) := by decide +kernel
theorem dX9_split_36 : decode cX9_split 36 = .ok (.iload_n 1, 1) := by decide +kernel
theorem dX9_split_37 : decode cX9_split 37 = .ok (.bipush 97, 2) := by decide +kernel
theorem dX9_split_39 : decode cX9_split 39 = .ok (.bipush 122, 2) := by decide +kernel
theorem dX9_split_41 : decode cX9_split 41 = .ok (.invokevirtual 39, 3) := by decide +kernel
theorem dX9_split_44 : decode cX9_split 44 = .ok (.istore_n 2, 1) := by decide +kernel
theorem dX9_split_45 : decode cX9_split 45 = .ok (.aload_n 0, 1) := by decide +kernel
theorem dX9_split_46 : decode cX9_split 46 = .ok (.aload_n 0, 1) := by decide +kernel
theorem dX9_split_47 : decode cX9_split 47 = .ok (.iload_n 1, 1) := by decide +kernel
theorem dX9_split_48 : decode cX9_split 48 = .ok (.iload_n 2, 1) := by decide +kernel
theorem dX9_split_49 : decode cX9_split 49 = .ok (.invokevirtual 43, 3) := by decide +kernel
theorem dX9_split_52 : decode cX9_split 52 = .ok (.iload_n 1, 1) := by decide +kernel
theorem dX9_split_53 : decode cX9_split 53 = .ok (.iconst 0, 1) := by decide +kernel
theorem dX9_split_54 : decode cX9_split 54 = .ok (.invokevirtual 47, 3) := by decide +kernel
theorem dX9_split_57 : decode cX9_split 57 = .ok (.goto 82, 3) := by decide +kernel
theorem dX9_split_60 : decode cX9_split 60 = .ok (.bipush 48, 2) := by decide +kernel
theorem dX9_split_62 : decode cX9_split 62 = .ok (.aload_n 0, 1) := by decide +kernel
theorem dX9_split_63 : decode cX9_split 63 = .ok (.getfield 9, 3) := by decide +kernel
theorem dX9_split_66 : decode cX9_split 66 = .ok (.iload_n 1, 1) := by decide +kernel
theorem dX9_split_67 : decode cX9_split 67 = .ok (.iaload, 1) := by decide +kernel
theorem dX9_split_68 : decode cX9_split 68 = .ok (.bipush 57, 2) := by decide +kernel
theorem dX9_split_70 : decode cX9_split 70 = .ok (.invokestatic 30, 3) := by decide +kernel
theorem dX9_split_73 : decode cX9_split 73 = .ok (.ifCond .eq 29, 3) := by decide +kernel
theorem dX9_split_76 : decode cX9_split 76 = .ok (.aload_n 0, 1) := by decide +kernel
theorem dX9_split_77 : decode cX9_split 77 = .ok (.iload_n 1, 1) := by decide +kernel
theorem dX9_split_78 : decode cX9_split 78 = .ok (.bipush 48, 2) := by decide +kernel
theorem dX9_split_80 : decode cX9_split 80 = .ok (.bipush 57, 2) := by decide +kernel
theorem dX9_split_82 : decode cX9_split 82 = .ok (.invokevirtual 39, 3) := by decide +kernel
theorem dX9_split_85 : decode cX9_split 85 = .ok (.istore_n 2, 1) := by decide +kernel
theorem dX9_split_86 : decode cX9_split 86 = .ok (.aload_n 0, 1) := by decide +kernel
theorem dX9_split_87 : decode cX9_split 87 = .ok (.bipush 6, 2) := by decide +kernel
theorem dX9_split_89 : decode cX9_split 89 = .ok (.iload_n 1, 1) := by decide +kernel
theorem dX9_split_90 : decode cX9_split 90 = .ok (.aload_n 0, 1) := by decide +kernel
theorem dX9_split_91 : decode cX9_split 91 = .ok (.iload_n 1, 1) := by decide +kernel
theorem dX9_split_92 : decode cX9_split 92 = .ok (.iload_n 2, 1) := by decide +kernel
theorem dX9_split_93 : decode cX9_split 93 = .ok (.invokevirtual 51, 3) := by decide +kernel
theorem dX9_split_96 : decode cX9_split 96 = .ok (.invokevirtual 47, 3) := by decide +kernel
theorem dX9_split_99 : decode cX9_split 99 = .ok (.goto 40, 3) := by decide +kernel
theorem dX9_split_102 : decode cX9_split 102 = .ok (.aload_n 0, 1) := by decide +kernel
theorem dX9_split_103 : decode cX9_split 103 = .ok (.getfield 9, 3) := by decide +kernel
theorem dX9_split_106 : decode cX9_split 106 = .ok (.iload_n 1, 1) := by decide +kernel
theorem dX9_split_107 : decode cX9_split 107 = .ok (.iaload, 1) := by decide +kernel
theorem dX9_split_108 : decode cX9_split 108 = .ok (.bipush 32, 2) := by decide +kernel
theorem dX9_split_110 : decode cX9_split 110 = .ok (.if_icmp .eq 29, 3) := by decide +kernel
theorem dX9_split_113 : decode cX9_split 113 = .ok (.aload_n 0, 1) := by decide +kernel
theorem dX9_split_114 : decode cX9_split 114 = .ok (.getfield 9, 3) := by decide +kernel
theorem dX9_split_117 : decode cX9_split 117 = .ok (.iload_n 1, 1) := by decide +kernel
theorem dX9_split_118 : decode cX9_split 118 = .ok (.iaload, 1) := by decide +kernel
theorem dX9_split_119 : decode cX9_split 119 = .ok (.bipush 10, 2) := by decide +kernel
theorem dX9_split_121 : decode cX9_split 121 = .ok (.if_icmp .eq 18, 3) := by decide +kernel
theorem dX9_split_124 : decode cX9_split 124 = .ok (.aload_n 0, 1) := by decide +kernel
theorem dX9_split_125 : decode cX9_split 125 = .ok (.aload_n 0, 1) := by decide +kernel
theorem dX9_split_126 : decode cX9_split 126 = .ok (.getfield 9, 3) := by decide +kernel
theorem dX9_split_129 : decode cX9_split 129 = .ok (.iload_n 1, 1) := by decide +kernel
theorem dX9_split_130 : decode cX9_split 130 = .ok (.iaload, 1) := by decide +kernel
theorem dX9_split_131 : decode cX9_split 131 = .ok (.invokestatic 54, 3) := by decide +kernel
theorem dX9_split_134 : decode cX9_split 134 = .ok (.iload_n 1, 1) := by decide +kernel
theorem dX9_split_135 : decode cX9_split 135 = .ok (.iconst 0, 1) := by decide +kernel
theorem dX9_split_136 : decode cX9_split 136 = .ok (.invokevirtual 47, 3) := by decide +kernel
theorem dX9_split_139 : decode cX9_split 139 = .ok (.iload_n 1, 1) := by decide +kernel
theorem dX9_split_140 : decode cX9_split 140 = .ok (.iconst 1, 1) := by decide +kernel
theorem dX9_split_141 : decode cX9_split 141 = .ok (.iadd, 1) := by decide +kernel
theorem dX9_split_142 : decode cX9_split 142 = .ok (.iload_n 2, 1) := by decide +kernel
theorem dX9_split_143 : decode cX9_split 143 = .ok (.invokestatic 58, 3) := by decide +kernel
theorem dX9_split_146 : decode cX9_split 146 = .ok (.istore_n 1, 1) := by decide +kernel
theorem dX9_split_147 : decode cX9_split 147 = .ok (.goto (-140), 3) := by decide +kernel
theorem dX9_split_150 : decode cX9_split 150 = .ok (.aload_n 0, 1) := by decide +kernel
theorem dX9_split_151 : decode cX9_split 151 = .ok (.bipush 10, 2) := by decide +kernel
theorem dX9_split_153 : decode cX9_split 153 = .ok (.aload_n 0, 1) := by decide +kernel
theorem dX9_split_154 : decode cX9_split 154 = .ok (.getfield 22, 3) := by decide +kernel
theorem dX9_split_157 : decode cX9_split 157 = .ok (.iconst 0, 1) := by decide +kernel
theorem dX9_split_158 : decode cX9_split 158 = .ok (.invokevirtual 47, 3) := by decide +kernel
theorem dX9_split_161 : decode cX9_split 161 = .ok (.return_, 1) := by decide +kernel
theorem dX9_addToken_0 : decode cX9_addToken 0 = .ok (.aload_n 0, 1) := by decide +kernel
theorem dX9_addToken_1 : decode cX9_addToken 1 = .ok (.getfield 36, 3) := by decide +kernel
theorem dX9_addToken_4 : decode cX9_addToken 4 = .ok (.sipush 400, 3) := by decide +kernel
theorem dX9_addToken_7 : decode cX9_addToken 7 = .ok (.if_icmp .le 4, 3) := by decide +kernel
theorem dX9_addToken_10 : decode cX9_addToken 10 = .ok (.return_, 1) := by decide +kernel
theorem dX9_addToken_11 : decode cX9_addToken 11 = .ok (.aload_n 0, 1) := by decide +kernel
theorem dX9_addToken_12 : decode cX9_addToken 12 = .ok (.getfield 13, 3) := by decide +kernel
theorem dX9_addToken_15 : decode cX9_addToken 15 = .ok (.aload_n 0, 1) := by decide +kernel
theorem dX9_addToken_16 : decode cX9_addToken 16 = .ok (.getfield 36, 3) := by decide +kernel
theorem dX9_addToken_19 : decode cX9_addToken 19 = .ok (.iload_n 1, 1) := by decide +kernel
theorem dX9_addToken_20 : decode cX9_addToken 20 = .ok (.iastore, 1) := by decide +kernel
theorem dX9_addToken_21 : decode cX9_addToken 21 = .ok (.aload_n 0, 1) := by decide +kernel
theorem dX9_addToken_22 : decode cX9_addToken 22 = .ok (.getfield 16, 3) := by decide +kernel
theorem dX9_addToken_25 : decode cX9_addToken 25 = .ok (.aload_n 0, 1) := by decide +kernel
theorem dX9_addToken_26 : decode cX9_addToken 26 = .ok (.getfield 36, 3) := by decide +kernel
theorem dX9_addToken_29 : decode cX9_addToken 29 = .ok (.iload_n 2, 1) := by decide +kernel
theorem dX9_addToken_30 : decode cX9_addToken 30 = .ok (.iastore, 1) := by decide +kernel
theorem dX9_addToken_31 : decode cX9_addToken 31 = .ok (.aload_n 0, 1) := by decide +kernel
theorem dX9_addToken_32 : decode cX9_addToken 32 = .ok (.getfield 19, 3) := by decide +kernel
theorem dX9_addToken_35 : decode cX9_addToken 35 = .ok (.aload_n 0, 1) := by decide +kernel
theorem dX9_addToken_36 : decode cX9_addToken 36 = .ok (.getfield 36, 3) := by decide +kernel
theorem dX9_addToken_39 : decode cX9_addToken 39 = .ok (.iload_n 3, 1) := by decide +kernel
theorem dX9_addToken_40 : decode cX9_addToken 40 = .ok (.iastore, 1) := by decide +kernel
theorem dX9_addToken_41 : decode cX9_addToken 41 = .ok (.aload_n 0, 1) := by decide +kernel
theorem dX9_addToken_42 : decode cX9_addToken 42 = .ok (.dup, 1) := by decide +kernel
theorem dX9_addToken_43 : decode cX9_addToken 43 = .ok (.getfield 36, 3) := by decide +kernel
theorem dX9_addToken_46 : decode cX9_addToken 46 = .ok (.iconst 1, 1) := by decide +kernel
theorem dX9_addToken_47 : decode cX9_addToken 47 = .ok (.iadd, 1) := by decide +kernel
theorem dX9_addToken_48 : decode cX9_addToken 48 = .ok (.putfield 36, 3) := by decide +kernel
theorem dX9_addToken_51 : decode cX9_addToken 51 = .ok (.return_, 1) := by decide +kernel
theorem dX9_endOf_0 : decode cX9_endOf 0 = .ok (.iload_n 1, 1) := by decide +kernel
theorem dX9_endOf_1 : decode cX9_endOf 1 = .ok (.istore 4, 2) := by decide +kernel
theorem dX9_endOf_3 : decode cX9_endOf 3 = .ok (.iload 4, 2) := by decide +kernel
theorem dX9_endOf_5 : decode cX9_endOf 5 = .ok (.aload_n 0, 1) := by decide +kernel
theorem dX9_endOf_6 : decode cX9_endOf 6 = .ok (.getfield 22, 3) := by decide +kernel
theorem dX9_endOf_9 : decode cX9_endOf 9 = .ok (.if_icmp .ge 24, 3) := by decide +kernel
theorem dX9_endOf_12 : decode cX9_endOf 12 = .ok (.iload_n 2, 1) := by decide +kernel
theorem dX9_endOf_13 : decode cX9_endOf 13 = .ok (.aload_n 0, 1) := by decide +kernel
theorem dX9_endOf_14 : decode cX9_endOf 14 = .ok (.getfield 9, 3) := by decide +kernel
theorem dX9_endOf_17 : decode cX9_endOf 17 = .ok (.iload 4, 2) := by decide +kernel
theorem dX9_endOf_19 : decode cX9_endOf 19 = .ok (.iaload, 1) := by decide +kernel
theorem dX9_endOf_20 : decode cX9_endOf 20 = .ok (.iload_n 3, 1) := by decide +kernel
theorem dX9_endOf_21 : decode cX9_endOf 21 = .ok (.invokestatic 30, 3) := by decide +kernel
theorem dX9_endOf_24 : decode cX9_endOf 24 = .ok (.ifCond .eq 9, 3) := by decide +kernel
theorem dX9_endOf_27 : decode cX9_endOf 27 = .ok (.iinc 4 1, 3) := by decide +kernel
theorem dX9_endOf_30 : decode cX9_endOf 30 = .ok (.goto (-27), 3) := by decide +kernel
theorem dX9_endOf_33 : decode cX9_endOf 33 = .ok (.iload 4, 2) := by decide +kernel
theorem dX9_endOf_35 : decode cX9_endOf 35 = .ok (.ireturn, 1) := by decide +kernel
theorem dX9_wordKind_0 : decode cX9_wordKind 0 = .ok (.aload_n 0, 1) := by decide +kernel
theorem dX9_wordKind_1 : decode cX9_wordKind 1 = .ok (.ldc 63, 2) := by decide +kernel
theorem dX9_wordKind_3 : decode cX9_wordKind 3 = .ok (.iload_n 1, 1) := by decide +kernel
theorem dX9_wordKind_4 : decode cX9_wordKind 4 = .ok (.iload_n 2, 1) := by decide +kernel
theorem dX9_wordKind_5 : decode cX9_wordKind 5 = .ok (.invokevirtual 65, 3) := by decide +kernel
theorem dX9_wordKind_8 : decode cX9_wordKind 8 = .ok (.ifCond .eq 5, 3) := by decide +kernel
theorem dX9_wordKind_11 : decode cX9_wordKind 11 = .ok (.iconst 0, 1) := by decide +kernel
theorem dX9_wordKind_12 : decode cX9_wordKind 12 = .ok (.ireturn, 1) := by decide +kernel
theorem dX9_wordKind_13 : decode cX9_wordKind 13 = .ok (.aload_n 0, 1) := by decide +kernel
theorem dX9_wordKind_14 : decode cX9_wordKind 14 = .ok (.ldc 69, 2) := by decide +kernel
theorem dX9_wordKind_16 : decode cX9_wordKind 16 = .ok (.iload_n 1, 1) := by decide +kernel
theorem dX9_wordKind_17 : decode cX9_wordKind 17 = .ok (.iload_n 2, 1) := by decide +kernel
theorem dX9_wordKind_18 : decode cX9_wordKind 18 = .ok (.invokevirtual 65, 3) := by decide +kernel
theorem dX9_wordKind_21 : decode cX9_wordKind 21 = .ok (.ifCond .eq 5, 3) := by decide +kernel
theorem dX9_wordKind_24 : decode cX9_wordKind 24 = .ok (.iconst 1, 1) := by decide +kernel
theorem dX9_wordKind_25 : decode cX9_wordKind 25 = .ok (.ireturn, 1) := by decide +kernel
theorem dX9_wordKind_26 : decode cX9_wordKind 26 = .ok (.aload_n 0, 1) := by decide +kernel
theorem dX9_wordKind_27 : decode cX9_wordKind 27 = .ok (.ldc 71, 2) := by decide +kernel
theorem dX9_wordKind_29 : decode cX9_wordKind 29 = .ok (.iload_n 1, 1) := by decide +kernel
theorem dX9_wordKind_30 : decode cX9_wordKind 30 = .ok (.iload_n 2, 1) := by decide +kernel
theorem dX9_wordKind_31 : decode cX9_wordKind 31 = .ok (.invokevirtual 65, 3) := by decide +kernel
theorem dX9_wordKind_34 : decode cX9_wordKind 34 = .ok (.ifCond .eq 5, 3) := by decide +kernel
theorem dX9_wordKind_37 : decode cX9_wordKind 37 = .ok (.iconst 2, 1) := by decide +kernel
theorem dX9_wordKind_38 : decode cX9_wordKind 38 = .ok (.ireturn, 1) := by decide +kernel
theorem dX9_wordKind_39 : decode cX9_wordKind 39 = .ok (.aload_n 0, 1) := by decide +kernel
theorem dX9_wordKind_40 : decode cX9_wordKind 40 = .ok (.ldc 73, 2) := by decide +kernel
theorem dX9_wordKind_42 : decode cX9_wordKind 42 = .ok (.iload_n 1, 1) := by decide +kernel
theorem dX9_wordKind_43 : decode cX9_wordKind 43 = .ok (.iload_n 2, 1) := by decide +kernel
theorem dX9_wordKind_44 : decode cX9_wordKind 44 = .ok (.invokevirtual 65, 3) := by decide +kernel
theorem dX9_wordKind_47 : decode cX9_wordKind 47 = .ok (.ifCond .eq 5, 3) := by decide +kernel
theorem dX9_wordKind_50 : decode cX9_wordKind 50 = .ok (.iconst 3, 1) := by decide +kernel
theorem dX9_wordKind_51 : decode cX9_wordKind 51 = .ok (.ireturn, 1) := by decide +kernel
theorem dX9_wordKind_52 : decode cX9_wordKind 52 = .ok (.aload_n 0, 1) := by decide +kernel
theorem dX9_wordKind_53 : decode cX9_wordKind 53 = .ok (.ldc 75, 2) := by decide +kernel
theorem dX9_wordKind_55 : decode cX9_wordKind 55 = .ok (.iload_n 1, 1) := by decide +kernel
theorem dX9_wordKind_56 : decode cX9_wordKind 56 = .ok (.iload_n 2, 1) := by decide +kernel
theorem dX9_wordKind_57 : decode cX9_wordKind 57 = .ok (.invokevirtual 65, 3) := by decide +kernel
theorem dX9_wordKind_60 : decode cX9_wordKind 60 = .ok (.ifCond .eq 7, 3) := by decide +kernel
theorem dX9_wordKind_63 : decode cX9_wordKind 63 = .ok (.iconst 4, 1) := by decide +kernel
theorem dX9_wordKind_64 : decode cX9_wordKind 64 = .ok (.goto 4, 3) := by decide +kernel
theorem dX9_wordKind_67 : decode cX9_wordKind 67 = .ok (.iconst 5, 1) := by decide +kernel
theorem dX9_wordKind_68 : decode cX9_wordKind 68 = .ok (.ireturn, 1) := by decide +kernel
theorem dX9_spells_0 : decode cX9_spells 0 = .ok (.iload_n 3, 1) := by decide +kernel
theorem dX9_spells_1 : decode cX9_spells 1 = .ok (.iload_n 2, 1) := by decide +kernel
theorem dX9_spells_2 : decode cX9_spells 2 = .ok (.isub, 1) := by decide +kernel
theorem dX9_spells_3 : decode cX9_spells 3 = .ok (.aload_n 1, 1) := by decide +kernel
theorem dX9_spells_4 : decode cX9_spells 4 = .ok (.invokevirtual 77, 3) := by decide +kernel
theorem dX9_spells_7 : decode cX9_spells 7 = .ok (.if_icmp .eq 5, 3) := by decide +kernel
theorem dX9_spells_10 : decode cX9_spells 10 = .ok (.iconst 0, 1) := by decide +kernel
theorem dX9_spells_11 : decode cX9_spells 11 = .ok (.ireturn, 1) := by decide +kernel
theorem dX9_spells_12 : decode cX9_spells 12 = .ok (.iconst 0, 1) := by decide +kernel
theorem dX9_spells_13 : decode cX9_spells 13 = .ok (.istore 4, 2) := by decide +kernel
theorem dX9_spells_15 : decode cX9_spells 15 = .ok (.iload 4, 2) := by decide +kernel
theorem dX9_spells_17 : decode cX9_spells 17 = .ok (.aload_n 1, 1) := by decide +kernel
theorem dX9_spells_18 : decode cX9_spells 18 = .ok (.invokevirtual 77, 3) := by decide +kernel
theorem dX9_spells_21 : decode cX9_spells 21 = .ok (.if_icmp .ge 29, 3) := by decide +kernel
theorem dX9_spells_24 : decode cX9_spells 24 = .ok (.aload_n 0, 1) := by decide +kernel
theorem dX9_spells_25 : decode cX9_spells 25 = .ok (.getfield 9, 3) := by decide +kernel
theorem dX9_spells_28 : decode cX9_spells 28 = .ok (.iload_n 2, 1) := by decide +kernel
theorem dX9_spells_29 : decode cX9_spells 29 = .ok (.iload 4, 2) := by decide +kernel
theorem dX9_spells_31 : decode cX9_spells 31 = .ok (.iadd, 1) := by decide +kernel
theorem dX9_spells_32 : decode cX9_spells 32 = .ok (.iaload, 1) := by decide +kernel
theorem dX9_spells_33 : decode cX9_spells 33 = .ok (.aload_n 1, 1) := by decide +kernel
theorem dX9_spells_34 : decode cX9_spells 34 = .ok (.iload 4, 2) := by decide +kernel
theorem dX9_spells_36 : decode cX9_spells 36 = .ok (.invokevirtual 83, 3) := by decide +kernel
theorem dX9_spells_39 : decode cX9_spells 39 = .ok (.if_icmp .eq 5, 3) := by decide +kernel
theorem dX9_spells_42 : decode cX9_spells 42 = .ok (.iconst 0, 1) := by decide +kernel
theorem dX9_spells_43 : decode cX9_spells 43 = .ok (.ireturn, 1) := by decide +kernel
theorem dX9_spells_44 : decode cX9_spells 44 = .ok (.iinc 4 1, 3) := by decide +kernel
theorem dX9_spells_47 : decode cX9_spells 47 = .ok (.goto (-32), 3) := by decide +kernel
theorem dX9_spells_50 : decode cX9_spells 50 = .ok (.iconst 1, 1) := by decide +kernel
theorem dX9_spells_51 : decode cX9_spells 51 = .ok (.ireturn, 1) := by decide +kernel
theorem dX9_numberFrom_0 : decode cX9_numberFrom 0 = .ok (.iconst 0, 1) := by decide +kernel
theorem dX9_numberFrom_1 : decode cX9_numberFrom 1 = .ok (.istore_n 3, 1) := by decide +kernel
theorem dX9_numberFrom_2 : decode cX9_numberFrom 2 = .ok (.iload_n 1, 1) := by decide +kernel
theorem dX9_numberFrom_3 : decode cX9_numberFrom 3 = .ok (.istore 4, 2) := by decide +kernel
theorem dX9_numberFrom_5 : decode cX9_numberFrom 5 = .ok (.iload 4, 2) := by decide +kernel
theorem dX9_numberFrom_7 : decode cX9_numberFrom 7 = .ok (.iload_n 2, 1) := by decide +kernel
theorem dX9_numberFrom_8 : decode cX9_numberFrom 8 = .ok (.if_icmp .ge 30, 3) := by decide +kernel
theorem dX9_numberFrom_11 : decode cX9_numberFrom 11 = .ok (.ldc 87, 2) := by decide +kernel
theorem dX9_numberFrom_13 : decode cX9_numberFrom 13 = .ok (.iload_n 3, 1) := by decide +kernel
theorem dX9_numberFrom_14 : decode cX9_numberFrom 14 = .ok (.bipush 10, 2) := by decide +kernel
theorem dX9_numberFrom_16 : decode cX9_numberFrom 16 = .ok (.imul, 1) := by decide +kernel
theorem dX9_numberFrom_17 : decode cX9_numberFrom 17 = .ok (.aload_n 0, 1) := by decide +kernel
theorem dX9_numberFrom_18 : decode cX9_numberFrom 18 = .ok (.getfield 9, 3) := by decide +kernel
theorem dX9_numberFrom_21 : decode cX9_numberFrom 21 = .ok (.iload 4, 2) := by decide +kernel
theorem dX9_numberFrom_23 : decode cX9_numberFrom 23 = .ok (.iaload, 1) := by decide +kernel
theorem dX9_numberFrom_24 : decode cX9_numberFrom 24 = .ok (.iadd, 1) := by decide +kernel
theorem dX9_numberFrom_25 : decode cX9_numberFrom 25 = .ok (.bipush 48, 2) := by decide +kernel
theorem dX9_numberFrom_27 : decode cX9_numberFrom 27 = .ok (.isub, 1) := by decide +kernel
theorem dX9_numberFrom_28 : decode cX9_numberFrom 28 = .ok (.invokestatic 88, 3) := by decide +kernel
theorem dX9_numberFrom_31 : decode cX9_numberFrom 31 = .ok (.istore_n 3, 1) := by decide +kernel
theorem dX9_numberFrom_32 : decode cX9_numberFrom 32 = .ok (.iinc 4 1, 3) := by decide +kernel
theorem dX9_numberFrom_35 : decode cX9_numberFrom 35 = .ok (.goto (-30), 3) := by decide +kernel
theorem dX9_numberFrom_38 : decode cX9_numberFrom 38 = .ok (.iload_n 3, 1) := by decide +kernel
theorem dX9_numberFrom_39 : decode cX9_numberFrom 39 = .ok (.ireturn, 1) := by decide +kernel
theorem dX9_signKind_0 : decode cX9_signKind 0 = .ok (.iload_n 0, 1) := by decide +kernel
theorem dX9_signKind_1 : decode cX9_signKind 1 = .ok (.bipush 45, 2) := by decide +kernel
theorem dX9_signKind_3 : decode cX9_signKind 3 = .ok (.if_icmp .ne 6, 3) := by decide +kernel
theorem dX9_signKind_6 : decode cX9_signKind 6 = .ok (.bipush 7, 2) := by decide +kernel
theorem dX9_signKind_8 : decode cX9_signKind 8 = .ok (.ireturn, 1) := by decide +kernel
theorem dX9_signKind_9 : decode cX9_signKind 9 = .ok (.iload_n 0, 1) := by decide +kernel
theorem dX9_signKind_10 : decode cX9_signKind 10 = .ok (.bipush 59, 2) := by decide +kernel
theorem dX9_signKind_12 : decode cX9_signKind 12 = .ok (.if_icmp .ne 8, 3) := by decide +kernel
theorem dX9_signKind_15 : decode cX9_signKind 15 = .ok (.bipush 8, 2) := by decide +kernel
theorem dX9_signKind_17 : decode cX9_signKind 17 = .ok (.goto 5, 3) := by decide +kernel
theorem dX9_signKind_20 : decode cX9_signKind 20 = .ok (.bipush 9, 2) := by decide +kernel
theorem dX9_signKind_22 : decode cX9_signKind 22 = .ok (.ireturn, 1) := by decide +kernel
theorem dX10_clear_0 : decode cX10_clear 0 = .ok (.aload_n 0, 1) := by decide +kernel
theorem dX10_clear_1 : decode cX10_clear 1 = .ok (.iconst 0, 1) := by decide +kernel
theorem dX10_clear_2 : decode cX10_clear 2 = .ok (.putfield 29, 3) := by decide +kernel
theorem dX10_clear_5 : decode cX10_clear 5 = .ok (.aload_n 0, 1) := by decide +kernel
theorem dX10_clear_6 : decode cX10_clear 6 = .ok (.iconst 0, 1) := by decide +kernel
theorem dX10_clear_7 : decode cX10_clear 7 = .ok (.putfield 33, 3) := by decide +kernel
theorem dX10_clear_10 : decode cX10_clear 10 = .ok (.return_, 1) := by decide +kernel
theorem dX10_add_0 : decode cX10_add 0 = .ok (.aload_n 0, 1) := by decide +kernel
theorem dX10_add_1 : decode cX10_add 1 = .ok (.getfield 29, 3) := by decide +kernel
theorem dX10_add_4 : decode cX10_add 4 = .ok (.bipush 8, 2) := by decide +kernel
theorem dX10_add_6 : decode cX10_add 6 = .ok (.if_icmp .lt 4, 3) := by decide +kernel
theorem dX10_add_9 : decode cX10_add 9 = .ok (.return_, 1) := by decide +kernel
theorem dX10_add_10 : decode cX10_add 10 = .ok (.aload_n 0, 1) := by decide +kernel
theorem dX10_add_11 : decode cX10_add 11 = .ok (.getfield 9, 3) := by decide +kernel
theorem dX10_add_14 : decode cX10_add 14 = .ok (.aload_n 0, 1) := by decide +kernel
theorem dX10_add_15 : decode cX10_add 15 = .ok (.getfield 29, 3) := by decide +kernel
theorem dX10_add_18 : decode cX10_add 18 = .ok (.aload_n 0, 1) := by decide +kernel
theorem dX10_add_19 : decode cX10_add 19 = .ok (.getfield 33, 3) := by decide +kernel
theorem dX10_add_22 : decode cX10_add 22 = .ok (.iastore, 1) := by decide +kernel
theorem dX10_add_23 : decode cX10_add 23 = .ok (.aload_n 0, 1) := by decide +kernel
theorem dX10_add_24 : decode cX10_add 24 = .ok (.getfield 13, 3) := by decide +kernel
theorem dX10_add_27 : decode cX10_add 27 = .ok (.aload_n 0, 1) := by decide +kernel
theorem dX10_add_28 : decode cX10_add 28 = .ok (.getfield 29, 3) := by decide +kernel
theorem dX10_add_31 : decode cX10_add 31 = .ok (.iload_n 1, 1) := by decide +kernel
theorem dX10_add_32 : decode cX10_add 32 = .ok (.iastore, 1) := by decide +kernel
theorem dX10_add_33 : decode cX10_add 33 = .ok (.aload_n 0, 1) := by decide +kernel
theorem dX10_add_34 : decode cX10_add 34 = .ok (.getfield 16, 3) := by decide +kernel
theorem dX10_add_37 : decode cX10_add 37 = .ok (.aload_n 0, 1) := by decide +kernel
theorem dX10_add_38 : decode cX10_add 38 = .ok (.getfield 29, 3) := by decide +kernel
theorem dX10_add_41 : decode cX10_add 41 = .ok (.iload_n 2, 1) := by decide +kernel
theorem dX10_add_42 : decode cX10_add 42 = .ok (.iastore, 1) := by decide +kernel
theorem dX10_add_43 : decode cX10_add 43 = .ok (.aload_n 0, 1) := by decide +kernel
theorem dX10_add_44 : decode cX10_add 44 = .ok (.getfield 19, 3) := by decide +kernel
