theorem dX11_done_9 : decode cX11_done 9 = .ok (.invokevirtual 174, 3) := by decide +kernel
theorem dX11_done_12 : decode cX11_done 12 = .ok (.astore 6, 2) := by decide +kernel
theorem dX11_done_14 : decode cX11_done 14 = .ok (.aload 5, 2) := by decide +kernel
theorem dX11_done_16 : decode cX11_done 16 = .ok (.ifnull 8, 3) := by decide +kernel
theorem dX11_done_19 : decode cX11_done 19 = .ok (.aload 6, 2) := by decide +kernel
theorem dX11_done_21 : decode cX11_done 21 = .ok (.ifnonnull 5, 3) := by decide +kernel
theorem dX11_done_24 : decode cX11_done 24 = .ok (.iconst (-1), 1) := by decide +kernel
theorem dX11_done_25 : decode cX11_done 25 = .ok (.ireturn, 1) := by decide +kernel
theorem dX11_done_26 : decode cX11_done 26 = .ok (.iconst 0, 1) := by decide +kernel
theorem dX11_done_27 : decode cX11_done 27 = .ok (.iload_n 3, 1) := by decide +kernel
theorem dX11_done_28 : decode cX11_done 28 = .ok (.aload 5, 2) := by decide +kernel
theorem dX11_done_30 : decode cX11_done 30 = .ok (.getfield 123, 3) := by decide +kernel
theorem dX11_done_33 : decode cX11_done 33 = .ok (.getfield 135, 3) := by decide +kernel
theorem dX11_done_36 : decode cX11_done 36 = .ok (.iconst 1, 1) := by decide +kernel
theorem dX11_done_37 : decode cX11_done 37 = .ok (.isub, 1) := by decide +kernel
theorem dX11_done_38 : decode cX11_done 38 = .ok (.invokestatic 159, 3) := by decide +kernel
theorem dX11_done_41 : decode cX11_done 41 = .ok (.ifCond .eq 19, 3) := by decide +kernel
theorem dX11_done_44 : decode cX11_done 44 = .ok (.iconst 0, 1) := by decide +kernel
theorem dX11_done_45 : decode cX11_done 45 = .ok (.iload 4, 2) := by decide +kernel
theorem dX11_done_47 : decode cX11_done 47 = .ok (.aload 6, 2) := by decide +kernel
theorem dX11_done_49 : decode cX11_done 49 = .ok (.getfield 178, 3) := by decide +kernel
theorem dX11_done_52 : decode cX11_done 52 = .ok (.iconst 1, 1) := by decide +kernel
theorem dX11_done_53 : decode cX11_done 53 = .ok (.isub, 1) := by decide +kernel
theorem dX11_done_54 : decode cX11_done 54 = .ok (.invokestatic 159, 3) := by decide +kernel
theorem dX11_done_57 : decode cX11_done 57 = .ok (.ifCond .ne 5, 3) := by decide +kernel
theorem dX11_done_60 : decode cX11_done 60 = .ok (.iconst (-1), 1) := by decide +kernel
theorem dX11_done_61 : decode cX11_done 61 = .ok (.ireturn, 1) := by decide +kernel
theorem dX11_done_62 : decode cX11_done 62 = .ok (.aload_n 0, 1) := by decide +kernel
theorem dX11_done_63 : decode cX11_done 63 = .ok (.getfield 40, 3) := by decide +kernel
theorem dX11_done_66 : decode cX11_done 66 = .ok (.getfield 141, 3) := by decide +kernel
theorem dX11_done_69 : decode cX11_done 69 = .ok (.iload_n 1, 1) := by decide +kernel
theorem dX11_done_70 : decode cX11_done 70 = .ok (.iload_n 2, 1) := by decide +kernel
theorem dX11_done_71 : decode cX11_done 71 = .ok (.iastore, 1) := by decide +kernel
theorem dX11_done_72 : decode cX11_done 72 = .ok (.aload_n 0, 1) := by decide +kernel
theorem dX11_done_73 : decode cX11_done 73 = .ok (.getfield 40, 3) := by decide +kernel
theorem dX11_done_76 : decode cX11_done 76 = .ok (.getfield 181, 3) := by decide +kernel
theorem dX11_done_79 : decode cX11_done 79 = .ok (.iload_n 1, 1) := by decide +kernel
theorem dX11_done_80 : decode cX11_done 80 = .ok (.iload_n 3, 1) := by decide +kernel
theorem dX11_done_81 : decode cX11_done 81 = .ok (.iastore, 1) := by decide +kernel
theorem dX11_done_82 : decode cX11_done 82 = .ok (.aload_n 0, 1) := by decide +kernel
theorem dX11_done_83 : decode cX11_done 83 = .ok (.getfield 40, 3) := by decide +kernel
theorem dX11_done_86 : decode cX11_done 86 = .ok (.getfield 184, 3) := by decide +kernel
theorem dX11_done_89 : decode cX11_done 89 = .ok (.iload_n 1, 1) := by decide +kernel
theorem dX11_done_90 : decode cX11_done 90 = .ok (.iload 4, 2) := by decide +kernel
theorem dX11_done_92 : decode cX11_done 92 = .ok (.iastore, 1) := by decide +kernel
theorem dX11_done_93 : decode cX11_done 93 = .ok (.aload_n 0, 1) := by decide +kernel
theorem dX11_done_94 : decode cX11_done 94 = .ok (.getfield 40, 3) := by decide +kernel
theorem dX11_done_97 : decode cX11_done 97 = .ok (.getfield 156, 3) := by decide +kernel
theorem dX11_done_100 : decode cX11_done 100 = .ok (.iload_n 1, 1) := by decide +kernel
theorem dX11_done_101 : decode cX11_done 101 = .ok (.iconst 0, 1) := by decide +kernel
theorem dX11_done_102 : decode cX11_done 102 = .ok (.iastore, 1) := by decide +kernel
theorem dX11_done_103 : decode cX11_done 103 = .ok (.aload 6, 2) := by decide +kernel
theorem dX11_done_105 : decode cX11_done 105 = .ok (.aload 5, 2) := by decide +kernel
theorem dX11_done_107 : decode cX11_done 107 = .ok (.getfield 123, 3) := by decide +kernel
theorem dX11_done_110 : decode cX11_done 110 = .ok (.getfield 135, 3) := by decide +kernel
theorem dX11_done_113 : decode cX11_done 113 = .ok (.invokevirtual 187, 3) := by decide +kernel
theorem dX11_done_116 : decode cX11_done 116 = .ok (.ireturn, 1) := by decide +kernel
theorem dX11_strip_0 : decode cX11_strip 0 = .ok (.aload_n 0, 1) := by decide +kernel
theorem dX11_strip_1 : decode cX11_strip 1 = .ok (.iload_n 1, 1) := by decide +kernel
theorem dX11_strip_2 : decode cX11_strip 2 = .ok (.invokevirtual 120, 3) := by decide +kernel
theorem dX11_strip_5 : decode cX11_strip 5 = .ok (.ifCond .eq 20, 3) := by decide +kernel
theorem dX11_strip_8 : decode cX11_strip 8 = .ok (.iconst 0, 1) := by decide +kernel
theorem dX11_strip_9 : decode cX11_strip 9 = .ok (.iload_n 2, 1) := by decide +kernel
theorem dX11_strip_10 : decode cX11_strip 10 = .ok (.aload_n 0, 1) := by decide +kernel
theorem dX11_strip_11 : decode cX11_strip 11 = .ok (.getfield 51, 3) := by decide +kernel
theorem dX11_strip_14 : decode cX11_strip 14 = .ok (.getfield 150, 3) := by decide +kernel
theorem dX11_strip_17 : decode cX11_strip 17 = .ok (.iconst 1, 1) := by decide +kernel
theorem dX11_strip_18 : decode cX11_strip 18 = .ok (.isub, 1) := by decide +kernel
theorem dX11_strip_19 : decode cX11_strip 19 = .ok (.invokestatic 159, 3) := by decide +kernel
theorem dX11_strip_22 : decode cX11_strip 22 = .ok (.ifCond .ne 5, 3) := by decide +kernel
theorem dX11_strip_25 : decode cX11_strip 25 = .ok (.iconst (-1), 1) := by decide +kernel
theorem dX11_strip_26 : decode cX11_strip 26 = .ok (.ireturn, 1) := by decide +kernel
theorem dX11_strip_27 : decode cX11_strip 27 = .ok (.iload_n 3, 1) := by decide +kernel
theorem dX11_strip_28 : decode cX11_strip 28 = .ok (.tableswitch 119 0 5 #[40, 49, 58, 68, 87, 109], 40) := by decide +kernel
theorem dX11_strip_68 : decode cX11_strip 68 = .ok (.aload_n 0, 1) := by decide +kernel
theorem dX11_strip_69 : decode cX11_strip 69 = .ok (.getfield 51, 3) := by decide +kernel
theorem dX11_strip_72 : decode cX11_strip 72 = .ok (.iload_n 2, 1) := by decide +kernel
theorem dX11_strip_73 : decode cX11_strip 73 = .ok (.invokevirtual 190, 3) := by decide +kernel
theorem dX11_strip_76 : decode cX11_strip 76 = .ok (.ireturn, 1) := by decide +kernel
theorem dX11_strip_77 : decode cX11_strip 77 = .ok (.aload_n 0, 1) := by decide +kernel
theorem dX11_strip_78 : decode cX11_strip 78 = .ok (.getfield 51, 3) := by decide +kernel
theorem dX11_strip_81 : decode cX11_strip 81 = .ok (.iload_n 2, 1) := by decide +kernel
theorem dX11_strip_82 : decode cX11_strip 82 = .ok (.invokevirtual 193, 3) := by decide +kernel
theorem dX11_strip_85 : decode cX11_strip 85 = .ok (.ireturn, 1) := by decide +kernel
theorem dX11_strip_86 : decode cX11_strip 86 = .ok (.aload_n 0, 1) := by decide +kernel
theorem dX11_strip_87 : decode cX11_strip 87 = .ok (.getfield 51, 3) := by decide +kernel
theorem dX11_strip_90 : decode cX11_strip 90 = .ok (.getfield 196, 3) := by decide +kernel
theorem dX11_strip_93 : decode cX11_strip 93 = .ok (.iload_n 2, 1) := by decide +kernel
theorem dX11_strip_94 : decode cX11_strip 94 = .ok (.iaload, 1) := by decide +kernel
theorem dX11_strip_95 : decode cX11_strip 95 = .ok (.ireturn, 1) := by decide +kernel
theorem dX11_strip_96 : decode cX11_strip 96 = .ok (.aload_n 0, 1) := by decide +kernel
theorem dX11_strip_97 : decode cX11_strip 97 = .ok (.getfield 51, 3) := by decide +kernel
theorem dX11_strip_100 : decode cX11_strip 100 = .ok (.getfield 199, 3) := by decide +kernel
theorem dX11_strip_103 : decode cX11_strip 103 = .ok (.iload_n 2, 1) := by decide +kernel
theorem dX11_strip_104 : decode cX11_strip 104 = .ok (.aload_n 0, 1) := by decide +kernel
theorem dX11_strip_105 : decode cX11_strip 105 = .ok (.getfield 51, 3) := by decide +kernel
theorem dX11_strip_108 : decode cX11_strip 108 = .ok (.getfield 147, 3) := by decide +kernel
theorem dX11_strip_111 : decode cX11_strip 111 = .ok (.invokevirtual 203, 3) := by decide +kernel
theorem dX11_strip_114 : decode cX11_strip 114 = .ok (.ireturn, 1) := by decide +kernel
theorem dX11_strip_115 : decode cX11_strip 115 = .ok (.aload_n 0, 1) := by decide +kernel
theorem dX11_strip_116 : decode cX11_strip 116 = .ok (.getfield 51, 3) := by decide +kernel
theorem dX11_strip_119 : decode cX11_strip 119 = .ok (.getfield 207, 3) := by decide +kernel
theorem dX11_strip_122 : decode cX11_strip 122 = .ok (.iload_n 2, 1) := by decide +kernel
theorem dX11_strip_123 : decode cX11_strip 123 = .ok (.iconst 1, 1) := by decide +kernel
theorem dX11_strip_124 : decode cX11_strip 124 = .ok (.iadd, 1) := by decide +kernel
theorem dX11_strip_125 : decode cX11_strip 125 = .ok (.iaload, 1) := by decide +kernel
theorem dX11_strip_126 : decode cX11_strip 126 = .ok (.aload_n 0, 1) := by decide +kernel
theorem dX11_strip_127 : decode cX11_strip 127 = .ok (.getfield 51, 3) := by decide +kernel
theorem dX11_strip_130 : decode cX11_strip 130 = .ok (.getfield 207, 3) := by decide +kernel
theorem dX11_strip_133 : decode cX11_strip 133 = .ok (.iload_n 2, 1) := by decide +kernel
theorem dX11_strip_134 : decode cX11_strip 134 = .ok (.iaload, 1) := by decide +kernel
theorem dX11_strip_135 : decode cX11_strip 135 = .ok (.isub, 1) := by decide +kernel
theorem dX11_strip_136 : decode cX11_strip 136 = .ok (.ireturn, 1) := by decide +kernel
theorem dX11_strip_137 : decode cX11_strip 137 = .ok (.aload_n 0, 1) := by decide +kernel
theorem dX11_strip_138 : decode cX11_strip 138 = .ok (.getfield 51, 3) := by decide +kernel
theorem dX11_strip_141 : decode cX11_strip 141 = .ok (.getfield 207, 3) := by decide +kernel
theorem dX11_strip_144 : decode cX11_strip 144 = .ok (.iload_n 2, 1) := by decide +kernel
theorem dX11_strip_145 : decode cX11_strip 145 = .ok (.iaload, 1) := by decide +kernel
theorem dX11_strip_146 : decode cX11_strip 146 = .ok (.ireturn, 1) := by decide +kernel
theorem dX11_strip_147 : decode cX11_strip 147 = .ok (.iconst (-1), 1) := by decide +kernel
theorem dX11_strip_148 : decode cX11_strip 148 = .ok (.ireturn, 1) := by decide +kernel
theorem dX11_piece_0 : decode cX11_piece 0 = .ok (.aload_n 0, 1) := by decide +kernel
theorem dX11_piece_1 : decode cX11_piece 1 = .ok (.iload_n 1, 1) := by decide +kernel
theorem dX11_piece_2 : decode cX11_piece 2 = .ok (.invokevirtual 120, 3) := by decide +kernel
theorem dX11_piece_5 : decode cX11_piece 5 = .ok (.ifCond .eq 20, 3) := by decide +kernel
theorem dX11_piece_8 : decode cX11_piece 8 = .ok (.iconst 0, 1) := by decide +kernel
theorem dX11_piece_9 : decode cX11_piece 9 = .ok (.iload_n 2, 1) := by decide +kernel
theorem dX11_piece_10 : decode cX11_piece 10 = .ok (.aload_n 0, 1) := by decide +kernel
theorem dX11_piece_11 : decode cX11_piece 11 = .ok (.getfield 51, 3) := by decide +kernel
theorem dX11_piece_14 : decode cX11_piece 14 = .ok (.getfield 153, 3) := by decide +kernel
theorem dX11_piece_17 : decode cX11_piece 17 = .ok (.iconst 1, 1) := by decide +kernel
theorem dX11_piece_18 : decode cX11_piece 18 = .ok (.isub, 1) := by decide +kernel
theorem dX11_piece_19 : decode cX11_piece 19 = .ok (.invokestatic 159, 3) := by decide +kernel
theorem dX11_piece_22 : decode cX11_piece 22 = .ok (.ifCond .ne 5, 3) := by decide +kernel
theorem dX11_piece_25 : decode cX11_piece 25 = .ok (.iconst (-1), 1) := by decide +kernel
theorem dX11_piece_26 : decode cX11_piece 26 = .ok (.ireturn, 1) := by decide +kernel
theorem dX11_piece_27 : decode cX11_piece 27 = .ok (.iload_n 3, 1) := by decide +kernel
theorem dX11_piece_28 : decode cX11_piece 28 = .ok (.tableswitch 136 0 6 #[44, 54, 64, 74, 84, 94, 115], 44) := by decide +kernel
theorem dX11_piece_72 : decode cX11_piece 72 = .ok (.aload_n 0, 1) := by decide +kernel
theorem dX11_piece_73 : decode cX11_piece 73 = .ok (.getfield 51, 3) := by decide +kernel
theorem dX11_piece_76 : decode cX11_piece 76 = .ok (.getfield 210, 3) := by decide +kernel
theorem dX11_piece_79 : decode cX11_piece 79 = .ok (.iload_n 2, 1) := by decide +kernel
theorem dX11_piece_80 : decode cX11_piece 80 = .ok (.iaload, 1) := by decide +kernel
theorem dX11_piece_81 : decode cX11_piece 81 = .ok (.ireturn, 1) := by decide +kernel
theorem dX11_piece_82 : decode cX11_piece 82 = .ok (.aload_n 0, 1) := by decide +kernel
theorem dX11_piece_83 : decode cX11_piece 83 = .ok (.getfield 51, 3) := by decide +kernel
theorem dX11_piece_86 : decode cX11_piece 86 = .ok (.getfield 213, 3) := by decide +kernel
theorem dX11_piece_89 : decode cX11_piece 89 = .ok (.iload_n 2, 1) := by decide +kernel
theorem dX11_piece_90 : decode cX11_piece 90 = .ok (.iaload, 1) := by decide +kernel
theorem dX11_piece_91 : decode cX11_piece 91 = .ok (.ireturn, 1) := by decide +kernel
theorem dX11_piece_92 : decode cX11_piece 92 = .ok (.aload_n 0, 1) := by decide +kernel
theorem dX11_piece_93 : decode cX11_piece 93 = .ok (.getfield 51, 3) := by decide +kernel
theorem dX11_piece_96 : decode cX11_piece 96 = .ok (.getfield 216, 3) := by decide +kernel
theorem dX11_piece_99 : decode cX11_piece 99 = .ok (.iload_n 2, 1) := by decide +kernel
theorem dX11_piece_100 : decode cX11_piece 100 = .ok (.iaload, 1) := by decide +kernel
theorem dX11_piece_101 : decode cX11_piece 101 = .ok (.ireturn, 1) := by decide +kernel
theorem dX11_piece_102 : decode cX11_piece 102 = .ok (.aload_n 0, 1) := by decide +kernel
theorem dX11_piece_103 : decode cX11_piece 103 = .ok (.getfield 51, 3) := by decide +kernel
theorem dX11_piece_106 : decode cX11_piece 106 = .ok (.getfield 219, 3) := by decide +kernel
theorem dX11_piece_109 : decode cX11_piece 109 = .ok (.iload_n 2, 1) := by decide +kernel
theorem dX11_piece_110 : decode cX11_piece 110 = .ok (.iaload, 1) := by decide +kernel
theorem dX11_piece_111 : decode cX11_piece 111 = .ok (.ireturn, 1) := by decide +kernel
theorem dX11_piece_112 : decode cX11_piece 112 = .ok (.aload_n 0, 1) := by decide +kernel
theorem dX11_piece_113 : decode cX11_piece 113 = .ok (.getfield 51, 3) := by decide +kernel
theorem dX11_piece_116 : decode cX11_piece 116 = .ok (.getfield 222, 3) := by decide +kernel
theorem dX11_piece_119 : decode cX11_piece 119 = .ok (.iload_n 2, 1) := by decide +kernel
theorem dX11_piece_120 : decode cX11_piece 120 = .ok (.iaload, 1) := by decide +kernel
theorem dX11_piece_121 : decode cX11_piece 121 = .ok (.ireturn, 1) := by decide +kernel
theorem dX11_piece_122 : decode cX11_piece 122 = .ok (.aload_n 0, 1) := by decide +kernel
theorem dX11_piece_123 : decode cX11_piece 123 = .ok (.invokevirtual 225, 3) := by decide +kernel
theorem dX11_piece_126 : decode cX11_piece 126 = .ok (.ifCond .eq 15, 3) := by decide +kernel
theorem dX11_piece_129 : decode cX11_piece 129 = .ok (.aload_n 0, 1) := by decide +kernel
theorem dX11_piece_130 : decode cX11_piece 130 = .ok (.getfield 51, 3) := by decide +kernel
theorem dX11_piece_133 : decode cX11_piece 133 = .ok (.getfield 229, 3) := by decide +kernel
theorem dX11_piece_136 : decode cX11_piece 136 = .ok (.iload_n 2, 1) := by decide +kernel
theorem dX11_piece_137 : decode cX11_piece 137 = .ok (.iaload, 1) := by decide +kernel
theorem dX11_piece_138 : decode cX11_piece 138 = .ok (.goto 4, 3) := by decide +kernel
theorem dX11_piece_141 : decode cX11_piece 141 = .ok (.iconst (-1), 1) := by decide +kernel
theorem dX11_piece_142 : decode cX11_piece 142 = .ok (.ireturn, 1) := by decide +kernel
theorem dX11_piece_143 : decode cX11_piece 143 = .ok (.aload_n 0, 1) := by decide +kernel
theorem dX11_piece_144 : decode cX11_piece 144 = .ok (.invokevirtual 225, 3) := by decide +kernel
theorem dX11_piece_147 : decode cX11_piece 147 = .ok (.ifCond .eq 15, 3) := by decide +kernel
theorem dX11_piece_150 : decode cX11_piece 150 = .ok (.aload_n 0, 1) := by decide +kernel
theorem dX11_piece_151 : decode cX11_piece 151 = .ok (.getfield 51, 3) := by decide +kernel
theorem dX11_piece_154 : decode cX11_piece 154 = .ok (.getfield 232, 3) := by decide +kernel
theorem dX11_piece_157 : decode cX11_piece 157 = .ok (.iload_n 2, 1) := by decide +kernel
theorem dX11_piece_158 : decode cX11_piece 158 = .ok (.iaload, 1) := by decide +kernel
theorem dX11_piece_159 : decode cX11_piece 159 = .ok (.goto 4, 3) := by decide +kernel
theorem dX11_piece_162 : decode cX11_piece 162 = .ok (.iconst (-1), 1) := by decide +kernel
theorem dX11_piece_163 : decode cX11_piece 163 = .ok (.ireturn, 1) := by decide +kernel
theorem dX11_piece_164 : decode cX11_piece 164 = .ok (.iconst (-1), 1) := by decide +kernel
theorem dX11_piece_165 : decode cX11_piece 165 = .ok (.ireturn, 1) := by decide +kernel
theorem dX11_rolls_0 : decode cX11_rolls 0 = .ok (.aload_n 0, 1) := by decide +kernel
theorem dX11_rolls_1 : decode cX11_rolls 1 = .ok (.iload_n 1, 1) := by decide +kernel
theorem dX11_rolls_2 : decode cX11_rolls 2 = .ok (.invokevirtual 120, 3) := by decide +kernel
theorem dX11_rolls_5 : decode cX11_rolls 5 = .ok (.ifCond .eq 10, 3) := by decide +kernel
theorem dX11_rolls_8 : decode cX11_rolls 8 = .ok (.aload_n 0, 1) := by decide +kernel
theorem dX11_rolls_9 : decode cX11_rolls 9 = .ok (.invokevirtual 225, 3) := by decide +kernel
theorem dX11_rolls_12 : decode cX11_rolls 12 = .ok (.ifCond .ne 5, 3) := by decide +kernel
theorem dX11_rolls_15 : decode cX11_rolls 15 = .ok (.iconst (-1), 1) := by decide +kernel
theorem dX11_rolls_16 : decode cX11_rolls 16 = .ok (.ireturn, 1) := by decide +kernel
theorem dX11_rolls_17 : decode cX11_rolls 17 = .ok (.iload_n 2, 1) := by decide +kernel
theorem dX11_rolls_18 : decode cX11_rolls 18 = .ok (.tableswitch 75 0 2 #[26, 38, 67], 26) := by decide +kernel
theorem dX11_rolls_44 : decode cX11_rolls 44 = .ok (.aload_n 0, 1) := by decide +kernel
theorem dX11_rolls_45 : decode cX11_rolls 45 = .ok (.getfield 58, 3) := by decide +kernel
theorem dX11_rolls_48 : decode cX11_rolls 48 = .ok (.aload_n 0, 1) := by decide +kernel
theorem dX11_rolls_49 : decode cX11_rolls 49 = .ok (.getfield 51, 3) := by decide +kernel
theorem dX11_rolls_52 : decode cX11_rolls 52 = .ok (.invokevirtual 235, 3) := by decide +kernel
theorem dX11_rolls_55 : decode cX11_rolls 55 = .ok (.ireturn, 1) := by decide +kernel
theorem dX11_rolls_56 : decode cX11_rolls 56 = .ok (.aload_n 0, 1) := by decide +kernel
theorem dX11_rolls_57 : decode cX11_rolls 57 = .ok (.getfield 51, 3) := by decide +kernel
theorem dX11_rolls_60 : decode cX11_rolls 60 = .ok (.iconst 0, 1) := by decide +kernel
theorem dX11_rolls_61 : decode cX11_rolls 61 = .ok (.aload_n 0, 1) := by decide +kernel
theorem dX11_rolls_62 : decode cX11_rolls 62 = .ok (.getfield 51, 3) := by decide +kernel
theorem dX11_rolls_65 : decode cX11_rolls 65 = .ok (.getfield 153, 3) := by decide +kernel
theorem dX11_rolls_68 : decode cX11_rolls 68 = .ok (.invokevirtual 239, 3) := by decide +kernel
theorem dX11_rolls_71 : decode cX11_rolls 71 = .ok (.aload_n 0, 1) := by decide +kernel
theorem dX11_rolls_72 : decode cX11_rolls 72 = .ok (.getfield 51, 3) := by decide +kernel
theorem dX11_rolls_75 : decode cX11_rolls 75 = .ok (.getfield 199, 3) := by decide +kernel
theorem dX11_rolls_78 : decode cX11_rolls 78 = .ok (.getfield 242, 3) := by decide +kernel
theorem dX11_rolls_81 : decode cX11_rolls 81 = .ok (.invokestatic 245, 3) := by decide +kernel
theorem dX11_rolls_84 : decode cX11_rolls 84 = .ok (.ireturn, 1) := by decide +kernel
theorem dX11_rolls_85 : decode cX11_rolls 85 = .ok (.aload_n 0, 1) := by decide +kernel
theorem dX11_rolls_86 : decode cX11_rolls 86 = .ok (.getfield 58, 3) := by decide +kernel
theorem dX11_rolls_89 : decode cX11_rolls 89 = .ok (.getfield 248, 3) := by decide +kernel
theorem dX11_rolls_92 : decode cX11_rolls 92 = .ok (.ireturn, 1) := by decide +kernel
theorem dX11_rolls_93 : decode cX11_rolls 93 = .ok (.iconst (-1), 1) := by decide +kernel
theorem dX11_rolls_94 : decode cX11_rolls 94 = .ok (.ireturn, 1) := by decide +kernel
theorem dX11_left_0 : decode cX11_left 0 = .ok (.aload_n 0, 1) := by decide +kernel
theorem dX11_left_1 : decode cX11_left 1 = .ok (.iload_n 1, 1) := by decide +kernel
theorem dX11_left_2 : decode cX11_left 2 = .ok (.invokevirtual 120, 3) := by decide +kernel
theorem dX11_left_5 : decode cX11_left 5 = .ok (.ifCond .eq 27, 3) := by decide +kernel
theorem dX11_left_8 : decode cX11_left 8 = .ok (.aload_n 0, 1) := by decide +kernel
theorem dX11_left_9 : decode cX11_left 9 = .ok (.invokevirtual 225, 3) := by decide +kernel
theorem dX11_left_12 : decode cX11_left 12 = .ok (.ifCond .eq 20, 3) := by decide +kernel
theorem dX11_left_15 : decode cX11_left 15 = .ok (.iconst 0, 1) := by decide +kernel
theorem dX11_left_16 : decode cX11_left 16 = .ok (.iload_n 2, 1) := by decide +kernel
theorem dX11_left_17 : decode cX11_left 17 = .ok (.aload_n 0, 1) := by decide +kernel
theorem dX11_left_18 : decode cX11_left 18 = .ok (.getfield 58, 3) := by decide +kernel
theorem dX11_left_21 : decode cX11_left 21 = .ok (.getfield 248, 3) := by decide +kernel
theorem dX11_left_24 : decode cX11_left 24 = .ok (.iconst 1, 1) := by decide +kernel
theorem dX11_left_25 : decode cX11_left 25 = .ok (.isub, 1) := by decide +kernel
theorem dX11_left_26 : decode cX11_left 26 = .ok (.invokestatic 159, 3) := by decide +kernel
theorem dX11_left_29 : decode cX11_left 29 = .ok (.ifCond .ne 5, 3) := by decide +kernel
theorem dX11_left_32 : decode cX11_left 32 = .ok (.iconst (-1), 1) := by decide +kernel
theorem dX11_left_33 : decode cX11_left 33 = .ok (.ireturn, 1) := by decide +kernel
theorem dX11_left_34 : decode cX11_left 34 = .ok (.iload_n 3, 1) := by decide +kernel
theorem dX11_left_35 : decode cX11_left 35 = .ok (.lookupswitch 66 #[(0, 25), (1, 46)], 25) := by decide +kernel
theorem dX11_left_60 : decode cX11_left 60 = .ok (.aload_n 0, 1) := by decide +kernel
theorem dX11_left_61 : decode cX11_left 61 = .ok (.getfield 51, 3) := by decide +kernel
theorem dX11_left_64 : decode cX11_left 64 = .ok (.getfield 199, 3) := by decide +kernel
theorem dX11_left_67 : decode cX11_left 67 = .ok (.getfield 242, 3) := by decide +kernel
theorem dX11_left_70 : decode cX11_left 70 = .ok (.aload_n 0, 1) := by decide +kernel
theorem dX11_left_71 : decode cX11_left 71 = .ok (.getfield 58, 3) := by decide +kernel
theorem dX11_left_74 : decode cX11_left 74 = .ok (.getfield 251, 3) := by decide +kernel
theorem dX11_left_77 : decode cX11_left 77 = .ok (.iload_n 2, 1) := by decide +kernel
theorem dX11_left_78 : decode cX11_left 78 = .ok (.iaload, 1) := by decide +kernel
theorem dX11_left_79 : decode cX11_left 79 = .ok (.isub, 1) := by decide +kernel
theorem dX11_left_80 : decode cX11_left 80 = .ok (.ireturn, 1) := by decide +kernel
theorem dX11_left_81 : decode cX11_left 81 = .ok (.aload_n 0, 1) := by decide +kernel
theorem dX11_left_82 : decode cX11_left 82 = .ok (.getfield 51, 3) := by decide +kernel
theorem dX11_left_85 : decode cX11_left 85 = .ok (.getfield 199, 3) := by decide +kernel
theorem dX11_left_88 : decode cX11_left 88 = .ok (.aload_n 0, 1) := by decide +kernel
theorem dX11_left_89 : decode cX11_left 89 = .ok (.getfield 58, 3) := by decide +kernel
theorem dX11_left_92 : decode cX11_left 92 = .ok (.getfield 251, 3) := by decide +kernel
theorem dX11_left_95 : decode cX11_left 95 = .ok (.iload_n 2, 1) := by decide +kernel
theorem dX11_left_96 : decode cX11_left 96 = .ok (.iaload, 1) := by decide +kernel
theorem dX11_left_97 : decode cX11_left 97 = .ok (.invokevirtual 254, 3) := by decide +kernel
theorem dX11_left_100 : decode cX11_left 100 = .ok (.ireturn, 1) := by decide +kernel
theorem dX11_left_101 : decode cX11_left 101 = .ok (.iconst (-1), 1) := by decide +kernel
theorem dX11_left_102 : decode cX11_left 102 = .ok (.ireturn, 1) := by decide +kernel
theorem dX11_faults_0 : decode cX11_faults 0 = .ok (.aload_n 0, 1) := by decide +kernel
theorem dX11_faults_1 : decode cX11_faults 1 = .ok (.iload_n 1, 1) := by decide +kernel
theorem dX11_faults_2 : decode cX11_faults 2 = .ok (.invokevirtual 120, 3) := by decide +kernel
theorem dX11_faults_5 : decode cX11_faults 5 = .ok (.ifCond .ne 5, 3) := by decide +kernel
theorem dX11_faults_8 : decode cX11_faults 8 = .ok (.iconst (-1), 1) := by decide +kernel
theorem dX11_faults_9 : decode cX11_faults 9 = .ok (.ireturn, 1) := by decide +kernel
theorem dX11_faults_10 : decode cX11_faults 10 = .ok (.aload_n 0, 1) := by decide +kernel
theorem dX11_faults_11 : decode cX11_faults 11 = .ok (.getfield 65, 3) := by decide +kernel
theorem dX11_faults_14 : decode cX11_faults 14 = .ok (.aload_n 0, 1) := by decide +kernel
theorem dX11_faults_15 : decode cX11_faults 15 = .ok (.getfield 51, 3) := by decide +kernel
theorem dX11_faults_18 : decode cX11_faults 18 = .ok (.getfield 257, 3) := by decide +kernel
theorem dX11_faults_21 : decode cX11_faults 21 = .ok (.aload_n 0, 1) := by decide +kernel
theorem dX11_faults_22 : decode cX11_faults 22 = .ok (.getfield 51, 3) := by decide +kernel
theorem dX11_faults_25 : decode cX11_faults 25 = .ok (.getfield 199, 3) := by decide +kernel
theorem dX11_faults_28 : decode cX11_faults 28 = .ok (.invokevirtual 260, 3) := by decide +kernel
theorem dX11_faults_31 : decode cX11_faults 31 = .ok (.aload_n 0, 1) := by decide +kernel
theorem dX11_faults_32 : decode cX11_faults 32 = .ok (.getfield 65, 3) := by decide +kernel
theorem dX11_faults_35 : decode cX11_faults 35 = .ok (.aload_n 0, 1) := by decide +kernel
theorem dX11_faults_36 : decode cX11_faults 36 = .ok (.getfield 51, 3) := by decide +kernel
theorem dX11_faults_39 : decode cX11_faults 39 = .ok (.getfield 144, 3) := by decide +kernel
theorem dX11_faults_42 : decode cX11_faults 42 = .ok (.aload_n 0, 1) := by decide +kernel
theorem dX11_faults_43 : decode cX11_faults 43 = .ok (.getfield 51, 3) := by decide +kernel
theorem dX11_faults_46 : decode cX11_faults 46 = .ok (.getfield 147, 3) := by decide +kernel
theorem dX11_faults_49 : decode cX11_faults 49 = .ok (.invokevirtual 264, 3) := by decide +kernel
theorem dX11_faults_52 : decode cX11_faults 52 = .ok (.istore_n 3, 1) := by decide +kernel
theorem dX11_faults_53 : decode cX11_faults 53 = .ok (.iload_n 2, 1) := by decide +kernel
theorem dX11_faults_54 : decode cX11_faults 54 = .ok (.tableswitch 86 0 3 #[30, 61, 76, 84], 30) := by decide +kernel
theorem dX11_faults_84 : decode cX11_faults 84 = .ok (.aload_n 0, 1) := by decide +kernel
theorem dX11_faults_85 : decode cX11_faults 85 = .ok (.getfield 65, 3) := by decide +kernel
theorem dX11_faults_88 : decode cX11_faults 88 = .ok (.aload_n 0, 1) := by decide +kernel
theorem dX11_faults_89 : decode cX11_faults 89 = .ok (.getfield 51, 3) := by decide +kernel
theorem dX11_faults_92 : decode cX11_faults 92 = .ok (.getfield 144, 3) := by decide +kernel
theorem dX11_faults_95 : decode cX11_faults 95 = .ok (.invokevirtual 267, 3) := by decide +kernel
theorem dX11_faults_98 : decode cX11_faults 98 = .ok (.aload_n 0, 1) := by decide +kernel
theorem dX11_faults_99 : decode cX11_faults 99 = .ok (.getfield 65, 3) := by decide +kernel
theorem dX11_faults_102 : decode cX11_faults 102 = .ok (.invokevirtual 270, 3) := by decide +kernel
theorem dX11_faults_105 : decode cX11_faults 105 = .ok (.iadd, 1) := by decide +kernel
theorem dX11_faults_106 : decode cX11_faults 106 = .ok (.bipush 100, 2) := by decide +kernel
theorem dX11_faults_108 : decode cX11_faults 108 = .ok (.iload_n 3, 1) := by decide +kernel
theorem dX11_faults_109 : decode cX11_faults 109 = .ok (.invokestatic 274, 3) := by decide +kernel
theorem dX11_faults_112 : decode cX11_faults 112 = .ok (.imul, 1) := by decide +kernel
theorem dX11_faults_113 : decode cX11_faults 113 = .ok (.iadd, 1) := by decide +kernel
theorem dX11_faults_114 : decode cX11_faults 114 = .ok (.ireturn, 1) := by decide +kernel
theorem dX11_faults_115 : decode cX11_faults 115 = .ok (.aload_n 0, 1) := by decide +kernel
theorem dX11_faults_116 : decode cX11_faults 116 = .ok (.getfield 65, 3) := by decide +kernel
theorem dX11_faults_119 : decode cX11_faults 119 = .ok (.aload_n 0, 1) := by decide +kernel
theorem dX11_faults_120 : decode cX11_faults 120 = .ok (.getfield 51, 3) := by decide +kernel
theorem dX11_faults_123 : decode cX11_faults 123 = .ok (.getfield 144, 3) := by decide +kernel
theorem dX11_faults_126 : decode cX11_faults 126 = .ok (.invokevirtual 267, 3) := by decide +kernel
theorem dX11_faults_129 : decode cX11_faults 129 = .ok (.ireturn, 1) := by decide +kernel
theorem dX11_faults_130 : decode cX11_faults 130 = .ok (.aload_n 0, 1) := by decide +kernel
theorem dX11_faults_131 : decode cX11_faults 131 = .ok (.getfield 65, 3) := by decide +kernel
theorem dX11_faults_134 : decode cX11_faults 134 = .ok (.invokevirtual 270, 3) := by decide +kernel
theorem dX11_faults_137 : decode cX11_faults 137 = .ok (.ireturn, 1) := by decide +kernel
theorem dX11_faults_138 : decode cX11_faults 138 = .ok (.iload_n 3, 1) := by decide +kernel
theorem dX11_faults_139 : decode cX11_faults 139 = .ok (.ireturn, 1) := by decide +kernel
theorem dX11_faults_140 : decode cX11_faults 140 = .ok (.iconst (-1), 1) := by decide +kernel
theorem dX11_faults_141 : decode cX11_faults 141 = .ok (.ireturn, 1) := by decide +kernel
theorem dX11_best_0 : decode cX11_best 0 = .ok (.aload_n 0, 1) := by decide +kernel
theorem dX11_best_1 : decode cX11_best 1 = .ok (.iload_n 1, 1) := by decide +kernel
theorem dX11_best_2 : decode cX11_best 2 = .ok (.invokevirtual 116, 3) := by decide +kernel
theorem dX11_best_5 : decode cX11_best 5 = .ok (.astore 5, 2) := by decide +kernel
theorem dX11_best_7 : decode cX11_best 7 = .ok (.aload_n 0, 1) := by decide +kernel
theorem dX11_best_8 : decode cX11_best 8 = .ok (.iload_n 2, 1) := by decide +kernel
theorem dX11_best_9 : decode cX11_best 9 = .ok (.invokevirtual 174, 3) := by decide +kernel
theorem dX11_best_12 : decode cX11_best 12 = .ok (.astore 6, 2) := by decide +kernel
theorem dX11_best_14 : decode cX11_best 14 = .ok (.aload 5, 2) := by decide +kernel
theorem dX11_best_16 : decode cX11_best 16 = .ok (.ifnull 28, 3) := by decide +kernel
theorem dX11_best_19 : decode cX11_best 19 = .ok (.aload 6, 2) := by decide +kernel
theorem dX11_best_21 : decode cX11_best 21 = .ok (.ifnull 23, 3) := by decide +kernel
theorem dX11_best_24 : decode cX11_best 24 = .ok (.iconst 1, 1) := by decide +kernel
theorem dX11_best_25 : decode cX11_best 25 = .ok (.iload_n 3, 1) := by decide +kernel
theorem dX11_best_26 : decode cX11_best 26 = .ok (.bipush 50, 2) := by decide +kernel
theorem dX11_best_28 : decode cX11_best 28 = .ok (.invokestatic 159, 3) := by decide +kernel
theorem dX11_best_31 : decode cX11_best 31 = .ok (.ifCond .eq 13, 3) := by decide +kernel
theorem dX11_best_34 : decode cX11_best 34 = .ok (.iconst 0, 1) := by decide +kernel
theorem dX11_best_35 : decode cX11_best 35 = .ok (.iload 4, 2) := by decide +kernel
theorem dX11_best_37 : decode cX11_best 37 = .ok (.iconst 2, 1) := by decide +kernel
theorem dX11_best_38 : decode cX11_best 38 = .ok (.invokestatic 159, 3) := by decide +kernel
theorem dX11_best_41 : decode cX11_best 41 = .ok (.ifCond .ne 5, 3) := by decide +kernel
theorem dX11_best_44 : decode cX11_best 44 = .ok (.iconst (-1), 1) := by decide +kernel
theorem dX11_best_45 : decode cX11_best 45 = .ok (.ireturn, 1) := by decide +kernel
theorem dX11_best_46 : decode cX11_best 46 = .ok (.aload_n 0, 1) := by decide +kernel
theorem dX11_best_47 : decode cX11_best 47 = .ok (.getfield 65, 3) := by decide +kernel
theorem dX11_best_50 : decode cX11_best 50 = .ok (.aload 5, 2) := by decide +kernel
theorem dX11_best_52 : decode cX11_best 52 = .ok (.aload 6, 2) := by decide +kernel
theorem dX11_best_54 : decode cX11_best 54 = .ok (.invokevirtual 260, 3) := by decide +kernel
theorem dX11_best_57 : decode cX11_best 57 = .ok (.aload_n 0, 1) := by decide +kernel
theorem dX11_best_58 : decode cX11_best 58 = .ok (.getfield 65, 3) := by decide +kernel
theorem dX11_best_61 : decode cX11_best 61 = .ok (.iload_n 3, 1) := by decide +kernel
theorem dX11_best_62 : decode cX11_best 62 = .ok (.invokevirtual 279, 3) := by decide +kernel
theorem dX11_best_65 : decode cX11_best 65 = .ok (.iload 4, 2) := by decide +kernel
theorem dX11_best_67 : decode cX11_best 67 = .ok (.lookupswitch 41 #[(0, 25), (1, 33)], 25) := by decide +kernel
theorem dX11_best_92 : decode cX11_best 92 = .ok (.aload_n 0, 1) := by decide +kernel
theorem dX11_best_93 : decode cX11_best 93 = .ok (.getfield 65, 3) := by decide +kernel
theorem dX11_best_96 : decode cX11_best 96 = .ok (.getfield 282, 3) := by decide +kernel
theorem dX11_best_99 : decode cX11_best 99 = .ok (.ireturn, 1) := by decide +kernel
theorem dX11_best_100 : decode cX11_best 100 = .ok (.aload_n 0, 1) := by decide +kernel
theorem dX11_best_101 : decode cX11_best 101 = .ok (.getfield 65, 3) := by decide +kernel
theorem dX11_best_104 : decode cX11_best 104 = .ok (.getfield 285, 3) := by decide +kernel
theorem dX11_best_107 : decode cX11_best 107 = .ok (.ireturn, 1) := by decide +kernel
theorem dX11_best_108 : decode cX11_best 108 = .ok (.aload_n 0, 1) := by decide +kernel
theorem dX11_best_109 : decode cX11_best 109 = .ok (.getfield 65, 3) := by decide +kernel
theorem dX11_best_112 : decode cX11_best 112 = .ok (.getfield 288, 3) := by decide +kernel
theorem dX11_best_115 : decode cX11_best 115 = .ok (.ireturn, 1) := by decide +kernel
theorem dX11_shown_0 : decode cX11_shown 0 = .ok (.aload_n 0, 1) := by decide +kernel
theorem dX11_shown_1 : decode cX11_shown 1 = .ok (.iload_n 1, 1) := by decide +kernel
theorem dX11_shown_2 : decode cX11_shown 2 = .ok (.invokevirtual 116, 3) := by decide +kernel
theorem dX11_shown_5 : decode cX11_shown 5 = .ok (.astore_n 3, 1) := by decide +kernel
theorem dX11_shown_6 : decode cX11_shown 6 = .ok (.aload_n 3, 1) := by decide +kernel
theorem dX11_shown_7 : decode cX11_shown 7 = .ok (.ifnull 14, 3) := by decide +kernel
theorem dX11_shown_10 : decode cX11_shown 10 = .ok (.aload_n 3, 1) := by decide +kernel
theorem dX11_shown_11 : decode cX11_shown 11 = .ok (.getfield 123, 3) := by decide +kernel
theorem dX11_shown_14 : decode cX11_shown 14 = .ok (.iload_n 2, 1) := by decide +kernel
theorem dX11_shown_15 : decode cX11_shown 15 = .ok (.invokevirtual 291, 3) := by decide +kernel
theorem dX11_shown_18 : decode cX11_shown 18 = .ok (.ifCond .ne 5, 3) := by decide +kernel
theorem dX11_shown_21 : decode cX11_shown 21 = .ok (.iconst (-1), 1) := by decide +kernel
theorem dX11_shown_22 : decode cX11_shown 22 = .ok (.ireturn, 1) := by decide +kernel
theorem dX11_shown_23 : decode cX11_shown 23 = .ok (.aload_n 3, 1) := by decide +kernel
theorem dX11_shown_24 : decode cX11_shown 24 = .ok (.getfield 123, 3) := by decide +kernel
theorem dX11_shown_27 : decode cX11_shown 27 = .ok (.iload_n 2, 1) := by decide +kernel
theorem dX11_shown_28 : decode cX11_shown 28 = .ok (.invokevirtual 294, 3) := by decide +kernel
theorem dX11_shown_31 : decode cX11_shown 31 = .ok (.ireturn, 1) := by decide +kernel
theorem dX11_run_0 : decode cX11_run 0 = .ok (.aload_n 0, 1) := by decide +kernel
theorem dX11_run_1 : decode cX11_run 1 = .ok (.iload_n 1, 1) := by decide +kernel
theorem dX11_run_2 : decode cX11_run 2 = .ok (.invokevirtual 116, 3) := by decide +kernel
theorem dX11_run_5 : decode cX11_run 5 = .ok (.astore 4, 2) := by decide +kernel
theorem dX11_run_7 : decode cX11_run 7 = .ok (.aload 4, 2) := by decide +kernel
theorem dX11_run_9 : decode cX11_run 9 = .ok (.ifnull 33, 3) := by decide +kernel
