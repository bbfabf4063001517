theorem dX12_hang_35 : decode cX12_hang 35 = .ok (.lcmp, 1) := by decide +kernel
theorem dX12_hang_36 : decode cX12_hang 36 = .ok (.ifCond .le 5, 3) := by decide +kernel
theorem dX12_hang_39 : decode cX12_hang 39 = .ok (.iconst (-1), 1) := by decide +kernel
theorem dX12_hang_40 : decode cX12_hang 40 = .ok (.ireturn, 1) := by decide +kernel
theorem dX12_hang_41 : decode cX12_hang 41 = .ok (.aload_n 0, 1) := by decide +kernel
theorem dX12_hang_42 : decode cX12_hang 42 = .ok (.getfield 116, 3) := by decide +kernel
theorem dX12_hang_45 : decode cX12_hang 45 = .ok (.iload_n 1, 1) := by decide +kernel
theorem dX12_hang_46 : decode cX12_hang 46 = .ok (.dup2, 1) := by decide +kernel
theorem dX12_hang_47 : decode cX12_hang 47 = .ok (.iaload, 1) := by decide +kernel
theorem dX12_hang_48 : decode cX12_hang 48 = .ok (.iload_n 2, 1) := by decide +kernel
theorem dX12_hang_49 : decode cX12_hang 49 = .ok (.iadd, 1) := by decide +kernel
theorem dX12_hang_50 : decode cX12_hang 50 = .ok (.iastore, 1) := by decide +kernel
theorem dX12_hang_51 : decode cX12_hang 51 = .ok (.aload_n 0, 1) := by decide +kernel
theorem dX12_hang_52 : decode cX12_hang 52 = .ok (.getfield 116, 3) := by decide +kernel
theorem dX12_hang_55 : decode cX12_hang 55 = .ok (.iload_n 1, 1) := by decide +kernel
theorem dX12_hang_56 : decode cX12_hang 56 = .ok (.iaload, 1) := by decide +kernel
theorem dX12_hang_57 : decode cX12_hang 57 = .ok (.ireturn, 1) := by decide +kernel
theorem dX12_image_0 : decode cX12_image 0 = .ok (.iload_n 1, 1) := by decide +kernel
theorem dX12_image_1 : decode cX12_image 1 = .ok (.i2l, 1) := by decide +kernel
theorem dX12_image_2 : decode cX12_image 2 = .ok (.lconst 0, 1) := by decide +kernel
theorem dX12_image_3 : decode cX12_image 3 = .ok (.ldc2_w 303, 3) := by decide +kernel
theorem dX12_image_6 : decode cX12_image 6 = .ok (.invokestatic 205, 3) := by decide +kernel
theorem dX12_image_9 : decode cX12_image 9 = .ok (.ifCond .ne 5, 3) := by decide +kernel
theorem dX12_image_12 : decode cX12_image 12 = .ok (.iconst 0, 1) := by decide +kernel
theorem dX12_image_13 : decode cX12_image 13 = .ok (.ireturn, 1) := by decide +kernel
theorem dX12_image_14 : decode cX12_image 14 = .ok (.iconst 0, 1) := by decide +kernel
theorem dX12_image_15 : decode cX12_image 15 = .ok (.istore_n 2, 1) := by decide +kernel
theorem dX12_image_16 : decode cX12_image 16 = .ok (.iload_n 2, 1) := by decide +kernel
theorem dX12_image_17 : decode cX12_image 17 = .ok (.aload_n 0, 1) := by decide +kernel
theorem dX12_image_18 : decode cX12_image 18 = .ok (.getfield 278, 3) := by decide +kernel
theorem dX12_image_21 : decode cX12_image 21 = .ok (.if_icmp .ge 79, 3) := by decide +kernel
theorem dX12_image_24 : decode cX12_image 24 = .ok (.aload_n 0, 1) := by decide +kernel
theorem dX12_image_25 : decode cX12_image 25 = .ok (.getfield 182, 3) := by decide +kernel
theorem dX12_image_28 : decode cX12_image 28 = .ok (.iload_n 1, 1) := by decide +kernel
theorem dX12_image_29 : decode cX12_image 29 = .ok (.aaload, 1) := by decide +kernel
theorem dX12_image_30 : decode cX12_image 30 = .ok (.iconst 4, 1) := by decide +kernel
theorem dX12_image_31 : decode cX12_image 31 = .ok (.iload_n 2, 1) := by decide +kernel
theorem dX12_image_32 : decode cX12_image 32 = .ok (.imul, 1) := by decide +kernel
theorem dX12_image_33 : decode cX12_image 33 = .ok (.aload_n 0, 1) := by decide +kernel
theorem dX12_image_34 : decode cX12_image 34 = .ok (.getfield 107, 3) := by decide +kernel
theorem dX12_image_37 : decode cX12_image 37 = .ok (.iload_n 2, 1) := by decide +kernel
theorem dX12_image_38 : decode cX12_image 38 = .ok (.iaload, 1) := by decide +kernel
theorem dX12_image_39 : decode cX12_image 39 = .ok (.iastore, 1) := by decide +kernel
theorem dX12_image_40 : decode cX12_image 40 = .ok (.aload_n 0, 1) := by decide +kernel
theorem dX12_image_41 : decode cX12_image 41 = .ok (.getfield 182, 3) := by decide +kernel
theorem dX12_image_44 : decode cX12_image 44 = .ok (.iload_n 1, 1) := by decide +kernel
theorem dX12_image_45 : decode cX12_image 45 = .ok (.aaload, 1) := by decide +kernel
theorem dX12_image_46 : decode cX12_image 46 = .ok (.iconst 4, 1) := by decide +kernel
theorem dX12_image_47 : decode cX12_image 47 = .ok (.iload_n 2, 1) := by decide +kernel
theorem dX12_image_48 : decode cX12_image 48 = .ok (.imul, 1) := by decide +kernel
theorem dX12_image_49 : decode cX12_image 49 = .ok (.iconst 1, 1) := by decide +kernel
theorem dX12_image_50 : decode cX12_image 50 = .ok (.iadd, 1) := by decide +kernel
theorem dX12_image_51 : decode cX12_image 51 = .ok (.aload_n 0, 1) := by decide +kernel
theorem dX12_image_52 : decode cX12_image 52 = .ok (.getfield 110, 3) := by decide +kernel
theorem dX12_image_55 : decode cX12_image 55 = .ok (.iload_n 2, 1) := by decide +kernel
theorem dX12_image_56 : decode cX12_image 56 = .ok (.iaload, 1) := by decide +kernel
theorem dX12_image_57 : decode cX12_image 57 = .ok (.iastore, 1) := by decide +kernel
theorem dX12_image_58 : decode cX12_image 58 = .ok (.aload_n 0, 1) := by decide +kernel
theorem dX12_image_59 : decode cX12_image 59 = .ok (.getfield 182, 3) := by decide +kernel
theorem dX12_image_62 : decode cX12_image 62 = .ok (.iload_n 1, 1) := by decide +kernel
theorem dX12_image_63 : decode cX12_image 63 = .ok (.aaload, 1) := by decide +kernel
theorem dX12_image_64 : decode cX12_image 64 = .ok (.iconst 4, 1) := by decide +kernel
theorem dX12_image_65 : decode cX12_image 65 = .ok (.iload_n 2, 1) := by decide +kernel
theorem dX12_image_66 : decode cX12_image 66 = .ok (.imul, 1) := by decide +kernel
theorem dX12_image_67 : decode cX12_image 67 = .ok (.iconst 2, 1) := by decide +kernel
theorem dX12_image_68 : decode cX12_image 68 = .ok (.iadd, 1) := by decide +kernel
theorem dX12_image_69 : decode cX12_image 69 = .ok (.aload_n 0, 1) := by decide +kernel
theorem dX12_image_70 : decode cX12_image 70 = .ok (.getfield 113, 3) := by decide +kernel
theorem dX12_image_73 : decode cX12_image 73 = .ok (.iload_n 2, 1) := by decide +kernel
theorem dX12_image_74 : decode cX12_image 74 = .ok (.iaload, 1) := by decide +kernel
theorem dX12_image_75 : decode cX12_image 75 = .ok (.iastore, 1) := by decide +kernel
theorem dX12_image_76 : decode cX12_image 76 = .ok (.aload_n 0, 1) := by decide +kernel
theorem dX12_image_77 : decode cX12_image 77 = .ok (.getfield 182, 3) := by decide +kernel
theorem dX12_image_80 : decode cX12_image 80 = .ok (.iload_n 1, 1) := by decide +kernel
theorem dX12_image_81 : decode cX12_image 81 = .ok (.aaload, 1) := by decide +kernel
theorem dX12_image_82 : decode cX12_image 82 = .ok (.iconst 4, 1) := by decide +kernel
theorem dX12_image_83 : decode cX12_image 83 = .ok (.iload_n 2, 1) := by decide +kernel
theorem dX12_image_84 : decode cX12_image 84 = .ok (.imul, 1) := by decide +kernel
theorem dX12_image_85 : decode cX12_image 85 = .ok (.iconst 3, 1) := by decide +kernel
theorem dX12_image_86 : decode cX12_image 86 = .ok (.iadd, 1) := by decide +kernel
theorem dX12_image_87 : decode cX12_image 87 = .ok (.aload_n 0, 1) := by decide +kernel
theorem dX12_image_88 : decode cX12_image 88 = .ok (.getfield 116, 3) := by decide +kernel
theorem dX12_image_91 : decode cX12_image 91 = .ok (.iload_n 2, 1) := by decide +kernel
theorem dX12_image_92 : decode cX12_image 92 = .ok (.iaload, 1) := by decide +kernel
theorem dX12_image_93 : decode cX12_image 93 = .ok (.iastore, 1) := by decide +kernel
theorem dX12_image_94 : decode cX12_image 94 = .ok (.iinc 2 1, 3) := by decide +kernel
theorem dX12_image_97 : decode cX12_image 97 = .ok (.goto (-81), 3) := by decide +kernel
theorem dX12_image_100 : decode cX12_image 100 = .ok (.iconst 0, 1) := by decide +kernel
theorem dX12_image_101 : decode cX12_image 101 = .ok (.istore_n 2, 1) := by decide +kernel
theorem dX12_image_102 : decode cX12_image 102 = .ok (.iload_n 2, 1) := by decide +kernel
theorem dX12_image_103 : decode cX12_image 103 = .ok (.aload_n 0, 1) := by decide +kernel
theorem dX12_image_104 : decode cX12_image 104 = .ok (.getfield 449, 3) := by decide +kernel
theorem dX12_image_107 : decode cX12_image 107 = .ok (.if_icmp .ge 61, 3) := by decide +kernel
theorem dX12_image_110 : decode cX12_image 110 = .ok (.aload_n 0, 1) := by decide +kernel
theorem dX12_image_111 : decode cX12_image 111 = .ok (.getfield 185, 3) := by decide +kernel
theorem dX12_image_114 : decode cX12_image 114 = .ok (.iload_n 1, 1) := by decide +kernel
theorem dX12_image_115 : decode cX12_image 115 = .ok (.aaload, 1) := by decide +kernel
theorem dX12_image_116 : decode cX12_image 116 = .ok (.iconst 3, 1) := by decide +kernel
theorem dX12_image_117 : decode cX12_image 117 = .ok (.iload_n 2, 1) := by decide +kernel
theorem dX12_image_118 : decode cX12_image 118 = .ok (.imul, 1) := by decide +kernel
theorem dX12_image_119 : decode cX12_image 119 = .ok (.aload_n 0, 1) := by decide +kernel
theorem dX12_image_120 : decode cX12_image 120 = .ok (.getfield 173, 3) := by decide +kernel
theorem dX12_image_123 : decode cX12_image 123 = .ok (.iload_n 2, 1) := by decide +kernel
theorem dX12_image_124 : decode cX12_image 124 = .ok (.iaload, 1) := by decide +kernel
theorem dX12_image_125 : decode cX12_image 125 = .ok (.iastore, 1) := by decide +kernel
theorem dX12_image_126 : decode cX12_image 126 = .ok (.aload_n 0, 1) := by decide +kernel
theorem dX12_image_127 : decode cX12_image 127 = .ok (.getfield 185, 3) := by decide +kernel
theorem dX12_image_130 : decode cX12_image 130 = .ok (.iload_n 1, 1) := by decide +kernel
theorem dX12_image_131 : decode cX12_image 131 = .ok (.aaload, 1) := by decide +kernel
theorem dX12_image_132 : decode cX12_image 132 = .ok (.iconst 3, 1) := by decide +kernel
theorem dX12_image_133 : decode cX12_image 133 = .ok (.iload_n 2, 1) := by decide +kernel
theorem dX12_image_134 : decode cX12_image 134 = .ok (.imul, 1) := by decide +kernel
theorem dX12_image_135 : decode cX12_image 135 = .ok (.iconst 1, 1) := by decide +kernel
theorem dX12_image_136 : decode cX12_image 136 = .ok (.iadd, 1) := by decide +kernel
theorem dX12_image_137 : decode cX12_image 137 = .ok (.aload_n 0, 1) := by decide +kernel
theorem dX12_image_138 : decode cX12_image 138 = .ok (.getfield 176, 3) := by decide +kernel
theorem dX12_image_141 : decode cX12_image 141 = .ok (.iload_n 2, 1) := by decide +kernel
theorem dX12_image_142 : decode cX12_image 142 = .ok (.iaload, 1) := by decide +kernel
theorem dX12_image_143 : decode cX12_image 143 = .ok (.iastore, 1) := by decide +kernel
theorem dX12_image_144 : decode cX12_image 144 = .ok (.aload_n 0, 1) := by decide +kernel
theorem dX12_image_145 : decode cX12_image 145 = .ok (.getfield 185, 3) := by decide +kernel
theorem dX12_image_148 : decode cX12_image 148 = .ok (.iload_n 1, 1) := by decide +kernel
theorem dX12_image_149 : decode cX12_image 149 = .ok (.aaload, 1) := by decide +kernel
theorem dX12_image_150 : decode cX12_image 150 = .ok (.iconst 3, 1) := by decide +kernel
theorem dX12_image_151 : decode cX12_image 151 = .ok (.iload_n 2, 1) := by decide +kernel
theorem dX12_image_152 : decode cX12_image 152 = .ok (.imul, 1) := by decide +kernel
theorem dX12_image_153 : decode cX12_image 153 = .ok (.iconst 2, 1) := by decide +kernel
theorem dX12_image_154 : decode cX12_image 154 = .ok (.iadd, 1) := by decide +kernel
theorem dX12_image_155 : decode cX12_image 155 = .ok (.aload_n 0, 1) := by decide +kernel
theorem dX12_image_156 : decode cX12_image 156 = .ok (.getfield 179, 3) := by decide +kernel
theorem dX12_image_159 : decode cX12_image 159 = .ok (.iload_n 2, 1) := by decide +kernel
theorem dX12_image_160 : decode cX12_image 160 = .ok (.iaload, 1) := by decide +kernel
theorem dX12_image_161 : decode cX12_image 161 = .ok (.iastore, 1) := by decide +kernel
theorem dX12_image_162 : decode cX12_image 162 = .ok (.iinc 2 1, 3) := by decide +kernel
theorem dX12_image_165 : decode cX12_image 165 = .ok (.goto (-63), 3) := by decide +kernel
theorem dX12_image_168 : decode cX12_image 168 = .ok (.aload_n 0, 1) := by decide +kernel
theorem dX12_image_169 : decode cX12_image 169 = .ok (.getfield 191, 3) := by decide +kernel
theorem dX12_image_172 : decode cX12_image 172 = .ok (.iload_n 1, 1) := by decide +kernel
theorem dX12_image_173 : decode cX12_image 173 = .ok (.aload_n 0, 1) := by decide +kernel
theorem dX12_image_174 : decode cX12_image 174 = .ok (.getfield 278, 3) := by decide +kernel
theorem dX12_image_177 : decode cX12_image 177 = .ok (.iastore, 1) := by decide +kernel
theorem dX12_image_178 : decode cX12_image 178 = .ok (.aload_n 0, 1) := by decide +kernel
theorem dX12_image_179 : decode cX12_image 179 = .ok (.getfield 188, 3) := by decide +kernel
theorem dX12_image_182 : decode cX12_image 182 = .ok (.iload_n 1, 1) := by decide +kernel
theorem dX12_image_183 : decode cX12_image 183 = .ok (.aload_n 0, 1) := by decide +kernel
theorem dX12_image_184 : decode cX12_image 184 = .ok (.getfield 449, 3) := by decide +kernel
theorem dX12_image_187 : decode cX12_image 187 = .ok (.iastore, 1) := by decide +kernel
theorem dX12_image_188 : decode cX12_image 188 = .ok (.aload_n 0, 1) := by decide +kernel
theorem dX12_image_189 : decode cX12_image 189 = .ok (.getfield 194, 3) := by decide +kernel
theorem dX12_image_192 : decode cX12_image 192 = .ok (.iload_n 1, 1) := by decide +kernel
theorem dX12_image_193 : decode cX12_image 193 = .ok (.iconst 1, 1) := by decide +kernel
theorem dX12_image_194 : decode cX12_image 194 = .ok (.bastore, 1) := by decide +kernel
theorem dX12_image_195 : decode cX12_image 195 = .ok (.iconst 1, 1) := by decide +kernel
theorem dX12_image_196 : decode cX12_image 196 = .ok (.ireturn, 1) := by decide +kernel
theorem dX12_on_0 : decode cX12_on 0 = .ok (.iload_n 1, 1) := by decide +kernel
theorem dX12_on_1 : decode cX12_on 1 = .ok (.i2l, 1) := by decide +kernel
theorem dX12_on_2 : decode cX12_on 2 = .ok (.lconst 0, 1) := by decide +kernel
theorem dX12_on_3 : decode cX12_on 3 = .ok (.ldc2_w 303, 3) := by decide +kernel
theorem dX12_on_6 : decode cX12_on 6 = .ok (.invokestatic 205, 3) := by decide +kernel
theorem dX12_on_9 : decode cX12_on 9 = .ok (.ifCond .eq 12, 3) := by decide +kernel
theorem dX12_on_12 : decode cX12_on 12 = .ok (.aload_n 0, 1) := by decide +kernel
theorem dX12_on_13 : decode cX12_on 13 = .ok (.getfield 194, 3) := by decide +kernel
theorem dX12_on_16 : decode cX12_on 16 = .ok (.iload_n 1, 1) := by decide +kernel
theorem dX12_on_17 : decode cX12_on 17 = .ok (.baload, 1) := by decide +kernel
theorem dX12_on_18 : decode cX12_on 18 = .ok (.ifCond .ne 5, 3) := by decide +kernel
theorem dX12_on_21 : decode cX12_on 21 = .ok (.iconst 0, 1) := by decide +kernel
theorem dX12_on_22 : decode cX12_on 22 = .ok (.ireturn, 1) := by decide +kernel
theorem dX12_on_23 : decode cX12_on 23 = .ok (.iconst 0, 1) := by decide +kernel
theorem dX12_on_24 : decode cX12_on 24 = .ok (.istore_n 2, 1) := by decide +kernel
theorem dX12_on_25 : decode cX12_on 25 = .ok (.iload_n 2, 1) := by decide +kernel
theorem dX12_on_26 : decode cX12_on 26 = .ok (.aload_n 0, 1) := by decide +kernel
theorem dX12_on_27 : decode cX12_on 27 = .ok (.getfield 278, 3) := by decide +kernel
theorem dX12_on_30 : decode cX12_on 30 = .ok (.if_icmp .ge 127, 3) := by decide +kernel
theorem dX12_on_33 : decode cX12_on 33 = .ok (.iload_n 2, 1) := by decide +kernel
theorem dX12_on_34 : decode cX12_on 34 = .ok (.aload_n 0, 1) := by decide +kernel
theorem dX12_on_35 : decode cX12_on 35 = .ok (.getfield 191, 3) := by decide +kernel
theorem dX12_on_38 : decode cX12_on 38 = .ok (.iload_n 1, 1) := by decide +kernel
theorem dX12_on_39 : decode cX12_on 39 = .ok (.iaload, 1) := by decide +kernel
theorem dX12_on_40 : decode cX12_on 40 = .ok (.if_icmp .ge 7, 3) := by decide +kernel
theorem dX12_on_43 : decode cX12_on 43 = .ok (.iconst 1, 1) := by decide +kernel
theorem dX12_on_44 : decode cX12_on 44 = .ok (.goto 4, 3) := by decide +kernel
theorem dX12_on_47 : decode cX12_on 47 = .ok (.iconst 0, 1) := by decide +kernel
theorem dX12_on_48 : decode cX12_on 48 = .ok (.istore_n 3, 1) := by decide +kernel
theorem dX12_on_49 : decode cX12_on 49 = .ok (.aload_n 0, 1) := by decide +kernel
theorem dX12_on_50 : decode cX12_on 50 = .ok (.getfield 107, 3) := by decide +kernel
theorem dX12_on_53 : decode cX12_on 53 = .ok (.iload_n 2, 1) := by decide +kernel
theorem dX12_on_54 : decode cX12_on 54 = .ok (.iload_n 3, 1) := by decide +kernel
theorem dX12_on_55 : decode cX12_on 55 = .ok (.ifCond .eq 16, 3) := by decide +kernel
theorem dX12_on_58 : decode cX12_on 58 = .ok (.aload_n 0, 1) := by decide +kernel
theorem dX12_on_59 : decode cX12_on 59 = .ok (.getfield 182, 3) := by decide +kernel
theorem dX12_on_62 : decode cX12_on 62 = .ok (.iload_n 1, 1) := by decide +kernel
theorem dX12_on_63 : decode cX12_on 63 = .ok (.aaload, 1) := by decide +kernel
theorem dX12_on_64 : decode cX12_on 64 = .ok (.iconst 4, 1) := by decide +kernel
theorem dX12_on_65 : decode cX12_on 65 = .ok (.iload_n 2, 1) := by decide +kernel
theorem dX12_on_66 : decode cX12_on 66 = .ok (.imul, 1) := by decide +kernel
theorem dX12_on_67 : decode cX12_on 67 = .ok (.iaload, 1) := by decide +kernel
theorem dX12_on_68 : decode cX12_on 68 = .ok (.goto 4, 3) := by decide +kernel
theorem dX12_on_71 : decode cX12_on 71 = .ok (.iconst (-1), 1) := by decide +kernel
theorem dX12_on_72 : decode cX12_on 72 = .ok (.iastore, 1) := by decide +kernel
theorem dX12_on_73 : decode cX12_on 73 = .ok (.aload_n 0, 1) := by decide +kernel
theorem dX12_on_74 : decode cX12_on 74 = .ok (.getfield 110, 3) := by decide +kernel
theorem dX12_on_77 : decode cX12_on 77 = .ok (.iload_n 2, 1) := by decide +kernel
theorem dX12_on_78 : decode cX12_on 78 = .ok (.iload_n 3, 1) := by decide +kernel
theorem dX12_on_79 : decode cX12_on 79 = .ok (.ifCond .eq 18, 3) := by decide +kernel
theorem dX12_on_82 : decode cX12_on 82 = .ok (.aload_n 0, 1) := by decide +kernel
theorem dX12_on_83 : decode cX12_on 83 = .ok (.getfield 182, 3) := by decide +kernel
theorem dX12_on_86 : decode cX12_on 86 = .ok (.iload_n 1, 1) := by decide +kernel
theorem dX12_on_87 : decode cX12_on 87 = .ok (.aaload, 1) := by decide +kernel
theorem dX12_on_88 : decode cX12_on 88 = .ok (.iconst 4, 1) := by decide +kernel
theorem dX12_on_89 : decode cX12_on 89 = .ok (.iload_n 2, 1) := by decide +kernel
theorem dX12_on_90 : decode cX12_on 90 = .ok (.imul, 1) := by decide +kernel
theorem dX12_on_91 : decode cX12_on 91 = .ok (.iconst 1, 1) := by decide +kernel
theorem dX12_on_92 : decode cX12_on 92 = .ok (.iadd, 1) := by decide +kernel
theorem dX12_on_93 : decode cX12_on 93 = .ok (.iaload, 1) := by decide +kernel
theorem dX12_on_94 : decode cX12_on 94 = .ok (.goto 4, 3) := by decide +kernel
theorem dX12_on_97 : decode cX12_on 97 = .ok (.iconst 0, 1) := by decide +kernel
theorem dX12_on_98 : decode cX12_on 98 = .ok (.iastore, 1) := by decide +kernel
theorem dX12_on_99 : decode cX12_on 99 = .ok (.aload_n 0, 1) := by decide +kernel
theorem dX12_on_100 : decode cX12_on 100 = .ok (.getfield 113, 3) := by decide +kernel
theorem dX12_on_103 : decode cX12_on 103 = .ok (.iload_n 2, 1) := by decide +kernel
theorem dX12_on_104 : decode cX12_on 104 = .ok (.iload_n 3, 1) := by decide +kernel
theorem dX12_on_105 : decode cX12_on 105 = .ok (.ifCond .eq 18, 3) := by decide +kernel
theorem dX12_on_108 : decode cX12_on 108 = .ok (.aload_n 0, 1) := by decide +kernel
theorem dX12_on_109 : decode cX12_on 109 = .ok (.getfield 182, 3) := by decide +kernel
theorem dX12_on_112 : decode cX12_on 112 = .ok (.iload_n 1, 1) := by decide +kernel
theorem dX12_on_113 : decode cX12_on 113 = .ok (.aaload, 1) := by decide +kernel
theorem dX12_on_114 : decode cX12_on 114 = .ok (.iconst 4, 1) := by decide +kernel
theorem dX12_on_115 : decode cX12_on 115 = .ok (.iload_n 2, 1) := by decide +kernel
theorem dX12_on_116 : decode cX12_on 116 = .ok (.imul, 1) := by decide +kernel
theorem dX12_on_117 : decode cX12_on 117 = .ok (.iconst 2, 1) := by decide +kernel
theorem dX12_on_118 : decode cX12_on 118 = .ok (.iadd, 1) := by decide +kernel
theorem dX12_on_119 : decode cX12_on 119 = .ok (.iaload, 1) := by decide +kernel
theorem dX12_on_120 : decode cX12_on 120 = .ok (.goto 4, 3) := by decide +kernel
theorem dX12_on_123 : decode cX12_on 123 = .ok (.iconst 0, 1) := by decide +kernel
theorem dX12_on_124 : decode cX12_on 124 = .ok (.iastore, 1) := by decide +kernel
theorem dX12_on_125 : decode cX12_on 125 = .ok (.aload_n 0, 1) := by decide +kernel
theorem dX12_on_126 : decode cX12_on 126 = .ok (.getfield 116, 3) := by decide +kernel
theorem dX12_on_129 : decode cX12_on 129 = .ok (.iload_n 2, 1) := by decide +kernel
theorem dX12_on_130 : decode cX12_on 130 = .ok (.iload_n 3, 1) := by decide +kernel
theorem dX12_on_131 : decode cX12_on 131 = .ok (.ifCond .eq 18, 3) := by decide +kernel
theorem dX12_on_134 : decode cX12_on 134 = .ok (.aload_n 0, 1) := by decide +kernel
theorem dX12_on_135 : decode cX12_on 135 = .ok (.getfield 182, 3) := by decide +kernel
theorem dX12_on_138 : decode cX12_on 138 = .ok (.iload_n 1, 1) := by decide +kernel
theorem dX12_on_139 : decode cX12_on 139 = .ok (.aaload, 1) := by decide +kernel
theorem dX12_on_140 : decode cX12_on 140 = .ok (.iconst 4, 1) := by decide +kernel
theorem dX12_on_141 : decode cX12_on 141 = .ok (.iload_n 2, 1) := by decide +kernel
theorem dX12_on_142 : decode cX12_on 142 = .ok (.imul, 1) := by decide +kernel
theorem dX12_on_143 : decode cX12_on 143 = .ok (.iconst 3, 1) := by decide +kernel
theorem dX12_on_144 : decode cX12_on 144 = .ok (.iadd, 1) := by decide +kernel
theorem dX12_on_145 : decode cX12_on 145 = .ok (.iaload, 1) := by decide +kernel
theorem dX12_on_146 : decode cX12_on 146 = .ok (.goto 4, 3) := by decide +kernel
theorem dX12_on_149 : decode cX12_on 149 = .ok (.iconst 0, 1) := by decide +kernel
theorem dX12_on_150 : decode cX12_on 150 = .ok (.iastore, 1) := by decide +kernel
theorem dX12_on_151 : decode cX12_on 151 = .ok (.iinc 2 1, 3) := by decide +kernel
theorem dX12_on_154 : decode cX12_on 154 = .ok (.goto (-129), 3) := by decide +kernel
theorem dX12_on_157 : decode cX12_on 157 = .ok (.aload_n 0, 1) := by decide +kernel
theorem dX12_on_158 : decode cX12_on 158 = .ok (.aload_n 0, 1) := by decide +kernel
theorem dX12_on_159 : decode cX12_on 159 = .ok (.getfield 188, 3) := by decide +kernel
theorem dX12_on_162 : decode cX12_on 162 = .ok (.iload_n 1, 1) := by decide +kernel
theorem dX12_on_163 : decode cX12_on 163 = .ok (.iaload, 1) := by decide +kernel
theorem dX12_on_164 : decode cX12_on 164 = .ok (.putfield 449, 3) := by decide +kernel
theorem dX12_on_167 : decode cX12_on 167 = .ok (.iconst 0, 1) := by decide +kernel
theorem dX12_on_168 : decode cX12_on 168 = .ok (.istore_n 2, 1) := by decide +kernel
theorem dX12_on_169 : decode cX12_on 169 = .ok (.iload_n 2, 1) := by decide +kernel
theorem dX12_on_170 : decode cX12_on 170 = .ok (.aload_n 0, 1) := by decide +kernel
theorem dX12_on_171 : decode cX12_on 171 = .ok (.getfield 449, 3) := by decide +kernel
theorem dX12_on_174 : decode cX12_on 174 = .ok (.if_icmp .ge 61, 3) := by decide +kernel
theorem dX12_on_177 : decode cX12_on 177 = .ok (.aload_n 0, 1) := by decide +kernel
theorem dX12_on_178 : decode cX12_on 178 = .ok (.getfield 173, 3) := by decide +kernel
theorem dX12_on_181 : decode cX12_on 181 = .ok (.iload_n 2, 1) := by decide +kernel
theorem dX12_on_182 : decode cX12_on 182 = .ok (.aload_n 0, 1) := by decide +kernel
theorem dX12_on_183 : decode cX12_on 183 = .ok (.getfield 185, 3) := by decide +kernel
theorem dX12_on_186 : decode cX12_on 186 = .ok (.iload_n 1, 1) := by decide +kernel
theorem dX12_on_187 : decode cX12_on 187 = .ok (.aaload, 1) := by decide +kernel
theorem dX12_on_188 : decode cX12_on 188 = .ok (.iconst 3, 1) := by decide +kernel
theorem dX12_on_189 : decode cX12_on 189 = .ok (.iload_n 2, 1) := by decide +kernel
theorem dX12_on_190 : decode cX12_on 190 = .ok (.imul, 1) := by decide +kernel
theorem dX12_on_191 : decode cX12_on 191 = .ok (.iaload, 1) := by decide +kernel
theorem dX12_on_192 : decode cX12_on 192 = .ok (.iastore, 1) := by decide +kernel
theorem dX12_on_193 : decode cX12_on 193 = .ok (.aload_n 0, 1) := by decide +kernel
theorem dX12_on_194 : decode cX12_on 194 = .ok (.getfield 176, 3) := by decide +kernel
theorem dX12_on_197 : decode cX12_on 197 = .ok (.iload_n 2, 1) := by decide +kernel
theorem dX12_on_198 : decode cX12_on 198 = .ok (.aload_n 0, 1) := by decide +kernel
theorem dX12_on_199 : decode cX12_on 199 = .ok (.getfield 185, 3) := by decide +kernel
theorem dX12_on_202 : decode cX12_on 202 = .ok (.iload_n 1, 1) := by decide +kernel
theorem dX12_on_203 : decode cX12_on 203 = .ok (.aaload, 1) := by decide +kernel
theorem dX12_on_204 : decode cX12_on 204 = .ok (.iconst 3, 1) := by decide +kernel
theorem dX12_on_205 : decode cX12_on 205 = .ok (.iload_n 2, 1) := by decide +kernel
theorem dX12_on_206 : decode cX12_on 206 = .ok (.imul, 1) := by decide +kernel
theorem dX12_on_207 : decode cX12_on 207 = .ok (.iconst 1, 1) := by decide +kernel
theorem dX12_on_208 : decode cX12_on 208 = .ok (.iadd, 1) := by decide +kernel
theorem dX12_on_209 : decode cX12_on 209 = .ok (.iaload, 1) := by decide +kernel
theorem dX12_on_210 : decode cX12_on 210 = .ok (.iastore, 1) := by decide +kernel
theorem dX12_on_211 : decode cX12_on 211 = .ok (.aload_n 0, 1) := by decide +kernel
theorem dX12_on_212 : decode cX12_on 212 = .ok (.getfield 179, 3) := by decide +kernel
theorem dX12_on_215 : decode cX12_on 215 = .ok (.iload_n 2, 1) := by decide +kernel
theorem dX12_on_216 : decode cX12_on 216 = .ok (.aload_n 0, 1) := by decide +kernel
theorem dX12_on_217 : decode cX12_on 217 = .ok (.getfield 185, 3) := by decide +kernel
theorem dX12_on_220 : decode cX12_on 220 = .ok (.iload_n 1, 1) := by decide +kernel
theorem dX12_on_221 : decode cX12_on 221 = .ok (.aaload, 1) := by decide +kernel
theorem dX12_on_222 : decode cX12_on 222 = .ok (.iconst 3, 1) := by decide +kernel
theorem dX12_on_223 : decode cX12_on 223 = .ok (.iload_n 2, 1) := by decide +kernel
theorem dX12_on_224 : decode cX12_on 224 = .ok (.imul, 1) := by decide +kernel
theorem dX12_on_225 : decode cX12_on 225 = .ok (.iconst 2, 1) := by decide +kernel
theorem dX12_on_226 : decode cX12_on 226 = .ok (.iadd, 1) := by decide +kernel
theorem dX12_on_227 : decode cX12_on 227 = .ok (.iaload, 1) := by decide +kernel
theorem dX12_on_228 : decode cX12_on 228 = .ok (.iastore, 1) := by decide +kernel
theorem dX12_on_229 : decode cX12_on 229 = .ok (.iinc 2 1, 3) := by decide +kernel
theorem dX12_on_232 : decode cX12_on 232 = .ok (.goto (-63), 3) := by decide +kernel
theorem dX12_on_235 : decode cX12_on 235 = .ok (.iconst 1, 1) := by decide +kernel
theorem dX12_on_236 : decode cX12_on 236 = .ok (.ireturn, 1) := by decide +kernel
theorem dX12_count_0 : decode cX12_count 0 = .ok (.iload_n 1, 1) := by decide +kernel
theorem dX12_count_1 : decode cX12_count 1 = .ok (.tableswitch 69 0 5 #[39, 44, 49, 54, 59, 64], 39) := by decide +kernel
theorem dX12_count_40 : decode cX12_count 40 = .ok (.aload_n 0, 1) := by decide +kernel
theorem dX12_count_41 : decode cX12_count 41 = .ok (.getfield 278, 3) := by decide +kernel
theorem dX12_count_44 : decode cX12_count 44 = .ok (.ireturn, 1) := by decide +kernel
theorem dX12_count_45 : decode cX12_count 45 = .ok (.aload_n 0, 1) := by decide +kernel
theorem dX12_count_46 : decode cX12_count 46 = .ok (.getfield 309, 3) := by decide +kernel
theorem dX12_count_49 : decode cX12_count 49 = .ok (.ireturn, 1) := by decide +kernel
theorem dX12_count_50 : decode cX12_count 50 = .ok (.aload_n 0, 1) := by decide +kernel
theorem dX12_count_51 : decode cX12_count 51 = .ok (.getfield 103, 3) := by decide +kernel
theorem dX12_count_54 : decode cX12_count 54 = .ok (.ireturn, 1) := by decide +kernel
theorem dX12_count_55 : decode cX12_count 55 = .ok (.aload_n 0, 1) := by decide +kernel
theorem dX12_count_56 : decode cX12_count 56 = .ok (.getfield 434, 3) := by decide +kernel
theorem dX12_count_59 : decode cX12_count 59 = .ok (.ireturn, 1) := by decide +kernel
theorem dX12_count_60 : decode cX12_count 60 = .ok (.aload_n 0, 1) := by decide +kernel
theorem dX12_count_61 : decode cX12_count 61 = .ok (.getfield 449, 3) := by decide +kernel
theorem dX12_count_64 : decode cX12_count 64 = .ok (.ireturn, 1) := by decide +kernel
theorem dX12_count_65 : decode cX12_count 65 = .ok (.aload_n 0, 1) := by decide +kernel
theorem dX12_count_66 : decode cX12_count 66 = .ok (.getfield 198, 3) := by decide +kernel
theorem dX12_count_69 : decode cX12_count 69 = .ok (.ireturn, 1) := by decide +kernel
theorem dX12_count_70 : decode cX12_count 70 = .ok (.iconst (-1), 1) := by decide +kernel
theorem dX12_count_71 : decode cX12_count 71 = .ok (.ireturn, 1) := by decide +kernel
