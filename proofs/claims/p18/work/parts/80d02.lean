theorem dX12_wallRead_115 : decode cX12_wallRead 115 = .ok (.aload_n 0, 1) := by decide +kernel
theorem dX12_wallRead_116 : decode cX12_wallRead 116 = .ok (.getfield 50, 3) := by decide +kernel
theorem dX12_wallRead_119 : decode cX12_wallRead 119 = .ok (.iload_n 1, 1) := by decide +kernel
theorem dX12_wallRead_120 : decode cX12_wallRead 120 = .ok (.dup2, 1) := by decide +kernel
theorem dX12_wallRead_121 : decode cX12_wallRead 121 = .ok (.iaload, 1) := by decide +kernel
theorem dX12_wallRead_122 : decode cX12_wallRead 122 = .ok (.iconst 1, 1) := by decide +kernel
theorem dX12_wallRead_123 : decode cX12_wallRead 123 = .ok (.iadd, 1) := by decide +kernel
theorem dX12_wallRead_124 : decode cX12_wallRead 124 = .ok (.iastore, 1) := by decide +kernel
theorem dX12_wallRead_125 : decode cX12_wallRead 125 = .ok (.aload_n 0, 1) := by decide +kernel
theorem dX12_wallRead_126 : decode cX12_wallRead 126 = .ok (.aload_n 0, 1) := by decide +kernel
theorem dX12_wallRead_127 : decode cX12_wallRead 127 = .ok (.bipush 59, 2) := by decide +kernel
theorem dX12_wallRead_129 : decode cX12_wallRead 129 = .ok (.invokevirtual 249, 3) := by decide +kernel
theorem dX12_wallRead_132 : decode cX12_wallRead 132 = .ok (.invokevirtual 235, 3) := by decide +kernel
theorem dX12_wallRead_135 : decode cX12_wallRead 135 = .ok (.ireturn, 1) := by decide +kernel
theorem dX12_openingRead_0 : decode cX12_openingRead 0 = .ok (.bipush 6, 2) := by decide +kernel
theorem dX12_openingRead_2 : decode cX12_openingRead 2 = .ok (.istore_n 2, 1) := by decide +kernel
theorem dX12_openingRead_3 : decode cX12_openingRead 3 = .ok (.aload_n 0, 1) := by decide +kernel
theorem dX12_openingRead_4 : decode cX12_openingRead 4 = .ok (.getfield 54, 3) := by decide +kernel
theorem dX12_openingRead_7 : decode cX12_openingRead 7 = .ok (.iload_n 2, 1) := by decide +kernel
theorem dX12_openingRead_8 : decode cX12_openingRead 8 = .ok (.iaload, 1) := by decide +kernel
theorem dX12_openingRead_9 : decode cX12_openingRead 9 = .ok (.istore_n 3, 1) := by decide +kernel
theorem dX12_openingRead_10 : decode cX12_openingRead 10 = .ok (.aload_n 0, 1) := by decide +kernel
theorem dX12_openingRead_11 : decode cX12_openingRead 11 = .ok (.iload_n 3, 1) := by decide +kernel
theorem dX12_openingRead_12 : decode cX12_openingRead 12 = .ok (.bipush 8, 2) := by decide +kernel
theorem dX12_openingRead_14 : decode cX12_openingRead 14 = .ok (.if_icmp .ge 7, 3) := by decide +kernel
theorem dX12_openingRead_17 : decode cX12_openingRead 17 = .ok (.iconst 1, 1) := by decide +kernel
theorem dX12_openingRead_18 : decode cX12_openingRead 18 = .ok (.goto 4, 3) := by decide +kernel
theorem dX12_openingRead_21 : decode cX12_openingRead 21 = .ok (.iconst 0, 1) := by decide +kernel
theorem dX12_openingRead_22 : decode cX12_openingRead 22 = .ok (.invokevirtual 235, 3) := by decide +kernel
theorem dX12_openingRead_25 : decode cX12_openingRead 25 = .ok (.ifCond .eq 19, 3) := by decide +kernel
theorem dX12_openingRead_28 : decode cX12_openingRead 28 = .ok (.aload_n 0, 1) := by decide +kernel
theorem dX12_openingRead_29 : decode cX12_openingRead 29 = .ok (.iconst 0, 1) := by decide +kernel
theorem dX12_openingRead_30 : decode cX12_openingRead 30 = .ok (.aload_n 0, 1) := by decide +kernel
theorem dX12_openingRead_31 : decode cX12_openingRead 31 = .ok (.getfield 50, 3) := by decide +kernel
theorem dX12_openingRead_34 : decode cX12_openingRead 34 = .ok (.iload_n 2, 1) := by decide +kernel
theorem dX12_openingRead_35 : decode cX12_openingRead 35 = .ok (.iaload, 1) := by decide +kernel
theorem dX12_openingRead_36 : decode cX12_openingRead 36 = .ok (.iconst 1, 1) := by decide +kernel
theorem dX12_openingRead_37 : decode cX12_openingRead 37 = .ok (.isub, 1) := by decide +kernel
theorem dX12_openingRead_38 : decode cX12_openingRead 38 = .ok (.invokevirtual 245, 3) := by decide +kernel
theorem dX12_openingRead_41 : decode cX12_openingRead 41 = .ok (.ifCond .ne 5, 3) := by decide +kernel
theorem dX12_openingRead_44 : decode cX12_openingRead 44 = .ok (.iconst 0, 1) := by decide +kernel
theorem dX12_openingRead_45 : decode cX12_openingRead 45 = .ok (.ireturn, 1) := by decide +kernel
theorem dX12_openingRead_46 : decode cX12_openingRead 46 = .ok (.aload_n 0, 1) := by decide +kernel
theorem dX12_openingRead_47 : decode cX12_openingRead 47 = .ok (.getfield 232, 3) := by decide +kernel
theorem dX12_openingRead_50 : decode cX12_openingRead 50 = .ok (.istore 4, 2) := by decide +kernel
theorem dX12_openingRead_52 : decode cX12_openingRead 52 = .ok (.aload_n 0, 1) := by decide +kernel
theorem dX12_openingRead_53 : decode cX12_openingRead 53 = .ok (.getfield 23, 3) := by decide +kernel
theorem dX12_openingRead_56 : decode cX12_openingRead 56 = .ok (.iload_n 2, 1) := by decide +kernel
theorem dX12_openingRead_57 : decode cX12_openingRead 57 = .ok (.aaload, 1) := by decide +kernel
theorem dX12_openingRead_58 : decode cX12_openingRead 58 = .ok (.iload_n 3, 1) := by decide +kernel
theorem dX12_openingRead_59 : decode cX12_openingRead 59 = .ok (.iload 4, 2) := by decide +kernel
theorem dX12_openingRead_61 : decode cX12_openingRead 61 = .ok (.iastore, 1) := by decide +kernel
theorem dX12_openingRead_62 : decode cX12_openingRead 62 = .ok (.aload_n 0, 1) := by decide +kernel
theorem dX12_openingRead_63 : decode cX12_openingRead 63 = .ok (.iconst 0, 1) := by decide +kernel
theorem dX12_openingRead_64 : decode cX12_openingRead 64 = .ok (.aload_n 0, 1) := by decide +kernel
theorem dX12_openingRead_65 : decode cX12_openingRead 65 = .ok (.getfield 11, 3) := by decide +kernel
theorem dX12_openingRead_68 : decode cX12_openingRead 68 = .ok (.iload_n 2, 1) := by decide +kernel
theorem dX12_openingRead_69 : decode cX12_openingRead 69 = .ok (.aaload, 1) := by decide +kernel
theorem dX12_openingRead_70 : decode cX12_openingRead 70 = .ok (.iload 4, 2) := by decide +kernel
theorem dX12_openingRead_72 : decode cX12_openingRead 72 = .ok (.iaload, 1) := by decide +kernel
theorem dX12_openingRead_73 : decode cX12_openingRead 73 = .ok (.invokevirtual 245, 3) := by decide +kernel
theorem dX12_openingRead_76 : decode cX12_openingRead 76 = .ok (.ifCond .ne 5, 3) := by decide +kernel
theorem dX12_openingRead_79 : decode cX12_openingRead 79 = .ok (.iconst 0, 1) := by decide +kernel
theorem dX12_openingRead_80 : decode cX12_openingRead 80 = .ok (.ireturn, 1) := by decide +kernel
theorem dX12_openingRead_81 : decode cX12_openingRead 81 = .ok (.aload_n 0, 1) := by decide +kernel
theorem dX12_openingRead_82 : decode cX12_openingRead 82 = .ok (.getfield 26, 3) := by decide +kernel
theorem dX12_openingRead_85 : decode cX12_openingRead 85 = .ok (.iload_n 2, 1) := by decide +kernel
theorem dX12_openingRead_86 : decode cX12_openingRead 86 = .ok (.aaload, 1) := by decide +kernel
theorem dX12_openingRead_87 : decode cX12_openingRead 87 = .ok (.iload_n 3, 1) := by decide +kernel
theorem dX12_openingRead_88 : decode cX12_openingRead 88 = .ok (.aload_n 0, 1) := by decide +kernel
theorem dX12_openingRead_89 : decode cX12_openingRead 89 = .ok (.getfield 232, 3) := by decide +kernel
theorem dX12_openingRead_92 : decode cX12_openingRead 92 = .ok (.iastore, 1) := by decide +kernel
theorem dX12_openingRead_93 : decode cX12_openingRead 93 = .ok (.aload_n 0, 1) := by decide +kernel
theorem dX12_openingRead_94 : decode cX12_openingRead 94 = .ok (.aload_n 0, 1) := by decide +kernel
theorem dX12_openingRead_95 : decode cX12_openingRead 95 = .ok (.getfield 232, 3) := by decide +kernel
theorem dX12_openingRead_98 : decode cX12_openingRead 98 = .ok (.iconst 1, 1) := by decide +kernel
theorem dX12_openingRead_99 : decode cX12_openingRead 99 = .ok (.iadd, 1) := by decide +kernel
theorem dX12_openingRead_100 : decode cX12_openingRead 100 = .ok (.aload_n 0, 1) := by decide +kernel
theorem dX12_openingRead_101 : decode cX12_openingRead 101 = .ok (.getfield 11, 3) := by decide +kernel
theorem dX12_openingRead_104 : decode cX12_openingRead 104 = .ok (.iload_n 2, 1) := by decide +kernel
theorem dX12_openingRead_105 : decode cX12_openingRead 105 = .ok (.aaload, 1) := by decide +kernel
theorem dX12_openingRead_106 : decode cX12_openingRead 106 = .ok (.iload 4, 2) := by decide +kernel
theorem dX12_openingRead_108 : decode cX12_openingRead 108 = .ok (.iaload, 1) := by decide +kernel
theorem dX12_openingRead_109 : decode cX12_openingRead 109 = .ok (.invokevirtual 245, 3) := by decide +kernel
theorem dX12_openingRead_112 : decode cX12_openingRead 112 = .ok (.ifCond .ne 5, 3) := by decide +kernel
theorem dX12_openingRead_115 : decode cX12_openingRead 115 = .ok (.iconst 0, 1) := by decide +kernel
theorem dX12_openingRead_116 : decode cX12_openingRead 116 = .ok (.ireturn, 1) := by decide +kernel
theorem dX12_openingRead_117 : decode cX12_openingRead 117 = .ok (.aload_n 0, 1) := by decide +kernel
theorem dX12_openingRead_118 : decode cX12_openingRead 118 = .ok (.getfield 29, 3) := by decide +kernel
theorem dX12_openingRead_121 : decode cX12_openingRead 121 = .ok (.iload_n 2, 1) := by decide +kernel
theorem dX12_openingRead_122 : decode cX12_openingRead 122 = .ok (.aaload, 1) := by decide +kernel
theorem dX12_openingRead_123 : decode cX12_openingRead 123 = .ok (.iload_n 3, 1) := by decide +kernel
theorem dX12_openingRead_124 : decode cX12_openingRead 124 = .ok (.aload_n 0, 1) := by decide +kernel
theorem dX12_openingRead_125 : decode cX12_openingRead 125 = .ok (.getfield 232, 3) := by decide +kernel
theorem dX12_openingRead_128 : decode cX12_openingRead 128 = .ok (.iastore, 1) := by decide +kernel
theorem dX12_openingRead_129 : decode cX12_openingRead 129 = .ok (.aload_n 0, 1) := by decide +kernel
theorem dX12_openingRead_130 : decode cX12_openingRead 130 = .ok (.getfield 38, 3) := by decide +kernel
theorem dX12_openingRead_133 : decode cX12_openingRead 133 = .ok (.iload_n 2, 1) := by decide +kernel
theorem dX12_openingRead_134 : decode cX12_openingRead 134 = .ok (.aaload, 1) := by decide +kernel
theorem dX12_openingRead_135 : decode cX12_openingRead 135 = .ok (.iload_n 3, 1) := by decide +kernel
theorem dX12_openingRead_136 : decode cX12_openingRead 136 = .ok (.iload_n 1, 1) := by decide +kernel
theorem dX12_openingRead_137 : decode cX12_openingRead 137 = .ok (.ifCond .eq 7, 3) := by decide +kernel
theorem dX12_openingRead_140 : decode cX12_openingRead 140 = .ok (.iconst 1, 1) := by decide +kernel
theorem dX12_openingRead_141 : decode cX12_openingRead 141 = .ok (.goto 4, 3) := by decide +kernel
theorem dX12_openingRead_144 : decode cX12_openingRead 144 = .ok (.iconst 0, 1) := by decide +kernel
theorem dX12_openingRead_145 : decode cX12_openingRead 145 = .ok (.iastore, 1) := by decide +kernel
theorem dX12_openingRead_146 : decode cX12_openingRead 146 = .ok (.aload_n 0, 1) := by decide +kernel
theorem dX12_openingRead_147 : decode cX12_openingRead 147 = .ok (.getfield 32, 3) := by decide +kernel
theorem dX12_openingRead_150 : decode cX12_openingRead 150 = .ok (.iload_n 2, 1) := by decide +kernel
theorem dX12_openingRead_151 : decode cX12_openingRead 151 = .ok (.aaload, 1) := by decide +kernel
theorem dX12_openingRead_152 : decode cX12_openingRead 152 = .ok (.iload_n 3, 1) := by decide +kernel
theorem dX12_openingRead_153 : decode cX12_openingRead 153 = .ok (.iconst 0, 1) := by decide +kernel
theorem dX12_openingRead_154 : decode cX12_openingRead 154 = .ok (.iastore, 1) := by decide +kernel
theorem dX12_openingRead_155 : decode cX12_openingRead 155 = .ok (.iload_n 1, 1) := by decide +kernel
theorem dX12_openingRead_156 : decode cX12_openingRead 156 = .ok (.ifCond .ne 28, 3) := by decide +kernel
theorem dX12_openingRead_159 : decode cX12_openingRead 159 = .ok (.aload_n 0, 1) := by decide +kernel
theorem dX12_openingRead_160 : decode cX12_openingRead 160 = .ok (.iconst 1, 1) := by decide +kernel
theorem dX12_openingRead_161 : decode cX12_openingRead 161 = .ok (.sipush 300, 3) := by decide +kernel
theorem dX12_openingRead_164 : decode cX12_openingRead 164 = .ok (.invokevirtual 245, 3) := by decide +kernel
theorem dX12_openingRead_167 : decode cX12_openingRead 167 = .ok (.ifCond .ne 5, 3) := by decide +kernel
theorem dX12_openingRead_170 : decode cX12_openingRead 170 = .ok (.iconst 0, 1) := by decide +kernel
theorem dX12_openingRead_171 : decode cX12_openingRead 171 = .ok (.ireturn, 1) := by decide +kernel
theorem dX12_openingRead_172 : decode cX12_openingRead 172 = .ok (.aload_n 0, 1) := by decide +kernel
theorem dX12_openingRead_173 : decode cX12_openingRead 173 = .ok (.getfield 32, 3) := by decide +kernel
theorem dX12_openingRead_176 : decode cX12_openingRead 176 = .ok (.iload_n 2, 1) := by decide +kernel
theorem dX12_openingRead_177 : decode cX12_openingRead 177 = .ok (.aaload, 1) := by decide +kernel
theorem dX12_openingRead_178 : decode cX12_openingRead 178 = .ok (.iload_n 3, 1) := by decide +kernel
theorem dX12_openingRead_179 : decode cX12_openingRead 179 = .ok (.aload_n 0, 1) := by decide +kernel
theorem dX12_openingRead_180 : decode cX12_openingRead 180 = .ok (.getfield 232, 3) := by decide +kernel
theorem dX12_openingRead_183 : decode cX12_openingRead 183 = .ok (.iastore, 1) := by decide +kernel
theorem dX12_openingRead_184 : decode cX12_openingRead 184 = .ok (.aload_n 0, 1) := by decide +kernel
theorem dX12_openingRead_185 : decode cX12_openingRead 185 = .ok (.iload_n 1, 1) := by decide +kernel
theorem dX12_openingRead_186 : decode cX12_openingRead 186 = .ok (.ifCond .eq 8, 3) := by decide +kernel
theorem dX12_openingRead_189 : decode cX12_openingRead 189 = .ok (.bipush 50, 2) := by decide +kernel
theorem dX12_openingRead_191 : decode cX12_openingRead 191 = .ok (.goto 9, 3) := by decide +kernel
theorem dX12_openingRead_194 : decode cX12_openingRead 194 = .ok (.aload_n 0, 1) := by decide +kernel
theorem dX12_openingRead_195 : decode cX12_openingRead 195 = .ok (.getfield 232, 3) := by decide +kernel
theorem dX12_openingRead_198 : decode cX12_openingRead 198 = .ok (.iconst 1, 1) := by decide +kernel
theorem dX12_openingRead_199 : decode cX12_openingRead 199 = .ok (.iadd, 1) := by decide +kernel
theorem dX12_openingRead_200 : decode cX12_openingRead 200 = .ok (.aload_n 0, 1) := by decide +kernel
theorem dX12_openingRead_201 : decode cX12_openingRead 201 = .ok (.iload_n 2, 1) := by decide +kernel
theorem dX12_openingRead_202 : decode cX12_openingRead 202 = .ok (.iload 4, 2) := by decide +kernel
theorem dX12_openingRead_204 : decode cX12_openingRead 204 = .ok (.invokevirtual 253, 3) := by decide +kernel
theorem dX12_openingRead_207 : decode cX12_openingRead 207 = .ok (.iconst 1, 1) := by decide +kernel
theorem dX12_openingRead_208 : decode cX12_openingRead 208 = .ok (.isub, 1) := by decide +kernel
theorem dX12_openingRead_209 : decode cX12_openingRead 209 = .ok (.invokevirtual 245, 3) := by decide +kernel
theorem dX12_openingRead_212 : decode cX12_openingRead 212 = .ok (.ifCond .ne 5, 3) := by decide +kernel
theorem dX12_openingRead_215 : decode cX12_openingRead 215 = .ok (.iconst 0, 1) := by decide +kernel
theorem dX12_openingRead_216 : decode cX12_openingRead 216 = .ok (.ireturn, 1) := by decide +kernel
theorem dX12_openingRead_217 : decode cX12_openingRead 217 = .ok (.aload_n 0, 1) := by decide +kernel
theorem dX12_openingRead_218 : decode cX12_openingRead 218 = .ok (.getfield 35, 3) := by decide +kernel
theorem dX12_openingRead_221 : decode cX12_openingRead 221 = .ok (.iload_n 2, 1) := by decide +kernel
theorem dX12_openingRead_222 : decode cX12_openingRead 222 = .ok (.aaload, 1) := by decide +kernel
theorem dX12_openingRead_223 : decode cX12_openingRead 223 = .ok (.iload_n 3, 1) := by decide +kernel
theorem dX12_openingRead_224 : decode cX12_openingRead 224 = .ok (.aload_n 0, 1) := by decide +kernel
theorem dX12_openingRead_225 : decode cX12_openingRead 225 = .ok (.getfield 232, 3) := by decide +kernel
theorem dX12_openingRead_228 : decode cX12_openingRead 228 = .ok (.iastore, 1) := by decide +kernel
theorem dX12_openingRead_229 : decode cX12_openingRead 229 = .ok (.aload_n 0, 1) := by decide +kernel
theorem dX12_openingRead_230 : decode cX12_openingRead 230 = .ok (.getfield 54, 3) := by decide +kernel
theorem dX12_openingRead_233 : decode cX12_openingRead 233 = .ok (.iload_n 2, 1) := by decide +kernel
theorem dX12_openingRead_234 : decode cX12_openingRead 234 = .ok (.dup2, 1) := by decide +kernel
theorem dX12_openingRead_235 : decode cX12_openingRead 235 = .ok (.iaload, 1) := by decide +kernel
theorem dX12_openingRead_236 : decode cX12_openingRead 236 = .ok (.iconst 1, 1) := by decide +kernel
theorem dX12_openingRead_237 : decode cX12_openingRead 237 = .ok (.iadd, 1) := by decide +kernel
theorem dX12_openingRead_238 : decode cX12_openingRead 238 = .ok (.iastore, 1) := by decide +kernel
theorem dX12_openingRead_239 : decode cX12_openingRead 239 = .ok (.aload_n 0, 1) := by decide +kernel
theorem dX12_openingRead_240 : decode cX12_openingRead 240 = .ok (.aload_n 0, 1) := by decide +kernel
theorem dX12_openingRead_241 : decode cX12_openingRead 241 = .ok (.bipush 59, 2) := by decide +kernel
theorem dX12_openingRead_243 : decode cX12_openingRead 243 = .ok (.invokevirtual 249, 3) := by decide +kernel
theorem dX12_openingRead_246 : decode cX12_openingRead 246 = .ok (.invokevirtual 235, 3) := by decide +kernel
theorem dX12_openingRead_249 : decode cX12_openingRead 249 = .ok (.ireturn, 1) := by decide +kernel
theorem dX12_leanRead_0 : decode cX12_leanRead 0 = .ok (.bipush 6, 2) := by decide +kernel
theorem dX12_leanRead_2 : decode cX12_leanRead 2 = .ok (.istore_n 1, 1) := by decide +kernel
theorem dX12_leanRead_3 : decode cX12_leanRead 3 = .ok (.aload_n 0, 1) := by decide +kernel
theorem dX12_leanRead_4 : decode cX12_leanRead 4 = .ok (.iconst 1, 1) := by decide +kernel
theorem dX12_leanRead_5 : decode cX12_leanRead 5 = .ok (.invokevirtual 235, 3) := by decide +kernel
theorem dX12_leanRead_8 : decode cX12_leanRead 8 = .ok (.ifCond .ne 5, 3) := by decide +kernel
theorem dX12_leanRead_13 : decode cX12_leanRead 13 = .ok (.aload_n 0, 1) := by decide +kernel
theorem dX12_leanRead_14 : decode cX12_leanRead 14 = .ok (.aload_n 0, 1) := by decide +kernel
theorem dX12_leanRead_15 : decode cX12_leanRead 15 = .ok (.getfield 212, 3) := by decide +kernel
theorem dX12_leanRead_18 : decode cX12_leanRead 18 = .ok (.bipush 48, 2) := by decide +kernel
theorem dX12_leanRead_20 : decode cX12_leanRead 20 = .ok (.bipush 57, 2) := by decide +kernel
theorem dX12_leanRead_22 : decode cX12_leanRead 22 = .ok (.invokevirtual 215, 3) := by decide +kernel
theorem dX12_leanRead_25 : decode cX12_leanRead 25 = .ok (.ifCond .eq 7, 3) := by decide +kernel
theorem dX12_leanRead_28 : decode cX12_leanRead 28 = .ok (.iconst 0, 1) := by decide +kernel
theorem dX12_leanRead_29 : decode cX12_leanRead 29 = .ok (.goto 4, 3) := by decide +kernel
theorem dX12_leanRead_32 : decode cX12_leanRead 32 = .ok (.iconst (-1), 1) := by decide +kernel
theorem dX12_leanRead_33 : decode cX12_leanRead 33 = .ok (.istore_n 2, 1) := by decide +kernel
theorem dX12_leanRead_34 : decode cX12_leanRead 34 = .ok (.aload_n 0, 1) := by decide +kernel
theorem dX12_leanRead_35 : decode cX12_leanRead 35 = .ok (.getfield 212, 3) := by decide +kernel
theorem dX12_leanRead_38 : decode cX12_leanRead 38 = .ok (.istore_n 3, 1) := by decide +kernel
theorem dX12_leanRead_39 : decode cX12_leanRead 39 = .ok (.iload_n 2, 1) := by decide +kernel
theorem dX12_leanRead_40 : decode cX12_leanRead 40 = .ok (.iconst (-1), 1) := by decide +kernel
theorem dX12_leanRead_41 : decode cX12_leanRead 41 = .ok (.if_icmp .eq 42, 3) := by decide +kernel
theorem dX12_leanRead_44 : decode cX12_leanRead 44 = .ok (.iload_n 3, 1) := by decide +kernel
theorem dX12_leanRead_45 : decode cX12_leanRead 45 = .ok (.aload_n 0, 1) := by decide +kernel
theorem dX12_leanRead_46 : decode cX12_leanRead 46 = .ok (.getfield 209, 3) := by decide +kernel
theorem dX12_leanRead_49 : decode cX12_leanRead 49 = .ok (.if_icmp .ge 34, 3) := by decide +kernel
theorem dX12_leanRead_52 : decode cX12_leanRead 52 = .ok (.iload_n 2, 1) := by decide +kernel
theorem dX12_leanRead_53 : decode cX12_leanRead 53 = .ok (.bipush 99, 2) := by decide +kernel
theorem dX12_leanRead_55 : decode cX12_leanRead 55 = .ok (.if_icmp .le 7, 3) := by decide +kernel
theorem dX12_leanRead_58 : decode cX12_leanRead 58 = .ok (.iload_n 2, 1) := by decide +kernel
theorem dX12_leanRead_59 : decode cX12_leanRead 59 = .ok (.goto 17, 3) := by decide +kernel
theorem dX12_leanRead_62 : decode cX12_leanRead 62 = .ok (.bipush 10, 2) := by decide +kernel
theorem dX12_leanRead_64 : decode cX12_leanRead 64 = .ok (.iload_n 2, 1) := by decide +kernel
theorem dX12_leanRead_65 : decode cX12_leanRead 65 = .ok (.imul, 1) := by decide +kernel
theorem dX12_leanRead_66 : decode cX12_leanRead 66 = .ok (.aload_n 0, 1) := by decide +kernel
theorem dX12_leanRead_67 : decode cX12_leanRead 67 = .ok (.getfield 66, 3) := by decide +kernel
theorem dX12_leanRead_70 : decode cX12_leanRead 70 = .ok (.iload_n 3, 1) := by decide +kernel
theorem dX12_leanRead_71 : decode cX12_leanRead 71 = .ok (.baload, 1) := by decide +kernel
theorem dX12_leanRead_72 : decode cX12_leanRead 72 = .ok (.iadd, 1) := by decide +kernel
theorem dX12_leanRead_73 : decode cX12_leanRead 73 = .ok (.bipush 48, 2) := by decide +kernel
theorem dX12_leanRead_75 : decode cX12_leanRead 75 = .ok (.isub, 1) := by decide +kernel
theorem dX12_leanRead_76 : decode cX12_leanRead 76 = .ok (.istore_n 2, 1) := by decide +kernel
theorem dX12_leanRead_77 : decode cX12_leanRead 77 = .ok (.iinc 3 1, 3) := by decide +kernel
theorem dX12_leanRead_80 : decode cX12_leanRead 80 = .ok (.goto (-41), 3) := by decide +kernel
theorem dX12_leanRead_83 : decode cX12_leanRead 83 = .ok (.aload_n 0, 1) := by decide +kernel
theorem dX12_leanRead_84 : decode cX12_leanRead 84 = .ok (.iload_n 2, 1) := by decide +kernel
theorem dX12_leanRead_85 : decode cX12_leanRead 85 = .ok (.i2l, 1) := by decide +kernel
theorem dX12_leanRead_86 : decode cX12_leanRead 86 = .ok (.lconst 0, 1) := by decide +kernel
theorem dX12_leanRead_87 : decode cX12_leanRead 87 = .ok (.aload_n 0, 1) := by decide +kernel
theorem dX12_leanRead_88 : decode cX12_leanRead 88 = .ok (.getfield 50, 3) := by decide +kernel
theorem dX12_leanRead_91 : decode cX12_leanRead 91 = .ok (.iload_n 1, 1) := by decide +kernel
theorem dX12_leanRead_92 : decode cX12_leanRead 92 = .ok (.iaload, 1) := by decide +kernel
theorem dX12_leanRead_93 : decode cX12_leanRead 93 = .ok (.iconst 1, 1) := by decide +kernel
theorem dX12_leanRead_94 : decode cX12_leanRead 94 = .ok (.isub, 1) := by decide +kernel
theorem dX12_leanRead_95 : decode cX12_leanRead 95 = .ok (.i2l, 1) := by decide +kernel
theorem dX12_leanRead_96 : decode cX12_leanRead 96 = .ok (.invokestatic 205, 3) := by decide +kernel
theorem dX12_leanRead_99 : decode cX12_leanRead 99 = .ok (.ifCond .eq 20, 3) := by decide +kernel
theorem dX12_leanRead_102 : decode cX12_leanRead 102 = .ok (.aload_n 0, 1) := by decide +kernel
theorem dX12_leanRead_103 : decode cX12_leanRead 103 = .ok (.getfield 60, 3) := by decide +kernel
theorem dX12_leanRead_106 : decode cX12_leanRead 106 = .ok (.iload_n 1, 1) := by decide +kernel
theorem dX12_leanRead_107 : decode cX12_leanRead 107 = .ok (.iaload, 1) := by decide +kernel
theorem dX12_leanRead_108 : decode cX12_leanRead 108 = .ok (.iload_n 2, 1) := by decide +kernel
theorem dX12_leanRead_109 : decode cX12_leanRead 109 = .ok (.ishr, 1) := by decide +kernel
theorem dX12_leanRead_110 : decode cX12_leanRead 110 = .ok (.iconst 1, 1) := by decide +kernel
theorem dX12_leanRead_111 : decode cX12_leanRead 111 = .ok (.iand, 1) := by decide +kernel
theorem dX12_leanRead_112 : decode cX12_leanRead 112 = .ok (.ifCond .ne 7, 3) := by decide +kernel
theorem dX12_leanRead_115 : decode cX12_leanRead 115 = .ok (.iconst 1, 1) := by decide +kernel
theorem dX12_leanRead_116 : decode cX12_leanRead 116 = .ok (.goto 4, 3) := by decide +kernel
theorem dX12_leanRead_119 : decode cX12_leanRead 119 = .ok (.iconst 0, 1) := by decide +kernel
theorem dX12_leanRead_120 : decode cX12_leanRead 120 = .ok (.invokevirtual 235, 3) := by decide +kernel
theorem dX12_leanRead_123 : decode cX12_leanRead 123 = .ok (.ifCond .ne 5, 3) := by decide +kernel
theorem dX12_leanRead_126 : decode cX12_leanRead 126 = .ok (.iconst 0, 1) := by decide +kernel
theorem dX12_leanRead_127 : decode cX12_leanRead 127 = .ok (.ireturn, 1) := by decide +kernel
theorem dX12_leanRead_128 : decode cX12_leanRead 128 = .ok (.aload_n 0, 1) := by decide +kernel
theorem dX12_leanRead_129 : decode cX12_leanRead 129 = .ok (.bipush 45, 2) := by decide +kernel
theorem dX12_leanRead_131 : decode cX12_leanRead 131 = .ok (.invokevirtual 249, 3) := by decide +kernel
theorem dX12_leanRead_134 : decode cX12_leanRead 134 = .ok (.ifCond .eq 7, 3) := by decide +kernel
theorem dX12_leanRead_137 : decode cX12_leanRead 137 = .ok (.iconst (-1), 1) := by decide +kernel
theorem dX12_leanRead_138 : decode cX12_leanRead 138 = .ok (.goto 4, 3) := by decide +kernel
theorem dX12_leanRead_141 : decode cX12_leanRead 141 = .ok (.iconst 1, 1) := by decide +kernel
theorem dX12_leanRead_142 : decode cX12_leanRead 142 = .ok (.istore_n 3, 1) := by decide +kernel
theorem dX12_leanRead_143 : decode cX12_leanRead 143 = .ok (.iload_n 3, 1) := by decide +kernel
theorem dX12_leanRead_144 : decode cX12_leanRead 144 = .ok (.ifCond .ge 7, 3) := by decide +kernel
theorem dX12_leanRead_147 : decode cX12_leanRead 147 = .ok (.aload_n 0, 1) := by decide +kernel
theorem dX12_leanRead_148 : decode cX12_leanRead 148 = .ok (.invokevirtual 222, 3) := by decide +kernel
theorem dX12_leanRead_151 : decode cX12_leanRead 151 = .ok (.aload_n 0, 1) := by decide +kernel
theorem dX12_leanRead_152 : decode cX12_leanRead 152 = .ok (.iconst 0, 1) := by decide +kernel
theorem dX12_leanRead_153 : decode cX12_leanRead 153 = .ok (.bipush 50, 2) := by decide +kernel
theorem dX12_leanRead_155 : decode cX12_leanRead 155 = .ok (.invokevirtual 245, 3) := by decide +kernel
theorem dX12_leanRead_158 : decode cX12_leanRead 158 = .ok (.ifCond .ne 5, 3) := by decide +kernel
theorem dX12_leanRead_161 : decode cX12_leanRead 161 = .ok (.iconst 0, 1) := by decide +kernel
theorem dX12_leanRead_162 : decode cX12_leanRead 162 = .ok (.ireturn, 1) := by decide +kernel
theorem dX12_leanRead_163 : decode cX12_leanRead 163 = .ok (.aload_n 0, 1) := by decide +kernel
theorem dX12_leanRead_164 : decode cX12_leanRead 164 = .ok (.getfield 20, 3) := by decide +kernel
theorem dX12_leanRead_167 : decode cX12_leanRead 167 = .ok (.iload_n 1, 1) := by decide +kernel
theorem dX12_leanRead_168 : decode cX12_leanRead 168 = .ok (.aaload, 1) := by decide +kernel
theorem dX12_leanRead_169 : decode cX12_leanRead 169 = .ok (.iload_n 2, 1) := by decide +kernel
theorem dX12_leanRead_170 : decode cX12_leanRead 170 = .ok (.iload_n 3, 1) := by decide +kernel
theorem dX12_leanRead_171 : decode cX12_leanRead 171 = .ok (.aload_n 0, 1) := by decide +kernel
theorem dX12_leanRead_172 : decode cX12_leanRead 172 = .ok (.getfield 232, 3) := by decide +kernel
theorem dX12_leanRead_175 : decode cX12_leanRead 175 = .ok (.imul, 1) := by decide +kernel
theorem dX12_leanRead_176 : decode cX12_leanRead 176 = .ok (.iastore, 1) := by decide +kernel
theorem dX12_leanRead_177 : decode cX12_leanRead 177 = .ok (.aload_n 0, 1) := by decide +kernel
theorem dX12_leanRead_178 : decode cX12_leanRead 178 = .ok (.getfield 60, 3) := by decide +kernel
theorem dX12_leanRead_181 : decode cX12_leanRead 181 = .ok (.iload_n 1, 1) := by decide +kernel
theorem dX12_leanRead_182 : decode cX12_leanRead 182 = .ok (.dup2, 1) := by decide +kernel
theorem dX12_leanRead_183 : decode cX12_leanRead 183 = .ok (.iaload, 1) := by decide +kernel
theorem dX12_leanRead_184 : decode cX12_leanRead 184 = .ok (.iconst 1, 1) := by decide +kernel
theorem dX12_leanRead_185 : decode cX12_leanRead 185 = .ok (.iload_n 2, 1) := by decide +kernel
theorem dX12_leanRead_186 : decode cX12_leanRead 186 = .ok (.ishl, 1) := by decide +kernel
theorem dX12_leanRead_187 : decode cX12_leanRead 187 = .ok (.ior, 1) := by decide +kernel
theorem dX12_leanRead_188 : decode cX12_leanRead 188 = .ok (.iastore, 1) := by decide +kernel
theorem dX12_leanRead_189 : decode cX12_leanRead 189 = .ok (.aload_n 0, 1) := by decide +kernel
theorem dX12_leanRead_190 : decode cX12_leanRead 190 = .ok (.aload_n 0, 1) := by decide +kernel
theorem dX12_leanRead_191 : decode cX12_leanRead 191 = .ok (.bipush 59, 2) := by decide +kernel
theorem dX12_leanRead_193 : decode cX12_leanRead 193 = .ok (.invokevirtual 249, 3) := by decide +kernel
theorem dX12_leanRead_196 : decode cX12_leanRead 196 = .ok (.invokevirtual 235, 3) := by decide +kernel
theorem dX12_leanRead_199 : decode cX12_leanRead 199 = .ok (.ireturn, 1) := by decide +kernel
theorem dX12_standRead_0 : decode cX12_standRead 0 = .ok (.bipush 6, 2) := by decide +kernel
theorem dX12_standRead_2 : decode cX12_standRead 2 = .ok (.istore_n 1, 1) := by decide +kernel
theorem dX12_standRead_3 : decode cX12_standRead 3 = .ok (.aload_n 0, 1) := by decide +kernel
theorem dX12_standRead_4 : decode cX12_standRead 4 = .ok (.getfield 57, 3) := by decide +kernel
theorem dX12_standRead_7 : decode cX12_standRead 7 = .ok (.iload_n 1, 1) := by decide +kernel
theorem dX12_standRead_8 : decode cX12_standRead 8 = .ok (.iaload, 1) := by decide +kernel
theorem dX12_standRead_9 : decode cX12_standRead 9 = .ok (.istore_n 2, 1) := by decide +kernel
theorem dX12_standRead_10 : decode cX12_standRead 10 = .ok (.aload_n 0, 1) := by decide +kernel
theorem dX12_standRead_11 : decode cX12_standRead 11 = .ok (.iload_n 2, 1) := by decide +kernel
theorem dX12_standRead_12 : decode cX12_standRead 12 = .ok (.iconst 4, 1) := by decide +kernel
theorem dX12_standRead_13 : decode cX12_standRead 13 = .ok (.if_icmp .ge 7, 3) := by decide +kernel
theorem dX12_standRead_16 : decode cX12_standRead 16 = .ok (.iconst 1, 1) := by decide +kernel
theorem dX12_standRead_17 : decode cX12_standRead 17 = .ok (.goto 4, 3) := by decide +kernel
theorem dX12_standRead_20 : decode cX12_standRead 20 = .ok (.iconst 0, 1) := by decide +kernel
theorem dX12_standRead_21 : decode cX12_standRead 21 = .ok (.invokevirtual 235, 3) := by decide +kernel
theorem dX12_standRead_24 : decode cX12_standRead 24 = .ok (.ifCond .eq 19, 3) := by decide +kernel
theorem dX12_standRead_27 : decode cX12_standRead 27 = .ok (.aload_n 0, 1) := by decide +kernel
theorem dX12_standRead_28 : decode cX12_standRead 28 = .ok (.iconst 0, 1) := by decide +kernel
theorem dX12_standRead_29 : decode cX12_standRead 29 = .ok (.aload_n 0, 1) := by decide +kernel
theorem dX12_standRead_30 : decode cX12_standRead 30 = .ok (.getfield 50, 3) := by decide +kernel
theorem dX12_standRead_33 : decode cX12_standRead 33 = .ok (.iload_n 1, 1) := by decide +kernel
theorem dX12_standRead_34 : decode cX12_standRead 34 = .ok (.iaload, 1) := by decide +kernel
theorem dX12_standRead_35 : decode cX12_standRead 35 = .ok (.iconst 1, 1) := by decide +kernel
theorem dX12_standRead_36 : decode cX12_standRead 36 = .ok (.isub, 1) := by decide +kernel
theorem dX12_standRead_37 : decode cX12_standRead 37 = .ok (.invokevirtual 245, 3) := by decide +kernel
theorem dX12_standRead_40 : decode cX12_standRead 40 = .ok (.ifCond .ne 5, 3) := by decide +kernel
theorem dX12_standRead_43 : decode cX12_standRead 43 = .ok (.iconst 0, 1) := by decide +kernel
theorem dX12_standRead_44 : decode cX12_standRead 44 = .ok (.ireturn, 1) := by decide +kernel
theorem dX12_standRead_45 : decode cX12_standRead 45 = .ok (.aload_n 0, 1) := by decide +kernel
theorem dX12_standRead_46 : decode cX12_standRead 46 = .ok (.getfield 41, 3) := by decide +kernel
theorem dX12_standRead_49 : decode cX12_standRead 49 = .ok (.iload_n 1, 1) := by decide +kernel
theorem dX12_standRead_50 : decode cX12_standRead 50 = .ok (.aaload, 1) := by decide +kernel
theorem dX12_standRead_51 : decode cX12_standRead 51 = .ok (.iload_n 2, 1) := by decide +kernel
theorem dX12_standRead_52 : decode cX12_standRead 52 = .ok (.aload_n 0, 1) := by decide +kernel
theorem dX12_standRead_53 : decode cX12_standRead 53 = .ok (.getfield 232, 3) := by decide +kernel
theorem dX12_standRead_56 : decode cX12_standRead 56 = .ok (.iastore, 1) := by decide +kernel
theorem dX12_standRead_57 : decode cX12_standRead 57 = .ok (.aload_n 0, 1) := by decide +kernel
theorem dX12_standRead_58 : decode cX12_standRead 58 = .ok (.iconst 0, 1) := by decide +kernel
theorem dX12_standRead_59 : decode cX12_standRead 59 = .ok (.aload_n 0, 1) := by decide +kernel
theorem dX12_standRead_60 : decode cX12_standRead 60 = .ok (.getfield 11, 3) := by decide +kernel
theorem dX12_standRead_63 : decode cX12_standRead 63 = .ok (.iload_n 1, 1) := by decide +kernel
theorem dX12_standRead_64 : decode cX12_standRead 64 = .ok (.aaload, 1) := by decide +kernel
theorem dX12_standRead_65 : decode cX12_standRead 65 = .ok (.aload_n 0, 1) := by decide +kernel
theorem dX12_standRead_66 : decode cX12_standRead 66 = .ok (.getfield 232, 3) := by decide +kernel
theorem dX12_standRead_69 : decode cX12_standRead 69 = .ok (.iaload, 1) := by decide +kernel
theorem dX12_standRead_70 : decode cX12_standRead 70 = .ok (.invokevirtual 245, 3) := by decide +kernel
theorem dX12_standRead_73 : decode cX12_standRead 73 = .ok (.ifCond .ne 5, 3) := by decide +kernel
theorem dX12_standRead_76 : decode cX12_standRead 76 = .ok (.iconst 0, 1) := by decide +kernel
theorem dX12_standRead_77 : decode cX12_standRead 77 = .ok (.ireturn, 1) := by decide +kernel
theorem dX12_standRead_78 : decode cX12_standRead 78 = .ok (.aload_n 0, 1) := by decide +kernel
theorem dX12_standRead_79 : decode cX12_standRead 79 = .ok (.getfield 44, 3) := by decide +kernel
theorem dX12_standRead_82 : decode cX12_standRead 82 = .ok (.iload_n 1, 1) := by decide +kernel
theorem dX12_standRead_83 : decode cX12_standRead 83 = .ok (.aaload, 1) := by decide +kernel
theorem dX12_standRead_84 : decode cX12_standRead 84 = .ok (.iload_n 2, 1) := by decide +kernel
theorem dX12_standRead_85 : decode cX12_standRead 85 = .ok (.aload_n 0, 1) := by decide +kernel
theorem dX12_standRead_86 : decode cX12_standRead 86 = .ok (.getfield 232, 3) := by decide +kernel
theorem dX12_standRead_89 : decode cX12_standRead 89 = .ok (.iastore, 1) := by decide +kernel
theorem dX12_standRead_90 : decode cX12_standRead 90 = .ok (.aload_n 0, 1) := by decide +kernel
theorem dX12_standRead_91 : decode cX12_standRead 91 = .ok (.iconst 0, 1) := by decide +kernel
theorem dX12_standRead_92 : decode cX12_standRead 92 = .ok (.sipush 400, 3) := by decide +kernel
theorem dX12_standRead_95 : decode cX12_standRead 95 = .ok (.invokevirtual 245, 3) := by decide +kernel
theorem dX12_standRead_98 : decode cX12_standRead 98 = .ok (.ifCond .ne 5, 3) := by decide +kernel
theorem dX12_standRead_101 : decode cX12_standRead 101 = .ok (.iconst 0, 1) := by decide +kernel
theorem dX12_standRead_102 : decode cX12_standRead 102 = .ok (.ireturn, 1) := by decide +kernel
theorem dX12_standRead_103 : decode cX12_standRead 103 = .ok (.aload_n 0, 1) := by decide +kernel
theorem dX12_standRead_104 : decode cX12_standRead 104 = .ok (.getfield 47, 3) := by decide +kernel
theorem dX12_standRead_107 : decode cX12_standRead 107 = .ok (.iload_n 1, 1) := by decide +kernel
theorem dX12_standRead_108 : decode cX12_standRead 108 = .ok (.aaload, 1) := by decide +kernel
theorem dX12_standRead_109 : decode cX12_standRead 109 = .ok (.iload_n 2, 1) := by decide +kernel
theorem dX12_standRead_110 : decode cX12_standRead 110 = .ok (.aload_n 0, 1) := by decide +kernel
theorem dX12_standRead_111 : decode cX12_standRead 111 = .ok (.getfield 232, 3) := by decide +kernel
theorem dX12_standRead_114 : decode cX12_standRead 114 = .ok (.iastore, 1) := by decide +kernel
theorem dX12_standRead_115 : decode cX12_standRead 115 = .ok (.aload_n 0, 1) := by decide +kernel
theorem dX12_standRead_116 : decode cX12_standRead 116 = .ok (.getfield 57, 3) := by decide +kernel
theorem dX12_standRead_119 : decode cX12_standRead 119 = .ok (.iload_n 1, 1) := by decide +kernel
theorem dX12_standRead_120 : decode cX12_standRead 120 = .ok (.dup2, 1) := by decide +kernel
theorem dX12_standRead_121 : decode cX12_standRead 121 = .ok (.iaload, 1) := by decide +kernel
theorem dX12_standRead_122 : decode cX12_standRead 122 = .ok (.iconst 1, 1) := by decide +kernel
theorem dX12_standRead_123 : decode cX12_standRead 123 = .ok (.iadd, 1) := by decide +kernel
theorem dX12_standRead_124 : decode cX12_standRead 124 = .ok (.iastore, 1) := by decide +kernel
theorem dX12_standRead_125 : decode cX12_standRead 125 = .ok (.aload_n 0, 1) := by decide +kernel
theorem dX12_standRead_126 : decode cX12_standRead 126 = .ok (.aload_n 0, 1) := by decide +kernel
theorem dX12_standRead_127 : decode cX12_standRead 127 = .ok (.bipush 59, 2) := by decide +kernel
theorem dX12_standRead_129 : decode cX12_standRead 129 = .ok (.invokevirtual 249, 3) := by decide +kernel
theorem dX12_standRead_132 : decode cX12_standRead 132 = .ok (.invokevirtual 235, 3) := by decide +kernel
theorem dX12_standRead_135 : decode cX12_standRead 135 = .ok (.ireturn, 1) := by decide +kernel
theorem dX12_line_0 : decode cX12_line 0 = .ok (.aload_n 0, 1) := by decide +kernel
theorem dX12_line_1 : decode cX12_line 1 = .ok (.iconst 0, 1) := by decide +kernel
theorem dX12_line_2 : decode cX12_line 2 = .ok (.invokevirtual 256, 3) := by decide +kernel
theorem dX12_line_5 : decode cX12_line 5 = .ok (.ifCond .eq 8, 3) := by decide +kernel
theorem dX12_line_8 : decode cX12_line 8 = .ok (.aload_n 0, 1) := by decide +kernel
theorem dX12_line_9 : decode cX12_line 9 = .ok (.invokevirtual 259, 3) := by decide +kernel
theorem dX12_line_12 : decode cX12_line 12 = .ok (.ireturn, 1) := by decide +kernel
theorem dX12_line_13 : decode cX12_line 13 = .ok (.aload_n 0, 1) := by decide +kernel
theorem dX12_line_14 : decode cX12_line 14 = .ok (.iconst 1, 1) := by decide +kernel
theorem dX12_line_15 : decode cX12_line 15 = .ok (.invokevirtual 256, 3) := by decide +kernel
theorem dX12_line_18 : decode cX12_line 18 = .ok (.ifCond .ne 11, 3) := by decide +kernel
theorem dX12_line_21 : decode cX12_line 21 = .ok (.aload_n 0, 1) := by decide +kernel
theorem dX12_line_22 : decode cX12_line 22 = .ok (.iconst 2, 1) := by decide +kernel
theorem dX12_line_23 : decode cX12_line 23 = .ok (.invokevirtual 256, 3) := by decide +kernel
theorem dX12_line_26 : decode cX12_line 26 = .ok (.ifCond .eq 13, 3) := by decide +kernel
theorem dX12_line_29 : decode cX12_line 29 = .ok (.aload_n 0, 1) := by decide +kernel
theorem dX12_line_30 : decode cX12_line 30 = .ok (.aload_n 0, 1) := by decide +kernel
theorem dX12_line_31 : decode cX12_line 31 = .ok (.iconst 1, 1) := by decide +kernel
theorem dX12_line_32 : decode cX12_line 32 = .ok (.invokevirtual 256, 3) := by decide +kernel
theorem dX12_line_35 : decode cX12_line 35 = .ok (.invokevirtual 263, 3) := by decide +kernel
theorem dX12_line_38 : decode cX12_line 38 = .ok (.ireturn, 1) := by decide +kernel
theorem dX12_line_39 : decode cX12_line 39 = .ok (.aload_n 0, 1) := by decide +kernel
theorem dX12_line_40 : decode cX12_line 40 = .ok (.iconst 3, 1) := by decide +kernel
theorem dX12_line_41 : decode cX12_line 41 = .ok (.invokevirtual 256, 3) := by decide +kernel
