theorem dX12_fewest_159 : decode cX12_fewest 159 = .ok (.invokevirtual 381, 3) := by decide +kernel
theorem dX12_fewest_162 : decode cX12_fewest 162 = .ok (.iadd, 1) := by decide +kernel
theorem dX12_fewest_163 : decode cX12_fewest 163 = .ok (.goto 35, 3) := by decide +kernel
theorem dX12_fewest_166 : decode cX12_fewest 166 = .ok (.aload_n 0, 1) := by decide +kernel
theorem dX12_fewest_167 : decode cX12_fewest 167 = .ok (.getfield 149, 3) := by decide +kernel
theorem dX12_fewest_170 : decode cX12_fewest 170 = .ok (.iload_n 2, 1) := by decide +kernel
theorem dX12_fewest_171 : decode cX12_fewest 171 = .ok (.iaload, 1) := by decide +kernel
theorem dX12_fewest_172 : decode cX12_fewest 172 = .ok (.sipush 10000, 3) := by decide +kernel
theorem dX12_fewest_175 : decode cX12_fewest 175 = .ok (.idiv, 1) := by decide +kernel
theorem dX12_fewest_176 : decode cX12_fewest 176 = .ok (.sipush 10000, 3) := by decide +kernel
theorem dX12_fewest_179 : decode cX12_fewest 179 = .ok (.imul, 1) := by decide +kernel
theorem dX12_fewest_180 : decode cX12_fewest 180 = .ok (.sipush 10000, 3) := by decide +kernel
theorem dX12_fewest_183 : decode cX12_fewest 183 = .ok (.iadd, 1) := by decide +kernel
theorem dX12_fewest_184 : decode cX12_fewest 184 = .ok (.aload_n 0, 1) := by decide +kernel
theorem dX12_fewest_185 : decode cX12_fewest 185 = .ok (.iconst 0, 1) := by decide +kernel
theorem dX12_fewest_186 : decode cX12_fewest 186 = .ok (.iload 4, 2) := by decide +kernel
theorem dX12_fewest_188 : decode cX12_fewest 188 = .ok (.invokevirtual 378, 3) := by decide +kernel
theorem dX12_fewest_191 : decode cX12_fewest 191 = .ok (.iadd, 1) := by decide +kernel
theorem dX12_fewest_192 : decode cX12_fewest 192 = .ok (.aload_n 0, 1) := by decide +kernel
theorem dX12_fewest_193 : decode cX12_fewest 193 = .ok (.iload_n 3, 1) := by decide +kernel
theorem dX12_fewest_194 : decode cX12_fewest 194 = .ok (.invokevirtual 381, 3) := by decide +kernel
theorem dX12_fewest_197 : decode cX12_fewest 197 = .ok (.iadd, 1) := by decide +kernel
theorem dX12_fewest_198 : decode cX12_fewest 198 = .ok (.istore 7, 2) := by decide +kernel
theorem dX12_fewest_200 : decode cX12_fewest 200 = .ok (.iload_n 2, 1) := by decide +kernel
theorem dX12_fewest_201 : decode cX12_fewest 201 = .ok (.iconst 1, 1) := by decide +kernel
theorem dX12_fewest_202 : decode cX12_fewest 202 = .ok (.iload_n 3, 1) := by decide +kernel
theorem dX12_fewest_203 : decode cX12_fewest 203 = .ok (.ishl, 1) := by decide +kernel
theorem dX12_fewest_204 : decode cX12_fewest 204 = .ok (.ior, 1) := by decide +kernel
theorem dX12_fewest_205 : decode cX12_fewest 205 = .ok (.istore 8, 2) := by decide +kernel
theorem dX12_fewest_207 : decode cX12_fewest 207 = .ok (.aload_n 0, 1) := by decide +kernel
theorem dX12_fewest_208 : decode cX12_fewest 208 = .ok (.getfield 149, 3) := by decide +kernel
theorem dX12_fewest_211 : decode cX12_fewest 211 = .ok (.iload 8, 2) := by decide +kernel
theorem dX12_fewest_213 : decode cX12_fewest 213 = .ok (.iaload, 1) := by decide +kernel
theorem dX12_fewest_214 : decode cX12_fewest 214 = .ok (.iconst (-1), 1) := by decide +kernel
theorem dX12_fewest_215 : decode cX12_fewest 215 = .ok (.if_icmp .eq 15, 3) := by decide +kernel
theorem dX12_fewest_218 : decode cX12_fewest 218 = .ok (.iload 7, 2) := by decide +kernel
theorem dX12_fewest_220 : decode cX12_fewest 220 = .ok (.aload_n 0, 1) := by decide +kernel
theorem dX12_fewest_221 : decode cX12_fewest 221 = .ok (.getfield 149, 3) := by decide +kernel
theorem dX12_fewest_224 : decode cX12_fewest 224 = .ok (.iload 8, 2) := by decide +kernel
theorem dX12_fewest_226 : decode cX12_fewest 226 = .ok (.iaload, 1) := by decide +kernel
theorem dX12_fewest_227 : decode cX12_fewest 227 = .ok (.if_icmp .ge 12, 3) := by decide +kernel
theorem dX12_fewest_230 : decode cX12_fewest 230 = .ok (.aload_n 0, 1) := by decide +kernel
theorem dX12_fewest_231 : decode cX12_fewest 231 = .ok (.getfield 149, 3) := by decide +kernel
theorem dX12_fewest_234 : decode cX12_fewest 234 = .ok (.iload 8, 2) := by decide +kernel
theorem dX12_fewest_236 : decode cX12_fewest 236 = .ok (.iload 7, 2) := by decide +kernel
theorem dX12_fewest_238 : decode cX12_fewest 238 = .ok (.iastore, 1) := by decide +kernel
theorem dX12_fewest_239 : decode cX12_fewest 239 = .ok (.iinc 3 1, 3) := by decide +kernel
theorem dX12_fewest_242 : decode cX12_fewest 242 = .ok (.goto (-180), 3) := by decide +kernel
theorem dX12_fewest_245 : decode cX12_fewest 245 = .ok (.iinc 2 1, 3) := by decide +kernel
theorem dX12_fewest_248 : decode cX12_fewest 248 = .ok (.goto (-211), 3) := by decide +kernel
theorem dX12_fewest_251 : decode cX12_fewest 251 = .ok (.aload_n 0, 1) := by decide +kernel
theorem dX12_fewest_252 : decode cX12_fewest 252 = .ok (.getfield 333, 3) := by decide +kernel
theorem dX12_fewest_255 : decode cX12_fewest 255 = .ok (.ifCond .ne 7, 3) := by decide +kernel
theorem dX12_fewest_258 : decode cX12_fewest 258 = .ok (.iconst 0, 1) := by decide +kernel
theorem dX12_fewest_259 : decode cX12_fewest 259 = .ok (.goto 20, 3) := by decide +kernel
theorem dX12_fewest_262 : decode cX12_fewest 262 = .ok (.aload_n 0, 1) := by decide +kernel
theorem dX12_fewest_263 : decode cX12_fewest 263 = .ok (.getfield 149, 3) := by decide +kernel
theorem dX12_fewest_266 : decode cX12_fewest 266 = .ok (.iconst 1, 1) := by decide +kernel
theorem dX12_fewest_267 : decode cX12_fewest 267 = .ok (.aload_n 0, 1) := by decide +kernel
theorem dX12_fewest_268 : decode cX12_fewest 268 = .ok (.getfield 333, 3) := by decide +kernel
theorem dX12_fewest_271 : decode cX12_fewest 271 = .ok (.ishl, 1) := by decide +kernel
theorem dX12_fewest_272 : decode cX12_fewest 272 = .ok (.iconst 1, 1) := by decide +kernel
theorem dX12_fewest_273 : decode cX12_fewest 273 = .ok (.isub, 1) := by decide +kernel
theorem dX12_fewest_274 : decode cX12_fewest 274 = .ok (.iaload, 1) := by decide +kernel
theorem dX12_fewest_275 : decode cX12_fewest 275 = .ok (.sipush 10000, 3) := by decide +kernel
theorem dX12_fewest_278 : decode cX12_fewest 278 = .ok (.idiv, 1) := by decide +kernel
theorem dX12_fewest_279 : decode cX12_fewest 279 = .ok (.ireturn, 1) := by decide +kernel
theorem dX12_rolls_0 : decode cX12_rolls 0 = .ok (.aload_n 0, 1) := by decide +kernel
theorem dX12_rolls_1 : decode cX12_rolls 1 = .ok (.iload_n 1, 1) := by decide +kernel
theorem dX12_rolls_2 : decode cX12_rolls 2 = .ok (.invokevirtual 362, 3) := by decide +kernel
theorem dX12_rolls_5 : decode cX12_rolls 5 = .ok (.ifCond .eq 15, 3) := by decide +kernel
theorem dX12_rolls_8 : decode cX12_rolls 8 = .ok (.iload_n 2, 1) := by decide +kernel
theorem dX12_rolls_9 : decode cX12_rolls 9 = .ok (.i2l, 1) := by decide +kernel
theorem dX12_rolls_10 : decode cX12_rolls 10 = .ok (.lconst 0, 1) := by decide +kernel
theorem dX12_rolls_11 : decode cX12_rolls 11 = .ok (.ldc2_w 303, 3) := by decide +kernel
theorem dX12_rolls_14 : decode cX12_rolls 14 = .ok (.invokestatic 205, 3) := by decide +kernel
theorem dX12_rolls_17 : decode cX12_rolls 17 = .ok (.ifCond .ne 5, 3) := by decide +kernel
theorem dX12_rolls_20 : decode cX12_rolls 20 = .ok (.iconst (-1), 1) := by decide +kernel
theorem dX12_rolls_21 : decode cX12_rolls 21 = .ok (.ireturn, 1) := by decide +kernel
theorem dX12_rolls_22 : decode cX12_rolls 22 = .ok (.aload_n 0, 1) := by decide +kernel
theorem dX12_rolls_23 : decode cX12_rolls 23 = .ok (.iload_n 1, 1) := by decide +kernel
theorem dX12_rolls_24 : decode cX12_rolls 24 = .ok (.invokevirtual 369, 3) := by decide +kernel
theorem dX12_rolls_27 : decode cX12_rolls 27 = .ok (.aload_n 0, 1) := by decide +kernel
theorem dX12_rolls_28 : decode cX12_rolls 28 = .ok (.iload_n 1, 1) := by decide +kernel
theorem dX12_rolls_29 : decode cX12_rolls 29 = .ok (.invokevirtual 390, 3) := by decide +kernel
theorem dX12_rolls_32 : decode cX12_rolls 32 = .ok (.ifCond .ne 5, 3) := by decide +kernel
theorem dX12_rolls_35 : decode cX12_rolls 35 = .ok (.iconst (-1), 1) := by decide +kernel
theorem dX12_rolls_36 : decode cX12_rolls 36 = .ok (.ireturn, 1) := by decide +kernel
theorem dX12_rolls_37 : decode cX12_rolls 37 = .ok (.iload_n 2, 1) := by decide +kernel
theorem dX12_rolls_38 : decode cX12_rolls 38 = .ok (.iconst 2, 1) := by decide +kernel
theorem dX12_rolls_39 : decode cX12_rolls 39 = .ok (.if_icmp .ne 8, 3) := by decide +kernel
theorem dX12_rolls_42 : decode cX12_rolls 42 = .ok (.aload_n 0, 1) := by decide +kernel
theorem dX12_rolls_43 : decode cX12_rolls 43 = .ok (.getfield 375, 3) := by decide +kernel
theorem dX12_rolls_46 : decode cX12_rolls 46 = .ok (.ireturn, 1) := by decide +kernel
theorem dX12_rolls_47 : decode cX12_rolls 47 = .ok (.iload_n 2, 1) := by decide +kernel
theorem dX12_rolls_48 : decode cX12_rolls 48 = .ok (.ifCond .ne 22, 3) := by decide +kernel
theorem dX12_rolls_51 : decode cX12_rolls 51 = .ok (.aload_n 0, 1) := by decide +kernel
theorem dX12_rolls_52 : decode cX12_rolls 52 = .ok (.getfield 333, 3) := by decide +kernel
theorem dX12_rolls_55 : decode cX12_rolls 55 = .ok (.bipush 12, 2) := by decide +kernel
theorem dX12_rolls_57 : decode cX12_rolls 57 = .ok (.if_icmp .le 7, 3) := by decide +kernel
theorem dX12_rolls_60 : decode cX12_rolls 60 = .ok (.iconst (-1), 1) := by decide +kernel
theorem dX12_rolls_61 : decode cX12_rolls 61 = .ok (.goto 8, 3) := by decide +kernel
theorem dX12_rolls_64 : decode cX12_rolls 64 = .ok (.aload_n 0, 1) := by decide +kernel
theorem dX12_rolls_65 : decode cX12_rolls 65 = .ok (.iload_n 1, 1) := by decide +kernel
theorem dX12_rolls_66 : decode cX12_rolls 66 = .ok (.invokevirtual 393, 3) := by decide +kernel
theorem dX12_rolls_69 : decode cX12_rolls 69 = .ok (.ireturn, 1) := by decide +kernel
theorem dX12_rolls_70 : decode cX12_rolls 70 = .ok (.iconst 0, 1) := by decide +kernel
theorem dX12_rolls_71 : decode cX12_rolls 71 = .ok (.istore_n 3, 1) := by decide +kernel
theorem dX12_rolls_72 : decode cX12_rolls 72 = .ok (.iconst 0, 1) := by decide +kernel
theorem dX12_rolls_73 : decode cX12_rolls 73 = .ok (.istore 4, 2) := by decide +kernel
theorem dX12_rolls_75 : decode cX12_rolls 75 = .ok (.iload 4, 2) := by decide +kernel
theorem dX12_rolls_77 : decode cX12_rolls 77 = .ok (.aload_n 0, 1) := by decide +kernel
theorem dX12_rolls_78 : decode cX12_rolls 78 = .ok (.getfield 333, 3) := by decide +kernel
theorem dX12_rolls_81 : decode cX12_rolls 81 = .ok (.if_icmp .ge 18, 3) := by decide +kernel
theorem dX12_rolls_84 : decode cX12_rolls 84 = .ok (.iload_n 3, 1) := by decide +kernel
theorem dX12_rolls_85 : decode cX12_rolls 85 = .ok (.aload_n 0, 1) := by decide +kernel
theorem dX12_rolls_86 : decode cX12_rolls 86 = .ok (.iload 4, 2) := by decide +kernel
theorem dX12_rolls_88 : decode cX12_rolls 88 = .ok (.invokevirtual 381, 3) := by decide +kernel
theorem dX12_rolls_91 : decode cX12_rolls 91 = .ok (.iadd, 1) := by decide +kernel
theorem dX12_rolls_92 : decode cX12_rolls 92 = .ok (.istore_n 3, 1) := by decide +kernel
theorem dX12_rolls_93 : decode cX12_rolls 93 = .ok (.iinc 4 1, 3) := by decide +kernel
theorem dX12_rolls_96 : decode cX12_rolls 96 = .ok (.goto (-21), 3) := by decide +kernel
theorem dX12_rolls_99 : decode cX12_rolls 99 = .ok (.iload_n 3, 1) := by decide +kernel
theorem dX12_rolls_100 : decode cX12_rolls 100 = .ok (.aload_n 0, 1) := by decide +kernel
theorem dX12_rolls_101 : decode cX12_rolls 101 = .ok (.getfield 94, 3) := by decide +kernel
theorem dX12_rolls_104 : decode cX12_rolls 104 = .ok (.aload_n 0, 1) := by decide +kernel
theorem dX12_rolls_105 : decode cX12_rolls 105 = .ok (.getfield 340, 3) := by decide +kernel
theorem dX12_rolls_108 : decode cX12_rolls 108 = .ok (.iaload, 1) := by decide +kernel
theorem dX12_rolls_109 : decode cX12_rolls 109 = .ok (.iadd, 1) := by decide +kernel
theorem dX12_rolls_110 : decode cX12_rolls 110 = .ok (.iconst 1, 1) := by decide +kernel
theorem dX12_rolls_111 : decode cX12_rolls 111 = .ok (.isub, 1) := by decide +kernel
theorem dX12_rolls_112 : decode cX12_rolls 112 = .ok (.aload_n 0, 1) := by decide +kernel
theorem dX12_rolls_113 : decode cX12_rolls 113 = .ok (.getfield 94, 3) := by decide +kernel
theorem dX12_rolls_116 : decode cX12_rolls 116 = .ok (.aload_n 0, 1) := by decide +kernel
theorem dX12_rolls_117 : decode cX12_rolls 117 = .ok (.getfield 340, 3) := by decide +kernel
theorem dX12_rolls_120 : decode cX12_rolls 120 = .ok (.iaload, 1) := by decide +kernel
theorem dX12_rolls_121 : decode cX12_rolls 121 = .ok (.idiv, 1) := by decide +kernel
theorem dX12_rolls_122 : decode cX12_rolls 122 = .ok (.ireturn, 1) := by decide +kernel
theorem dX12_left_0 : decode cX12_left 0 = .ok (.aload_n 0, 1) := by decide +kernel
theorem dX12_left_1 : decode cX12_left 1 = .ok (.iload_n 1, 1) := by decide +kernel
theorem dX12_left_2 : decode cX12_left 2 = .ok (.invokevirtual 362, 3) := by decide +kernel
theorem dX12_left_5 : decode cX12_left 5 = .ok (.ifCond .eq 13, 3) := by decide +kernel
theorem dX12_left_8 : decode cX12_left 8 = .ok (.iload_n 3, 1) := by decide +kernel
theorem dX12_left_9 : decode cX12_left 9 = .ok (.i2l, 1) := by decide +kernel
theorem dX12_left_10 : decode cX12_left 10 = .ok (.lconst 0, 1) := by decide +kernel
theorem dX12_left_11 : decode cX12_left 11 = .ok (.lconst 1, 1) := by decide +kernel
theorem dX12_left_12 : decode cX12_left 12 = .ok (.invokestatic 205, 3) := by decide +kernel
theorem dX12_left_15 : decode cX12_left 15 = .ok (.ifCond .ne 5, 3) := by decide +kernel
theorem dX12_left_18 : decode cX12_left 18 = .ok (.iconst (-1), 1) := by decide +kernel
theorem dX12_left_19 : decode cX12_left 19 = .ok (.ireturn, 1) := by decide +kernel
theorem dX12_left_20 : decode cX12_left 20 = .ok (.aload_n 0, 1) := by decide +kernel
theorem dX12_left_21 : decode cX12_left 21 = .ok (.iload_n 1, 1) := by decide +kernel
theorem dX12_left_22 : decode cX12_left 22 = .ok (.invokevirtual 369, 3) := by decide +kernel
theorem dX12_left_25 : decode cX12_left 25 = .ok (.aload_n 0, 1) := by decide +kernel
theorem dX12_left_26 : decode cX12_left 26 = .ok (.iload_n 1, 1) := by decide +kernel
theorem dX12_left_27 : decode cX12_left 27 = .ok (.invokevirtual 390, 3) := by decide +kernel
theorem dX12_left_30 : decode cX12_left 30 = .ok (.ifCond .eq 19, 3) := by decide +kernel
theorem dX12_left_33 : decode cX12_left 33 = .ok (.iload_n 2, 1) := by decide +kernel
theorem dX12_left_34 : decode cX12_left 34 = .ok (.i2l, 1) := by decide +kernel
theorem dX12_left_35 : decode cX12_left 35 = .ok (.lconst 0, 1) := by decide +kernel
theorem dX12_left_36 : decode cX12_left 36 = .ok (.aload_n 0, 1) := by decide +kernel
theorem dX12_left_37 : decode cX12_left 37 = .ok (.getfield 375, 3) := by decide +kernel
theorem dX12_left_40 : decode cX12_left 40 = .ok (.iconst 1, 1) := by decide +kernel
theorem dX12_left_41 : decode cX12_left 41 = .ok (.isub, 1) := by decide +kernel
theorem dX12_left_42 : decode cX12_left 42 = .ok (.i2l, 1) := by decide +kernel
theorem dX12_left_43 : decode cX12_left 43 = .ok (.invokestatic 205, 3) := by decide +kernel
theorem dX12_left_46 : decode cX12_left 46 = .ok (.ifCond .ne 5, 3) := by decide +kernel
theorem dX12_left_49 : decode cX12_left 49 = .ok (.iconst (-1), 1) := by decide +kernel
theorem dX12_left_50 : decode cX12_left 50 = .ok (.ireturn, 1) := by decide +kernel
theorem dX12_left_51 : decode cX12_left 51 = .ok (.iload_n 3, 1) := by decide +kernel
theorem dX12_left_52 : decode cX12_left 52 = .ok (.ifCond .ne 22, 3) := by decide +kernel
theorem dX12_left_55 : decode cX12_left 55 = .ok (.aload_n 0, 1) := by decide +kernel
theorem dX12_left_56 : decode cX12_left 56 = .ok (.getfield 94, 3) := by decide +kernel
theorem dX12_left_59 : decode cX12_left 59 = .ok (.aload_n 0, 1) := by decide +kernel
theorem dX12_left_60 : decode cX12_left 60 = .ok (.getfield 340, 3) := by decide +kernel
theorem dX12_left_63 : decode cX12_left 63 = .ok (.iaload, 1) := by decide +kernel
theorem dX12_left_64 : decode cX12_left 64 = .ok (.aload_n 0, 1) := by decide +kernel
theorem dX12_left_65 : decode cX12_left 65 = .ok (.getfield 146, 3) := by decide +kernel
theorem dX12_left_68 : decode cX12_left 68 = .ok (.iload_n 2, 1) := by decide +kernel
theorem dX12_left_69 : decode cX12_left 69 = .ok (.iaload, 1) := by decide +kernel
theorem dX12_left_70 : decode cX12_left 70 = .ok (.isub, 1) := by decide +kernel
theorem dX12_left_71 : decode cX12_left 71 = .ok (.goto 36, 3) := by decide +kernel
theorem dX12_left_74 : decode cX12_left 74 = .ok (.aload_n 0, 1) := by decide +kernel
theorem dX12_left_75 : decode cX12_left 75 = .ok (.getfield 91, 3) := by decide +kernel
theorem dX12_left_78 : decode cX12_left 78 = .ok (.aload_n 0, 1) := by decide +kernel
theorem dX12_left_79 : decode cX12_left 79 = .ok (.getfield 340, 3) := by decide +kernel
theorem dX12_left_82 : decode cX12_left 82 = .ok (.iaload, 1) := by decide +kernel
theorem dX12_left_83 : decode cX12_left 83 = .ok (.iconst 2, 1) := by decide +kernel
theorem dX12_left_84 : decode cX12_left 84 = .ok (.if_icmp .ne 7, 3) := by decide +kernel
theorem dX12_left_87 : decode cX12_left 87 = .ok (.iconst 0, 1) := by decide +kernel
theorem dX12_left_88 : decode cX12_left 88 = .ok (.goto 19, 3) := by decide +kernel
theorem dX12_left_91 : decode cX12_left 91 = .ok (.aload_n 0, 1) := by decide +kernel
theorem dX12_left_92 : decode cX12_left 92 = .ok (.getfield 146, 3) := by decide +kernel
theorem dX12_left_95 : decode cX12_left 95 = .ok (.iload_n 2, 1) := by decide +kernel
theorem dX12_left_96 : decode cX12_left 96 = .ok (.iaload, 1) := by decide +kernel
theorem dX12_left_97 : decode cX12_left 97 = .ok (.aload_n 0, 1) := by decide +kernel
theorem dX12_left_98 : decode cX12_left 98 = .ok (.getfield 88, 3) := by decide +kernel
theorem dX12_left_101 : decode cX12_left 101 = .ok (.aload_n 0, 1) := by decide +kernel
theorem dX12_left_102 : decode cX12_left 102 = .ok (.getfield 340, 3) := by decide +kernel
theorem dX12_left_105 : decode cX12_left 105 = .ok (.iaload, 1) := by decide +kernel
theorem dX12_left_106 : decode cX12_left 106 = .ok (.irem, 1) := by decide +kernel
theorem dX12_left_107 : decode cX12_left 107 = .ok (.ireturn, 1) := by decide +kernel
theorem dX12_seamOf_0 : decode cX12_seamOf 0 = .ok (.aload_n 0, 1) := by decide +kernel
theorem dX12_seamOf_1 : decode cX12_seamOf 1 = .ok (.getfield 91, 3) := by decide +kernel
theorem dX12_seamOf_4 : decode cX12_seamOf 4 = .ok (.iload_n 2, 1) := by decide +kernel
theorem dX12_seamOf_5 : decode cX12_seamOf 5 = .ok (.iaload, 1) := by decide +kernel
theorem dX12_seamOf_6 : decode cX12_seamOf 6 = .ok (.iconst 2, 1) := by decide +kernel
theorem dX12_seamOf_7 : decode cX12_seamOf 7 = .ok (.if_icmp .eq 40, 3) := by decide +kernel
theorem dX12_seamOf_10 : decode cX12_seamOf 10 = .ok (.aload_n 0, 1) := by decide +kernel
theorem dX12_seamOf_11 : decode cX12_seamOf 11 = .ok (.getfield 63, 3) := by decide +kernel
theorem dX12_seamOf_14 : decode cX12_seamOf 14 = .ok (.iload_n 1, 1) := by decide +kernel
theorem dX12_seamOf_15 : decode cX12_seamOf 15 = .ok (.iaload, 1) := by decide +kernel
theorem dX12_seamOf_16 : decode cX12_seamOf 16 = .ok (.aload_n 0, 1) := by decide +kernel
theorem dX12_seamOf_17 : decode cX12_seamOf 17 = .ok (.getfield 85, 3) := by decide +kernel
theorem dX12_seamOf_20 : decode cX12_seamOf 20 = .ok (.iload_n 2, 1) := by decide +kernel
theorem dX12_seamOf_21 : decode cX12_seamOf 21 = .ok (.iaload, 1) := by decide +kernel
theorem dX12_seamOf_22 : decode cX12_seamOf 22 = .ok (.irem, 1) := by decide +kernel
theorem dX12_seamOf_23 : decode cX12_seamOf 23 = .ok (.ifCond .ne 26, 3) := by decide +kernel
theorem dX12_seamOf_26 : decode cX12_seamOf 26 = .ok (.aload_n 0, 1) := by decide +kernel
theorem dX12_seamOf_27 : decode cX12_seamOf 27 = .ok (.getfield 91, 3) := by decide +kernel
theorem dX12_seamOf_30 : decode cX12_seamOf 30 = .ok (.iload_n 2, 1) := by decide +kernel
theorem dX12_seamOf_31 : decode cX12_seamOf 31 = .ok (.iaload, 1) := by decide +kernel
theorem dX12_seamOf_32 : decode cX12_seamOf 32 = .ok (.iconst 1, 1) := by decide +kernel
theorem dX12_seamOf_33 : decode cX12_seamOf 33 = .ok (.if_icmp .ne 14, 3) := by decide +kernel
theorem dX12_seamOf_36 : decode cX12_seamOf 36 = .ok (.aload_n 0, 1) := by decide +kernel
theorem dX12_seamOf_37 : decode cX12_seamOf 37 = .ok (.iload_n 1, 1) := by decide +kernel
theorem dX12_seamOf_38 : decode cX12_seamOf 38 = .ok (.iload_n 2, 1) := by decide +kernel
theorem dX12_seamOf_39 : decode cX12_seamOf 39 = .ok (.invokevirtual 315, 3) := by decide +kernel
theorem dX12_seamOf_42 : decode cX12_seamOf 42 = .ok (.iconst 2, 1) := by decide +kernel
theorem dX12_seamOf_43 : decode cX12_seamOf 43 = .ok (.irem, 1) := by decide +kernel
theorem dX12_seamOf_44 : decode cX12_seamOf 44 = .ok (.ifCond .ne 5, 3) := by decide +kernel
theorem dX12_seamOf_47 : decode cX12_seamOf 47 = .ok (.iconst 0, 1) := by decide +kernel
theorem dX12_seamOf_48 : decode cX12_seamOf 48 = .ok (.ireturn, 1) := by decide +kernel
theorem dX12_seamOf_49 : decode cX12_seamOf 49 = .ok (.aload_n 0, 1) := by decide +kernel
theorem dX12_seamOf_50 : decode cX12_seamOf 50 = .ok (.iload_n 1, 1) := by decide +kernel
theorem dX12_seamOf_51 : decode cX12_seamOf 51 = .ok (.iload_n 3, 1) := by decide +kernel
theorem dX12_seamOf_52 : decode cX12_seamOf 52 = .ok (.invokevirtual 287, 3) := by decide +kernel
theorem dX12_seamOf_55 : decode cX12_seamOf 55 = .ok (.istore 4, 2) := by decide +kernel
theorem dX12_seamOf_57 : decode cX12_seamOf 57 = .ok (.iload_n 3, 1) := by decide +kernel
theorem dX12_seamOf_58 : decode cX12_seamOf 58 = .ok (.aload_n 0, 1) := by decide +kernel
theorem dX12_seamOf_59 : decode cX12_seamOf 59 = .ok (.iload_n 1, 1) := by decide +kernel
theorem dX12_seamOf_60 : decode cX12_seamOf 60 = .ok (.iload 4, 2) := by decide +kernel
theorem dX12_seamOf_62 : decode cX12_seamOf 62 = .ok (.invokevirtual 290, 3) := by decide +kernel
theorem dX12_seamOf_65 : decode cX12_seamOf 65 = .ok (.isub, 1) := by decide +kernel
theorem dX12_seamOf_66 : decode cX12_seamOf 66 = .ok (.istore 5, 2) := by decide +kernel
theorem dX12_seamOf_68 : decode cX12_seamOf 68 = .ok (.aload_n 0, 1) := by decide +kernel
theorem dX12_seamOf_69 : decode cX12_seamOf 69 = .ok (.iload_n 1, 1) := by decide +kernel
theorem dX12_seamOf_70 : decode cX12_seamOf 70 = .ok (.iload 4, 2) := by decide +kernel
theorem dX12_seamOf_72 : decode cX12_seamOf 72 = .ok (.iload 5, 2) := by decide +kernel
theorem dX12_seamOf_74 : decode cX12_seamOf 74 = .ok (.invokevirtual 293, 3) := by decide +kernel
theorem dX12_seamOf_77 : decode cX12_seamOf 77 = .ok (.istore 6, 2) := by decide +kernel
theorem dX12_seamOf_79 : decode cX12_seamOf 79 = .ok (.iconst 0, 1) := by decide +kernel
theorem dX12_seamOf_80 : decode cX12_seamOf 80 = .ok (.istore 7, 2) := by decide +kernel
theorem dX12_seamOf_82 : decode cX12_seamOf 82 = .ok (.iload 7, 2) := by decide +kernel
theorem dX12_seamOf_84 : decode cX12_seamOf 84 = .ok (.aload_n 0, 1) := by decide +kernel
theorem dX12_seamOf_85 : decode cX12_seamOf 85 = .ok (.getfield 54, 3) := by decide +kernel
theorem dX12_seamOf_88 : decode cX12_seamOf 88 = .ok (.iload_n 1, 1) := by decide +kernel
theorem dX12_seamOf_89 : decode cX12_seamOf 89 = .ok (.iaload, 1) := by decide +kernel
theorem dX12_seamOf_90 : decode cX12_seamOf 90 = .ok (.if_icmp .ge 75, 3) := by decide +kernel
theorem dX12_seamOf_93 : decode cX12_seamOf 93 = .ok (.aload_n 0, 1) := by decide +kernel
theorem dX12_seamOf_94 : decode cX12_seamOf 94 = .ok (.getfield 23, 3) := by decide +kernel
theorem dX12_seamOf_97 : decode cX12_seamOf 97 = .ok (.iload_n 1, 1) := by decide +kernel
theorem dX12_seamOf_98 : decode cX12_seamOf 98 = .ok (.aaload, 1) := by decide +kernel
theorem dX12_seamOf_99 : decode cX12_seamOf 99 = .ok (.iload 7, 2) := by decide +kernel
theorem dX12_seamOf_101 : decode cX12_seamOf 101 = .ok (.iaload, 1) := by decide +kernel
theorem dX12_seamOf_102 : decode cX12_seamOf 102 = .ok (.iload 4, 2) := by decide +kernel
theorem dX12_seamOf_104 : decode cX12_seamOf 104 = .ok (.if_icmp .ne 55, 3) := by decide +kernel
theorem dX12_seamOf_107 : decode cX12_seamOf 107 = .ok (.iload 5, 2) := by decide +kernel
theorem dX12_seamOf_109 : decode cX12_seamOf 109 = .ok (.i2l, 1) := by decide +kernel
theorem dX12_seamOf_110 : decode cX12_seamOf 110 = .ok (.aload_n 0, 1) := by decide +kernel
theorem dX12_seamOf_111 : decode cX12_seamOf 111 = .ok (.getfield 26, 3) := by decide +kernel
theorem dX12_seamOf_114 : decode cX12_seamOf 114 = .ok (.iload_n 1, 1) := by decide +kernel
theorem dX12_seamOf_115 : decode cX12_seamOf 115 = .ok (.aaload, 1) := by decide +kernel
theorem dX12_seamOf_116 : decode cX12_seamOf 116 = .ok (.iload 7, 2) := by decide +kernel
theorem dX12_seamOf_118 : decode cX12_seamOf 118 = .ok (.iaload, 1) := by decide +kernel
theorem dX12_seamOf_119 : decode cX12_seamOf 119 = .ok (.i2l, 1) := by decide +kernel
theorem dX12_seamOf_120 : decode cX12_seamOf 120 = .ok (.aload_n 0, 1) := by decide +kernel
theorem dX12_seamOf_121 : decode cX12_seamOf 121 = .ok (.getfield 29, 3) := by decide +kernel
theorem dX12_seamOf_124 : decode cX12_seamOf 124 = .ok (.iload_n 1, 1) := by decide +kernel
theorem dX12_seamOf_125 : decode cX12_seamOf 125 = .ok (.aaload, 1) := by decide +kernel
theorem dX12_seamOf_126 : decode cX12_seamOf 126 = .ok (.iload 7, 2) := by decide +kernel
theorem dX12_seamOf_128 : decode cX12_seamOf 128 = .ok (.iaload, 1) := by decide +kernel
theorem dX12_seamOf_129 : decode cX12_seamOf 129 = .ok (.i2l, 1) := by decide +kernel
theorem dX12_seamOf_130 : decode cX12_seamOf 130 = .ok (.invokestatic 205, 3) := by decide +kernel
theorem dX12_seamOf_133 : decode cX12_seamOf 133 = .ok (.ifCond .eq 26, 3) := by decide +kernel
theorem dX12_seamOf_136 : decode cX12_seamOf 136 = .ok (.iload 6, 2) := by decide +kernel
theorem dX12_seamOf_138 : decode cX12_seamOf 138 = .ok (.aload_n 0, 1) := by decide +kernel
theorem dX12_seamOf_139 : decode cX12_seamOf 139 = .ok (.getfield 35, 3) := by decide +kernel
theorem dX12_seamOf_142 : decode cX12_seamOf 142 = .ok (.iload_n 1, 1) := by decide +kernel
theorem dX12_seamOf_143 : decode cX12_seamOf 143 = .ok (.aaload, 1) := by decide +kernel
theorem dX12_seamOf_144 : decode cX12_seamOf 144 = .ok (.iload 7, 2) := by decide +kernel
theorem dX12_seamOf_146 : decode cX12_seamOf 146 = .ok (.iaload, 1) := by decide +kernel
theorem dX12_seamOf_147 : decode cX12_seamOf 147 = .ok (.isub, 1) := by decide +kernel
theorem dX12_seamOf_148 : decode cX12_seamOf 148 = .ok (.aload_n 0, 1) := by decide +kernel
theorem dX12_seamOf_149 : decode cX12_seamOf 149 = .ok (.getfield 32, 3) := by decide +kernel
theorem dX12_seamOf_152 : decode cX12_seamOf 152 = .ok (.iload_n 1, 1) := by decide +kernel
theorem dX12_seamOf_153 : decode cX12_seamOf 153 = .ok (.aaload, 1) := by decide +kernel
theorem dX12_seamOf_154 : decode cX12_seamOf 154 = .ok (.iload 7, 2) := by decide +kernel
theorem dX12_seamOf_156 : decode cX12_seamOf 156 = .ok (.iaload, 1) := by decide +kernel
theorem dX12_seamOf_157 : decode cX12_seamOf 157 = .ok (.iadd, 1) := by decide +kernel
theorem dX12_seamOf_158 : decode cX12_seamOf 158 = .ok (.ireturn, 1) := by decide +kernel
theorem dX12_seamOf_159 : decode cX12_seamOf 159 = .ok (.iinc 7 1, 3) := by decide +kernel
theorem dX12_seamOf_162 : decode cX12_seamOf 162 = .ok (.goto (-80), 3) := by decide +kernel
theorem dX12_seamOf_165 : decode cX12_seamOf 165 = .ok (.iload 6, 2) := by decide +kernel
theorem dX12_seamOf_167 : decode cX12_seamOf 167 = .ok (.ireturn, 1) := by decide +kernel
theorem dX12_narrowOf_0 : decode cX12_narrowOf 0 = .ok (.aload_n 0, 1) := by decide +kernel
theorem dX12_narrowOf_1 : decode cX12_narrowOf 1 = .ok (.iload_n 1, 1) := by decide +kernel
theorem dX12_narrowOf_2 : decode cX12_narrowOf 2 = .ok (.iload_n 2, 1) := by decide +kernel
theorem dX12_narrowOf_3 : decode cX12_narrowOf 3 = .ok (.aload_n 0, 1) := by decide +kernel
theorem dX12_narrowOf_4 : decode cX12_narrowOf 4 = .ok (.iload_n 1, 1) := by decide +kernel
theorem dX12_narrowOf_5 : decode cX12_narrowOf 5 = .ok (.iload_n 2, 1) := by decide +kernel
theorem dX12_narrowOf_6 : decode cX12_narrowOf 6 = .ok (.invokevirtual 315, 3) := by decide +kernel
theorem dX12_narrowOf_9 : decode cX12_narrowOf 9 = .ok (.iconst 1, 1) := by decide +kernel
theorem dX12_narrowOf_10 : decode cX12_narrowOf 10 = .ok (.isub, 1) := by decide +kernel
theorem dX12_narrowOf_11 : decode cX12_narrowOf 11 = .ok (.invokevirtual 346, 3) := by decide +kernel
theorem dX12_narrowOf_14 : decode cX12_narrowOf 14 = .ok (.bipush 10, 2) := by decide +kernel
theorem dX12_narrowOf_16 : decode cX12_narrowOf 16 = .ok (.if_icmp .ge 8, 3) := by decide +kernel
theorem dX12_narrowOf_19 : decode cX12_narrowOf 19 = .ok (.bipush 50, 2) := by decide +kernel
theorem dX12_narrowOf_21 : decode cX12_narrowOf 21 = .ok (.goto 4, 3) := by decide +kernel
theorem dX12_narrowOf_24 : decode cX12_narrowOf 24 = .ok (.iconst 0, 1) := by decide +kernel
theorem dX12_narrowOf_25 : decode cX12_narrowOf 25 = .ok (.ireturn, 1) := by decide +kernel
theorem dX12_isWhole_0 : decode cX12_isWhole 0 = .ok (.aload_n 0, 1) := by decide +kernel
theorem dX12_isWhole_1 : decode cX12_isWhole 1 = .ok (.iload_n 1, 1) := by decide +kernel
theorem dX12_isWhole_2 : decode cX12_isWhole 2 = .ok (.aload_n 0, 1) := by decide +kernel
theorem dX12_isWhole_3 : decode cX12_isWhole 3 = .ok (.getfield 41, 3) := by decide +kernel
theorem dX12_isWhole_6 : decode cX12_isWhole 6 = .ok (.iload_n 1, 1) := by decide +kernel
theorem dX12_isWhole_7 : decode cX12_isWhole 7 = .ok (.aaload, 1) := by decide +kernel
theorem dX12_isWhole_8 : decode cX12_isWhole 8 = .ok (.iload 5, 2) := by decide +kernel
theorem dX12_isWhole_10 : decode cX12_isWhole 10 = .ok (.iaload, 1) := by decide +kernel
theorem dX12_isWhole_11 : decode cX12_isWhole 11 = .ok (.invokevirtual 290, 3) := by decide +kernel
theorem dX12_isWhole_14 : decode cX12_isWhole 14 = .ok (.aload_n 0, 1) := by decide +kernel
theorem dX12_isWhole_15 : decode cX12_isWhole 15 = .ok (.getfield 44, 3) := by decide +kernel
theorem dX12_isWhole_18 : decode cX12_isWhole 18 = .ok (.iload_n 1, 1) := by decide +kernel
theorem dX12_isWhole_19 : decode cX12_isWhole 19 = .ok (.aaload, 1) := by decide +kernel
theorem dX12_isWhole_20 : decode cX12_isWhole 20 = .ok (.iload 5, 2) := by decide +kernel
theorem dX12_isWhole_22 : decode cX12_isWhole 22 = .ok (.iaload, 1) := by decide +kernel
theorem dX12_isWhole_23 : decode cX12_isWhole 23 = .ok (.iadd, 1) := by decide +kernel
theorem dX12_isWhole_24 : decode cX12_isWhole 24 = .ok (.aload_n 0, 1) := by decide +kernel
theorem dX12_isWhole_25 : decode cX12_isWhole 25 = .ok (.getfield 63, 3) := by decide +kernel
theorem dX12_isWhole_28 : decode cX12_isWhole 28 = .ok (.iload_n 1, 1) := by decide +kernel
theorem dX12_isWhole_29 : decode cX12_isWhole 29 = .ok (.iaload, 1) := by decide +kernel
theorem dX12_isWhole_30 : decode cX12_isWhole 30 = .ok (.irem, 1) := by decide +kernel
theorem dX12_isWhole_31 : decode cX12_isWhole 31 = .ok (.istore 6, 2) := by decide +kernel
theorem dX12_isWhole_33 : decode cX12_isWhole 33 = .ok (.aload_n 0, 1) := by decide +kernel
theorem dX12_isWhole_34 : decode cX12_isWhole 34 = .ok (.iload_n 1, 1) := by decide +kernel
theorem dX12_isWhole_35 : decode cX12_isWhole 35 = .ok (.iload 6, 2) := by decide +kernel
theorem dX12_isWhole_37 : decode cX12_isWhole 37 = .ok (.invokevirtual 287, 3) := by decide +kernel
theorem dX12_isWhole_40 : decode cX12_isWhole 40 = .ok (.istore 7, 2) := by decide +kernel
theorem dX12_isWhole_42 : decode cX12_isWhole 42 = .ok (.iload 6, 2) := by decide +kernel
theorem dX12_isWhole_44 : decode cX12_isWhole 44 = .ok (.aload_n 0, 1) := by decide +kernel
theorem dX12_isWhole_45 : decode cX12_isWhole 45 = .ok (.iload_n 1, 1) := by decide +kernel
theorem dX12_isWhole_46 : decode cX12_isWhole 46 = .ok (.iload 7, 2) := by decide +kernel
theorem dX12_isWhole_48 : decode cX12_isWhole 48 = .ok (.invokevirtual 290, 3) := by decide +kernel
theorem dX12_isWhole_51 : decode cX12_isWhole 51 = .ok (.isub, 1) := by decide +kernel
theorem dX12_isWhole_52 : decode cX12_isWhole 52 = .ok (.istore 8, 2) := by decide +kernel
theorem dX12_isWhole_54 : decode cX12_isWhole 54 = .ok (.aload_n 0, 1) := by decide +kernel
theorem dX12_isWhole_55 : decode cX12_isWhole 55 = .ok (.getfield 47, 3) := by decide +kernel
theorem dX12_isWhole_58 : decode cX12_isWhole 58 = .ok (.iload_n 1, 1) := by decide +kernel
theorem dX12_isWhole_59 : decode cX12_isWhole 59 = .ok (.aaload, 1) := by decide +kernel
theorem dX12_isWhole_60 : decode cX12_isWhole 60 = .ok (.iload 5, 2) := by decide +kernel
theorem dX12_isWhole_62 : decode cX12_isWhole 62 = .ok (.iaload, 1) := by decide +kernel
theorem dX12_isWhole_63 : decode cX12_isWhole 63 = .ok (.istore 9, 2) := by decide +kernel
theorem dX12_isWhole_65 : decode cX12_isWhole 65 = .ok (.iload 6, 2) := by decide +kernel
theorem dX12_isWhole_67 : decode cX12_isWhole 67 = .ok (.iload_n 3, 1) := by decide +kernel
theorem dX12_isWhole_68 : decode cX12_isWhole 68 = .ok (.isub, 1) := by decide +kernel
theorem dX12_isWhole_69 : decode cX12_isWhole 69 = .ok (.aload_n 0, 1) := by decide +kernel
theorem dX12_isWhole_70 : decode cX12_isWhole 70 = .ok (.getfield 63, 3) := by decide +kernel
theorem dX12_isWhole_73 : decode cX12_isWhole 73 = .ok (.iload_n 1, 1) := by decide +kernel
theorem dX12_isWhole_74 : decode cX12_isWhole 74 = .ok (.iaload, 1) := by decide +kernel
theorem dX12_isWhole_75 : decode cX12_isWhole 75 = .ok (.invokestatic 359, 3) := by decide +kernel
theorem dX12_isWhole_78 : decode cX12_isWhole 78 = .ok (.istore 10, 2) := by decide +kernel
theorem dX12_isWhole_80 : decode cX12_isWhole 80 = .ok (.iload 10, 2) := by decide +kernel
theorem dX12_isWhole_82 : decode cX12_isWhole 82 = .ok (.aload_n 0, 1) := by decide +kernel
theorem dX12_isWhole_83 : decode cX12_isWhole 83 = .ok (.getfield 85, 3) := by decide +kernel
theorem dX12_isWhole_86 : decode cX12_isWhole 86 = .ok (.iload_n 2, 1) := by decide +kernel
theorem dX12_isWhole_87 : decode cX12_isWhole 87 = .ok (.iaload, 1) := by decide +kernel
theorem dX12_isWhole_88 : decode cX12_isWhole 88 = .ok (.idiv, 1) := by decide +kernel
theorem dX12_isWhole_89 : decode cX12_isWhole 89 = .ok (.istore 11, 2) := by decide +kernel
theorem dX12_isWhole_91 : decode cX12_isWhole 91 = .ok (.iload 10, 2) := by decide +kernel
theorem dX12_isWhole_93 : decode cX12_isWhole 93 = .ok (.iload 11, 2) := by decide +kernel
theorem dX12_isWhole_95 : decode cX12_isWhole 95 = .ok (.aload_n 0, 1) := by decide +kernel
theorem dX12_isWhole_96 : decode cX12_isWhole 96 = .ok (.getfield 85, 3) := by decide +kernel
theorem dX12_isWhole_99 : decode cX12_isWhole 99 = .ok (.iload_n 2, 1) := by decide +kernel
theorem dX12_isWhole_100 : decode cX12_isWhole 100 = .ok (.iaload, 1) := by decide +kernel
theorem dX12_isWhole_101 : decode cX12_isWhole 101 = .ok (.imul, 1) := by decide +kernel
theorem dX12_isWhole_102 : decode cX12_isWhole 102 = .ok (.isub, 1) := by decide +kernel
theorem dX12_isWhole_103 : decode cX12_isWhole 103 = .ok (.istore 12, 2) := by decide +kernel
theorem dX12_isWhole_105 : decode cX12_isWhole 105 = .ok (.iload 12, 2) := by decide +kernel
theorem dX12_isWhole_107 : decode cX12_isWhole 107 = .ok (.iconst 5, 1) := by decide +kernel
theorem dX12_isWhole_108 : decode cX12_isWhole 108 = .ok (.if_icmp .lt 18, 3) := by decide +kernel
theorem dX12_isWhole_111 : decode cX12_isWhole 111 = .ok (.aload_n 0, 1) := by decide +kernel
theorem dX12_isWhole_112 : decode cX12_isWhole 112 = .ok (.iload_n 1, 1) := by decide +kernel
theorem dX12_isWhole_113 : decode cX12_isWhole 113 = .ok (.iload_n 2, 1) := by decide +kernel
theorem dX12_isWhole_114 : decode cX12_isWhole 114 = .ok (.iload 11, 2) := by decide +kernel
theorem dX12_isWhole_116 : decode cX12_isWhole 116 = .ok (.invokevirtual 346, 3) := by decide +kernel
theorem dX12_isWhole_119 : decode cX12_isWhole 119 = .ok (.iload 12, 2) := by decide +kernel
theorem dX12_isWhole_121 : decode cX12_isWhole 121 = .ok (.isub, 1) := by decide +kernel
theorem dX12_isWhole_122 : decode cX12_isWhole 122 = .ok (.iconst 5, 1) := by decide +kernel
theorem dX12_isWhole_123 : decode cX12_isWhole 123 = .ok (.if_icmp .ge 5, 3) := by decide +kernel
theorem dX12_isWhole_126 : decode cX12_isWhole 126 = .ok (.iconst 0, 1) := by decide +kernel
