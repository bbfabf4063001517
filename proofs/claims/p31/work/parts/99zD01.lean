theorem dX12_init_0 : decode cX12_init 0 = .ok (.aload_n 0, 1) := dI1 (kI_42 _) (by decide +kernel)
theorem dX12_init_1 : decode cX12_init 1 = .ok (.invokespecial 1, 3) := dI3u (kI_183 _) 0 1 (by decide +kernel)
theorem dX12_init_4 : decode cX12_init 4 = .ok (.aload_n 0, 1) := dI1 (kI_42 _) (by decide +kernel)
theorem dX12_init_5 : decode cX12_init 5 = .ok (.bipush 7, 2) := dI2s (kI_16 _) 7 (by decide +kernel)
theorem dX12_init_7 : decode cX12_init 7 = .ok (.bipush 8, 2) := dI2s (kI_16 _) 8 (by decide +kernel)
theorem dX12_init_9 : decode cX12_init 9 = .ok (.multianewarray 9 2, 4) := by decide +kernel
theorem dX12_init_13 : decode cX12_init 13 = .ok (.putfield 11, 3) := dI3u (kI_181 _) 0 11 (by decide +kernel)
theorem dX12_init_16 : decode cX12_init 16 = .ok (.aload_n 0, 1) := dI1 (kI_42 _) (by decide +kernel)
theorem dX12_init_17 : decode cX12_init 17 = .ok (.bipush 7, 2) := dI2s (kI_16 _) 7 (by decide +kernel)
theorem dX12_init_19 : decode cX12_init 19 = .ok (.bipush 8, 2) := dI2s (kI_16 _) 8 (by decide +kernel)
theorem dX12_init_21 : decode cX12_init 21 = .ok (.multianewarray 9 2, 4) := by decide +kernel
theorem dX12_init_25 : decode cX12_init 25 = .ok (.putfield 14, 3) := dI3u (kI_181 _) 0 14 (by decide +kernel)
theorem dX12_init_28 : decode cX12_init 28 = .ok (.aload_n 0, 1) := dI1 (kI_42 _) (by decide +kernel)
theorem dX12_init_29 : decode cX12_init 29 = .ok (.bipush 7, 2) := dI2s (kI_16 _) 7 (by decide +kernel)
theorem dX12_init_31 : decode cX12_init 31 = .ok (.bipush 8, 2) := dI2s (kI_16 _) 8 (by decide +kernel)
theorem dX12_init_33 : decode cX12_init 33 = .ok (.multianewarray 9 2, 4) := by decide +kernel
theorem dX12_init_37 : decode cX12_init 37 = .ok (.putfield 17, 3) := dI3u (kI_181 _) 0 17 (by decide +kernel)
theorem dX12_init_40 : decode cX12_init 40 = .ok (.aload_n 0, 1) := dI1 (kI_42 _) (by decide +kernel)
theorem dX12_init_41 : decode cX12_init 41 = .ok (.bipush 7, 2) := dI2s (kI_16 _) 7 (by decide +kernel)
theorem dX12_init_43 : decode cX12_init 43 = .ok (.bipush 8, 2) := dI2s (kI_16 _) 8 (by decide +kernel)
theorem dX12_init_45 : decode cX12_init 45 = .ok (.multianewarray 9 2, 4) := by decide +kernel
theorem dX12_init_49 : decode cX12_init 49 = .ok (.putfield 20, 3) := dI3u (kI_181 _) 0 20 (by decide +kernel)
theorem dX12_init_52 : decode cX12_init 52 = .ok (.aload_n 0, 1) := dI1 (kI_42 _) (by decide +kernel)
theorem dX12_init_53 : decode cX12_init 53 = .ok (.bipush 7, 2) := dI2s (kI_16 _) 7 (by decide +kernel)
theorem dX12_init_55 : decode cX12_init 55 = .ok (.bipush 8, 2) := dI2s (kI_16 _) 8 (by decide +kernel)
theorem dX12_init_57 : decode cX12_init 57 = .ok (.multianewarray 9 2, 4) := by decide +kernel
theorem dX12_init_61 : decode cX12_init 61 = .ok (.putfield 23, 3) := dI3u (kI_181 _) 0 23 (by decide +kernel)
theorem dX12_init_64 : decode cX12_init 64 = .ok (.aload_n 0, 1) := dI1 (kI_42 _) (by decide +kernel)
theorem dX12_init_65 : decode cX12_init 65 = .ok (.bipush 7, 2) := dI2s (kI_16 _) 7 (by decide +kernel)
theorem dX12_init_67 : decode cX12_init 67 = .ok (.bipush 8, 2) := dI2s (kI_16 _) 8 (by decide +kernel)
theorem dX12_init_69 : decode cX12_init 69 = .ok (.multianewarray 9 2, 4) := by decide +kernel
theorem dX12_init_73 : decode cX12_init 73 = .ok (.putfield 26, 3) := dI3u (kI_181 _) 0 26 (by decide +kernel)
theorem dX12_init_76 : decode cX12_init 76 = .ok (.aload_n 0, 1) := dI1 (kI_42 _) (by decide +kernel)
theorem dX12_init_77 : decode cX12_init 77 = .ok (.bipush 7, 2) := dI2s (kI_16 _) 7 (by decide +kernel)
theorem dX12_init_79 : decode cX12_init 79 = .ok (.bipush 8, 2) := dI2s (kI_16 _) 8 (by decide +kernel)
theorem dX12_init_81 : decode cX12_init 81 = .ok (.multianewarray 9 2, 4) := by decide +kernel
theorem dX12_init_85 : decode cX12_init 85 = .ok (.putfield 29, 3) := dI3u (kI_181 _) 0 29 (by decide +kernel)
theorem dX12_init_88 : decode cX12_init 88 = .ok (.aload_n 0, 1) := dI1 (kI_42 _) (by decide +kernel)
theorem dX12_init_89 : decode cX12_init 89 = .ok (.bipush 7, 2) := dI2s (kI_16 _) 7 (by decide +kernel)
theorem dX12_init_91 : decode cX12_init 91 = .ok (.bipush 8, 2) := dI2s (kI_16 _) 8 (by decide +kernel)
theorem dX12_init_93 : decode cX12_init 93 = .ok (.multianewarray 9 2, 4) := by decide +kernel
theorem dX12_init_97 : decode cX12_init 97 = .ok (.putfield 32, 3) := dI3u (kI_181 _) 0 32 (by decide +kernel)
theorem dX12_init_100 : decode cX12_init 100 = .ok (.aload_n 0, 1) := dI1 (kI_42 _) (by decide +kernel)
theorem dX12_init_101 : decode cX12_init 101 = .ok (.bipush 7, 2) := dI2s (kI_16 _) 7 (by decide +kernel)
theorem dX12_init_103 : decode cX12_init 103 = .ok (.bipush 8, 2) := dI2s (kI_16 _) 8 (by decide +kernel)
theorem dX12_init_105 : decode cX12_init 105 = .ok (.multianewarray 9 2, 4) := by decide +kernel
theorem dX12_init_109 : decode cX12_init 109 = .ok (.putfield 35, 3) := dI3u (kI_181 _) 0 35 (by decide +kernel)
theorem dX12_init_112 : decode cX12_init 112 = .ok (.aload_n 0, 1) := dI1 (kI_42 _) (by decide +kernel)
theorem dX12_init_113 : decode cX12_init 113 = .ok (.bipush 7, 2) := dI2s (kI_16 _) 7 (by decide +kernel)
theorem dX12_init_115 : decode cX12_init 115 = .ok (.bipush 8, 2) := dI2s (kI_16 _) 8 (by decide +kernel)
theorem dX12_init_117 : decode cX12_init 117 = .ok (.multianewarray 9 2, 4) := by decide +kernel
theorem dX12_init_121 : decode cX12_init 121 = .ok (.putfield 38, 3) := dI3u (kI_181 _) 0 38 (by decide +kernel)
theorem dX12_init_124 : decode cX12_init 124 = .ok (.aload_n 0, 1) := dI1 (kI_42 _) (by decide +kernel)
theorem dX12_init_125 : decode cX12_init 125 = .ok (.bipush 7, 2) := dI2s (kI_16 _) 7 (by decide +kernel)
theorem dX12_init_127 : decode cX12_init 127 = .ok (.iconst 4, 1) := dI1 (kI_7 _) (by decide +kernel)
theorem dX12_init_128 : decode cX12_init 128 = .ok (.multianewarray 9 2, 4) := by decide +kernel
theorem dX12_init_132 : decode cX12_init 132 = .ok (.putfield 41, 3) := dI3u (kI_181 _) 0 41 (by decide +kernel)
theorem dX12_init_135 : decode cX12_init 135 = .ok (.aload_n 0, 1) := dI1 (kI_42 _) (by decide +kernel)
theorem dX12_init_136 : decode cX12_init 136 = .ok (.bipush 7, 2) := dI2s (kI_16 _) 7 (by decide +kernel)
theorem dX12_init_138 : decode cX12_init 138 = .ok (.iconst 4, 1) := dI1 (kI_7 _) (by decide +kernel)
theorem dX12_init_139 : decode cX12_init 139 = .ok (.multianewarray 9 2, 4) := by decide +kernel
theorem dX12_init_143 : decode cX12_init 143 = .ok (.putfield 44, 3) := dI3u (kI_181 _) 0 44 (by decide +kernel)
theorem dX12_init_146 : decode cX12_init 146 = .ok (.aload_n 0, 1) := dI1 (kI_42 _) (by decide +kernel)
theorem dX12_init_147 : decode cX12_init 147 = .ok (.bipush 7, 2) := dI2s (kI_16 _) 7 (by decide +kernel)
theorem dX12_init_149 : decode cX12_init 149 = .ok (.iconst 4, 1) := dI1 (kI_7 _) (by decide +kernel)
theorem dX12_init_150 : decode cX12_init 150 = .ok (.multianewarray 9 2, 4) := by decide +kernel
theorem dX12_init_154 : decode cX12_init 154 = .ok (.putfield 47, 3) := dI3u (kI_181 _) 0 47 (by decide +kernel)
theorem dX12_init_157 : decode cX12_init 157 = .ok (.aload_n 0, 1) := dI1 (kI_42 _) (by decide +kernel)
theorem dX12_init_158 : decode cX12_init 158 = .ok (.bipush 7, 2) := dI2s (kI_16 _) 7 (by decide +kernel)
theorem dX12_init_160 : decode cX12_init 160 = .ok (.newarray .int, 2) := by decide +kernel
theorem dX12_init_162 : decode cX12_init 162 = .ok (.putfield 50, 3) := dI3u (kI_181 _) 0 50 (by decide +kernel)
theorem dX12_init_165 : decode cX12_init 165 = .ok (.aload_n 0, 1) := dI1 (kI_42 _) (by decide +kernel)
theorem dX12_init_166 : decode cX12_init 166 = .ok (.bipush 7, 2) := dI2s (kI_16 _) 7 (by decide +kernel)
theorem dX12_init_168 : decode cX12_init 168 = .ok (.newarray .int, 2) := by decide +kernel
theorem dX12_init_170 : decode cX12_init 170 = .ok (.putfield 54, 3) := dI3u (kI_181 _) 0 54 (by decide +kernel)
theorem dX12_init_173 : decode cX12_init 173 = .ok (.aload_n 0, 1) := dI1 (kI_42 _) (by decide +kernel)
theorem dX12_init_174 : decode cX12_init 174 = .ok (.bipush 7, 2) := dI2s (kI_16 _) 7 (by decide +kernel)
theorem dX12_init_176 : decode cX12_init 176 = .ok (.newarray .int, 2) := by decide +kernel
theorem dX12_init_178 : decode cX12_init 178 = .ok (.putfield 57, 3) := dI3u (kI_181 _) 0 57 (by decide +kernel)
theorem dX12_init_181 : decode cX12_init 181 = .ok (.aload_n 0, 1) := dI1 (kI_42 _) (by decide +kernel)
theorem dX12_init_182 : decode cX12_init 182 = .ok (.bipush 7, 2) := dI2s (kI_16 _) 7 (by decide +kernel)
theorem dX12_init_184 : decode cX12_init 184 = .ok (.newarray .int, 2) := by decide +kernel
theorem dX12_init_186 : decode cX12_init 186 = .ok (.putfield 60, 3) := dI3u (kI_181 _) 0 60 (by decide +kernel)
theorem dX12_init_189 : decode cX12_init 189 = .ok (.aload_n 0, 1) := dI1 (kI_42 _) (by decide +kernel)
theorem dX12_init_190 : decode cX12_init 190 = .ok (.bipush 7, 2) := dI2s (kI_16 _) 7 (by decide +kernel)
theorem dX12_init_192 : decode cX12_init 192 = .ok (.newarray .int, 2) := by decide +kernel
theorem dX12_init_194 : decode cX12_init 194 = .ok (.putfield 63, 3) := dI3u (kI_181 _) 0 63 (by decide +kernel)
theorem dX12_init_197 : decode cX12_init 197 = .ok (.aload_n 0, 1) := dI1 (kI_42 _) (by decide +kernel)
theorem dX12_init_198 : decode cX12_init 198 = .ok (.sipush 400, 3) := dI3s (kI_17 _) 1 144 (by decide +kernel)
theorem dX12_init_201 : decode cX12_init 201 = .ok (.newarray .byte, 2) := by decide +kernel
theorem dX12_init_203 : decode cX12_init 203 = .ok (.putfield 66, 3) := dI3u (kI_181 _) 0 66 (by decide +kernel)
theorem dX12_init_206 : decode cX12_init 206 = .ok (.aload_n 0, 1) := dI1 (kI_42 _) (by decide +kernel)
theorem dX12_init_207 : decode cX12_init 207 = .ok (.iconst 5, 1) := dI1 (kI_8 _) (by decide +kernel)
theorem dX12_init_208 : decode cX12_init 208 = .ok (.anewarray 70, 3) := dI3u (kI_189 _) 0 70 (by decide +kernel)
theorem dX12_init_211 : decode cX12_init 211 = .ok (.dup, 1) := dI1 (kI_89 _) (by decide +kernel)
theorem dX12_init_212 : decode cX12_init 212 = .ok (.iconst 0, 1) := dI1 (kI_3 _) (by decide +kernel)
theorem dX12_init_213 : decode cX12_init 213 = .ok (.ldc 72, 2) := dI2u (kI_18 _) (by decide +kernel)
theorem dX12_init_215 : decode cX12_init 215 = .ok (.aastore, 1) := dI1 (kI_83 _) (by decide +kernel)
theorem dX12_init_216 : decode cX12_init 216 = .ok (.dup, 1) := dI1 (kI_89 _) (by decide +kernel)
theorem dX12_init_217 : decode cX12_init 217 = .ok (.iconst 1, 1) := dI1 (kI_4 _) (by decide +kernel)
theorem dX12_init_218 : decode cX12_init 218 = .ok (.ldc 74, 2) := dI2u (kI_18 _) (by decide +kernel)
theorem dX12_init_220 : decode cX12_init 220 = .ok (.aastore, 1) := dI1 (kI_83 _) (by decide +kernel)
theorem dX12_init_221 : decode cX12_init 221 = .ok (.dup, 1) := dI1 (kI_89 _) (by decide +kernel)
theorem dX12_init_222 : decode cX12_init 222 = .ok (.iconst 2, 1) := dI1 (kI_5 _) (by decide +kernel)
theorem dX12_init_223 : decode cX12_init 223 = .ok (.ldc 76, 2) := dI2u (kI_18 _) (by decide +kernel)
theorem dX12_init_225 : decode cX12_init 225 = .ok (.aastore, 1) := dI1 (kI_83 _) (by decide +kernel)
theorem dX12_init_226 : decode cX12_init 226 = .ok (.dup, 1) := dI1 (kI_89 _) (by decide +kernel)
theorem dX12_init_227 : decode cX12_init 227 = .ok (.iconst 3, 1) := dI1 (kI_6 _) (by decide +kernel)
theorem dX12_init_228 : decode cX12_init 228 = .ok (.ldc 78, 2) := dI2u (kI_18 _) (by decide +kernel)
theorem dX12_init_230 : decode cX12_init 230 = .ok (.aastore, 1) := dI1 (kI_83 _) (by decide +kernel)
theorem dX12_init_231 : decode cX12_init 231 = .ok (.dup, 1) := dI1 (kI_89 _) (by decide +kernel)
theorem dX12_init_232 : decode cX12_init 232 = .ok (.iconst 4, 1) := dI1 (kI_7 _) (by decide +kernel)
theorem dX12_init_233 : decode cX12_init 233 = .ok (.ldc 79, 2) := dI2u (kI_18 _) (by decide +kernel)
theorem dX12_init_235 : decode cX12_init 235 = .ok (.aastore, 1) := dI1 (kI_83 _) (by decide +kernel)
theorem dX12_init_236 : decode cX12_init 236 = .ok (.putfield 81, 3) := dI3u (kI_181 _) 0 81 (by decide +kernel)
theorem dX12_init_239 : decode cX12_init 239 = .ok (.aload_n 0, 1) := dI1 (kI_42 _) (by decide +kernel)
theorem dX12_init_240 : decode cX12_init 240 = .ok (.iconst 4, 1) := dI1 (kI_7 _) (by decide +kernel)
theorem dX12_init_241 : decode cX12_init 241 = .ok (.newarray .int, 2) := by decide +kernel
theorem dX12_init_243 : decode cX12_init 243 = .ok (.putfield 85, 3) := dI3u (kI_181 _) 0 85 (by decide +kernel)
theorem dX12_init_246 : decode cX12_init 246 = .ok (.aload_n 0, 1) := dI1 (kI_42 _) (by decide +kernel)
theorem dX12_init_247 : decode cX12_init 247 = .ok (.iconst 4, 1) := dI1 (kI_7 _) (by decide +kernel)
theorem dX12_init_248 : decode cX12_init 248 = .ok (.newarray .int, 2) := by decide +kernel
theorem dX12_init_250 : decode cX12_init 250 = .ok (.putfield 88, 3) := dI3u (kI_181 _) 0 88 (by decide +kernel)
theorem dX12_init_253 : decode cX12_init 253 = .ok (.aload_n 0, 1) := dI1 (kI_42 _) (by decide +kernel)
theorem dX12_init_254 : decode cX12_init 254 = .ok (.iconst 4, 1) := dI1 (kI_7 _) (by decide +kernel)
theorem dX12_init_255 : decode cX12_init 255 = .ok (.newarray .int, 2) := by decide +kernel
theorem dX12_init_257 : decode cX12_init 257 = .ok (.putfield 91, 3) := dI3u (kI_181 _) 0 91 (by decide +kernel)
theorem dX12_init_260 : decode cX12_init 260 = .ok (.aload_n 0, 1) := dI1 (kI_42 _) (by decide +kernel)
theorem dX12_init_261 : decode cX12_init 261 = .ok (.iconst 4, 1) := dI1 (kI_7 _) (by decide +kernel)
theorem dX12_init_262 : decode cX12_init 262 = .ok (.newarray .int, 2) := by decide +kernel
theorem dX12_init_264 : decode cX12_init 264 = .ok (.putfield 94, 3) := dI3u (kI_181 _) 0 94 (by decide +kernel)
theorem dX12_init_267 : decode cX12_init 267 = .ok (.aload_n 0, 1) := dI1 (kI_42 _) (by decide +kernel)
theorem dX12_init_268 : decode cX12_init 268 = .ok (.iconst 4, 1) := dI1 (kI_7 _) (by decide +kernel)
theorem dX12_init_269 : decode cX12_init 269 = .ok (.newarray .int, 2) := by decide +kernel
theorem dX12_init_271 : decode cX12_init 271 = .ok (.putfield 97, 3) := dI3u (kI_181 _) 0 97 (by decide +kernel)
theorem dX12_init_274 : decode cX12_init 274 = .ok (.aload_n 0, 1) := dI1 (kI_42 _) (by decide +kernel)
theorem dX12_init_275 : decode cX12_init 275 = .ok (.iconst 4, 1) := dI1 (kI_7 _) (by decide +kernel)
theorem dX12_init_276 : decode cX12_init 276 = .ok (.newarray .int, 2) := by decide +kernel
theorem dX12_init_278 : decode cX12_init 278 = .ok (.putfield 100, 3) := dI3u (kI_181 _) 0 100 (by decide +kernel)
theorem dX12_init_281 : decode cX12_init 281 = .ok (.aload_n 0, 1) := dI1 (kI_42 _) (by decide +kernel)
theorem dX12_init_282 : decode cX12_init 282 = .ok (.iconst 5, 1) := dI1 (kI_8 _) (by decide +kernel)
theorem dX12_init_283 : decode cX12_init 283 = .ok (.putfield 103, 3) := dI3u (kI_181 _) 0 103 (by decide +kernel)
theorem dX12_init_286 : decode cX12_init 286 = .ok (.aload_n 0, 1) := dI1 (kI_42 _) (by decide +kernel)
theorem dX12_init_287 : decode cX12_init 287 = .ok (.bipush 6, 2) := dI2s (kI_16 _) 6 (by decide +kernel)
theorem dX12_init_289 : decode cX12_init 289 = .ok (.newarray .int, 2) := by decide +kernel
theorem dX12_init_291 : decode cX12_init 291 = .ok (.putfield 107, 3) := dI3u (kI_181 _) 0 107 (by decide +kernel)
theorem dX12_init_294 : decode cX12_init 294 = .ok (.aload_n 0, 1) := dI1 (kI_42 _) (by decide +kernel)
theorem dX12_init_295 : decode cX12_init 295 = .ok (.bipush 6, 2) := dI2s (kI_16 _) 6 (by decide +kernel)
theorem dX12_init_297 : decode cX12_init 297 = .ok (.newarray .int, 2) := by decide +kernel
theorem dX12_init_299 : decode cX12_init 299 = .ok (.putfield 110, 3) := dI3u (kI_181 _) 0 110 (by decide +kernel)
theorem dX12_init_302 : decode cX12_init 302 = .ok (.aload_n 0, 1) := dI1 (kI_42 _) (by decide +kernel)
theorem dX12_init_303 : decode cX12_init 303 = .ok (.bipush 6, 2) := dI2s (kI_16 _) 6 (by decide +kernel)
theorem dX12_init_305 : decode cX12_init 305 = .ok (.newarray .int, 2) := by decide +kernel
theorem dX12_init_307 : decode cX12_init 307 = .ok (.putfield 113, 3) := dI3u (kI_181 _) 0 113 (by decide +kernel)
theorem dX12_init_310 : decode cX12_init 310 = .ok (.aload_n 0, 1) := dI1 (kI_42 _) (by decide +kernel)
theorem dX12_init_311 : decode cX12_init 311 = .ok (.bipush 6, 2) := dI2s (kI_16 _) 6 (by decide +kernel)
theorem dX12_init_313 : decode cX12_init 313 = .ok (.newarray .int, 2) := by decide +kernel
theorem dX12_init_315 : decode cX12_init 315 = .ok (.putfield 116, 3) := dI3u (kI_181 _) 0 116 (by decide +kernel)
theorem dX12_init_318 : decode cX12_init 318 = .ok (.aload_n 0, 1) := dI1 (kI_42 _) (by decide +kernel)
theorem dX12_init_319 : decode cX12_init 319 = .ok (.sipush 251, 3) := dI3s (kI_17 _) 0 251 (by decide +kernel)
theorem dX12_init_322 : decode cX12_init 322 = .ok (.newarray .int, 2) := by decide +kernel
theorem dX12_init_324 : decode cX12_init 324 = .ok (.putfield 119, 3) := dI3u (kI_181 _) 0 119 (by decide +kernel)
theorem dX12_init_327 : decode cX12_init 327 = .ok (.aload_n 0, 1) := dI1 (kI_42 _) (by decide +kernel)
theorem dX12_init_328 : decode cX12_init 328 = .ok (.sipush 251, 3) := dI3s (kI_17 _) 0 251 (by decide +kernel)
theorem dX12_init_331 : decode cX12_init 331 = .ok (.newarray .int, 2) := by decide +kernel
theorem dX12_init_333 : decode cX12_init 333 = .ok (.putfield 122, 3) := dI3u (kI_181 _) 0 122 (by decide +kernel)
theorem dX12_init_336 : decode cX12_init 336 = .ok (.aload_n 0, 1) := dI1 (kI_42 _) (by decide +kernel)
theorem dX12_init_337 : decode cX12_init 337 = .ok (.sipush 251, 3) := dI3s (kI_17 _) 0 251 (by decide +kernel)
theorem dX12_init_340 : decode cX12_init 340 = .ok (.newarray .int, 2) := by decide +kernel
theorem dX12_init_342 : decode cX12_init 342 = .ok (.putfield 125, 3) := dI3u (kI_181 _) 0 125 (by decide +kernel)
theorem dX12_init_345 : decode cX12_init 345 = .ok (.aload_n 0, 1) := dI1 (kI_42 _) (by decide +kernel)
theorem dX12_init_346 : decode cX12_init 346 = .ok (.sipush 251, 3) := dI3s (kI_17 _) 0 251 (by decide +kernel)
theorem dX12_init_349 : decode cX12_init 349 = .ok (.newarray .int, 2) := by decide +kernel
theorem dX12_init_351 : decode cX12_init 351 = .ok (.putfield 128, 3) := dI3u (kI_181 _) 0 128 (by decide +kernel)
theorem dX12_init_354 : decode cX12_init 354 = .ok (.aload_n 0, 1) := dI1 (kI_42 _) (by decide +kernel)
theorem dX12_init_355 : decode cX12_init 355 = .ok (.sipush 500, 3) := dI3s (kI_17 _) 1 244 (by decide +kernel)
theorem dX12_init_358 : decode cX12_init 358 = .ok (.newarray .int, 2) := by decide +kernel
theorem dX12_init_360 : decode cX12_init 360 = .ok (.putfield 131, 3) := dI3u (kI_181 _) 0 131 (by decide +kernel)
theorem dX12_init_363 : decode cX12_init 363 = .ok (.aload_n 0, 1) := dI1 (kI_42 _) (by decide +kernel)
theorem dX12_init_364 : decode cX12_init 364 = .ok (.sipush 500, 3) := dI3s (kI_17 _) 1 244 (by decide +kernel)
theorem dX12_init_367 : decode cX12_init 367 = .ok (.newarray .int, 2) := by decide +kernel
theorem dX12_init_369 : decode cX12_init 369 = .ok (.putfield 134, 3) := dI3u (kI_181 _) 0 134 (by decide +kernel)
theorem dX12_init_372 : decode cX12_init 372 = .ok (.aload_n 0, 1) := dI1 (kI_42 _) (by decide +kernel)
theorem dX12_init_373 : decode cX12_init 373 = .ok (.sipush 500, 3) := dI3s (kI_17 _) 1 244 (by decide +kernel)
theorem dX12_init_376 : decode cX12_init 376 = .ok (.newarray .int, 2) := by decide +kernel
theorem dX12_init_378 : decode cX12_init 378 = .ok (.putfield 137, 3) := dI3u (kI_181 _) 0 137 (by decide +kernel)
theorem dX12_init_381 : decode cX12_init 381 = .ok (.aload_n 0, 1) := dI1 (kI_42 _) (by decide +kernel)
theorem dX12_init_382 : decode cX12_init 382 = .ok (.sipush 500, 3) := dI3s (kI_17 _) 1 244 (by decide +kernel)
theorem dX12_init_385 : decode cX12_init 385 = .ok (.newarray .int, 2) := by decide +kernel
theorem dX12_init_387 : decode cX12_init 387 = .ok (.putfield 140, 3) := dI3u (kI_181 _) 0 140 (by decide +kernel)
theorem dX12_init_390 : decode cX12_init 390 = .ok (.aload_n 0, 1) := dI1 (kI_42 _) (by decide +kernel)
theorem dX12_init_391 : decode cX12_init 391 = .ok (.sipush 500, 3) := dI3s (kI_17 _) 1 244 (by decide +kernel)
theorem dX12_init_394 : decode cX12_init 394 = .ok (.newarray .int, 2) := by decide +kernel
theorem dX12_init_396 : decode cX12_init 396 = .ok (.putfield 143, 3) := dI3u (kI_181 _) 0 143 (by decide +kernel)
theorem dX12_init_399 : decode cX12_init 399 = .ok (.aload_n 0, 1) := dI1 (kI_42 _) (by decide +kernel)
theorem dX12_init_400 : decode cX12_init 400 = .ok (.sipush 3000, 3) := dI3s (kI_17 _) 11 184 (by decide +kernel)
theorem dX12_init_403 : decode cX12_init 403 = .ok (.newarray .int, 2) := by decide +kernel
theorem dX12_init_405 : decode cX12_init 405 = .ok (.putfield 146, 3) := dI3u (kI_181 _) 0 146 (by decide +kernel)
theorem dX12_init_408 : decode cX12_init 408 = .ok (.aload_n 0, 1) := dI1 (kI_42 _) (by decide +kernel)
theorem dX12_init_409 : decode cX12_init 409 = .ok (.sipush 4096, 3) := dI3s (kI_17 _) 16 0 (by decide +kernel)
theorem dX12_init_412 : decode cX12_init 412 = .ok (.newarray .int, 2) := by decide +kernel
theorem dX12_init_414 : decode cX12_init 414 = .ok (.putfield 149, 3) := dI3u (kI_181 _) 0 149 (by decide +kernel)
theorem dX12_init_417 : decode cX12_init 417 = .ok (.aload_n 0, 1) := dI1 (kI_42 _) (by decide +kernel)
theorem dX12_init_418 : decode cX12_init 418 = .ok (.bipush 8, 2) := dI2s (kI_16 _) 8 (by decide +kernel)
theorem dX12_init_420 : decode cX12_init 420 = .ok (.newarray .int, 2) := by decide +kernel
theorem dX12_init_422 : decode cX12_init 422 = .ok (.putfield 152, 3) := dI3u (kI_181 _) 0 152 (by decide +kernel)
theorem dX12_init_425 : decode cX12_init 425 = .ok (.aload_n 0, 1) := dI1 (kI_42 _) (by decide +kernel)
theorem dX12_init_426 : decode cX12_init 426 = .ok (.iconst 4, 1) := dI1 (kI_7 _) (by decide +kernel)
theorem dX12_init_427 : decode cX12_init 427 = .ok (.newarray .int, 2) := by decide +kernel
theorem dX12_init_429 : decode cX12_init 429 = .ok (.putfield 155, 3) := dI3u (kI_181 _) 0 155 (by decide +kernel)
theorem dX12_init_432 : decode cX12_init 432 = .ok (.aload_n 0, 1) := dI1 (kI_42 _) (by decide +kernel)
theorem dX12_init_433 : decode cX12_init 433 = .ok (.iconst 4, 1) := dI1 (kI_7 _) (by decide +kernel)
theorem dX12_init_434 : decode cX12_init 434 = .ok (.newarray .int, 2) := by decide +kernel
theorem dX12_init_436 : decode cX12_init 436 = .ok (.putfield 158, 3) := dI3u (kI_181 _) 0 158 (by decide +kernel)
theorem dX12_init_439 : decode cX12_init 439 = .ok (.aload_n 0, 1) := dI1 (kI_42 _) (by decide +kernel)
theorem dX12_init_440 : decode cX12_init 440 = .ok (.bipush 8, 2) := dI2s (kI_16 _) 8 (by decide +kernel)
theorem dX12_init_442 : decode cX12_init 442 = .ok (.newarray .int, 2) := by decide +kernel
theorem dX12_init_444 : decode cX12_init 444 = .ok (.putfield 161, 3) := dI3u (kI_181 _) 0 161 (by decide +kernel)
theorem dX12_init_447 : decode cX12_init 447 = .ok (.aload_n 0, 1) := dI1 (kI_42 _) (by decide +kernel)
theorem dX12_init_448 : decode cX12_init 448 = .ok (.bipush 8, 2) := dI2s (kI_16 _) 8 (by decide +kernel)
theorem dX12_init_450 : decode cX12_init 450 = .ok (.newarray .int, 2) := by decide +kernel
theorem dX12_init_452 : decode cX12_init 452 = .ok (.putfield 164, 3) := dI3u (kI_181 _) 0 164 (by decide +kernel)
theorem dX12_init_455 : decode cX12_init 455 = .ok (.aload_n 0, 1) := dI1 (kI_42 _) (by decide +kernel)
theorem dX12_init_456 : decode cX12_init 456 = .ok (.bipush 8, 2) := dI2s (kI_16 _) 8 (by decide +kernel)
theorem dX12_init_458 : decode cX12_init 458 = .ok (.newarray .int, 2) := by decide +kernel
theorem dX12_init_460 : decode cX12_init 460 = .ok (.putfield 167, 3) := dI3u (kI_181 _) 0 167 (by decide +kernel)
theorem dX12_init_463 : decode cX12_init 463 = .ok (.aload_n 0, 1) := dI1 (kI_42 _) (by decide +kernel)
theorem dX12_init_464 : decode cX12_init 464 = .ok (.iconst 4, 1) := dI1 (kI_7 _) (by decide +kernel)
theorem dX12_init_465 : decode cX12_init 465 = .ok (.newarray .int, 2) := by decide +kernel
theorem dX12_init_467 : decode cX12_init 467 = .ok (.putfield 170, 3) := dI3u (kI_181 _) 0 170 (by decide +kernel)
theorem dX12_init_470 : decode cX12_init 470 = .ok (.aload_n 0, 1) := dI1 (kI_42 _) (by decide +kernel)
theorem dX12_init_471 : decode cX12_init 471 = .ok (.bipush 10, 2) := dI2s (kI_16 _) 10 (by decide +kernel)
theorem dX12_init_473 : decode cX12_init 473 = .ok (.newarray .int, 2) := by decide +kernel
theorem dX12_init_475 : decode cX12_init 475 = .ok (.putfield 173, 3) := dI3u (kI_181 _) 0 173 (by decide +kernel)
theorem dX12_init_478 : decode cX12_init 478 = .ok (.aload_n 0, 1) := dI1 (kI_42 _) (by decide +kernel)
theorem dX12_init_479 : decode cX12_init 479 = .ok (.bipush 10, 2) := dI2s (kI_16 _) 10 (by decide +kernel)
theorem dX12_init_481 : decode cX12_init 481 = .ok (.newarray .int, 2) := by decide +kernel
theorem dX12_init_483 : decode cX12_init 483 = .ok (.putfield 176, 3) := dI3u (kI_181 _) 0 176 (by decide +kernel)
theorem dX12_init_486 : decode cX12_init 486 = .ok (.aload_n 0, 1) := dI1 (kI_42 _) (by decide +kernel)
theorem dX12_init_487 : decode cX12_init 487 = .ok (.bipush 10, 2) := dI2s (kI_16 _) 10 (by decide +kernel)
theorem dX12_init_489 : decode cX12_init 489 = .ok (.newarray .int, 2) := by decide +kernel
theorem dX12_init_491 : decode cX12_init 491 = .ok (.putfield 179, 3) := dI3u (kI_181 _) 0 179 (by decide +kernel)
theorem dX12_init_494 : decode cX12_init 494 = .ok (.aload_n 0, 1) := dI1 (kI_42 _) (by decide +kernel)
theorem dX12_init_495 : decode cX12_init 495 = .ok (.iconst 3, 1) := dI1 (kI_6 _) (by decide +kernel)
theorem dX12_init_496 : decode cX12_init 496 = .ok (.bipush 24, 2) := dI2s (kI_16 _) 24 (by decide +kernel)
theorem dX12_init_498 : decode cX12_init 498 = .ok (.multianewarray 9 2, 4) := by decide +kernel
theorem dX12_init_502 : decode cX12_init 502 = .ok (.putfield 182, 3) := dI3u (kI_181 _) 0 182 (by decide +kernel)
theorem dX12_init_505 : decode cX12_init 505 = .ok (.aload_n 0, 1) := dI1 (kI_42 _) (by decide +kernel)
theorem dX12_init_506 : decode cX12_init 506 = .ok (.iconst 3, 1) := dI1 (kI_6 _) (by decide +kernel)
theorem dX12_init_507 : decode cX12_init 507 = .ok (.bipush 30, 2) := dI2s (kI_16 _) 30 (by decide +kernel)
theorem dX12_init_509 : decode cX12_init 509 = .ok (.multianewarray 9 2, 4) := by decide +kernel
theorem dX12_init_513 : decode cX12_init 513 = .ok (.putfield 185, 3) := dI3u (kI_181 _) 0 185 (by decide +kernel)
theorem dX12_init_516 : decode cX12_init 516 = .ok (.aload_n 0, 1) := dI1 (kI_42 _) (by decide +kernel)
theorem dX12_init_517 : decode cX12_init 517 = .ok (.iconst 3, 1) := dI1 (kI_6 _) (by decide +kernel)
theorem dX12_init_518 : decode cX12_init 518 = .ok (.newarray .int, 2) := by decide +kernel
theorem dX12_init_520 : decode cX12_init 520 = .ok (.putfield 188, 3) := dI3u (kI_181 _) 0 188 (by decide +kernel)
theorem dX12_init_523 : decode cX12_init 523 = .ok (.aload_n 0, 1) := dI1 (kI_42 _) (by decide +kernel)
theorem dX12_init_524 : decode cX12_init 524 = .ok (.iconst 3, 1) := dI1 (kI_6 _) (by decide +kernel)
theorem dX12_init_525 : decode cX12_init 525 = .ok (.newarray .int, 2) := by decide +kernel
theorem dX12_init_527 : decode cX12_init 527 = .ok (.putfield 191, 3) := dI3u (kI_181 _) 0 191 (by decide +kernel)
theorem dX12_init_530 : decode cX12_init 530 = .ok (.aload_n 0, 1) := dI1 (kI_42 _) (by decide +kernel)
theorem dX12_init_531 : decode cX12_init 531 = .ok (.iconst 3, 1) := dI1 (kI_6 _) (by decide +kernel)
theorem dX12_init_532 : decode cX12_init 532 = .ok (.newarray .boolean, 2) := by decide +kernel
theorem dX12_init_534 : decode cX12_init 534 = .ok (.putfield 194, 3) := dI3u (kI_181 _) 0 194 (by decide +kernel)
theorem dX12_init_537 : decode cX12_init 537 = .ok (.return_, 1) := dI1 (kI_177 _) (by decide +kernel)
