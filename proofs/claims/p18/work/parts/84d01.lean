theorem dX12_room_0 : decode cX12_room 0 = .ok (.aload_n 0, 1) := by decide +kernel
theorem dX12_room_1 : decode cX12_room 1 = .ok (.getfield 278, 3) := by decide +kernel
theorem dX12_room_4 : decode cX12_room 4 = .ok (.bipush 6, 2) := by decide +kernel
theorem dX12_room_6 : decode cX12_room 6 = .ok (.if_icmp .ne 5, 3) := by decide +kernel
theorem dX12_room_9 : decode cX12_room 9 = .ok (.iconst (-1), 1) := by decide +kernel
theorem dX12_room_10 : decode cX12_room 10 = .ok (.ireturn, 1) := by decide +kernel
theorem dX12_room_11 : decode cX12_room 11 = .ok (.aload_n 0, 1) := by decide +kernel
theorem dX12_room_12 : decode cX12_room 12 = .ok (.invokevirtual 275, 3) := by decide +kernel
theorem dX12_room_15 : decode cX12_room 15 = .ok (.aload_n 0, 1) := by decide +kernel
theorem dX12_room_16 : decode cX12_room 16 = .ok (.getfield 219, 3) := by decide +kernel
theorem dX12_room_19 : decode cX12_room 19 = .ok (.iconst (-1), 1) := by decide +kernel
theorem dX12_room_20 : decode cX12_room 20 = .ok (.if_icmp .eq 5, 3) := by decide +kernel
theorem dX12_room_23 : decode cX12_room 23 = .ok (.iconst (-1), 1) := by decide +kernel
theorem dX12_room_24 : decode cX12_room 24 = .ok (.ireturn, 1) := by decide +kernel
theorem dX12_room_25 : decode cX12_room 25 = .ok (.aload_n 0, 1) := by decide +kernel
theorem dX12_room_26 : decode cX12_room 26 = .ok (.getfield 278, 3) := by decide +kernel
theorem dX12_room_29 : decode cX12_room 29 = .ok (.istore_n 1, 1) := by decide +kernel
theorem dX12_room_30 : decode cX12_room 30 = .ok (.aload_n 0, 1) := by decide +kernel
theorem dX12_room_31 : decode cX12_room 31 = .ok (.getfield 63, 3) := by decide +kernel
theorem dX12_room_34 : decode cX12_room 34 = .ok (.iload_n 1, 1) := by decide +kernel
theorem dX12_room_35 : decode cX12_room 35 = .ok (.iconst 0, 1) := by decide +kernel
theorem dX12_room_36 : decode cX12_room 36 = .ok (.iastore, 1) := by decide +kernel
theorem dX12_room_37 : decode cX12_room 37 = .ok (.aload_n 0, 1) := by decide +kernel
theorem dX12_room_38 : decode cX12_room 38 = .ok (.getfield 50, 3) := by decide +kernel
theorem dX12_room_41 : decode cX12_room 41 = .ok (.iload_n 1, 1) := by decide +kernel
theorem dX12_room_42 : decode cX12_room 42 = .ok (.aload_n 0, 1) := by decide +kernel
theorem dX12_room_43 : decode cX12_room 43 = .ok (.getfield 50, 3) := by decide +kernel
theorem dX12_room_46 : decode cX12_room 46 = .ok (.bipush 6, 2) := by decide +kernel
theorem dX12_room_48 : decode cX12_room 48 = .ok (.iaload, 1) := by decide +kernel
theorem dX12_room_49 : decode cX12_room 49 = .ok (.iastore, 1) := by decide +kernel
theorem dX12_room_50 : decode cX12_room 50 = .ok (.iconst 0, 1) := by decide +kernel
theorem dX12_room_51 : decode cX12_room 51 = .ok (.istore_n 2, 1) := by decide +kernel
theorem dX12_room_52 : decode cX12_room 52 = .ok (.iload_n 2, 1) := by decide +kernel
theorem dX12_room_53 : decode cX12_room 53 = .ok (.aload_n 0, 1) := by decide +kernel
theorem dX12_room_54 : decode cX12_room 54 = .ok (.getfield 50, 3) := by decide +kernel
theorem dX12_room_57 : decode cX12_room 57 = .ok (.iload_n 1, 1) := by decide +kernel
theorem dX12_room_58 : decode cX12_room 58 = .ok (.iaload, 1) := by decide +kernel
theorem dX12_room_59 : decode cX12_room 59 = .ok (.if_icmp .ge 94, 3) := by decide +kernel
theorem dX12_room_62 : decode cX12_room 62 = .ok (.aload_n 0, 1) := by decide +kernel
theorem dX12_room_63 : decode cX12_room 63 = .ok (.getfield 11, 3) := by decide +kernel
theorem dX12_room_66 : decode cX12_room 66 = .ok (.iload_n 1, 1) := by decide +kernel
theorem dX12_room_67 : decode cX12_room 67 = .ok (.aaload, 1) := by decide +kernel
theorem dX12_room_68 : decode cX12_room 68 = .ok (.iload_n 2, 1) := by decide +kernel
theorem dX12_room_69 : decode cX12_room 69 = .ok (.aload_n 0, 1) := by decide +kernel
theorem dX12_room_70 : decode cX12_room 70 = .ok (.getfield 11, 3) := by decide +kernel
theorem dX12_room_73 : decode cX12_room 73 = .ok (.bipush 6, 2) := by decide +kernel
theorem dX12_room_75 : decode cX12_room 75 = .ok (.aaload, 1) := by decide +kernel
theorem dX12_room_76 : decode cX12_room 76 = .ok (.iload_n 2, 1) := by decide +kernel
theorem dX12_room_77 : decode cX12_room 77 = .ok (.iaload, 1) := by decide +kernel
theorem dX12_room_78 : decode cX12_room 78 = .ok (.iastore, 1) := by decide +kernel
theorem dX12_room_79 : decode cX12_room 79 = .ok (.aload_n 0, 1) := by decide +kernel
theorem dX12_room_80 : decode cX12_room 80 = .ok (.getfield 14, 3) := by decide +kernel
theorem dX12_room_83 : decode cX12_room 83 = .ok (.iload_n 1, 1) := by decide +kernel
theorem dX12_room_84 : decode cX12_room 84 = .ok (.aaload, 1) := by decide +kernel
theorem dX12_room_85 : decode cX12_room 85 = .ok (.iload_n 2, 1) := by decide +kernel
theorem dX12_room_86 : decode cX12_room 86 = .ok (.aload_n 0, 1) := by decide +kernel
theorem dX12_room_87 : decode cX12_room 87 = .ok (.getfield 14, 3) := by decide +kernel
theorem dX12_room_90 : decode cX12_room 90 = .ok (.bipush 6, 2) := by decide +kernel
theorem dX12_room_92 : decode cX12_room 92 = .ok (.aaload, 1) := by decide +kernel
theorem dX12_room_93 : decode cX12_room 93 = .ok (.iload_n 2, 1) := by decide +kernel
theorem dX12_room_94 : decode cX12_room 94 = .ok (.iaload, 1) := by decide +kernel
theorem dX12_room_95 : decode cX12_room 95 = .ok (.iastore, 1) := by decide +kernel
theorem dX12_room_96 : decode cX12_room 96 = .ok (.aload_n 0, 1) := by decide +kernel
theorem dX12_room_97 : decode cX12_room 97 = .ok (.getfield 17, 3) := by decide +kernel
theorem dX12_room_100 : decode cX12_room 100 = .ok (.iload_n 1, 1) := by decide +kernel
theorem dX12_room_101 : decode cX12_room 101 = .ok (.aaload, 1) := by decide +kernel
theorem dX12_room_102 : decode cX12_room 102 = .ok (.iload_n 2, 1) := by decide +kernel
theorem dX12_room_103 : decode cX12_room 103 = .ok (.aload_n 0, 1) := by decide +kernel
theorem dX12_room_104 : decode cX12_room 104 = .ok (.getfield 17, 3) := by decide +kernel
theorem dX12_room_107 : decode cX12_room 107 = .ok (.bipush 6, 2) := by decide +kernel
theorem dX12_room_109 : decode cX12_room 109 = .ok (.aaload, 1) := by decide +kernel
theorem dX12_room_110 : decode cX12_room 110 = .ok (.iload_n 2, 1) := by decide +kernel
theorem dX12_room_111 : decode cX12_room 111 = .ok (.iaload, 1) := by decide +kernel
theorem dX12_room_112 : decode cX12_room 112 = .ok (.iastore, 1) := by decide +kernel
theorem dX12_room_113 : decode cX12_room 113 = .ok (.aload_n 0, 1) := by decide +kernel
theorem dX12_room_114 : decode cX12_room 114 = .ok (.getfield 20, 3) := by decide +kernel
theorem dX12_room_117 : decode cX12_room 117 = .ok (.iload_n 1, 1) := by decide +kernel
theorem dX12_room_118 : decode cX12_room 118 = .ok (.aaload, 1) := by decide +kernel
theorem dX12_room_119 : decode cX12_room 119 = .ok (.iload_n 2, 1) := by decide +kernel
theorem dX12_room_120 : decode cX12_room 120 = .ok (.aload_n 0, 1) := by decide +kernel
theorem dX12_room_121 : decode cX12_room 121 = .ok (.getfield 20, 3) := by decide +kernel
theorem dX12_room_124 : decode cX12_room 124 = .ok (.bipush 6, 2) := by decide +kernel
theorem dX12_room_126 : decode cX12_room 126 = .ok (.aaload, 1) := by decide +kernel
theorem dX12_room_127 : decode cX12_room 127 = .ok (.iload_n 2, 1) := by decide +kernel
theorem dX12_room_128 : decode cX12_room 128 = .ok (.iaload, 1) := by decide +kernel
theorem dX12_room_129 : decode cX12_room 129 = .ok (.iastore, 1) := by decide +kernel
theorem dX12_room_130 : decode cX12_room 130 = .ok (.aload_n 0, 1) := by decide +kernel
theorem dX12_room_131 : decode cX12_room 131 = .ok (.getfield 63, 3) := by decide +kernel
theorem dX12_room_134 : decode cX12_room 134 = .ok (.iload_n 1, 1) := by decide +kernel
theorem dX12_room_135 : decode cX12_room 135 = .ok (.dup2, 1) := by decide +kernel
theorem dX12_room_136 : decode cX12_room 136 = .ok (.iaload, 1) := by decide +kernel
theorem dX12_room_137 : decode cX12_room 137 = .ok (.aload_n 0, 1) := by decide +kernel
theorem dX12_room_138 : decode cX12_room 138 = .ok (.getfield 11, 3) := by decide +kernel
theorem dX12_room_141 : decode cX12_room 141 = .ok (.iload_n 1, 1) := by decide +kernel
theorem dX12_room_142 : decode cX12_room 142 = .ok (.aaload, 1) := by decide +kernel
theorem dX12_room_143 : decode cX12_room 143 = .ok (.iload_n 2, 1) := by decide +kernel
theorem dX12_room_144 : decode cX12_room 144 = .ok (.iaload, 1) := by decide +kernel
theorem dX12_room_145 : decode cX12_room 145 = .ok (.iadd, 1) := by decide +kernel
theorem dX12_room_146 : decode cX12_room 146 = .ok (.iastore, 1) := by decide +kernel
theorem dX12_room_147 : decode cX12_room 147 = .ok (.iinc 2 1, 3) := by decide +kernel
theorem dX12_room_150 : decode cX12_room 150 = .ok (.goto (-98), 3) := by decide +kernel
theorem dX12_room_153 : decode cX12_room 153 = .ok (.aload_n 0, 1) := by decide +kernel
theorem dX12_room_154 : decode cX12_room 154 = .ok (.getfield 54, 3) := by decide +kernel
theorem dX12_room_157 : decode cX12_room 157 = .ok (.iload_n 1, 1) := by decide +kernel
theorem dX12_room_158 : decode cX12_room 158 = .ok (.aload_n 0, 1) := by decide +kernel
theorem dX12_room_159 : decode cX12_room 159 = .ok (.getfield 54, 3) := by decide +kernel
theorem dX12_room_162 : decode cX12_room 162 = .ok (.bipush 6, 2) := by decide +kernel
theorem dX12_room_164 : decode cX12_room 164 = .ok (.iaload, 1) := by decide +kernel
theorem dX12_room_165 : decode cX12_room 165 = .ok (.iastore, 1) := by decide +kernel
theorem dX12_room_166 : decode cX12_room 166 = .ok (.iconst 0, 1) := by decide +kernel
theorem dX12_room_167 : decode cX12_room 167 = .ok (.istore_n 2, 1) := by decide +kernel
theorem dX12_room_168 : decode cX12_room 168 = .ok (.iload_n 2, 1) := by decide +kernel
theorem dX12_room_169 : decode cX12_room 169 = .ok (.aload_n 0, 1) := by decide +kernel
theorem dX12_room_170 : decode cX12_room 170 = .ok (.getfield 54, 3) := by decide +kernel
theorem dX12_room_173 : decode cX12_room 173 = .ok (.iload_n 1, 1) := by decide +kernel
theorem dX12_room_174 : decode cX12_room 174 = .ok (.iaload, 1) := by decide +kernel
theorem dX12_room_175 : decode cX12_room 175 = .ok (.if_icmp .ge 111, 3) := by decide +kernel
theorem dX12_room_178 : decode cX12_room 178 = .ok (.aload_n 0, 1) := by decide +kernel
theorem dX12_room_179 : decode cX12_room 179 = .ok (.getfield 23, 3) := by decide +kernel
theorem dX12_room_182 : decode cX12_room 182 = .ok (.iload_n 1, 1) := by decide +kernel
theorem dX12_room_183 : decode cX12_room 183 = .ok (.aaload, 1) := by decide +kernel
theorem dX12_room_184 : decode cX12_room 184 = .ok (.iload_n 2, 1) := by decide +kernel
theorem dX12_room_185 : decode cX12_room 185 = .ok (.aload_n 0, 1) := by decide +kernel
theorem dX12_room_186 : decode cX12_room 186 = .ok (.getfield 23, 3) := by decide +kernel
theorem dX12_room_189 : decode cX12_room 189 = .ok (.bipush 6, 2) := by decide +kernel
theorem dX12_room_191 : decode cX12_room 191 = .ok (.aaload, 1) := by decide +kernel
theorem dX12_room_192 : decode cX12_room 192 = .ok (.iload_n 2, 1) := by decide +kernel
theorem dX12_room_193 : decode cX12_room 193 = .ok (.iaload, 1) := by decide +kernel
theorem dX12_room_194 : decode cX12_room 194 = .ok (.iastore, 1) := by decide +kernel
theorem dX12_room_195 : decode cX12_room 195 = .ok (.aload_n 0, 1) := by decide +kernel
theorem dX12_room_196 : decode cX12_room 196 = .ok (.getfield 26, 3) := by decide +kernel
theorem dX12_room_199 : decode cX12_room 199 = .ok (.iload_n 1, 1) := by decide +kernel
theorem dX12_room_200 : decode cX12_room 200 = .ok (.aaload, 1) := by decide +kernel
theorem dX12_room_201 : decode cX12_room 201 = .ok (.iload_n 2, 1) := by decide +kernel
theorem dX12_room_202 : decode cX12_room 202 = .ok (.aload_n 0, 1) := by decide +kernel
theorem dX12_room_203 : decode cX12_room 203 = .ok (.getfield 26, 3) := by decide +kernel
theorem dX12_room_206 : decode cX12_room 206 = .ok (.bipush 6, 2) := by decide +kernel
theorem dX12_room_208 : decode cX12_room 208 = .ok (.aaload, 1) := by decide +kernel
theorem dX12_room_209 : decode cX12_room 209 = .ok (.iload_n 2, 1) := by decide +kernel
theorem dX12_room_210 : decode cX12_room 210 = .ok (.iaload, 1) := by decide +kernel
theorem dX12_room_211 : decode cX12_room 211 = .ok (.iastore, 1) := by decide +kernel
theorem dX12_room_212 : decode cX12_room 212 = .ok (.aload_n 0, 1) := by decide +kernel
theorem dX12_room_213 : decode cX12_room 213 = .ok (.getfield 29, 3) := by decide +kernel
theorem dX12_room_216 : decode cX12_room 216 = .ok (.iload_n 1, 1) := by decide +kernel
theorem dX12_room_217 : decode cX12_room 217 = .ok (.aaload, 1) := by decide +kernel
theorem dX12_room_218 : decode cX12_room 218 = .ok (.iload_n 2, 1) := by decide +kernel
theorem dX12_room_219 : decode cX12_room 219 = .ok (.aload_n 0, 1) := by decide +kernel
theorem dX12_room_220 : decode cX12_room 220 = .ok (.getfield 29, 3) := by decide +kernel
theorem dX12_room_223 : decode cX12_room 223 = .ok (.bipush 6, 2) := by decide +kernel
theorem dX12_room_225 : decode cX12_room 225 = .ok (.aaload, 1) := by decide +kernel
theorem dX12_room_226 : decode cX12_room 226 = .ok (.iload_n 2, 1) := by decide +kernel
theorem dX12_room_227 : decode cX12_room 227 = .ok (.iaload, 1) := by decide +kernel
theorem dX12_room_228 : decode cX12_room 228 = .ok (.iastore, 1) := by decide +kernel
theorem dX12_room_229 : decode cX12_room 229 = .ok (.aload_n 0, 1) := by decide +kernel
theorem dX12_room_230 : decode cX12_room 230 = .ok (.getfield 32, 3) := by decide +kernel
theorem dX12_room_233 : decode cX12_room 233 = .ok (.iload_n 1, 1) := by decide +kernel
theorem dX12_room_234 : decode cX12_room 234 = .ok (.aaload, 1) := by decide +kernel
theorem dX12_room_235 : decode cX12_room 235 = .ok (.iload_n 2, 1) := by decide +kernel
theorem dX12_room_236 : decode cX12_room 236 = .ok (.aload_n 0, 1) := by decide +kernel
theorem dX12_room_237 : decode cX12_room 237 = .ok (.getfield 32, 3) := by decide +kernel
theorem dX12_room_240 : decode cX12_room 240 = .ok (.bipush 6, 2) := by decide +kernel
theorem dX12_room_242 : decode cX12_room 242 = .ok (.aaload, 1) := by decide +kernel
theorem dX12_room_243 : decode cX12_room 243 = .ok (.iload_n 2, 1) := by decide +kernel
theorem dX12_room_244 : decode cX12_room 244 = .ok (.iaload, 1) := by decide +kernel
theorem dX12_room_245 : decode cX12_room 245 = .ok (.iastore, 1) := by decide +kernel
theorem dX12_room_246 : decode cX12_room 246 = .ok (.aload_n 0, 1) := by decide +kernel
theorem dX12_room_247 : decode cX12_room 247 = .ok (.getfield 35, 3) := by decide +kernel
theorem dX12_room_250 : decode cX12_room 250 = .ok (.iload_n 1, 1) := by decide +kernel
theorem dX12_room_251 : decode cX12_room 251 = .ok (.aaload, 1) := by decide +kernel
theorem dX12_room_252 : decode cX12_room 252 = .ok (.iload_n 2, 1) := by decide +kernel
theorem dX12_room_253 : decode cX12_room 253 = .ok (.aload_n 0, 1) := by decide +kernel
theorem dX12_room_254 : decode cX12_room 254 = .ok (.getfield 35, 3) := by decide +kernel
theorem dX12_room_257 : decode cX12_room 257 = .ok (.bipush 6, 2) := by decide +kernel
theorem dX12_room_259 : decode cX12_room 259 = .ok (.aaload, 1) := by decide +kernel
theorem dX12_room_260 : decode cX12_room 260 = .ok (.iload_n 2, 1) := by decide +kernel
theorem dX12_room_261 : decode cX12_room 261 = .ok (.iaload, 1) := by decide +kernel
theorem dX12_room_262 : decode cX12_room 262 = .ok (.iastore, 1) := by decide +kernel
theorem dX12_room_263 : decode cX12_room 263 = .ok (.aload_n 0, 1) := by decide +kernel
theorem dX12_room_264 : decode cX12_room 264 = .ok (.getfield 38, 3) := by decide +kernel
theorem dX12_room_267 : decode cX12_room 267 = .ok (.iload_n 1, 1) := by decide +kernel
theorem dX12_room_268 : decode cX12_room 268 = .ok (.aaload, 1) := by decide +kernel
theorem dX12_room_269 : decode cX12_room 269 = .ok (.iload_n 2, 1) := by decide +kernel
theorem dX12_room_270 : decode cX12_room 270 = .ok (.aload_n 0, 1) := by decide +kernel
theorem dX12_room_271 : decode cX12_room 271 = .ok (.getfield 38, 3) := by decide +kernel
theorem dX12_room_274 : decode cX12_room 274 = .ok (.bipush 6, 2) := by decide +kernel
theorem dX12_room_276 : decode cX12_room 276 = .ok (.aaload, 1) := by decide +kernel
theorem dX12_room_277 : decode cX12_room 277 = .ok (.iload_n 2, 1) := by decide +kernel
theorem dX12_room_278 : decode cX12_room 278 = .ok (.iaload, 1) := by decide +kernel
theorem dX12_room_279 : decode cX12_room 279 = .ok (.iastore, 1) := by decide +kernel
theorem dX12_room_280 : decode cX12_room 280 = .ok (.iinc 2 1, 3) := by decide +kernel
theorem dX12_room_283 : decode cX12_room 283 = .ok (.goto (-115), 3) := by decide +kernel
theorem dX12_room_286 : decode cX12_room 286 = .ok (.aload_n 0, 1) := by decide +kernel
theorem dX12_room_287 : decode cX12_room 287 = .ok (.getfield 57, 3) := by decide +kernel
theorem dX12_room_290 : decode cX12_room 290 = .ok (.iload_n 1, 1) := by decide +kernel
theorem dX12_room_291 : decode cX12_room 291 = .ok (.aload_n 0, 1) := by decide +kernel
theorem dX12_room_292 : decode cX12_room 292 = .ok (.getfield 57, 3) := by decide +kernel
theorem dX12_room_295 : decode cX12_room 295 = .ok (.bipush 6, 2) := by decide +kernel
theorem dX12_room_297 : decode cX12_room 297 = .ok (.iaload, 1) := by decide +kernel
theorem dX12_room_298 : decode cX12_room 298 = .ok (.iastore, 1) := by decide +kernel
theorem dX12_room_299 : decode cX12_room 299 = .ok (.iconst 0, 1) := by decide +kernel
theorem dX12_room_300 : decode cX12_room 300 = .ok (.istore_n 2, 1) := by decide +kernel
theorem dX12_room_301 : decode cX12_room 301 = .ok (.iload_n 2, 1) := by decide +kernel
theorem dX12_room_302 : decode cX12_room 302 = .ok (.aload_n 0, 1) := by decide +kernel
theorem dX12_room_303 : decode cX12_room 303 = .ok (.getfield 57, 3) := by decide +kernel
theorem dX12_room_306 : decode cX12_room 306 = .ok (.iload_n 1, 1) := by decide +kernel
theorem dX12_room_307 : decode cX12_room 307 = .ok (.iaload, 1) := by decide +kernel
theorem dX12_room_308 : decode cX12_room 308 = .ok (.if_icmp .ge 60, 3) := by decide +kernel
theorem dX12_room_311 : decode cX12_room 311 = .ok (.aload_n 0, 1) := by decide +kernel
theorem dX12_room_312 : decode cX12_room 312 = .ok (.getfield 41, 3) := by decide +kernel
theorem dX12_room_315 : decode cX12_room 315 = .ok (.iload_n 1, 1) := by decide +kernel
theorem dX12_room_316 : decode cX12_room 316 = .ok (.aaload, 1) := by decide +kernel
theorem dX12_room_317 : decode cX12_room 317 = .ok (.iload_n 2, 1) := by decide +kernel
theorem dX12_room_318 : decode cX12_room 318 = .ok (.aload_n 0, 1) := by decide +kernel
theorem dX12_room_319 : decode cX12_room 319 = .ok (.getfield 41, 3) := by decide +kernel
theorem dX12_room_322 : decode cX12_room 322 = .ok (.bipush 6, 2) := by decide +kernel
theorem dX12_room_324 : decode cX12_room 324 = .ok (.aaload, 1) := by decide +kernel
theorem dX12_room_325 : decode cX12_room 325 = .ok (.iload_n 2, 1) := by decide +kernel
theorem dX12_room_326 : decode cX12_room 326 = .ok (.iaload, 1) := by decide +kernel
theorem dX12_room_327 : decode cX12_room 327 = .ok (.iastore, 1) := by decide +kernel
theorem dX12_room_328 : decode cX12_room 328 = .ok (.aload_n 0, 1) := by decide +kernel
theorem dX12_room_329 : decode cX12_room 329 = .ok (.getfield 44, 3) := by decide +kernel
theorem dX12_room_332 : decode cX12_room 332 = .ok (.iload_n 1, 1) := by decide +kernel
theorem dX12_room_333 : decode cX12_room 333 = .ok (.aaload, 1) := by decide +kernel
theorem dX12_room_334 : decode cX12_room 334 = .ok (.iload_n 2, 1) := by decide +kernel
theorem dX12_room_335 : decode cX12_room 335 = .ok (.aload_n 0, 1) := by decide +kernel
theorem dX12_room_336 : decode cX12_room 336 = .ok (.getfield 44, 3) := by decide +kernel
theorem dX12_room_339 : decode cX12_room 339 = .ok (.bipush 6, 2) := by decide +kernel
theorem dX12_room_341 : decode cX12_room 341 = .ok (.aaload, 1) := by decide +kernel
theorem dX12_room_342 : decode cX12_room 342 = .ok (.iload_n 2, 1) := by decide +kernel
theorem dX12_room_343 : decode cX12_room 343 = .ok (.iaload, 1) := by decide +kernel
theorem dX12_room_344 : decode cX12_room 344 = .ok (.iastore, 1) := by decide +kernel
theorem dX12_room_345 : decode cX12_room 345 = .ok (.aload_n 0, 1) := by decide +kernel
theorem dX12_room_346 : decode cX12_room 346 = .ok (.getfield 47, 3) := by decide +kernel
theorem dX12_room_349 : decode cX12_room 349 = .ok (.iload_n 1, 1) := by decide +kernel
theorem dX12_room_350 : decode cX12_room 350 = .ok (.aaload, 1) := by decide +kernel
theorem dX12_room_351 : decode cX12_room 351 = .ok (.iload_n 2, 1) := by decide +kernel
theorem dX12_room_352 : decode cX12_room 352 = .ok (.aload_n 0, 1) := by decide +kernel
theorem dX12_room_353 : decode cX12_room 353 = .ok (.getfield 47, 3) := by decide +kernel
theorem dX12_room_356 : decode cX12_room 356 = .ok (.bipush 6, 2) := by decide +kernel
theorem dX12_room_358 : decode cX12_room 358 = .ok (.aaload, 1) := by decide +kernel
theorem dX12_room_359 : decode cX12_room 359 = .ok (.iload_n 2, 1) := by decide +kernel
theorem dX12_room_360 : decode cX12_room 360 = .ok (.iaload, 1) := by decide +kernel
theorem dX12_room_361 : decode cX12_room 361 = .ok (.iastore, 1) := by decide +kernel
theorem dX12_room_362 : decode cX12_room 362 = .ok (.iinc 2 1, 3) := by decide +kernel
theorem dX12_room_365 : decode cX12_room 365 = .ok (.goto (-64), 3) := by decide +kernel
theorem dX12_room_368 : decode cX12_room 368 = .ok (.aload_n 0, 1) := by decide +kernel
theorem dX12_room_369 : decode cX12_room 369 = .ok (.getfield 107, 3) := by decide +kernel
theorem dX12_room_372 : decode cX12_room 372 = .ok (.iload_n 1, 1) := by decide +kernel
theorem dX12_room_373 : decode cX12_room 373 = .ok (.iconst (-1), 1) := by decide +kernel
theorem dX12_room_374 : decode cX12_room 374 = .ok (.iastore, 1) := by decide +kernel
theorem dX12_room_375 : decode cX12_room 375 = .ok (.aload_n 0, 1) := by decide +kernel
theorem dX12_room_376 : decode cX12_room 376 = .ok (.iconst 0, 1) := by decide +kernel
theorem dX12_room_377 : decode cX12_room 377 = .ok (.putfield 198, 3) := by decide +kernel
theorem dX12_room_380 : decode cX12_room 380 = .ok (.aload_n 0, 1) := by decide +kernel
theorem dX12_room_381 : decode cX12_room 381 = .ok (.dup, 1) := by decide +kernel
theorem dX12_room_382 : decode cX12_room 382 = .ok (.getfield 278, 3) := by decide +kernel
theorem dX12_room_385 : decode cX12_room 385 = .ok (.iconst 1, 1) := by decide +kernel
theorem dX12_room_386 : decode cX12_room 386 = .ok (.iadd, 1) := by decide +kernel
theorem dX12_room_387 : decode cX12_room 387 = .ok (.putfield 278, 3) := by decide +kernel
theorem dX12_room_390 : decode cX12_room 390 = .ok (.iload_n 1, 1) := by decide +kernel
theorem dX12_room_391 : decode cX12_room 391 = .ok (.ireturn, 1) := by decide +kernel
