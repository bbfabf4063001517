theorem dX12_isWhole_127 : decode cX12_isWhole 127 = .ok (.ireturn, 1) := by decide +kernel
theorem dX12_isWhole_128 : decode cX12_isWhole 128 = .ok (.aload_n 0, 1) := by decide +kernel
theorem dX12_isWhole_129 : decode cX12_isWhole 129 = .ok (.iload_n 1, 1) := by decide +kernel
theorem dX12_isWhole_130 : decode cX12_isWhole 130 = .ok (.iload 7, 2) := by decide +kernel
theorem dX12_isWhole_132 : decode cX12_isWhole 132 = .ok (.iload 8, 2) := by decide +kernel
theorem dX12_isWhole_134 : decode cX12_isWhole 134 = .ok (.invokevirtual 293, 3) := by decide +kernel
theorem dX12_isWhole_137 : decode cX12_isWhole 137 = .ok (.istore 13, 2) := by decide +kernel
theorem dX12_isWhole_139 : decode cX12_isWhole 139 = .ok (.iload 9, 2) := by decide +kernel
theorem dX12_isWhole_141 : decode cX12_isWhole 141 = .ok (.istore 14, 2) := by decide +kernel
theorem dX12_isWhole_143 : decode cX12_isWhole 143 = .ok (.iload 9, 2) := by decide +kernel
theorem dX12_isWhole_145 : decode cX12_isWhole 145 = .ok (.istore 15, 2) := by decide +kernel
theorem dX12_isWhole_147 : decode cX12_isWhole 147 = .ok (.aload_n 0, 1) := by decide +kernel
theorem dX12_isWhole_148 : decode cX12_isWhole 148 = .ok (.getfield 91, 3) := by decide +kernel
theorem dX12_isWhole_151 : decode cX12_isWhole 151 = .ok (.iload_n 2, 1) := by decide +kernel
theorem dX12_isWhole_152 : decode cX12_isWhole 152 = .ok (.iaload, 1) := by decide +kernel
theorem dX12_isWhole_153 : decode cX12_isWhole 153 = .ok (.iconst 2, 1) := by decide +kernel
theorem dX12_isWhole_154 : decode cX12_isWhole 154 = .ok (.if_icmp .eq 106, 3) := by decide +kernel
theorem dX12_isWhole_157 : decode cX12_isWhole 157 = .ok (.iload 13, 2) := by decide +kernel
theorem dX12_isWhole_159 : decode cX12_isWhole 159 = .ok (.iload 9, 2) := by decide +kernel
theorem dX12_isWhole_161 : decode cX12_isWhole 161 = .ok (.isub, 1) := by decide +kernel
theorem dX12_isWhole_162 : decode cX12_isWhole 162 = .ok (.istore 16, 2) := by decide +kernel
theorem dX12_isWhole_164 : decode cX12_isWhole 164 = .ok (.iload 16, 2) := by decide +kernel
theorem dX12_isWhole_166 : decode cX12_isWhole 166 = .ok (.ifCond .ge 5, 3) := by decide +kernel
theorem dX12_isWhole_169 : decode cX12_isWhole 169 = .ok (.iconst 0, 1) := by decide +kernel
theorem dX12_isWhole_170 : decode cX12_isWhole 170 = .ok (.ireturn, 1) := by decide +kernel
theorem dX12_isWhole_171 : decode cX12_isWhole 171 = .ok (.iload 16, 2) := by decide +kernel
theorem dX12_isWhole_173 : decode cX12_isWhole 173 = .ok (.aload_n 0, 1) := by decide +kernel
theorem dX12_isWhole_174 : decode cX12_isWhole 174 = .ok (.iload_n 2, 1) := by decide +kernel
theorem dX12_isWhole_175 : decode cX12_isWhole 175 = .ok (.iload 4, 2) := by decide +kernel
theorem dX12_isWhole_177 : decode cX12_isWhole 177 = .ok (.iload 11, 2) := by decide +kernel
theorem dX12_isWhole_179 : decode cX12_isWhole 179 = .ok (.invokevirtual 356, 3) := by decide +kernel
theorem dX12_isWhole_182 : decode cX12_isWhole 182 = .ok (.iadd, 1) := by decide +kernel
theorem dX12_isWhole_183 : decode cX12_isWhole 183 = .ok (.aload_n 0, 1) := by decide +kernel
theorem dX12_isWhole_184 : decode cX12_isWhole 184 = .ok (.getfield 97, 3) := by decide +kernel
theorem dX12_isWhole_187 : decode cX12_isWhole 187 = .ok (.iload_n 2, 1) := by decide +kernel
theorem dX12_isWhole_188 : decode cX12_isWhole 188 = .ok (.iaload, 1) := by decide +kernel
theorem dX12_isWhole_189 : decode cX12_isWhole 189 = .ok (.isub, 1) := by decide +kernel
theorem dX12_isWhole_190 : decode cX12_isWhole 190 = .ok (.aload_n 0, 1) := by decide +kernel
theorem dX12_isWhole_191 : decode cX12_isWhole 191 = .ok (.getfield 88, 3) := by decide +kernel
theorem dX12_isWhole_194 : decode cX12_isWhole 194 = .ok (.iload_n 2, 1) := by decide +kernel
theorem dX12_isWhole_195 : decode cX12_isWhole 195 = .ok (.iaload, 1) := by decide +kernel
theorem dX12_isWhole_196 : decode cX12_isWhole 196 = .ok (.invokestatic 359, 3) := by decide +kernel
theorem dX12_isWhole_199 : decode cX12_isWhole 199 = .ok (.istore 17, 2) := by decide +kernel
theorem dX12_isWhole_201 : decode cX12_isWhole 201 = .ok (.iload 17, 2) := by decide +kernel
theorem dX12_isWhole_203 : decode cX12_isWhole 203 = .ok (.aload_n 0, 1) := by decide +kernel
theorem dX12_isWhole_204 : decode cX12_isWhole 204 = .ok (.getfield 100, 3) := by decide +kernel
theorem dX12_isWhole_207 : decode cX12_isWhole 207 = .ok (.iload_n 2, 1) := by decide +kernel
theorem dX12_isWhole_208 : decode cX12_isWhole 208 = .ok (.iaload, 1) := by decide +kernel
theorem dX12_isWhole_209 : decode cX12_isWhole 209 = .ok (.if_icmp .lt 5, 3) := by decide +kernel
theorem dX12_isWhole_212 : decode cX12_isWhole 212 = .ok (.iconst 0, 1) := by decide +kernel
theorem dX12_isWhole_213 : decode cX12_isWhole 213 = .ok (.ireturn, 1) := by decide +kernel
theorem dX12_isWhole_214 : decode cX12_isWhole 214 = .ok (.iload 16, 2) := by decide +kernel
theorem dX12_isWhole_216 : decode cX12_isWhole 216 = .ok (.iload 17, 2) := by decide +kernel
theorem dX12_isWhole_218 : decode cX12_isWhole 218 = .ok (.isub, 1) := by decide +kernel
theorem dX12_isWhole_219 : decode cX12_isWhole 219 = .ok (.istore 18, 2) := by decide +kernel
theorem dX12_isWhole_221 : decode cX12_isWhole 221 = .ok (.iload 18, 2) := by decide +kernel
theorem dX12_isWhole_223 : decode cX12_isWhole 223 = .ok (.ifCond .lt 17, 3) := by decide +kernel
theorem dX12_isWhole_226 : decode cX12_isWhole 226 = .ok (.iload 18, 2) := by decide +kernel
theorem dX12_isWhole_228 : decode cX12_isWhole 228 = .ok (.aload_n 0, 1) := by decide +kernel
theorem dX12_isWhole_229 : decode cX12_isWhole 229 = .ok (.getfield 100, 3) := by decide +kernel
theorem dX12_isWhole_232 : decode cX12_isWhole 232 = .ok (.iload_n 2, 1) := by decide +kernel
theorem dX12_isWhole_233 : decode cX12_isWhole 233 = .ok (.iaload, 1) := by decide +kernel
theorem dX12_isWhole_234 : decode cX12_isWhole 234 = .ok (.iadd, 1) := by decide +kernel
theorem dX12_isWhole_235 : decode cX12_isWhole 235 = .ok (.iload 13, 2) := by decide +kernel
theorem dX12_isWhole_237 : decode cX12_isWhole 237 = .ok (.if_icmp .le 5, 3) := by decide +kernel
theorem dX12_isWhole_240 : decode cX12_isWhole 240 = .ok (.iconst 0, 1) := by decide +kernel
theorem dX12_isWhole_241 : decode cX12_isWhole 241 = .ok (.ireturn, 1) := by decide +kernel
theorem dX12_isWhole_242 : decode cX12_isWhole 242 = .ok (.iload 13, 2) := by decide +kernel
theorem dX12_isWhole_244 : decode cX12_isWhole 244 = .ok (.iload 18, 2) := by decide +kernel
theorem dX12_isWhole_246 : decode cX12_isWhole 246 = .ok (.isub, 1) := by decide +kernel
theorem dX12_isWhole_247 : decode cX12_isWhole 247 = .ok (.istore 15, 2) := by decide +kernel
theorem dX12_isWhole_249 : decode cX12_isWhole 249 = .ok (.iload 15, 2) := by decide +kernel
theorem dX12_isWhole_251 : decode cX12_isWhole 251 = .ok (.aload_n 0, 1) := by decide +kernel
theorem dX12_isWhole_252 : decode cX12_isWhole 252 = .ok (.getfield 100, 3) := by decide +kernel
theorem dX12_isWhole_255 : decode cX12_isWhole 255 = .ok (.iload_n 2, 1) := by decide +kernel
theorem dX12_isWhole_256 : decode cX12_isWhole 256 = .ok (.iaload, 1) := by decide +kernel
theorem dX12_isWhole_257 : decode cX12_isWhole 257 = .ok (.isub, 1) := by decide +kernel
theorem dX12_isWhole_258 : decode cX12_isWhole 258 = .ok (.istore 14, 2) := by decide +kernel
theorem dX12_isWhole_260 : decode cX12_isWhole 260 = .ok (.iconst 0, 1) := by decide +kernel
theorem dX12_isWhole_261 : decode cX12_isWhole 261 = .ok (.istore 16, 2) := by decide +kernel
theorem dX12_isWhole_263 : decode cX12_isWhole 263 = .ok (.iload 16, 2) := by decide +kernel
theorem dX12_isWhole_265 : decode cX12_isWhole 265 = .ok (.aload_n 0, 1) := by decide +kernel
theorem dX12_isWhole_266 : decode cX12_isWhole 266 = .ok (.getfield 54, 3) := by decide +kernel
theorem dX12_isWhole_269 : decode cX12_isWhole 269 = .ok (.iload_n 1, 1) := by decide +kernel
theorem dX12_isWhole_270 : decode cX12_isWhole 270 = .ok (.iaload, 1) := by decide +kernel
theorem dX12_isWhole_271 : decode cX12_isWhole 271 = .ok (.if_icmp .ge 130, 3) := by decide +kernel
theorem dX12_isWhole_274 : decode cX12_isWhole 274 = .ok (.aload_n 0, 1) := by decide +kernel
theorem dX12_isWhole_275 : decode cX12_isWhole 275 = .ok (.getfield 23, 3) := by decide +kernel
theorem dX12_isWhole_278 : decode cX12_isWhole 278 = .ok (.iload_n 1, 1) := by decide +kernel
theorem dX12_isWhole_279 : decode cX12_isWhole 279 = .ok (.aaload, 1) := by decide +kernel
theorem dX12_isWhole_280 : decode cX12_isWhole 280 = .ok (.iload 16, 2) := by decide +kernel
theorem dX12_isWhole_282 : decode cX12_isWhole 282 = .ok (.iaload, 1) := by decide +kernel
theorem dX12_isWhole_283 : decode cX12_isWhole 283 = .ok (.iload 7, 2) := by decide +kernel
theorem dX12_isWhole_285 : decode cX12_isWhole 285 = .ok (.if_icmp .ne 110, 3) := by decide +kernel
theorem dX12_isWhole_288 : decode cX12_isWhole 288 = .ok (.iload 8, 2) := by decide +kernel
theorem dX12_isWhole_290 : decode cX12_isWhole 290 = .ok (.i2l, 1) := by decide +kernel
theorem dX12_isWhole_291 : decode cX12_isWhole 291 = .ok (.aload_n 0, 1) := by decide +kernel
theorem dX12_isWhole_292 : decode cX12_isWhole 292 = .ok (.getfield 26, 3) := by decide +kernel
theorem dX12_isWhole_295 : decode cX12_isWhole 295 = .ok (.iload_n 1, 1) := by decide +kernel
theorem dX12_isWhole_296 : decode cX12_isWhole 296 = .ok (.aaload, 1) := by decide +kernel
theorem dX12_isWhole_297 : decode cX12_isWhole 297 = .ok (.iload 16, 2) := by decide +kernel
theorem dX12_isWhole_299 : decode cX12_isWhole 299 = .ok (.iaload, 1) := by decide +kernel
theorem dX12_isWhole_300 : decode cX12_isWhole 300 = .ok (.i2l, 1) := by decide +kernel
theorem dX12_isWhole_301 : decode cX12_isWhole 301 = .ok (.aload_n 0, 1) := by decide +kernel
theorem dX12_isWhole_302 : decode cX12_isWhole 302 = .ok (.getfield 29, 3) := by decide +kernel
theorem dX12_isWhole_305 : decode cX12_isWhole 305 = .ok (.iload_n 1, 1) := by decide +kernel
theorem dX12_isWhole_306 : decode cX12_isWhole 306 = .ok (.aaload, 1) := by decide +kernel
theorem dX12_isWhole_307 : decode cX12_isWhole 307 = .ok (.iload 16, 2) := by decide +kernel
theorem dX12_isWhole_309 : decode cX12_isWhole 309 = .ok (.iaload, 1) := by decide +kernel
theorem dX12_isWhole_310 : decode cX12_isWhole 310 = .ok (.i2l, 1) := by decide +kernel
theorem dX12_isWhole_311 : decode cX12_isWhole 311 = .ok (.invokestatic 205, 3) := by decide +kernel
theorem dX12_isWhole_314 : decode cX12_isWhole 314 = .ok (.ifCond .ne 6, 3) := by decide +kernel
theorem dX12_isWhole_317 : decode cX12_isWhole 317 = .ok (.goto 78, 3) := by decide +kernel
theorem dX12_isWhole_320 : decode cX12_isWhole 320 = .ok (.aload_n 0, 1) := by decide +kernel
theorem dX12_isWhole_321 : decode cX12_isWhole 321 = .ok (.getfield 91, 3) := by decide +kernel
theorem dX12_isWhole_324 : decode cX12_isWhole 324 = .ok (.iload_n 2, 1) := by decide +kernel
theorem dX12_isWhole_325 : decode cX12_isWhole 325 = .ok (.iaload, 1) := by decide +kernel
theorem dX12_isWhole_326 : decode cX12_isWhole 326 = .ok (.iconst 2, 1) := by decide +kernel
theorem dX12_isWhole_327 : decode cX12_isWhole 327 = .ok (.if_icmp .ne 35, 3) := by decide +kernel
theorem dX12_isWhole_330 : decode cX12_isWhole 330 = .ok (.iload 9, 2) := by decide +kernel
theorem dX12_isWhole_332 : decode cX12_isWhole 332 = .ok (.i2l, 1) := by decide +kernel
theorem dX12_isWhole_333 : decode cX12_isWhole 333 = .ok (.aload_n 0, 1) := by decide +kernel
theorem dX12_isWhole_334 : decode cX12_isWhole 334 = .ok (.getfield 32, 3) := by decide +kernel
theorem dX12_isWhole_337 : decode cX12_isWhole 337 = .ok (.iload_n 1, 1) := by decide +kernel
theorem dX12_isWhole_338 : decode cX12_isWhole 338 = .ok (.aaload, 1) := by decide +kernel
theorem dX12_isWhole_339 : decode cX12_isWhole 339 = .ok (.iload 16, 2) := by decide +kernel
theorem dX12_isWhole_341 : decode cX12_isWhole 341 = .ok (.iaload, 1) := by decide +kernel
theorem dX12_isWhole_342 : decode cX12_isWhole 342 = .ok (.i2l, 1) := by decide +kernel
theorem dX12_isWhole_343 : decode cX12_isWhole 343 = .ok (.aload_n 0, 1) := by decide +kernel
theorem dX12_isWhole_344 : decode cX12_isWhole 344 = .ok (.getfield 35, 3) := by decide +kernel
theorem dX12_isWhole_347 : decode cX12_isWhole 347 = .ok (.iload_n 1, 1) := by decide +kernel
theorem dX12_isWhole_348 : decode cX12_isWhole 348 = .ok (.aaload, 1) := by decide +kernel
theorem dX12_isWhole_349 : decode cX12_isWhole 349 = .ok (.iload 16, 2) := by decide +kernel
theorem dX12_isWhole_351 : decode cX12_isWhole 351 = .ok (.iaload, 1) := by decide +kernel
theorem dX12_isWhole_352 : decode cX12_isWhole 352 = .ok (.i2l, 1) := by decide +kernel
theorem dX12_isWhole_353 : decode cX12_isWhole 353 = .ok (.invokestatic 205, 3) := by decide +kernel
theorem dX12_isWhole_356 : decode cX12_isWhole 356 = .ok (.ifCond .eq 39, 3) := by decide +kernel
theorem dX12_isWhole_359 : decode cX12_isWhole 359 = .ok (.goto 34, 3) := by decide +kernel
theorem dX12_isWhole_362 : decode cX12_isWhole 362 = .ok (.iload 14, 2) := by decide +kernel
theorem dX12_isWhole_364 : decode cX12_isWhole 364 = .ok (.aload_n 0, 1) := by decide +kernel
theorem dX12_isWhole_365 : decode cX12_isWhole 365 = .ok (.getfield 32, 3) := by decide +kernel
theorem dX12_isWhole_368 : decode cX12_isWhole 368 = .ok (.iload_n 1, 1) := by decide +kernel
theorem dX12_isWhole_369 : decode cX12_isWhole 369 = .ok (.aaload, 1) := by decide +kernel
theorem dX12_isWhole_370 : decode cX12_isWhole 370 = .ok (.iload 16, 2) := by decide +kernel
theorem dX12_isWhole_372 : decode cX12_isWhole 372 = .ok (.iaload, 1) := by decide +kernel
theorem dX12_isWhole_373 : decode cX12_isWhole 373 = .ok (.invokestatic 327, 3) := by decide +kernel
theorem dX12_isWhole_376 : decode cX12_isWhole 376 = .ok (.iload 15, 2) := by decide +kernel
theorem dX12_isWhole_378 : decode cX12_isWhole 378 = .ok (.aload_n 0, 1) := by decide +kernel
theorem dX12_isWhole_379 : decode cX12_isWhole 379 = .ok (.getfield 35, 3) := by decide +kernel
theorem dX12_isWhole_382 : decode cX12_isWhole 382 = .ok (.iload_n 1, 1) := by decide +kernel
theorem dX12_isWhole_383 : decode cX12_isWhole 383 = .ok (.aaload, 1) := by decide +kernel
theorem dX12_isWhole_384 : decode cX12_isWhole 384 = .ok (.iload 16, 2) := by decide +kernel
theorem dX12_isWhole_386 : decode cX12_isWhole 386 = .ok (.iaload, 1) := by decide +kernel
theorem dX12_isWhole_387 : decode cX12_isWhole 387 = .ok (.invokestatic 239, 3) := by decide +kernel
theorem dX12_isWhole_390 : decode cX12_isWhole 390 = .ok (.if_icmp .ge 5, 3) := by decide +kernel
theorem dX12_isWhole_393 : decode cX12_isWhole 393 = .ok (.iconst 0, 1) := by decide +kernel
theorem dX12_isWhole_394 : decode cX12_isWhole 394 = .ok (.ireturn, 1) := by decide +kernel
theorem dX12_isWhole_395 : decode cX12_isWhole 395 = .ok (.iinc 16 1, 3) := by decide +kernel
theorem dX12_isWhole_398 : decode cX12_isWhole 398 = .ok (.goto (-135), 3) := by decide +kernel
theorem dX12_isWhole_401 : decode cX12_isWhole 401 = .ok (.iconst 1, 1) := by decide +kernel
theorem dX12_isWhole_402 : decode cX12_isWhole 402 = .ok (.ireturn, 1) := by decide +kernel
theorem dX12_notWhole_0 : decode cX12_notWhole 0 = .ok (.iconst 0, 1) := by decide +kernel
theorem dX12_notWhole_1 : decode cX12_notWhole 1 = .ok (.istore 5, 2) := by decide +kernel
theorem dX12_notWhole_3 : decode cX12_notWhole 3 = .ok (.iconst 0, 1) := by decide +kernel
theorem dX12_notWhole_4 : decode cX12_notWhole 4 = .ok (.istore 6, 2) := by decide +kernel
theorem dX12_notWhole_6 : decode cX12_notWhole 6 = .ok (.iload 6, 2) := by decide +kernel
theorem dX12_notWhole_8 : decode cX12_notWhole 8 = .ok (.aload_n 0, 1) := by decide +kernel
theorem dX12_notWhole_9 : decode cX12_notWhole 9 = .ok (.getfield 57, 3) := by decide +kernel
theorem dX12_notWhole_12 : decode cX12_notWhole 12 = .ok (.iload_n 1, 1) := by decide +kernel
theorem dX12_notWhole_13 : decode cX12_notWhole 13 = .ok (.iaload, 1) := by decide +kernel
theorem dX12_notWhole_14 : decode cX12_notWhole 14 = .ok (.if_icmp .ge 36, 3) := by decide +kernel
theorem dX12_notWhole_17 : decode cX12_notWhole 17 = .ok (.iload 5, 2) := by decide +kernel
theorem dX12_notWhole_19 : decode cX12_notWhole 19 = .ok (.aload_n 0, 1) := by decide +kernel
theorem dX12_notWhole_20 : decode cX12_notWhole 20 = .ok (.iload_n 1, 1) := by decide +kernel
theorem dX12_notWhole_21 : decode cX12_notWhole 21 = .ok (.iload_n 2, 1) := by decide +kernel
theorem dX12_notWhole_22 : decode cX12_notWhole 22 = .ok (.iload_n 3, 1) := by decide +kernel
theorem dX12_notWhole_23 : decode cX12_notWhole 23 = .ok (.iload 4, 2) := by decide +kernel
theorem dX12_notWhole_25 : decode cX12_notWhole 25 = .ok (.iload 6, 2) := by decide +kernel
theorem dX12_notWhole_27 : decode cX12_notWhole 27 = .ok (.invokevirtual 396, 3) := by decide +kernel
theorem dX12_notWhole_30 : decode cX12_notWhole 30 = .ok (.ifCond .eq 7, 3) := by decide +kernel
theorem dX12_notWhole_33 : decode cX12_notWhole 33 = .ok (.iconst 0, 1) := by decide +kernel
theorem dX12_notWhole_34 : decode cX12_notWhole 34 = .ok (.goto 7, 3) := by decide +kernel
theorem dX12_notWhole_37 : decode cX12_notWhole 37 = .ok (.iconst 1, 1) := by decide +kernel
theorem dX12_notWhole_38 : decode cX12_notWhole 38 = .ok (.iload 6, 2) := by decide +kernel
theorem dX12_notWhole_40 : decode cX12_notWhole 40 = .ok (.ishl, 1) := by decide +kernel
theorem dX12_notWhole_41 : decode cX12_notWhole 41 = .ok (.ior, 1) := by decide +kernel
theorem dX12_notWhole_42 : decode cX12_notWhole 42 = .ok (.istore 5, 2) := by decide +kernel
theorem dX12_notWhole_44 : decode cX12_notWhole 44 = .ok (.iinc 6 1, 3) := by decide +kernel
theorem dX12_notWhole_47 : decode cX12_notWhole 47 = .ok (.goto (-41), 3) := by decide +kernel
theorem dX12_notWhole_50 : decode cX12_notWhole 50 = .ok (.iload 5, 2) := by decide +kernel
theorem dX12_notWhole_52 : decode cX12_notWhole 52 = .ok (.ireturn, 1) := by decide +kernel
theorem dX12_faultsOf_0 : decode cX12_faultsOf 0 = .ok (.aload_n 0, 1) := by decide +kernel
theorem dX12_faultsOf_1 : decode cX12_faultsOf 1 = .ok (.iload_n 1, 1) := by decide +kernel
theorem dX12_faultsOf_2 : decode cX12_faultsOf 2 = .ok (.iload_n 2, 1) := by decide +kernel
theorem dX12_faultsOf_3 : decode cX12_faultsOf 3 = .ok (.iload_n 3, 1) := by decide +kernel
theorem dX12_faultsOf_4 : decode cX12_faultsOf 4 = .ok (.invokevirtual 400, 3) := by decide +kernel
theorem dX12_faultsOf_7 : decode cX12_faultsOf 7 = .ok (.aload_n 0, 1) := by decide +kernel
theorem dX12_faultsOf_8 : decode cX12_faultsOf 8 = .ok (.iload_n 1, 1) := by decide +kernel
theorem dX12_faultsOf_9 : decode cX12_faultsOf 9 = .ok (.iload_n 2, 1) := by decide +kernel
theorem dX12_faultsOf_10 : decode cX12_faultsOf 10 = .ok (.invokevirtual 403, 3) := by decide +kernel
theorem dX12_faultsOf_13 : decode cX12_faultsOf 13 = .ok (.iadd, 1) := by decide +kernel
theorem dX12_faultsOf_14 : decode cX12_faultsOf 14 = .ok (.bipush 100, 2) := by decide +kernel
theorem dX12_faultsOf_16 : decode cX12_faultsOf 16 = .ok (.aload_n 0, 1) := by decide +kernel
theorem dX12_faultsOf_17 : decode cX12_faultsOf 17 = .ok (.iload_n 1, 1) := by decide +kernel
theorem dX12_faultsOf_18 : decode cX12_faultsOf 18 = .ok (.iload_n 2, 1) := by decide +kernel
theorem dX12_faultsOf_19 : decode cX12_faultsOf 19 = .ok (.iload_n 3, 1) := by decide +kernel
theorem dX12_faultsOf_20 : decode cX12_faultsOf 20 = .ok (.iload 4, 2) := by decide +kernel
theorem dX12_faultsOf_22 : decode cX12_faultsOf 22 = .ok (.invokevirtual 406, 3) := by decide +kernel
theorem dX12_faultsOf_25 : decode cX12_faultsOf 25 = .ok (.invokestatic 410, 3) := by decide +kernel
theorem dX12_faultsOf_28 : decode cX12_faultsOf 28 = .ok (.imul, 1) := by decide +kernel
theorem dX12_faultsOf_29 : decode cX12_faultsOf 29 = .ok (.iadd, 1) := by decide +kernel
theorem dX12_faultsOf_30 : decode cX12_faultsOf 30 = .ok (.ireturn, 1) := by decide +kernel
theorem dX12_faults_0 : decode cX12_faults 0 = .ok (.aload_n 0, 1) := by decide +kernel
theorem dX12_faults_1 : decode cX12_faults 1 = .ok (.iload_n 1, 1) := by decide +kernel
theorem dX12_faults_2 : decode cX12_faults 2 = .ok (.invokevirtual 362, 3) := by decide +kernel
theorem dX12_faults_5 : decode cX12_faults 5 = .ok (.ifCond .eq 15, 3) := by decide +kernel
theorem dX12_faults_8 : decode cX12_faults 8 = .ok (.iload_n 2, 1) := by decide +kernel
theorem dX12_faults_9 : decode cX12_faults 9 = .ok (.i2l, 1) := by decide +kernel
theorem dX12_faults_10 : decode cX12_faults 10 = .ok (.lconst 0, 1) := by decide +kernel
theorem dX12_faults_11 : decode cX12_faults 11 = .ok (.ldc2_w 415, 3) := by decide +kernel
theorem dX12_faults_14 : decode cX12_faults 14 = .ok (.invokestatic 205, 3) := by decide +kernel
theorem dX12_faults_17 : decode cX12_faults 17 = .ok (.ifCond .ne 5, 3) := by decide +kernel
theorem dX12_faults_20 : decode cX12_faults 20 = .ok (.iconst (-1), 1) := by decide +kernel
theorem dX12_faults_21 : decode cX12_faults 21 = .ok (.ireturn, 1) := by decide +kernel
theorem dX12_faults_22 : decode cX12_faults 22 = .ok (.aload_n 0, 1) := by decide +kernel
theorem dX12_faults_23 : decode cX12_faults 23 = .ok (.getfield 107, 3) := by decide +kernel
theorem dX12_faults_26 : decode cX12_faults 26 = .ok (.iload_n 1, 1) := by decide +kernel
theorem dX12_faults_27 : decode cX12_faults 27 = .ok (.iaload, 1) := by decide +kernel
theorem dX12_faults_28 : decode cX12_faults 28 = .ok (.istore_n 3, 1) := by decide +kernel
theorem dX12_faults_29 : decode cX12_faults 29 = .ok (.iload_n 2, 1) := by decide +kernel
theorem dX12_faults_30 : decode cX12_faults 30 = .ok (.ifCond .ne 24, 3) := by decide +kernel
theorem dX12_faults_33 : decode cX12_faults 33 = .ok (.aload_n 0, 1) := by decide +kernel
theorem dX12_faults_34 : decode cX12_faults 34 = .ok (.iload_n 1, 1) := by decide +kernel
theorem dX12_faults_35 : decode cX12_faults 35 = .ok (.iload_n 3, 1) := by decide +kernel
theorem dX12_faults_36 : decode cX12_faults 36 = .ok (.aload_n 0, 1) := by decide +kernel
theorem dX12_faults_37 : decode cX12_faults 37 = .ok (.getfield 110, 3) := by decide +kernel
theorem dX12_faults_40 : decode cX12_faults 40 = .ok (.iload_n 1, 1) := by decide +kernel
theorem dX12_faults_41 : decode cX12_faults 41 = .ok (.iaload, 1) := by decide +kernel
theorem dX12_faults_42 : decode cX12_faults 42 = .ok (.aload_n 0, 1) := by decide +kernel
theorem dX12_faults_43 : decode cX12_faults 43 = .ok (.getfield 113, 3) := by decide +kernel
theorem dX12_faults_46 : decode cX12_faults 46 = .ok (.iload_n 1, 1) := by decide +kernel
theorem dX12_faults_47 : decode cX12_faults 47 = .ok (.iaload, 1) := by decide +kernel
theorem dX12_faults_48 : decode cX12_faults 48 = .ok (.invokevirtual 417, 3) := by decide +kernel
theorem dX12_faults_51 : decode cX12_faults 51 = .ok (.goto 55, 3) := by decide +kernel
theorem dX12_faults_54 : decode cX12_faults 54 = .ok (.iload_n 2, 1) := by decide +kernel
theorem dX12_faults_55 : decode cX12_faults 55 = .ok (.iconst 1, 1) := by decide +kernel
theorem dX12_faults_56 : decode cX12_faults 56 = .ok (.if_icmp .ne 18, 3) := by decide +kernel
theorem dX12_faults_59 : decode cX12_faults 59 = .ok (.aload_n 0, 1) := by decide +kernel
theorem dX12_faults_60 : decode cX12_faults 60 = .ok (.iload_n 1, 1) := by decide +kernel
theorem dX12_faults_61 : decode cX12_faults 61 = .ok (.iload_n 3, 1) := by decide +kernel
theorem dX12_faults_62 : decode cX12_faults 62 = .ok (.aload_n 0, 1) := by decide +kernel
theorem dX12_faults_63 : decode cX12_faults 63 = .ok (.getfield 110, 3) := by decide +kernel
theorem dX12_faults_66 : decode cX12_faults 66 = .ok (.iload_n 1, 1) := by decide +kernel
theorem dX12_faults_67 : decode cX12_faults 67 = .ok (.iaload, 1) := by decide +kernel
theorem dX12_faults_68 : decode cX12_faults 68 = .ok (.invokevirtual 400, 3) := by decide +kernel
theorem dX12_faults_71 : decode cX12_faults 71 = .ok (.goto 35, 3) := by decide +kernel
theorem dX12_faults_74 : decode cX12_faults 74 = .ok (.iload_n 2, 1) := by decide +kernel
theorem dX12_faults_75 : decode cX12_faults 75 = .ok (.iconst 2, 1) := by decide +kernel
theorem dX12_faults_76 : decode cX12_faults 76 = .ok (.if_icmp .ne 12, 3) := by decide +kernel
theorem dX12_faults_79 : decode cX12_faults 79 = .ok (.aload_n 0, 1) := by decide +kernel
theorem dX12_faults_80 : decode cX12_faults 80 = .ok (.iload_n 1, 1) := by decide +kernel
theorem dX12_faults_81 : decode cX12_faults 81 = .ok (.iload_n 3, 1) := by decide +kernel
theorem dX12_faults_82 : decode cX12_faults 82 = .ok (.invokevirtual 403, 3) := by decide +kernel
theorem dX12_faults_85 : decode cX12_faults 85 = .ok (.goto 21, 3) := by decide +kernel
theorem dX12_faults_88 : decode cX12_faults 88 = .ok (.aload_n 0, 1) := by decide +kernel
theorem dX12_faults_89 : decode cX12_faults 89 = .ok (.iload_n 1, 1) := by decide +kernel
theorem dX12_faults_90 : decode cX12_faults 90 = .ok (.iload_n 3, 1) := by decide +kernel
theorem dX12_faults_91 : decode cX12_faults 91 = .ok (.aload_n 0, 1) := by decide +kernel
theorem dX12_faults_92 : decode cX12_faults 92 = .ok (.getfield 110, 3) := by decide +kernel
theorem dX12_faults_95 : decode cX12_faults 95 = .ok (.iload_n 1, 1) := by decide +kernel
theorem dX12_faults_96 : decode cX12_faults 96 = .ok (.iaload, 1) := by decide +kernel
theorem dX12_faults_97 : decode cX12_faults 97 = .ok (.aload_n 0, 1) := by decide +kernel
theorem dX12_faults_98 : decode cX12_faults 98 = .ok (.getfield 113, 3) := by decide +kernel
theorem dX12_faults_101 : decode cX12_faults 101 = .ok (.iload_n 1, 1) := by decide +kernel
theorem dX12_faults_102 : decode cX12_faults 102 = .ok (.iaload, 1) := by decide +kernel
theorem dX12_faults_103 : decode cX12_faults 103 = .ok (.invokevirtual 406, 3) := by decide +kernel
theorem dX12_faults_106 : decode cX12_faults 106 = .ok (.ireturn, 1) := by decide +kernel
theorem dX12_best_0 : decode cX12_best 0 = .ok (.aload_n 0, 1) := by decide +kernel
theorem dX12_best_1 : decode cX12_best 1 = .ok (.iload_n 1, 1) := by decide +kernel
theorem dX12_best_2 : decode cX12_best 2 = .ok (.invokevirtual 284, 3) := by decide +kernel
theorem dX12_best_5 : decode cX12_best 5 = .ok (.ifCond .eq 36, 3) := by decide +kernel
theorem dX12_best_8 : decode cX12_best 8 = .ok (.aload_n 0, 1) := by decide +kernel
theorem dX12_best_9 : decode cX12_best 9 = .ok (.iload_n 2, 1) := by decide +kernel
theorem dX12_best_10 : decode cX12_best 10 = .ok (.invokevirtual 312, 3) := by decide +kernel
theorem dX12_best_13 : decode cX12_best 13 = .ok (.ifCond .eq 28, 3) := by decide +kernel
theorem dX12_best_16 : decode cX12_best 16 = .ok (.iload_n 3, 1) := by decide +kernel
theorem dX12_best_17 : decode cX12_best 17 = .ok (.i2l, 1) := by decide +kernel
theorem dX12_best_18 : decode cX12_best 18 = .ok (.lconst 1, 1) := by decide +kernel
theorem dX12_best_19 : decode cX12_best 19 = .ok (.ldc2_w 420, 3) := by decide +kernel
theorem dX12_best_22 : decode cX12_best 22 = .ok (.invokestatic 205, 3) := by decide +kernel
theorem dX12_best_25 : decode cX12_best 25 = .ok (.ifCond .eq 16, 3) := by decide +kernel
theorem dX12_best_28 : decode cX12_best 28 = .ok (.iload 4, 2) := by decide +kernel
theorem dX12_best_30 : decode cX12_best 30 = .ok (.i2l, 1) := by decide +kernel
theorem dX12_best_31 : decode cX12_best 31 = .ok (.lconst 0, 1) := by decide +kernel
theorem dX12_best_32 : decode cX12_best 32 = .ok (.ldc2_w 303, 3) := by decide +kernel
theorem dX12_best_35 : decode cX12_best 35 = .ok (.invokestatic 205, 3) := by decide +kernel
theorem dX12_best_38 : decode cX12_best 38 = .ok (.ifCond .ne 5, 3) := by decide +kernel
theorem dX12_best_41 : decode cX12_best 41 = .ok (.iconst (-1), 1) := by decide +kernel
theorem dX12_best_42 : decode cX12_best 42 = .ok (.ireturn, 1) := by decide +kernel
theorem dX12_best_43 : decode cX12_best 43 = .ok (.iconst 0, 1) := by decide +kernel
theorem dX12_best_44 : decode cX12_best 44 = .ok (.istore 5, 2) := by decide +kernel
theorem dX12_best_46 : decode cX12_best 46 = .ok (.iconst 0, 1) := by decide +kernel
theorem dX12_best_47 : decode cX12_best 47 = .ok (.istore 6, 2) := by decide +kernel
theorem dX12_best_49 : decode cX12_best 49 = .ok (.iconst (-1), 1) := by decide +kernel
theorem dX12_best_50 : decode cX12_best 50 = .ok (.istore 7, 2) := by decide +kernel
theorem dX12_best_52 : decode cX12_best 52 = .ok (.iconst 0, 1) := by decide +kernel
theorem dX12_best_53 : decode cX12_best 53 = .ok (.istore 8, 2) := by decide +kernel
theorem dX12_best_55 : decode cX12_best 55 = .ok (.iload 8, 2) := by decide +kernel
theorem dX12_best_57 : decode cX12_best 57 = .ok (.aload_n 0, 1) := by decide +kernel
theorem dX12_best_58 : decode cX12_best 58 = .ok (.getfield 63, 3) := by decide +kernel
theorem dX12_best_61 : decode cX12_best 61 = .ok (.iload_n 1, 1) := by decide +kernel
theorem dX12_best_62 : decode cX12_best 62 = .ok (.iaload, 1) := by decide +kernel
theorem dX12_best_63 : decode cX12_best 63 = .ok (.if_icmp .ge 75, 3) := by decide +kernel
theorem dX12_best_66 : decode cX12_best 66 = .ok (.iconst 0, 1) := by decide +kernel
theorem dX12_best_67 : decode cX12_best 67 = .ok (.istore 9, 2) := by decide +kernel
theorem dX12_best_69 : decode cX12_best 69 = .ok (.iload 9, 2) := by decide +kernel
theorem dX12_best_71 : decode cX12_best 71 = .ok (.aload_n 0, 1) := by decide +kernel
theorem dX12_best_72 : decode cX12_best 72 = .ok (.getfield 88, 3) := by decide +kernel
theorem dX12_best_75 : decode cX12_best 75 = .ok (.iload_n 2, 1) := by decide +kernel
theorem dX12_best_76 : decode cX12_best 76 = .ok (.iaload, 1) := by decide +kernel
theorem dX12_best_77 : decode cX12_best 77 = .ok (.if_icmp .ge 52, 3) := by decide +kernel
theorem dX12_best_80 : decode cX12_best 80 = .ok (.aload_n 0, 1) := by decide +kernel
theorem dX12_best_81 : decode cX12_best 81 = .ok (.iload_n 1, 1) := by decide +kernel
theorem dX12_best_82 : decode cX12_best 82 = .ok (.iload_n 2, 1) := by decide +kernel
theorem dX12_best_83 : decode cX12_best 83 = .ok (.iload 8, 2) := by decide +kernel
theorem dX12_best_85 : decode cX12_best 85 = .ok (.iload 9, 2) := by decide +kernel
theorem dX12_best_87 : decode cX12_best 87 = .ok (.invokevirtual 417, 3) := by decide +kernel
theorem dX12_best_90 : decode cX12_best 90 = .ok (.istore 10, 2) := by decide +kernel
theorem dX12_best_92 : decode cX12_best 92 = .ok (.iload 7, 2) := by decide +kernel
theorem dX12_best_94 : decode cX12_best 94 = .ok (.iconst (-1), 1) := by decide +kernel
theorem dX12_best_95 : decode cX12_best 95 = .ok (.if_icmp .eq 13, 3) := by decide +kernel
theorem dX12_best_98 : decode cX12_best 98 = .ok (.iload 10, 2) := by decide +kernel
theorem dX12_best_100 : decode cX12_best 100 = .ok (.iload 7, 2) := by decide +kernel
theorem dX12_best_102 : decode cX12_best 102 = .ok (.if_icmp .lt 6, 3) := by decide +kernel
theorem dX12_best_105 : decode cX12_best 105 = .ok (.goto 15, 3) := by decide +kernel
theorem dX12_best_108 : decode cX12_best 108 = .ok (.iload 10, 2) := by decide +kernel
theorem dX12_best_110 : decode cX12_best 110 = .ok (.istore 7, 2) := by decide +kernel
theorem dX12_best_112 : decode cX12_best 112 = .ok (.iload 8, 2) := by decide +kernel
theorem dX12_best_114 : decode cX12_best 114 = .ok (.istore 5, 2) := by decide +kernel
theorem dX12_best_116 : decode cX12_best 116 = .ok (.iload 9, 2) := by decide +kernel
theorem dX12_best_118 : decode cX12_best 118 = .ok (.istore 6, 2) := by decide +kernel
theorem dX12_best_120 : decode cX12_best 120 = .ok (.iload 9, 2) := by decide +kernel
theorem dX12_best_122 : decode cX12_best 122 = .ok (.iload_n 3, 1) := by decide +kernel
theorem dX12_best_123 : decode cX12_best 123 = .ok (.iadd, 1) := by decide +kernel
theorem dX12_best_124 : decode cX12_best 124 = .ok (.istore 9, 2) := by decide +kernel
theorem dX12_best_126 : decode cX12_best 126 = .ok (.goto (-57), 3) := by decide +kernel
theorem dX12_best_129 : decode cX12_best 129 = .ok (.iload 8, 2) := by decide +kernel
theorem dX12_best_131 : decode cX12_best 131 = .ok (.iload_n 3, 1) := by decide +kernel
theorem dX12_best_132 : decode cX12_best 132 = .ok (.iadd, 1) := by decide +kernel
theorem dX12_best_133 : decode cX12_best 133 = .ok (.istore 8, 2) := by decide +kernel
theorem dX12_best_135 : decode cX12_best 135 = .ok (.goto (-80), 3) := by decide +kernel
theorem dX12_best_138 : decode cX12_best 138 = .ok (.iload 4, 2) := by decide +kernel
theorem dX12_best_140 : decode cX12_best 140 = .ok (.ifCond .ne 8, 3) := by decide +kernel
theorem dX12_best_143 : decode cX12_best 143 = .ok (.iload 5, 2) := by decide +kernel
theorem dX12_best_145 : decode cX12_best 145 = .ok (.goto 16, 3) := by decide +kernel
theorem dX12_best_148 : decode cX12_best 148 = .ok (.iload 4, 2) := by decide +kernel
theorem dX12_best_150 : decode cX12_best 150 = .ok (.iconst 1, 1) := by decide +kernel
theorem dX12_best_151 : decode cX12_best 151 = .ok (.if_icmp .ne 8, 3) := by decide +kernel
theorem dX12_best_154 : decode cX12_best 154 = .ok (.iload 6, 2) := by decide +kernel
theorem dX12_best_156 : decode cX12_best 156 = .ok (.goto 5, 3) := by decide +kernel
theorem dX12_best_159 : decode cX12_best 159 = .ok (.iload 7, 2) := by decide +kernel
theorem dX12_best_161 : decode cX12_best 161 = .ok (.ireturn, 1) := by decide +kernel
theorem dX12_runsOf_0 : decode cX12_runsOf 0 = .ok (.iconst 0, 1) := by decide +kernel
theorem dX12_runsOf_1 : decode cX12_runsOf 1 = .ok (.istore_n 3, 1) := by decide +kernel
theorem dX12_runsOf_2 : decode cX12_runsOf 2 = .ok (.iconst 0, 1) := by decide +kernel
theorem dX12_runsOf_3 : decode cX12_runsOf 3 = .ok (.istore 4, 2) := by decide +kernel
theorem dX12_runsOf_5 : decode cX12_runsOf 5 = .ok (.iconst 0, 1) := by decide +kernel
theorem dX12_runsOf_6 : decode cX12_runsOf 6 = .ok (.istore 5, 2) := by decide +kernel
theorem dX12_runsOf_8 : decode cX12_runsOf 8 = .ok (.iload 5, 2) := by decide +kernel
theorem dX12_runsOf_10 : decode cX12_runsOf 10 = .ok (.aload_n 0, 1) := by decide +kernel
theorem dX12_runsOf_11 : decode cX12_runsOf 11 = .ok (.getfield 50, 3) := by decide +kernel
theorem dX12_runsOf_14 : decode cX12_runsOf 14 = .ok (.iload_n 1, 1) := by decide +kernel
theorem dX12_runsOf_15 : decode cX12_runsOf 15 = .ok (.iaload, 1) := by decide +kernel
theorem dX12_runsOf_16 : decode cX12_runsOf 16 = .ok (.if_icmp .ge 87, 3) := by decide +kernel
theorem dX12_runsOf_19 : decode cX12_runsOf 19 = .ok (.iload 5, 2) := by decide +kernel
theorem dX12_runsOf_21 : decode cX12_runsOf 21 = .ok (.ifCond .le 59, 3) := by decide +kernel
theorem dX12_runsOf_24 : decode cX12_runsOf 24 = .ok (.iload 4, 2) := by decide +kernel
theorem dX12_runsOf_26 : decode cX12_runsOf 26 = .ok (.aload_n 0, 1) := by decide +kernel
theorem dX12_runsOf_27 : decode cX12_runsOf 27 = .ok (.getfield 20, 3) := by decide +kernel
theorem dX12_runsOf_30 : decode cX12_runsOf 30 = .ok (.iload_n 1, 1) := by decide +kernel
theorem dX12_runsOf_31 : decode cX12_runsOf 31 = .ok (.aaload, 1) := by decide +kernel
theorem dX12_runsOf_32 : decode cX12_runsOf 32 = .ok (.iload 5, 2) := by decide +kernel
theorem dX12_runsOf_34 : decode cX12_runsOf 34 = .ok (.iconst 1, 1) := by decide +kernel
theorem dX12_runsOf_35 : decode cX12_runsOf 35 = .ok (.isub, 1) := by decide +kernel
theorem dX12_runsOf_36 : decode cX12_runsOf 36 = .ok (.iaload, 1) := by decide +kernel
theorem dX12_runsOf_37 : decode cX12_runsOf 37 = .ok (.aload_n 0, 1) := by decide +kernel
theorem dX12_runsOf_38 : decode cX12_runsOf 38 = .ok (.getfield 17, 3) := by decide +kernel
theorem dX12_runsOf_41 : decode cX12_runsOf 41 = .ok (.iload_n 1, 1) := by decide +kernel
theorem dX12_runsOf_42 : decode cX12_runsOf 42 = .ok (.aaload, 1) := by decide +kernel
theorem dX12_runsOf_43 : decode cX12_runsOf 43 = .ok (.iload 5, 2) := by decide +kernel
theorem dX12_runsOf_45 : decode cX12_runsOf 45 = .ok (.iconst 1, 1) := by decide +kernel
theorem dX12_runsOf_46 : decode cX12_runsOf 46 = .ok (.isub, 1) := by decide +kernel
theorem dX12_runsOf_47 : decode cX12_runsOf 47 = .ok (.iaload, 1) := by decide +kernel
theorem dX12_runsOf_48 : decode cX12_runsOf 48 = .ok (.imul, 1) := by decide +kernel
theorem dX12_runsOf_49 : decode cX12_runsOf 49 = .ok (.bipush 100, 2) := by decide +kernel
theorem dX12_runsOf_51 : decode cX12_runsOf 51 = .ok (.idiv, 1) := by decide +kernel
theorem dX12_runsOf_52 : decode cX12_runsOf 52 = .ok (.iadd, 1) := by decide +kernel
theorem dX12_runsOf_53 : decode cX12_runsOf 53 = .ok (.istore 4, 2) := by decide +kernel
theorem dX12_runsOf_55 : decode cX12_runsOf 55 = .ok (.iload_n 2, 1) := by decide +kernel
theorem dX12_runsOf_56 : decode cX12_runsOf 56 = .ok (.iload 5, 2) := by decide +kernel
