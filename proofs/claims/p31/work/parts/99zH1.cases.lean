set_option maxHeartbeats 4000000 in
set_option maxRecDepth 100000 in
theorem law_feed {p : Program} {l : Launch} {e : Env} {s : State} {m : MethodId} {below : List Frame} {meth : Method} {c : Code} {b L : Nat} {xs : Nat → Int32} {Z : gZ} (X : Cx p s m #[Value.ref b] meth c cL_law 4 ret R_law Z (fun q => s.heap.size ≤ q)) (hX : va_X b L xs s s.heap) (hbl : b < s.heap.size) {o0 g0 k n : Nat} {i np hb se nr tn ts : Int} {prr ki ie Tb : Nat → Int} {RC : Nat → List (Nat → Int)} {W M : va_W} (I : cI Z o0 np hb se nr tn ts prr ki ie Tb RC W) (J : mI Z g0 np hb se nr tn ts prr ki ie Tb RC M) (hi : 0 ≤ i ∧ i + 6 ≤ (L : Int)) (hL : L ≤ 3072) (hk : k + 40 ≤ 600000) (hn : n + 400 ≤ 7302250) (kk : ∀ (np hb se nr tn ts : Int) (prr ki ie Tb : Nat → Int) (RC : Nat → List (Nat → Int)) (W M : va_W), cI Z o0 np hb se nr tn ts prr ki ie Tb RC W → mI Z g0 np hb se nr tn ts prr ki ie Tb RC M → Gs p l e room_1 s m #[Value.ref b] below meth c (lw_Z below #[Value.ref b] s) Z (fun q => s.heap.size ≤ q) 4 (k + 40) (n + 400) 1238 [(3, .int (iI i)), (2, .ref g0), (1, .ref o0), (0, .ref b)] [] (W ++ M)) : Gs p l e room_1 s m #[Value.ref b] below meth c (lw_Z below #[Value.ref b] s) Z (fun q => s.heap.size ≤ q) 4 k n 168 [(3, .int (iI i)), (2, .ref g0), (1, .ref o0), (0, .ref b)] [] (W ++ M) := by
  refine g_aload_n (pc := 168) X 2 rfl dL_law_168 ?_
  refine g_aload_n (pc := 169) X 3 rfl dL_law_169 ?_
  refine g_iload_n (pc := 170) X 0 rfl dL_law_170 ?_
  refine g_iconst (pc := 171) X (iI 1) (by rfl) dL_law_171 ?_
  refine g_iaddI (pc := 172) X dL_law_172 ?_
  refine g_sldI (pc := 173) X hX hbl (Nat.not_le.mpr hbl) (by omega) (by omega) (by omega) dL_law_173 (fun a1 ea1 b_a1 => ?_)
  refine g_aload_n (pc := 174) X 3 rfl dL_law_174 ?_
  refine g_iload_n (pc := 175) X 0 rfl dL_law_175 ?_
  refine g_iconst (pc := 176) X (iI 2) (by rfl) dL_law_176 ?_
  refine g_iaddI (pc := 177) X dL_law_177 ?_
  refine g_sldI (pc := 178) X hX hbl (Nat.not_le.mpr hbl) (by omega) (by omega) (by omega) dL_law_178 (fun a2 ea2 b_a2 => ?_)
  refine g_aload_n (pc := 179) X 3 rfl dL_law_179 ?_
  refine g_iload_n (pc := 180) X 0 rfl dL_law_180 ?_
  refine g_iconst (pc := 181) X (iI 3) (by rfl) dL_law_181 ?_
  refine g_iaddI (pc := 182) X dL_law_182 ?_
  refine g_sldI (pc := 183) X hX hbl (Nat.not_le.mpr hbl) (by omega) (by omega) (by omega) dL_law_183 (fun a3 ea3 b_a3 => ?_)
  refine g_aload_n (pc := 184) X 3 rfl dL_law_184 ?_
  refine g_iload_n (pc := 185) X 0 rfl dL_law_185 ?_
  refine g_iconst (pc := 186) X (iI 4) (by rfl) dL_law_186 ?_
  refine g_iaddI (pc := 187) X dL_law_187 ?_
  refine g_sldI (pc := 188) X hX hbl (Nat.not_le.mpr hbl) (by omega) (by omega) (by omega) dL_law_188 (fun a4 ea4 b_a4 => ?_)
  refine g_aload_n (pc := 189) X 3 rfl dL_law_189 ?_
  refine g_iload_n (pc := 190) X 0 rfl dL_law_190 ?_
  refine g_iconst (pc := 191) X (iI 5) (by rfl) dL_law_191 ?_
  refine g_iaddI (pc := 192) X dL_law_192 ?_
  refine g_sldI (pc := 193) X hX hbl (Nat.not_le.mpr hbl) (by omega) (by omega) (by omega) dL_law_193 (fun a5 ea5 b_a5 => ?_)
  refine B_X11_feed (pc := 194) X I b_a1 b_a2 b_a3 b_a4 b_a5 mw_9_23 (Nat.le_of_ble_eq_true rfl) (Nat.le_of_ble_eq_true rfl) (Nat.le_of_ble_eq_true rfl) (show k + 40 ≤ 600000 by omega) (show n + 400 ≤ 7302250 by omega) dL_law_194 (fun y1 W2 ts2 Tb2 hy1 I2 F1 => ?_)
  refine g_pop (pc := 197) X rfl dL_law_197 ?_
  refine g_aload_n (pc := 198) X 1 rfl dL_law_198 ?_
  refine g_aload_n (pc := 199) X 3 rfl dL_law_199 ?_
  refine g_iload_n (pc := 200) X 0 rfl dL_law_200 ?_
  refine g_iconst (pc := 201) X (iI 1) (by rfl) dL_law_201 ?_
  refine g_iaddI (pc := 202) X dL_law_202 ?_
  refine g_sldE (pc := 203) X hX hbl (Nat.not_le.mpr hbl) ea1 (by omega) (by omega) (by omega) dL_law_203 ?_
  refine g_aload_n (pc := 204) X 3 rfl dL_law_204 ?_
  refine g_iload_n (pc := 205) X 0 rfl dL_law_205 ?_
  refine g_iconst (pc := 206) X (iI 2) (by rfl) dL_law_206 ?_
  refine g_iaddI (pc := 207) X dL_law_207 ?_
  refine g_sldE (pc := 208) X hX hbl (Nat.not_le.mpr hbl) ea2 (by omega) (by omega) (by omega) dL_law_208 ?_
  refine g_aload_n (pc := 209) X 3 rfl dL_law_209 ?_
  refine g_iload_n (pc := 210) X 0 rfl dL_law_210 ?_
  refine g_iconst (pc := 211) X (iI 3) (by rfl) dL_law_211 ?_
  refine g_iaddI (pc := 212) X dL_law_212 ?_
  refine g_sldE (pc := 213) X hX hbl (Nat.not_le.mpr hbl) ea3 (by omega) (by omega) (by omega) dL_law_213 ?_
  refine g_aload_n (pc := 214) X 3 rfl dL_law_214 ?_
  refine g_iload_n (pc := 215) X 0 rfl dL_law_215 ?_
  refine g_iconst (pc := 216) X (iI 4) (by rfl) dL_law_216 ?_
  refine g_iaddI (pc := 217) X dL_law_217 ?_
  refine g_sldE (pc := 218) X hX hbl (Nat.not_le.mpr hbl) ea4 (by omega) (by omega) (by omega) dL_law_218 ?_
  refine g_aload_n (pc := 219) X 3 rfl dL_law_219 ?_
  refine g_iload_n (pc := 220) X 0 rfl dL_law_220 ?_
  refine g_iconst (pc := 221) X (iI 5) (by rfl) dL_law_221 ?_
  refine g_iaddI (pc := 222) X dL_law_222 ?_
  refine g_sldE (pc := 223) X hX hbl (Nat.not_le.mpr hbl) ea5 (by omega) (by omega) (by omega) dL_law_223 ?_
  refine g_perm List.perm_append_comm ?_
  refine M_X12_feed (pc := 224) X J b_a1 b_a2 b_a3 b_a4 b_a5 mw_10_14 (Nat.le_of_ble_eq_true rfl) (Nat.le_of_ble_eq_true rfl) (Nat.le_of_ble_eq_true rfl) (show k + 40 ≤ 600000 by omega) (show n + 400 ≤ 7302250 by omega) dL_law_224 (fun y2 M2 ts3 Tb3 hy2 J2 F2 => ?_)
  refine g_perm List.perm_append_comm ?_
  have hE : y1 = y2 ∧ ts2 = ts3 ∧ Tb2 = Tb3 := pair_feed F1 F2
  obtain ⟨hy, rfl, rfl⟩ := hE
  refine g_pop (pc := 227) X rfl dL_law_227 ?_
  refine g_goto (pc := 228) X 1238 (by decide) dL_law_228 ?_
  exact kk np hb se nr tn ts2 prr ki ie Tb2 RC W2 M2 I2 J2

set_option maxHeartbeats 4000000 in
set_option maxRecDepth 100000 in
theorem law_end {p : Program} {l : Launch} {e : Env} {s : State} {m : MethodId} {below : List Frame} {meth : Method} {c : Code} {b L : Nat} {xs : Nat → Int32} {Z : gZ} (X : Cx p s m #[Value.ref b] meth c cL_law 4 ret R_law Z (fun q => s.heap.size ≤ q)) (hX : va_X b L xs s s.heap) (hbl : b < s.heap.size) {o0 g0 k n : Nat} {i np hb se nr tn ts : Int} {prr ki ie Tb : Nat → Int} {RC : Nat → List (Nat → Int)} {W M : va_W} (I : cI Z o0 np hb se nr tn ts prr ki ie Tb RC W) (J : mI Z g0 np hb se nr tn ts prr ki ie Tb RC M) (hi : 0 ≤ i ∧ i + 6 ≤ (L : Int)) (hL : L ≤ 3072) (hk : k + 40 ≤ 600000) (hn : n + 400 ≤ 7302250) (kk : ∀ (np hb se nr tn ts : Int) (prr ki ie Tb : Nat → Int) (RC : Nat → List (Nat → Int)) (W M : va_W), cI Z o0 np hb se nr tn ts prr ki ie Tb RC W → mI Z g0 np hb se nr tn ts prr ki ie Tb RC M → Gs p l e room_1 s m #[Value.ref b] below meth c (lw_Z below #[Value.ref b] s) Z (fun q => s.heap.size ≤ q) 4 (k + 40) (n + 400) 1238 [(3, .int (iI i)), (2, .ref g0), (1, .ref o0), (0, .ref b)] [] (W ++ M)) : Gs p l e room_1 s m #[Value.ref b] below meth c (lw_Z below #[Value.ref b] s) Z (fun q => s.heap.size ≤ q) 4 k n 231 [(3, .int (iI i)), (2, .ref g0), (1, .ref o0), (0, .ref b)] [] (W ++ M) := by
  refine g_aload_n (pc := 231) X 2 rfl dL_law_231 ?_
  refine g_aload_n (pc := 232) X 3 rfl dL_law_232 ?_
  refine g_iload_n (pc := 233) X 0 rfl dL_law_233 ?_
  refine g_iconst (pc := 234) X (iI 1) (by rfl) dL_law_234 ?_
  refine g_iaddI (pc := 235) X dL_law_235 ?_
  refine g_sldI (pc := 236) X hX hbl (Nat.not_le.mpr hbl) (by omega) (by omega) (by omega) dL_law_236 (fun a1 ea1 b_a1 => ?_)
  refine B_X11_end (pc := 237) X I b_a1 mw_10_23 (Nat.le_of_ble_eq_true rfl) (Nat.le_of_ble_eq_true rfl) (Nat.le_of_ble_eq_true rfl) (show k + 40 ≤ 600000 by omega) (show n + 400 ≤ 7302250 by omega) dL_law_237 (fun y1 W2 ts2 hy1 I2 F1 => ?_)
  refine g_pop (pc := 240) X rfl dL_law_240 ?_
  refine g_aload_n (pc := 241) X 1 rfl dL_law_241 ?_
  refine g_aload_n (pc := 242) X 3 rfl dL_law_242 ?_
  refine g_iload_n (pc := 243) X 0 rfl dL_law_243 ?_
  refine g_iconst (pc := 244) X (iI 1) (by rfl) dL_law_244 ?_
  refine g_iaddI (pc := 245) X dL_law_245 ?_
  refine g_sldE (pc := 246) X hX hbl (Nat.not_le.mpr hbl) ea1 (by omega) (by omega) (by omega) dL_law_246 ?_
  refine g_perm List.perm_append_comm ?_
  refine M_X12_end (pc := 247) X J b_a1 mw_11_9 (Nat.le_of_ble_eq_true rfl) (Nat.le_of_ble_eq_true rfl) (Nat.le_of_ble_eq_true rfl) (show k + 40 ≤ 600000 by omega) (show n + 400 ≤ 7302250 by omega) dL_law_247 (fun y2 M2 ts3 hy2 J2 F2 => ?_)
  refine g_perm List.perm_append_comm ?_
  have hE : y1 = y2 ∧ ts2 = ts3 := by omega
  obtain ⟨hy, rfl⟩ := hE
  refine g_pop (pc := 250) X rfl dL_law_250 ?_
  refine g_goto (pc := 251) X 1238 (by decide) dL_law_251 ?_
  exact kk np hb se nr tn ts2 prr ki ie Tb RC W2 M2 I2 J2

set_option maxHeartbeats 4000000 in
set_option maxRecDepth 100000 in
theorem law_fault {p : Program} {l : Launch} {e : Env} {s : State} {m : MethodId} {below : List Frame} {meth : Method} {c : Code} {b L : Nat} {xs : Nat → Int32} {Z : gZ} (X : Cx p s m #[Value.ref b] meth c cL_law 4 ret R_law Z (fun q => s.heap.size ≤ q)) (hX : va_X b L xs s s.heap) (hbl : b < s.heap.size) {o0 g0 k n : Nat} {i np hb se nr tn ts : Int} {prr ki ie Tb : Nat → Int} {RC : Nat → List (Nat → Int)} {W M : va_W} (I : cI Z o0 np hb se nr tn ts prr ki ie Tb RC W) (J : mI Z g0 np hb se nr tn ts prr ki ie Tb RC M) (hi : 0 ≤ i ∧ i + 6 ≤ (L : Int)) (hL : L ≤ 3072) (hk : k + 40 ≤ 600000) (hn : n + 400 ≤ 7302250) (kk : ∀ (np hb se nr tn ts : Int) (prr ki ie Tb : Nat → Int) (RC : Nat → List (Nat → Int)) (W M : va_W), cI Z o0 np hb se nr tn ts prr ki ie Tb RC W → mI Z g0 np hb se nr tn ts prr ki ie Tb RC M → Gs p l e room_1 s m #[Value.ref b] below meth c (lw_Z below #[Value.ref b] s) Z (fun q => s.heap.size ≤ q) 4 (k + 40) (n + 400) 1238 [(3, .int (iI i)), (2, .ref g0), (1, .ref o0), (0, .ref b)] [] (W ++ M)) : Gs p l e room_1 s m #[Value.ref b] below meth c (lw_Z below #[Value.ref b] s) Z (fun q => s.heap.size ≤ q) 4 k n 254 [(3, .int (iI i)), (2, .ref g0), (1, .ref o0), (0, .ref b)] [] (W ++ M) := by
  refine g_aload_n (pc := 254) X 2 rfl dL_law_254 ?_
  refine B_X11_fault (pc := 255) X I  mw_11_16 (Nat.le_of_ble_eq_true rfl) (Nat.le_of_ble_eq_true rfl) (Nat.le_of_ble_eq_true rfl) (show k + 40 ≤ 600000 by omega) (show n + 400 ≤ 7302250 by omega) dL_law_255 (fun y1 W2 hy1 I2 F1 => ?_)
  refine g_pop (pc := 258) X rfl dL_law_258 ?_
  refine g_aload_n (pc := 259) X 1 rfl dL_law_259 ?_
  refine g_perm List.perm_append_comm ?_
  refine M_X12_fault (pc := 260) X J  mw_19_13 (Nat.le_of_ble_eq_true rfl) (Nat.le_of_ble_eq_true rfl) (Nat.le_of_ble_eq_true rfl) (show k + 40 ≤ 600000 by omega) (show n + 400 ≤ 7302250 by omega) dL_law_260 (fun y2 M2 hy2 J2 F2 => ?_)
  refine g_perm List.perm_append_comm ?_
  have hy : y1 = y2 := F1.trans F2.symm
  refine g_pop (pc := 263) X rfl dL_law_263 ?_
  refine g_goto (pc := 264) X 1238 (by decide) dL_law_264 ?_
  exact kk np hb se nr tn ts prr ki ie Tb RC W2 M2 I2 J2

set_option maxHeartbeats 4000000 in
set_option maxRecDepth 100000 in
theorem law_room {p : Program} {l : Launch} {e : Env} {s : State} {m : MethodId} {below : List Frame} {meth : Method} {c : Code} {b L : Nat} {xs : Nat → Int32} {Z : gZ} (X : Cx p s m #[Value.ref b] meth c cL_law 4 ret R_law Z (fun q => s.heap.size ≤ q)) (hX : va_X b L xs s s.heap) (hbl : b < s.heap.size) {o0 g0 k n : Nat} {i np hb se nr tn ts : Int} {prr ki ie Tb : Nat → Int} {RC : Nat → List (Nat → Int)} {W M : va_W} (I : cI Z o0 np hb se nr tn ts prr ki ie Tb RC W) (J : mI Z g0 np hb se nr tn ts prr ki ie Tb RC M) (hi : 0 ≤ i ∧ i + 6 ≤ (L : Int)) (hL : L ≤ 3072) (hk : k + 40 ≤ 600000) (hn : n + 400 ≤ 7302250) (kk : ∀ (np hb se nr tn ts : Int) (prr ki ie Tb : Nat → Int) (RC : Nat → List (Nat → Int)) (W M : va_W), cI Z o0 np hb se nr tn ts prr ki ie Tb RC W → mI Z g0 np hb se nr tn ts prr ki ie Tb RC M → Gs p l e room_1 s m #[Value.ref b] below meth c (lw_Z below #[Value.ref b] s) Z (fun q => s.heap.size ≤ q) 4 (k + 40) (n + 400) 1238 [(3, .int (iI i)), (2, .ref g0), (1, .ref o0), (0, .ref b)] [] (W ++ M)) : Gs p l e room_1 s m #[Value.ref b] below meth c (lw_Z below #[Value.ref b] s) Z (fun q => s.heap.size ≤ q) 4 k n 267 [(3, .int (iI i)), (2, .ref g0), (1, .ref o0), (0, .ref b)] [] (W ++ M) := by
  refine g_aload_n (pc := 267) X 2 rfl dL_law_267 ?_
  refine B_X11_room (pc := 268) X I  mw_22_4 (Nat.le_of_ble_eq_true rfl) (Nat.le_of_ble_eq_true rfl) (Nat.le_of_ble_eq_true rfl) (show k + 40 ≤ 600000 by omega) (show n + 400 ≤ 7302250 by omega) dL_law_268 (fun y1 W2 nr2 ts2 RC2 hy1 I2 F1 => ?_)
  refine g_pop (pc := 271) X rfl dL_law_271 ?_
  refine g_aload_n (pc := 272) X 1 rfl dL_law_272 ?_
  refine g_perm List.perm_append_comm ?_
  refine M_X12_room (pc := 273) X J  mw_22_8 (Nat.le_of_ble_eq_true rfl) (Nat.le_of_ble_eq_true rfl) (Nat.le_of_ble_eq_true rfl) (show k + 40 ≤ 600000 by omega) (show n + 400 ≤ 7302250 by omega) dL_law_273 (fun y2 M2 nr3 ts3 RC3 hy2 J2 F2 => ?_)
  refine g_perm List.perm_append_comm ?_
  have hE : y1 = y2 ∧ nr2 = nr3 ∧ ts2 = ts3 ∧ RC2 = RC3 := pair_room F1 F2
  obtain ⟨hy, rfl, rfl, rfl⟩ := hE
  refine g_pop (pc := 276) X rfl dL_law_276 ?_
  refine g_goto (pc := 277) X 1238 (by decide) dL_law_277 ?_
  exact kk np hb se nr2 tn ts2 prr ki ie Tb RC2 W2 M2 I2 J2

set_option maxHeartbeats 4000000 in
set_option maxRecDepth 100000 in
theorem law_of {p : Program} {l : Launch} {e : Env} {s : State} {m : MethodId} {below : List Frame} {meth : Method} {c : Code} {b L : Nat} {xs : Nat → Int32} {Z : gZ} (X : Cx p s m #[Value.ref b] meth c cL_law 4 ret R_law Z (fun q => s.heap.size ≤ q)) (hX : va_X b L xs s s.heap) (hbl : b < s.heap.size) {o0 g0 k n : Nat} {i np hb se nr tn ts : Int} {prr ki ie Tb : Nat → Int} {RC : Nat → List (Nat → Int)} {W M : va_W} (I : cI Z o0 np hb se nr tn ts prr ki ie Tb RC W) (J : mI Z g0 np hb se nr tn ts prr ki ie Tb RC M) (hi : 0 ≤ i ∧ i + 6 ≤ (L : Int)) (hL : L ≤ 3072) (hk : k + 40 ≤ 600000) (hn : n + 400 ≤ 7302250) (kk : ∀ (np hb se nr tn ts : Int) (prr ki ie Tb : Nat → Int) (RC : Nat → List (Nat → Int)) (W M : va_W), cI Z o0 np hb se nr tn ts prr ki ie Tb RC W → mI Z g0 np hb se nr tn ts prr ki ie Tb RC M → Gs p l e room_1 s m #[Value.ref b] below meth c (lw_Z below #[Value.ref b] s) Z (fun q => s.heap.size ≤ q) 4 (k + 40) (n + 400) 1238 [(3, .int (iI i)), (2, .ref g0), (1, .ref o0), (0, .ref b)] [] (W ++ M)) : Gs p l e room_1 s m #[Value.ref b] below meth c (lw_Z below #[Value.ref b] s) Z (fun q => s.heap.size ≤ q) 4 k n 280 [(3, .int (iI i)), (2, .ref g0), (1, .ref o0), (0, .ref b)] [] (W ++ M) := by
  refine g_aload_n (pc := 280) X 2 rfl dL_law_280 ?_
  refine g_aload_n (pc := 281) X 3 rfl dL_law_281 ?_
  refine g_iload_n (pc := 282) X 0 rfl dL_law_282 ?_
  refine g_iconst (pc := 283) X (iI 1) (by rfl) dL_law_283 ?_
  refine g_iaddI (pc := 284) X dL_law_284 ?_
  refine g_sldI (pc := 285) X hX hbl (Nat.not_le.mpr hbl) (by omega) (by omega) (by omega) dL_law_285 (fun a1 ea1 b_a1 => ?_)
  refine g_aload_n (pc := 286) X 3 rfl dL_law_286 ?_
  refine g_iload_n (pc := 287) X 0 rfl dL_law_287 ?_
  refine g_iconst (pc := 288) X (iI 2) (by rfl) dL_law_288 ?_
  refine g_iaddI (pc := 289) X dL_law_289 ?_
  refine g_sldI (pc := 290) X hX hbl (Nat.not_le.mpr hbl) (by omega) (by omega) (by omega) dL_law_290 (fun a2 ea2 b_a2 => ?_)
  refine B_X11_of (pc := 291) X I b_a1 b_a2 mw_22_13 (Nat.le_of_ble_eq_true rfl) (Nat.le_of_ble_eq_true rfl) (Nat.le_of_ble_eq_true rfl) (show k + 40 ≤ 600000 by omega) (show n + 400 ≤ 7302250 by omega) dL_law_291 (fun y1 W2 hy1 I2 => ?_)
  refine g_pop (pc := 294) X rfl dL_law_294 ?_
  refine g_aload_n (pc := 295) X 1 rfl dL_law_295 ?_
  refine g_aload_n (pc := 296) X 3 rfl dL_law_296 ?_
  refine g_iload_n (pc := 297) X 0 rfl dL_law_297 ?_
  refine g_iconst (pc := 298) X (iI 1) (by rfl) dL_law_298 ?_
  refine g_iaddI (pc := 299) X dL_law_299 ?_
  refine g_sldE (pc := 300) X hX hbl (Nat.not_le.mpr hbl) ea1 (by omega) (by omega) (by omega) dL_law_300 ?_
  refine g_aload_n (pc := 301) X 3 rfl dL_law_301 ?_
  refine g_iload_n (pc := 302) X 0 rfl dL_law_302 ?_
  refine g_iconst (pc := 303) X (iI 2) (by rfl) dL_law_303 ?_
  refine g_iaddI (pc := 304) X dL_law_304 ?_
  refine g_sldE (pc := 305) X hX hbl (Nat.not_le.mpr hbl) ea2 (by omega) (by omega) (by omega) dL_law_305 ?_
  refine g_perm List.perm_append_comm ?_
  refine M_X12_of (pc := 306) X J b_a1 b_a2 mw_27_20 (Nat.le_of_ble_eq_true rfl) (Nat.le_of_ble_eq_true rfl) (Nat.le_of_ble_eq_true rfl) (show k + 40 ≤ 600000 by omega) (show n + 400 ≤ 7302250 by omega) dL_law_306 (fun y2 M2 hy2 J2 => ?_)
  refine g_perm List.perm_append_comm ?_
  refine g_pop (pc := 309) X rfl dL_law_309 ?_
  refine g_goto (pc := 310) X 1238 (by decide) dL_law_310 ?_
  exact kk np hb se nr tn ts prr ki ie Tb RC W2 M2 I2 J2

set_option maxHeartbeats 4000000 in
set_option maxRecDepth 100000 in
theorem law_height {p : Program} {l : Launch} {e : Env} {s : State} {m : MethodId} {below : List Frame} {meth : Method} {c : Code} {b L : Nat} {xs : Nat → Int32} {Z : gZ} (X : Cx p s m #[Value.ref b] meth c cL_law 4 ret R_law Z (fun q => s.heap.size ≤ q)) (hX : va_X b L xs s s.heap) (hbl : b < s.heap.size) {o0 g0 k n : Nat} {i np hb se nr tn ts : Int} {prr ki ie Tb : Nat → Int} {RC : Nat → List (Nat → Int)} {W M : va_W} (I : cI Z o0 np hb se nr tn ts prr ki ie Tb RC W) (J : mI Z g0 np hb se nr tn ts prr ki ie Tb RC M) (hi : 0 ≤ i ∧ i + 6 ≤ (L : Int)) (hL : L ≤ 3072) (hk : k + 40 ≤ 600000) (hn : n + 400 ≤ 7302250) (kk : ∀ (np hb se nr tn ts : Int) (prr ki ie Tb : Nat → Int) (RC : Nat → List (Nat → Int)) (W M : va_W), cI Z o0 np hb se nr tn ts prr ki ie Tb RC W → mI Z g0 np hb se nr tn ts prr ki ie Tb RC M → Gs p l e room_1 s m #[Value.ref b] below meth c (lw_Z below #[Value.ref b] s) Z (fun q => s.heap.size ≤ q) 4 (k + 40) (n + 400) 1238 [(3, .int (iI i)), (2, .ref g0), (1, .ref o0), (0, .ref b)] [] (W ++ M)) : Gs p l e room_1 s m #[Value.ref b] below meth c (lw_Z below #[Value.ref b] s) Z (fun q => s.heap.size ≤ q) 4 k n 313 [(3, .int (iI i)), (2, .ref g0), (1, .ref o0), (0, .ref b)] [] (W ++ M) := by
  refine g_aload_n (pc := 313) X 2 rfl dL_law_313 ?_
  refine g_aload_n (pc := 314) X 3 rfl dL_law_314 ?_
  refine g_iload_n (pc := 315) X 0 rfl dL_law_315 ?_
  refine g_iconst (pc := 316) X (iI 1) (by rfl) dL_law_316 ?_
  refine g_iaddI (pc := 317) X dL_law_317 ?_
  refine g_sldI (pc := 318) X hX hbl (Nat.not_le.mpr hbl) (by omega) (by omega) (by omega) dL_law_318 (fun a1 ea1 b_a1 => ?_)
  refine g_aload_n (pc := 319) X 3 rfl dL_law_319 ?_
  refine g_iload_n (pc := 320) X 0 rfl dL_law_320 ?_
  refine g_iconst (pc := 321) X (iI 2) (by rfl) dL_law_321 ?_
  refine g_iaddI (pc := 322) X dL_law_322 ?_
  refine g_sldI (pc := 323) X hX hbl (Nat.not_le.mpr hbl) (by omega) (by omega) (by omega) dL_law_323 (fun a2 ea2 b_a2 => ?_)
  refine B_X11_height (pc := 324) X I b_a1 b_a2 mw_30_7 (Nat.le_of_ble_eq_true rfl) (Nat.le_of_ble_eq_true rfl) (Nat.le_of_ble_eq_true rfl) (show k + 40 ≤ 600000 by omega) (show n + 400 ≤ 7302250 by omega) dL_law_324 (fun y1 W2 hy1 I2 F1 => ?_)
  refine g_pop (pc := 327) X rfl dL_law_327 ?_
  refine g_aload_n (pc := 328) X 1 rfl dL_law_328 ?_
  refine g_aload_n (pc := 329) X 3 rfl dL_law_329 ?_
  refine g_iload_n (pc := 330) X 0 rfl dL_law_330 ?_
  refine g_iconst (pc := 331) X (iI 1) (by rfl) dL_law_331 ?_
  refine g_iaddI (pc := 332) X dL_law_332 ?_
  refine g_sldE (pc := 333) X hX hbl (Nat.not_le.mpr hbl) ea1 (by omega) (by omega) (by omega) dL_law_333 ?_
  refine g_aload_n (pc := 334) X 3 rfl dL_law_334 ?_
  refine g_iload_n (pc := 335) X 0 rfl dL_law_335 ?_
  refine g_iconst (pc := 336) X (iI 2) (by rfl) dL_law_336 ?_
  refine g_iaddI (pc := 337) X dL_law_337 ?_
  refine g_sldE (pc := 338) X hX hbl (Nat.not_le.mpr hbl) ea2 (by omega) (by omega) (by omega) dL_law_338 ?_
  refine g_perm List.perm_append_comm ?_
  refine M_X12_height (pc := 339) X J b_a1 b_a2 mw_30_18 (Nat.le_of_ble_eq_true rfl) (Nat.le_of_ble_eq_true rfl) (Nat.le_of_ble_eq_true rfl) (show k + 40 ≤ 600000 by omega) (show n + 400 ≤ 7302250 by omega) dL_law_339 (fun y2 M2 hy2 J2 F2 => ?_)
  refine g_perm List.perm_append_comm ?_
  have hy : y1 = y2 := pair_q F1 F2
  refine g_pop (pc := 342) X rfl dL_law_342 ?_
  refine g_goto (pc := 343) X 1238 (by decide) dL_law_343 ?_
  exact kk np hb se nr tn ts prr ki ie Tb RC W2 M2 I2 J2

set_option maxHeartbeats 4000000 in
set_option maxRecDepth 100000 in
theorem law_paper {p : Program} {l : Launch} {e : Env} {s : State} {m : MethodId} {below : List Frame} {meth : Method} {c : Code} {b L : Nat} {xs : Nat → Int32} {Z : gZ} (X : Cx p s m #[Value.ref b] meth c cL_law 4 ret R_law Z (fun q => s.heap.size ≤ q)) (hX : va_X b L xs s s.heap) (hbl : b < s.heap.size) {o0 g0 k n : Nat} {i np hb se nr tn ts : Int} {prr ki ie Tb : Nat → Int} {RC : Nat → List (Nat → Int)} {W M : va_W} (I : cI Z o0 np hb se nr tn ts prr ki ie Tb RC W) (J : mI Z g0 np hb se nr tn ts prr ki ie Tb RC M) (hi : 0 ≤ i ∧ i + 6 ≤ (L : Int)) (hL : L ≤ 3072) (hk : k + 40 ≤ 600000) (hn : n + 400 ≤ 7302250) (kk : ∀ (np hb se nr tn ts : Int) (prr ki ie Tb : Nat → Int) (RC : Nat → List (Nat → Int)) (W M : va_W), cI Z o0 np hb se nr tn ts prr ki ie Tb RC W → mI Z g0 np hb se nr tn ts prr ki ie Tb RC M → Gs p l e room_1 s m #[Value.ref b] below meth c (lw_Z below #[Value.ref b] s) Z (fun q => s.heap.size ≤ q) 4 (k + 40) (n + 400) 1238 [(3, .int (iI i)), (2, .ref g0), (1, .ref o0), (0, .ref b)] [] (W ++ M)) : Gs p l e room_1 s m #[Value.ref b] below meth c (lw_Z below #[Value.ref b] s) Z (fun q => s.heap.size ≤ q) 4 k n 346 [(3, .int (iI i)), (2, .ref g0), (1, .ref o0), (0, .ref b)] [] (W ++ M) := by
  refine g_aload_n (pc := 346) X 2 rfl dL_law_346 ?_
  refine g_aload_n (pc := 347) X 3 rfl dL_law_347 ?_
  refine g_iload_n (pc := 348) X 0 rfl dL_law_348 ?_
  refine g_iconst (pc := 349) X (iI 1) (by rfl) dL_law_349 ?_
  refine g_iaddI (pc := 350) X dL_law_350 ?_
  refine g_sldI (pc := 351) X hX hbl (Nat.not_le.mpr hbl) (by omega) (by omega) (by omega) dL_law_351 (fun a1 ea1 b_a1 => ?_)
  refine g_aload_n (pc := 352) X 3 rfl dL_law_352 ?_
  refine g_iload_n (pc := 353) X 0 rfl dL_law_353 ?_
  refine g_iconst (pc := 354) X (iI 2) (by rfl) dL_law_354 ?_
  refine g_iaddI (pc := 355) X dL_law_355 ?_
  refine g_sldI (pc := 356) X hX hbl (Nat.not_le.mpr hbl) (by omega) (by omega) (by omega) dL_law_356 (fun a2 ea2 b_a2 => ?_)
  refine g_aload_n (pc := 357) X 3 rfl dL_law_357 ?_
  refine g_iload_n (pc := 358) X 0 rfl dL_law_358 ?_
  refine g_iconst (pc := 359) X (iI 3) (by rfl) dL_law_359 ?_
  refine g_iaddI (pc := 360) X dL_law_360 ?_
  refine g_sldI (pc := 361) X hX hbl (Nat.not_le.mpr hbl) (by omega) (by omega) (by omega) dL_law_361 (fun a3 ea3 b_a3 => ?_)
  refine g_aload_n (pc := 362) X 3 rfl dL_law_362 ?_
  refine g_iload_n (pc := 363) X 0 rfl dL_law_363 ?_
  refine g_iconst (pc := 364) X (iI 4) (by rfl) dL_law_364 ?_
  refine g_iaddI (pc := 365) X dL_law_365 ?_
  refine g_sldI (pc := 366) X hX hbl (Nat.not_le.mpr hbl) (by omega) (by omega) (by omega) dL_law_366 (fun a4 ea4 b_a4 => ?_)
  refine g_aload_n (pc := 367) X 3 rfl dL_law_367 ?_
  refine g_iload_n (pc := 368) X 0 rfl dL_law_368 ?_
  refine g_iconst (pc := 369) X (iI 5) (by rfl) dL_law_369 ?_
  refine g_iaddI (pc := 370) X dL_law_370 ?_
  refine g_sldI (pc := 371) X hX hbl (Nat.not_le.mpr hbl) (by omega) (by omega) (by omega) dL_law_371 (fun a5 ea5 b_a5 => ?_)
  refine B_X11_paper (pc := 372) X I b_a1 b_a2 b_a3 b_a4 b_a5 mw_30_22 (Nat.le_of_ble_eq_true rfl) (Nat.le_of_ble_eq_true rfl) (Nat.le_of_ble_eq_true rfl) (show k + 40 ≤ 600000 by omega) (show n + 400 ≤ 7302250 by omega) dL_law_372 (fun y1 W2 np2 prr2 hy1 I2 F1 => ?_)
  refine g_pop (pc := 375) X rfl dL_law_375 ?_
  refine g_aload_n (pc := 376) X 1 rfl dL_law_376 ?_
  refine g_aload_n (pc := 377) X 3 rfl dL_law_377 ?_
  refine g_iload_n (pc := 378) X 0 rfl dL_law_378 ?_
  refine g_iconst (pc := 379) X (iI 1) (by rfl) dL_law_379 ?_
  refine g_iaddI (pc := 380) X dL_law_380 ?_
  refine g_sldE (pc := 381) X hX hbl (Nat.not_le.mpr hbl) ea1 (by omega) (by omega) (by omega) dL_law_381 ?_
  refine g_aload_n (pc := 382) X 3 rfl dL_law_382 ?_
  refine g_iload_n (pc := 383) X 0 rfl dL_law_383 ?_
  refine g_iconst (pc := 384) X (iI 2) (by rfl) dL_law_384 ?_
  refine g_iaddI (pc := 385) X dL_law_385 ?_
  refine g_sldE (pc := 386) X hX hbl (Nat.not_le.mpr hbl) ea2 (by omega) (by omega) (by omega) dL_law_386 ?_
  refine g_aload_n (pc := 387) X 3 rfl dL_law_387 ?_
  refine g_iload_n (pc := 388) X 0 rfl dL_law_388 ?_
  refine g_iconst (pc := 389) X (iI 3) (by rfl) dL_law_389 ?_
  refine g_iaddI (pc := 390) X dL_law_390 ?_
  refine g_sldE (pc := 391) X hX hbl (Nat.not_le.mpr hbl) ea3 (by omega) (by omega) (by omega) dL_law_391 ?_
  refine g_aload_n (pc := 392) X 3 rfl dL_law_392 ?_
  refine g_iload_n (pc := 393) X 0 rfl dL_law_393 ?_
  refine g_iconst (pc := 394) X (iI 4) (by rfl) dL_law_394 ?_
  refine g_iaddI (pc := 395) X dL_law_395 ?_
  refine g_sldE (pc := 396) X hX hbl (Nat.not_le.mpr hbl) ea4 (by omega) (by omega) (by omega) dL_law_396 ?_
  refine g_aload_n (pc := 397) X 3 rfl dL_law_397 ?_
  refine g_iload_n (pc := 398) X 0 rfl dL_law_398 ?_
  refine g_iconst (pc := 399) X (iI 5) (by rfl) dL_law_399 ?_
  refine g_iaddI (pc := 400) X dL_law_400 ?_
  refine g_sldE (pc := 401) X hX hbl (Nat.not_le.mpr hbl) ea5 (by omega) (by omega) (by omega) dL_law_401 ?_
  refine g_perm List.perm_append_comm ?_
  refine M_X12_paper (pc := 402) X J b_a1 b_a2 b_a3 b_a4 b_a5 mw_31_13 (Nat.le_of_ble_eq_true rfl) (Nat.le_of_ble_eq_true rfl) (Nat.le_of_ble_eq_true rfl) (show k + 40 ≤ 600000 by omega) (show n + 400 ≤ 7302250 by omega) dL_law_402 (fun y2 M2 np3 prr3 hy2 J2 F2 => ?_)
  refine g_perm List.perm_append_comm ?_
  have hE : y1 = y2 ∧ np2 = np3 ∧ prr2 = prr3 := pair_paper F1 F2
  obtain ⟨hy, rfl, rfl⟩ := hE
  refine g_pop (pc := 405) X rfl dL_law_405 ?_
  refine g_goto (pc := 406) X 1238 (by decide) dL_law_406 ?_
  exact kk np2 hb se nr tn ts prr2 ki ie Tb RC W2 M2 I2 J2

set_option maxHeartbeats 4000000 in
set_option maxRecDepth 100000 in
theorem law_trim {p : Program} {l : Launch} {e : Env} {s : State} {m : MethodId} {below : List Frame} {meth : Method} {c : Code} {b L : Nat} {xs : Nat → Int32} {Z : gZ} (X : Cx p s m #[Value.ref b] meth c cL_law 4 ret R_law Z (fun q => s.heap.size ≤ q)) (hX : va_X b L xs s s.heap) (hbl : b < s.heap.size) {o0 g0 k n : Nat} {i np hb se nr tn ts : Int} {prr ki ie Tb : Nat → Int} {RC : Nat → List (Nat → Int)} {W M : va_W} (I : cI Z o0 np hb se nr tn ts prr ki ie Tb RC W) (J : mI Z g0 np hb se nr tn ts prr ki ie Tb RC M) (hi : 0 ≤ i ∧ i + 6 ≤ (L : Int)) (hL : L ≤ 3072) (hk : k + 40 ≤ 600000) (hn : n + 400 ≤ 7302250) (kk : ∀ (np hb se nr tn ts : Int) (prr ki ie Tb : Nat → Int) (RC : Nat → List (Nat → Int)) (W M : va_W), cI Z o0 np hb se nr tn ts prr ki ie Tb RC W → mI Z g0 np hb se nr tn ts prr ki ie Tb RC M → Gs p l e room_1 s m #[Value.ref b] below meth c (lw_Z below #[Value.ref b] s) Z (fun q => s.heap.size ≤ q) 4 (k + 40) (n + 400) 1238 [(3, .int (iI i)), (2, .ref g0), (1, .ref o0), (0, .ref b)] [] (W ++ M)) : Gs p l e room_1 s m #[Value.ref b] below meth c (lw_Z below #[Value.ref b] s) Z (fun q => s.heap.size ≤ q) 4 k n 409 [(3, .int (iI i)), (2, .ref g0), (1, .ref o0), (0, .ref b)] [] (W ++ M) := by
  refine g_aload_n (pc := 409) X 2 rfl dL_law_409 ?_
  refine g_aload_n (pc := 410) X 3 rfl dL_law_410 ?_
  refine g_iload_n (pc := 411) X 0 rfl dL_law_411 ?_
  refine g_iconst (pc := 412) X (iI 1) (by rfl) dL_law_412 ?_
  refine g_iaddI (pc := 413) X dL_law_413 ?_
  refine g_sldI (pc := 414) X hX hbl (Nat.not_le.mpr hbl) (by omega) (by omega) (by omega) dL_law_414 (fun a1 ea1 b_a1 => ?_)
  refine B_X11_trim (pc := 415) X I b_a1 mw_32_0 (Nat.le_of_ble_eq_true rfl) (Nat.le_of_ble_eq_true rfl) (Nat.le_of_ble_eq_true rfl) (show k + 40 ≤ 600000 by omega) (show n + 400 ≤ 7302250 by omega) dL_law_415 (fun y1 W2 tn2 hy1 I2 F1 => ?_)
  refine g_pop (pc := 418) X rfl dL_law_418 ?_
  refine g_aload_n (pc := 419) X 1 rfl dL_law_419 ?_
  refine g_aload_n (pc := 420) X 3 rfl dL_law_420 ?_
  refine g_iload_n (pc := 421) X 0 rfl dL_law_421 ?_
  refine g_iconst (pc := 422) X (iI 1) (by rfl) dL_law_422 ?_
  refine g_iaddI (pc := 423) X dL_law_423 ?_
  refine g_sldE (pc := 424) X hX hbl (Nat.not_le.mpr hbl) ea1 (by omega) (by omega) (by omega) dL_law_424 ?_
  refine g_perm List.perm_append_comm ?_
  refine M_X12_trim (pc := 425) X J b_a1 mw_32_4 (Nat.le_of_ble_eq_true rfl) (Nat.le_of_ble_eq_true rfl) (Nat.le_of_ble_eq_true rfl) (show k + 40 ≤ 600000 by omega) (show n + 400 ≤ 7302250 by omega) dL_law_425 (fun y2 M2 tn3 hy2 J2 F2 => ?_)
  refine g_perm List.perm_append_comm ?_
  have hE : y1 = y2 ∧ tn2 = tn3 := by omega
  obtain ⟨hy, rfl⟩ := hE
  refine g_pop (pc := 428) X rfl dL_law_428 ?_
  refine g_goto (pc := 429) X 1238 (by decide) dL_law_429 ?_
  exact kk np hb se nr tn2 ts prr ki ie Tb RC W2 M2 I2 J2

set_option maxHeartbeats 4000000 in
set_option maxRecDepth 100000 in
theorem law_done {p : Program} {l : Launch} {e : Env} {s : State} {m : MethodId} {below : List Frame} {meth : Method} {c : Code} {b L : Nat} {xs : Nat → Int32} {Z : gZ} (X : Cx p s m #[Value.ref b] meth c cL_law 4 ret R_law Z (fun q => s.heap.size ≤ q)) (hX : va_X b L xs s s.heap) (hbl : b < s.heap.size) {o0 g0 k n : Nat} {i np hb se nr tn ts : Int} {prr ki ie Tb : Nat → Int} {RC : Nat → List (Nat → Int)} {W M : va_W} (I : cI Z o0 np hb se nr tn ts prr ki ie Tb RC W) (J : mI Z g0 np hb se nr tn ts prr ki ie Tb RC M) (hi : 0 ≤ i ∧ i + 6 ≤ (L : Int)) (hL : L ≤ 3072) (hk : k + 40 ≤ 600000) (hn : n + 400 ≤ 7302250) (kk : ∀ (np hb se nr tn ts : Int) (prr ki ie Tb : Nat → Int) (RC : Nat → List (Nat → Int)) (W M : va_W), cI Z o0 np hb se nr tn ts prr ki ie Tb RC W → mI Z g0 np hb se nr tn ts prr ki ie Tb RC M → Gs p l e room_1 s m #[Value.ref b] below meth c (lw_Z below #[Value.ref b] s) Z (fun q => s.heap.size ≤ q) 4 (k + 40) (n + 400) 1238 [(3, .int (iI i)), (2, .ref g0), (1, .ref o0), (0, .ref b)] [] (W ++ M)) : Gs p l e room_1 s m #[Value.ref b] below meth c (lw_Z below #[Value.ref b] s) Z (fun q => s.heap.size ≤ q) 4 k n 432 [(3, .int (iI i)), (2, .ref g0), (1, .ref o0), (0, .ref b)] [] (W ++ M) := by
  refine g_aload_n (pc := 432) X 2 rfl dL_law_432 ?_
  refine g_aload_n (pc := 433) X 3 rfl dL_law_433 ?_
  refine g_iload_n (pc := 434) X 0 rfl dL_law_434 ?_
  refine g_iconst (pc := 435) X (iI 1) (by rfl) dL_law_435 ?_
  refine g_iaddI (pc := 436) X dL_law_436 ?_
  refine g_sldI (pc := 437) X hX hbl (Nat.not_le.mpr hbl) (by omega) (by omega) (by omega) dL_law_437 (fun a1 ea1 b_a1 => ?_)
  refine g_aload_n (pc := 438) X 3 rfl dL_law_438 ?_
  refine g_iload_n (pc := 439) X 0 rfl dL_law_439 ?_
  refine g_iconst (pc := 440) X (iI 2) (by rfl) dL_law_440 ?_
  refine g_iaddI (pc := 441) X dL_law_441 ?_
  refine g_sldI (pc := 442) X hX hbl (Nat.not_le.mpr hbl) (by omega) (by omega) (by omega) dL_law_442 (fun a2 ea2 b_a2 => ?_)
  refine g_aload_n (pc := 443) X 3 rfl dL_law_443 ?_
  refine g_iload_n (pc := 444) X 0 rfl dL_law_444 ?_
  refine g_iconst (pc := 445) X (iI 3) (by rfl) dL_law_445 ?_
  refine g_iaddI (pc := 446) X dL_law_446 ?_
  refine g_sldI (pc := 447) X hX hbl (Nat.not_le.mpr hbl) (by omega) (by omega) (by omega) dL_law_447 (fun a3 ea3 b_a3 => ?_)
  refine g_aload_n (pc := 448) X 3 rfl dL_law_448 ?_
  refine g_iload_n (pc := 449) X 0 rfl dL_law_449 ?_
  refine g_iconst (pc := 450) X (iI 4) (by rfl) dL_law_450 ?_
  refine g_iaddI (pc := 451) X dL_law_451 ?_
  refine g_sldI (pc := 452) X hX hbl (Nat.not_le.mpr hbl) (by omega) (by omega) (by omega) dL_law_452 (fun a4 ea4 b_a4 => ?_)
  refine B_X11_done (pc := 453) X I b_a1 b_a2 b_a3 b_a4 mw_32_8 (Nat.le_of_ble_eq_true rfl) (Nat.le_of_ble_eq_true rfl) (Nat.le_of_ble_eq_true rfl) (show k + 40 ≤ 600000 by omega) (show n + 400 ≤ 7302250 by omega) dL_law_453 (fun y1 W2 hy1 I2 => ?_)
  refine g_pop (pc := 456) X rfl dL_law_456 ?_
  refine g_aload_n (pc := 457) X 1 rfl dL_law_457 ?_
  refine g_aload_n (pc := 458) X 3 rfl dL_law_458 ?_
  refine g_iload_n (pc := 459) X 0 rfl dL_law_459 ?_
  refine g_iconst (pc := 460) X (iI 1) (by rfl) dL_law_460 ?_
  refine g_iaddI (pc := 461) X dL_law_461 ?_
  refine g_sldE (pc := 462) X hX hbl (Nat.not_le.mpr hbl) ea1 (by omega) (by omega) (by omega) dL_law_462 ?_
  refine g_aload_n (pc := 463) X 3 rfl dL_law_463 ?_
  refine g_iload_n (pc := 464) X 0 rfl dL_law_464 ?_
  refine g_iconst (pc := 465) X (iI 2) (by rfl) dL_law_465 ?_
  refine g_iaddI (pc := 466) X dL_law_466 ?_
  refine g_sldE (pc := 467) X hX hbl (Nat.not_le.mpr hbl) ea2 (by omega) (by omega) (by omega) dL_law_467 ?_
  refine g_aload_n (pc := 468) X 3 rfl dL_law_468 ?_
  refine g_iload_n (pc := 469) X 0 rfl dL_law_469 ?_
  refine g_iconst (pc := 470) X (iI 3) (by rfl) dL_law_470 ?_
  refine g_iaddI (pc := 471) X dL_law_471 ?_
  refine g_sldE (pc := 472) X hX hbl (Nat.not_le.mpr hbl) ea3 (by omega) (by omega) (by omega) dL_law_472 ?_
  refine g_aload_n (pc := 473) X 3 rfl dL_law_473 ?_
  refine g_iload_n (pc := 474) X 0 rfl dL_law_474 ?_
  refine g_iconst (pc := 475) X (iI 4) (by rfl) dL_law_475 ?_
  refine g_iaddI (pc := 476) X dL_law_476 ?_
  refine g_sldE (pc := 477) X hX hbl (Nat.not_le.mpr hbl) ea4 (by omega) (by omega) (by omega) dL_law_477 ?_
  refine g_perm List.perm_append_comm ?_
  refine M_X12_done (pc := 478) X J b_a1 b_a2 b_a3 b_a4 mw_32_14 (Nat.le_of_ble_eq_true rfl) (Nat.le_of_ble_eq_true rfl) (Nat.le_of_ble_eq_true rfl) (show k + 40 ≤ 600000 by omega) (show n + 400 ≤ 7302250 by omega) dL_law_478 (fun y2 M2 hy2 J2 => ?_)
  refine g_perm List.perm_append_comm ?_
  refine g_pop (pc := 481) X rfl dL_law_481 ?_
  refine g_goto (pc := 482) X 1238 (by decide) dL_law_482 ?_
  exact kk np hb se nr tn ts prr ki ie Tb RC W2 M2 I2 J2

set_option maxHeartbeats 4000000 in
set_option maxRecDepth 100000 in
theorem law_strip {p : Program} {l : Launch} {e : Env} {s : State} {m : MethodId} {below : List Frame} {meth : Method} {c : Code} {b L : Nat} {xs : Nat → Int32} {Z : gZ} (X : Cx p s m #[Value.ref b] meth c cL_law 4 ret R_law Z (fun q => s.heap.size ≤ q)) (hX : va_X b L xs s s.heap) (hbl : b < s.heap.size) {o0 g0 k n : Nat} {i np hb se nr tn ts : Int} {prr ki ie Tb : Nat → Int} {RC : Nat → List (Nat → Int)} {W M : va_W} (I : cI Z o0 np hb se nr tn ts prr ki ie Tb RC W) (J : mI Z g0 np hb se nr tn ts prr ki ie Tb RC M) (hi : 0 ≤ i ∧ i + 6 ≤ (L : Int)) (hL : L ≤ 3072) (hk : k + 40 ≤ 600000) (hn : n + 400 ≤ 7302250) (kk : ∀ (np hb se nr tn ts : Int) (prr ki ie Tb : Nat → Int) (RC : Nat → List (Nat → Int)) (W M : va_W), cI Z o0 np hb se nr tn ts prr ki ie Tb RC W → mI Z g0 np hb se nr tn ts prr ki ie Tb RC M → Gs p l e room_1 s m #[Value.ref b] below meth c (lw_Z below #[Value.ref b] s) Z (fun q => s.heap.size ≤ q) 4 (k + 40) (n + 400) 1238 [(3, .int (iI i)), (2, .ref g0), (1, .ref o0), (0, .ref b)] [] (W ++ M)) : Gs p l e room_1 s m #[Value.ref b] below meth c (lw_Z below #[Value.ref b] s) Z (fun q => s.heap.size ≤ q) 4 k n 485 [(3, .int (iI i)), (2, .ref g0), (1, .ref o0), (0, .ref b)] [] (W ++ M) := by
  refine g_aload_n (pc := 485) X 2 rfl dL_law_485 ?_
  refine g_aload_n (pc := 486) X 3 rfl dL_law_486 ?_
  refine g_iload_n (pc := 487) X 0 rfl dL_law_487 ?_
  refine g_iconst (pc := 488) X (iI 1) (by rfl) dL_law_488 ?_
  refine g_iaddI (pc := 489) X dL_law_489 ?_
  refine g_sldI (pc := 490) X hX hbl (Nat.not_le.mpr hbl) (by omega) (by omega) (by omega) dL_law_490 (fun a1 ea1 b_a1 => ?_)
  refine g_aload_n (pc := 491) X 3 rfl dL_law_491 ?_
  refine g_iload_n (pc := 492) X 0 rfl dL_law_492 ?_
  refine g_iconst (pc := 493) X (iI 2) (by rfl) dL_law_493 ?_
  refine g_iaddI (pc := 494) X dL_law_494 ?_
  refine g_sldI (pc := 495) X hX hbl (Nat.not_le.mpr hbl) (by omega) (by omega) (by omega) dL_law_495 (fun a2 ea2 b_a2 => ?_)
  refine g_aload_n (pc := 496) X 3 rfl dL_law_496 ?_
  refine g_iload_n (pc := 497) X 0 rfl dL_law_497 ?_
  refine g_iconst (pc := 498) X (iI 3) (by rfl) dL_law_498 ?_
  refine g_iaddI (pc := 499) X dL_law_499 ?_
  refine g_sldI (pc := 500) X hX hbl (Nat.not_le.mpr hbl) (by omega) (by omega) (by omega) dL_law_500 (fun a3 ea3 b_a3 => ?_)
  refine B_X11_strip (pc := 501) X I b_a1 b_a2 b_a3 mw_32_22 (Nat.le_of_ble_eq_true rfl) (Nat.le_of_ble_eq_true rfl) (Nat.le_of_ble_eq_true rfl) (show k + 40 ≤ 600000 by omega) (show n + 400 ≤ 7302250 by omega) dL_law_501 (fun y1 W2 hy1 I2 => ?_)
  refine g_pop (pc := 504) X rfl dL_law_504 ?_
  refine g_aload_n (pc := 505) X 1 rfl dL_law_505 ?_
  refine g_aload_n (pc := 506) X 3 rfl dL_law_506 ?_
  refine g_iload_n (pc := 507) X 0 rfl dL_law_507 ?_
  refine g_iconst (pc := 508) X (iI 1) (by rfl) dL_law_508 ?_
  refine g_iaddI (pc := 509) X dL_law_509 ?_
  refine g_sldE (pc := 510) X hX hbl (Nat.not_le.mpr hbl) ea1 (by omega) (by omega) (by omega) dL_law_510 ?_
  refine g_aload_n (pc := 511) X 3 rfl dL_law_511 ?_
  refine g_iload_n (pc := 512) X 0 rfl dL_law_512 ?_
  refine g_iconst (pc := 513) X (iI 2) (by rfl) dL_law_513 ?_
  refine g_iaddI (pc := 514) X dL_law_514 ?_
  refine g_sldE (pc := 515) X hX hbl (Nat.not_le.mpr hbl) ea2 (by omega) (by omega) (by omega) dL_law_515 ?_
  refine g_aload_n (pc := 516) X 3 rfl dL_law_516 ?_
  refine g_iload_n (pc := 517) X 0 rfl dL_law_517 ?_
  refine g_iconst (pc := 518) X (iI 3) (by rfl) dL_law_518 ?_
  refine g_iaddI (pc := 519) X dL_law_519 ?_
  refine g_sldE (pc := 520) X hX hbl (Nat.not_le.mpr hbl) ea3 (by omega) (by omega) (by omega) dL_law_520 ?_
  refine g_perm List.perm_append_comm ?_
  refine M_X12_strip (pc := 521) X J b_a1 b_a2 b_a3 mw_33_8 (Nat.le_of_ble_eq_true rfl) (Nat.le_of_ble_eq_true rfl) (Nat.le_of_ble_eq_true rfl) (show k + 40 ≤ 600000 by omega) (show n + 400 ≤ 7302250 by omega) dL_law_521 (fun y2 M2 hy2 J2 => ?_)
  refine g_perm List.perm_append_comm ?_
  refine g_pop (pc := 524) X rfl dL_law_524 ?_
  refine g_goto (pc := 525) X 1238 (by decide) dL_law_525 ?_
  exact kk np hb se nr tn ts prr ki ie Tb RC W2 M2 I2 J2
