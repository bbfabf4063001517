/-! ===== String constants: the five words ===== -/
/-- the char at k of word j -/
def gCh (j k : Nat) : Int := ((gByt.getD j []).getD k 0).toInt
theorem gCh_ok : ∀ j, j < 5 → gLen.getD j 0 ≤ 6 ∧ ∀ k, k < gLen.getD j 0 → (97 ≤ gCh j k ∧ gCh j k ≤ 122) ∧ (gByt.getD j []).getD k 0 = iI (gCh j k) := by decide +kernel
section GSTR
variable {p : Program} {l : Launch} {e : Env} {R : Room} {s : State} {m : MethodId} {args : Array Value} {below : List Frame} {meth : Method} {c : Code} {Q : State → Prop} {Z : gZ} {A : Nat → Prop} {nL k n pc : Nat} {lv : List (Nat × Value)} {st : List Value} {ws : va_W} {cc : ByteArray} {ret : Option FieldType} {own : String}
theorem g_sCoder (X : Cx p s m args meth c cc nL ret own Z A) {i j : Nat} (hj : j < 5) (hl : Cond.fieldLink own i "java/lang/String" "coder" "B" ∈ wU) (hd : decode cc pc = .ok (.getfield i, 3)) (kk : Gs p l e R s m args below meth c Q Z A nL k n (pc + 3) lv (.int (iI 0) :: st) ws) : Gs p l e R s m args below meth c Q Z A nL k n pc lv (.ref (Z.2.2.1 j) :: st) ws := fun H locs ls hP hD hS hL => vk_getf X.ex X.by' (X.gs.1.1 j hj).2.1 hS X.ow (X.ts _ hl) (fun _ h => h) hd (kk H locs ls hP hD hS hL)
theorem g_sValue (X : Cx p s m args meth c cc nL ret own Z A) {i j : Nat} (hj : j < 5) (hl : Cond.fieldLink own i "java/lang/String" "value" "[B" ∈ wU) (hd : decode cc pc = .ok (.getfield i, 3)) (kk : Gs p l e R s m args below meth c Q Z A nL k n (pc + 3) lv (.ref (Z.2.2.2 j) :: st) ws) : Gs p l e R s m args below meth c Q Z A nL k n pc lv (.ref (Z.2.2.1 j) :: st) ws := fun H locs ls hP hD hS hL => vk_getf X.ex X.by' (X.gs.1.1 j hj).2.2.1 hS X.ow (X.ts _ hl) (fun _ h => h) hd (kk H locs ls hP hD hS hL)
theorem g_sLen (X : Cx p s m args meth c cc nL ret own Z A) {j : Nat} (hj : j < 5) (hd : decode cc pc = .ok (.arraylength, 1)) (kk : Gs p l e R s m args below meth c Q Z A nL k n (pc + 1) lv (.int (iI ((gLen.getD j 0 : Nat) : Int)) :: st) ws) : Gs p l e R s m args below meth c Q Z A nL k n pc lv (.ref (Z.2.2.2 j) :: st) ws := fun H locs ls hP hD hS hL => va_tlen X.ex X.by' (X.gs.1.1 j hj).2.2.2 hS (nI_iI _) hd (kk H locs ls hP hD hS hL)
theorem g_sByte (X : Cx p s m args meth c cc nL ret own Z A) {j : Nat} {a : Int} (hj : j < 5) (h0 : 0 ≤ a) (h1 : a < ((gLen.getD j 0 : Nat) : Int)) (hd : decode cc pc = .ok (.baload, 1)) (kk : Gs p l e R s m args below meth c Q Z A nL k n (pc + 1) lv (.int (iI (gCh j a.toNat)) :: st) ws) : Gs p l e R s m args below meth c Q Z A nL k n pc lv (.int (iI a) :: .ref (Z.2.2.2 j) :: st) ws := fun H locs ls hP hD hS hL => by
  have h6 := (gCh_ok j hj).1
  exact va_tb X.ex X.by' (X.gs.1.1 j hj).2.2.2 hS (iI_in h0 h1 ⟨by omega, by omega⟩) (by rw [iI_cl ⟨by omega, by omega⟩, ((gCh_ok j hj).2 a.toNat (by omega)).2]) hd (kk H locs ls hP hD hS hL)
theorem g_compact (X : Cx p s m args meth c cc nL ret own Z A) {i : Nat} (hl : Cond.fieldLink own i "java/lang/String" "COMPACT_STRINGS" "Z" ∈ wU) (hd : decode cc pc = .ok (.getstatic i, 3)) (kk : Gs p l e R s m args below meth c Q Z A nL k n (pc + 3) lv (.int (iI 1) :: st) ws) : Gs p l e R s m args below meth c Q Z A nL k n pc lv st ws := fun H locs ls hP hD hS hL => va_gets X.ex X.by' X.gs.2.1 hS X.ow (X.ts _ hl) (fun _ h => h) hd (kk H locs ls hP hD hS hL)
theorem g_sioobe (X : Cx p s m args meth c cc nL ret own Z A) {i : Nat} (hl : Cond.fieldLink own i "jdk/internal/util/Preconditions" "SIOOBE_FORMATTER" "Ljava/util/function/BiFunction;" ∈ wU) (hd : decode cc pc = .ok (.getstatic i, 3)) (k1 : Gs p l e R s m args below meth c Q Z A nL k n (pc + 3) lv (.null :: st) ws) (k2 : ∀ t : Nat, Gs p l e R s m args below meth c Q Z A nL k n (pc + 3) lv (.ref t :: st) ws) : Gs p l e R s m args below meth c Q Z A nL k n pc lv st ws := fun H locs ls hP hD hS hL => by
  rcases X.gs.2.2 with h | ⟨t, h⟩
  · exact va_gets X.ex X.by' h hS X.ow (X.ts _ hl) (fun _ h => h) hd (k1 H locs ls hP hD hS hL)
  · exact va_gets X.ex X.by' h hS X.ow (X.ts _ hl) (fun _ h => h) hd (k2 t H locs ls hP hD hS hL)
theorem g_nret {w : va_W} {Po : Option Value → va_W → Prop} {mc ms : Nat} {ty : FieldType} (X : Cx p s m args meth c cc nL (some ty) own Z A) (hA : va_A w s.heap.size = A) {v : Int32} (hv : narrow ty (.int v) = .int v) (hPo : Po (some (.int v)) ws) (hk : k ≤ mc) (hn : n ≤ ms) (hd : decode cc pc = .ok (.ireturn, 1)) : Gs p l e R s m args below meth c (MQ below (gPost Z w s.heap.size Po) args s mc ms (va_A w s.heap.size)) Z A nL k n pc lv [.int v] ws := by
  subst hA
  exact fun H locs ls hP hD hS hl => W.widen hk hn (W.zret X.ex X.by' X.re hv (fun t ht hW => ⟨⟨_, ws, rfl, hPo, by rw [ht]; exact hP, hD⟩, hS.F ht⟩) hS.2.2 hd X.lk)
theorem g_callVS {y : MethodName} {yc : ByteArray} {yL ar i fr lo mc ms : Nat} {yr : Option FieldType} {w wr : va_W} {Po : Option Value → va_W → Prop} {As rest : List Value} {j : Nat} (X : Cx p s m args meth c cc nL ret own Z A) (hj : j < 5) (hM : Con l Z y yc yL yr fr lo mc ms (.ref (Z.2.2.1 j) :: As) w Po) (hm : gM y yc yL yr ar) (hyc : y.cls = "java/lang/String") (hl : Cond.methodLink own i y ∈ wU) (hin : Cond.instanceMethod y ∈ wU) (hse : Cond.selects y.cls y y ∈ wU) (isC isR : List Nat) (hC : isC.map (fun i => ws[i]?) = w.map some) (hR : isR.map (fun i => ws[i]?) = wr.map some) (hnd : va_nd isC = true ∧ va_nd isR = true ∧ ∀ i ∈ isR, i ∉ isC) (hn : As.length = ar) (hst : st = As.reverse ++ .ref (Z.2.2.1 j) :: rest) (hw : (rest.map fun v => v.category).sum ≤ 8) (hroom : fr + 1 ≤ R.frames ∧ 8 + (yL + 11) + lo ≤ R.locals ∧ k + mc ≤ R.cells ∧ n + ms ≤ R.slots) (hd : decode cc pc = .ok (.invokevirtual i, 3)) (kk : ∀ (r : Option Value) (w' : va_W), Po r w' → Gs p l e R s m args below meth c Q Z A nL (k + mc) (n + ms) (pc + 3) lv (r.toList ++ rest) (wr ++ w')) : Gs p l e R s m args below meth c Q Z A nL k n pc lv st ws :=
  g_run X isC isR hnd.1 hC hR hnd.2.1 hnd.2.2 (fun H locs ls hP hD hS hl' => va_runV ⟨X.ex, X.by', X.ml, X.ow, X.ts⟩ (hM H.size) ⟨callB_of ar X.ts (gGood hm.1) rfl rfl rfl (X.ts _ hm.2.1) (X.ts _ hl) hm.2.2 ⟨hroom.1, hroom.2.1⟩, X.ts _ hin, X.ts _ hse⟩ ⟨(g_pre X hP hD hS isC hnd.1 hC).1, by rw [hyc]; exact vk_recv X.gs.1 hj hS, (g_pre X hP hD hS isC hnd.1 hC).2⟩ rfl hn hl'.1 hst (lv_room hw) hd hroom.2.2) kk
end GSTR
theorem nar_char {a : Int} (h : 0 ≤ a ∧ a ≤ 65535) : narrow .char (.int (iI a)) = .int (iI a) := by
  obtain ⟨j, rfl⟩ := Int.eq_ofNat_of_zero_le h.1
  rw [← nI_iI]
  exact (pk_charN (by omega)).1
theorem i2cE {a : Int} (h0 : 0 ≤ a) (h1 : a ≤ 65535) : ((iI a).toUInt32 % 65536).toInt32 = iI a := by
  obtain ⟨j, rfl⟩ := Int.eq_ofNat_of_zero_le h0
  rw [← nI_iI, pk_char, pk_tn (by omega)]
  rw [Nat.mod_eq_of_lt (by omega)]
theorem and255E {a : Int} (h0 : 0 ≤ a) (h1 : a ≤ 255) : iI a &&& iI 255 = iI a := by
  obtain ⟨j, rfl⟩ := Int.eq_ofNat_of_zero_le h0
  rw [← nI_iI]
  have h := pk_andN (n := j) (by omega) (m := iI 255) 8 (by decide)
  rw [h, Nat.mod_eq_of_lt (by omega)]
theorem shr0E {a : Int} : iI a >>> (iI 0 &&& 31) = iI a := sb_shr0 _
section GSTR2
variable {p : Program} {l : Launch} {e : Env} {R : Room} {s : State} {m : MethodId} {args : Array Value} {below : List Frame} {meth : Method} {c : Code} {Q : State → Prop} {Z : gZ} {A : Nat → Prop} {nL k n pc : Nat} {lv : List (Nat × Value)} {st : List Value} {ws : va_W} {cc : ByteArray} {ret : Option FieldType} {own : String}
theorem g_i2c (X : Cx p s m args meth c cc nL ret own Z A) {x : Int32} (hd : decode cc pc = .ok (.i2c, 1)) (kk : Gs p l e R s m args below meth c Q Z A nL k n (pc + 1) lv (.int (x.toUInt32 % 65536).toInt32 :: st) ws) : Gs p l e R s m args below meth c Q Z A nL k n pc lv (.int x :: st) ws := fun H locs ls hP hD hS hl => lv_i2c X.ex X.by' hd rfl (kk H locs ls hP hD hS hl)
end GSTR2
