theorem lv_args_is (as : List Value) (lv : List (Nat × Value)) (h : lv_args 0 as = lv) : lv_args 0 as = lv := h
section GCALL
variable {p : Program} {l : Launch} {e : Env} {R : Room} {s : State} {m : MethodId} {args : Array Value} {below : List Frame} {meth : Method} {c : Code} {Q : State → Prop} {Z : gZ} {A : Nat → Prop} {nL k n pc : Nat} {lv : List (Nat × Value)} {st : List Value} {ws : va_W} {cc : ByteArray} {ret : Option FieldType} {own : String}
/-- int[n][k]: the outer row, then its inner ones -/
theorem g_mna (X : Cx p s m args meth c cc nL ret own Z A) {x y : Int32} {i : Nat} (N K : Nat) (hcl : Cond.classLink own i "[[I" ∈ wU) (hx : ¬ x < 0) (hy : ¬ y < 0) (hN : x.toNatClampNeg = N) (hK : y.toNatClampNeg = K) (hb1 : N ≤ 100000) (hb2 : K ≤ 100000) (hcells : k + (1 + N) ≤ R.cells) (hslots : n + (N + N * K) ≤ R.slots) (hd : decode cc pc = .ok (.multianewarray i 2, 4))
    (kk : ∀ q : Nat, Gs p l e R s m args below meth c Q Z A nL (k + 1 + N) (n + N + N * K) (pc + 4) lv (.ref q :: st) (ws ++ (q, .inl (Z.2.1 6, N, .inr (.inr (.inr (.inr (fun j => if j < N then some (q + 1 + j) else none)))))) :: (List.range N).map (fun j => (q + 1 + j, .inl (Z.2.1 0, K, .inl (fun _ => 0)))))) : Gs p l e R s m args below meth c Q Z A nL k n pc lv (.int y :: .int x :: st) ws := by
  subst hN
  subst hK
  intro H locs ls hP hD hS hl T hT XT
  obtain ⟨vm₁, XF, step⟩ := mg_step XT X.ex X.ow (X.ts _ hcl) X.gk.2.2.1.2.2.2.2 (g := F0 m pc ls (.int y :: .int x :: st)) rfl (by rw [X.by']; exact hd) rfl hx hy hb1 hb2 hcells hslots
  have hsz : (T.setVm vm₁).heap.size = H.size := by show T.heap.size = _; rw [hT]
  have hTh : ∀ a : Nat, (T.setVm vm₁).heap[a]? = H[a]? := fun a => by show T.heap[a]? = _; rw [hT]
  generalize hF : mgF (T.setVm vm₁) (Z.2.1 6) (Z.2.1 0) x.toNatClampNeg y.toNatClampNeg x.toNatClampNeg = F at XF step
  have hold : ∀ a : Nat, a < H.size → F.heap[a]? = H[a]? := fun a ha => by rw [← hF, mgF_old _ _ _ _ _ (by rw [hsz]; exact ha), hTh]
  have hhead : F.heap[H.size]? = some (mgC (Z.2.1 6) x.toNatClampNeg H.size x.toNatClampNeg) := by rw [← hF, ← hsz]; exact mgF_head _ _ _ _ _ _
  have hrow : ∀ j : Nat, j < x.toNatClampNeg → F.heap[H.size + 1 + j]? = some (mgR (Z.2.1 0) y.toNatClampNeg) := fun j hj => by rw [← hF, ← hsz]; exact mgF_row _ _ _ _ _ _ j hj
  have hbig : F.heap.size = H.size + 1 + x.toNatClampNeg := by rw [← hF, mgF_size, hsz]
  have hcellAt : ∀ (a : Nat) (q : Nat × va_E), ((H.size, .inl (Z.2.1 6, x.toNatClampNeg, .inr (.inr (.inr (.inr (fun j => if j < x.toNatClampNeg then some (H.size + 1 + j) else none)))))) :: (List.range x.toNatClampNeg).map (fun j => ((H.size + 1 + j, .inl (Z.2.1 0, y.toNatClampNeg, .inl (fun _ => 0))) : Nat × va_E)))[a]? = some q → q.1 = H.size + a ∧ va_at Z.1 vwCl q F.heap := by
    intro a q hq
    cases a with
    | zero =>
      cases hq
      refine ⟨rfl, ?_⟩
      show F.heap[H.size]? = some (vp_cell _ _)
      rw [vp_cell_q]
      exact hhead
    | succ a =>
      rw [List.getElem?_cons_succ, List.getElem?_map] at hq
      by_cases ha : a < x.toNatClampNeg
      · rw [List.getElem?_range ha] at hq
        cases hq
        refine ⟨by show H.size + 1 + a = _; omega, ?_⟩
        show F.heap[H.size + 1 + a]? = some (vp_cell _ _)
        rw [hrow a ha]
        rfl
      · rw [List.getElem?_eq_none (by rw [List.length_range]; omega)] at hq
        cases hq
  obtain ⟨t, a1, b1⟩ := kk H.size F.heap locs ls ((hP.kept (fun a q hq => hold q.1 ((hP a q hq).lt))).app (fun a q hq => (hcellAt a q hq).2)) (va_D.app hD ⟨fun a b q r hq hr h => by have := (hcellAt a q hq).1; have := (hcellAt b r hr).1; omega, fun a q hq => X.ha _ (by have := (hcellAt a q hq).1; have := hS.1; omega)⟩ (fun a b q r hq hr h => by have := (hcellAt b r hr).1; have := (hP a q hq).lt; omega)) ⟨by rw [hbig]; have := hS.1; omega, fun a h1 h2 => (hold a (Nat.lt_of_lt_of_le h1 hS.1)).trans (hS.2.1 a h1 h2), hS.2.2⟩ hl F rfl XF
  refine ⟨t, step t ?_, b1⟩
  rw [show T.heap.size = H.size by rw [hT]]
  exact a1
theorem enter {y : MethodName} {fr lo mc ms : Nat} {as : List Value} {w : va_W} {Po : Option Value → va_W → Prop} (hy : plainName y.cls = true) (hn : (lg_sl as).length ≤ nL)
    (body : ∀ (p : Program) (e : Env) (s : State) (m : MethodId) (args : Array Value) (below : List Frame) (meth : Method) (c : Code) (A : Nat → Prop), Cx p s m args meth c cc nL ret y.cls Z A → meth.name = y.name → va_A w s.heap.size = A → Gs p l e { frames := fr, cells := mc, slots := ms, locals := lo } s m args below meth c (MQ below (gPost Z w s.heap.size Po) args s mc ms (va_A w s.heap.size)) Z A nL 0 0 0 (lv_args 0 as) [] w) : Con l Z y cc nL ret fr lo mc ms as w Po := by
  intro sz
  refine Met.ofW (cc := cc) (maxL := nL) (ret := ret) hy rfl ?_
  intro p e s m args below meth c s₁ B hml hv
  obtain ⟨rfl, hsz, hP, hK, hSt, hD⟩ := hv
  subst hsz
  have hts := atoms_spec (ws := Cond.code y cc nL ret :: wU) B.pre
  have hC : Cx p s m as.toArray meth c cc nL ret y.cls Z (va_A w s.heap.size) := ⟨B.exec, B.bytes, B.returns, hml, findClass_of_methodNamed B.named, fun w h => hts w (List.mem_cons_of_mem _ h), hK, hSt, B.notSynchronized, fun q h => Or.inr h⟩
  have h := body p e s m as.toArray below meth c _ hC (name_of_methodNamed B.named B.method).1 rfl
  rw [lg_entry_eq]
  exact h s.heap [] _ hP hD.self va_S.rf (lv_entry as hn)
theorem g_iret {w : va_W} {Po : Option Value → va_W → Prop} {mc ms : Nat} (X : Cx p s m args meth c cc nL (some .int) own Z A) (hA : va_A w s.heap.size = A) {v : Int32} (hPo : Po (some (.int v)) ws) (hk : k ≤ mc) (hn : n ≤ ms) (hd : decode cc pc = .ok (.ireturn, 1)) : Gs p l e R s m args below meth c (MQ below (gPost Z w s.heap.size Po) args s mc ms (va_A w s.heap.size)) Z A nL k n pc lv [.int v] ws := by
  subst hA
  exact fun H locs ls hP hD hS hl => W.widen hk hn (W.iret X.ex X.by' X.re (fun t ht hW => ⟨⟨_, ws, rfl, hPo, by rw [ht]; exact hP, hD⟩, hS.F ht⟩) hS.2.2 hd X.lk)
theorem g_zret {w : va_W} {Po : Option Value → va_W → Prop} {mc ms : Nat} (X : Cx p s m args meth c cc nL (some .boolean) own Z A) (hA : va_A w s.heap.size = A) {v : Int32} (hv : narrow .boolean (.int v) = .int v) (hPo : Po (some (.int v)) ws) (hk : k ≤ mc) (hn : n ≤ ms) (hd : decode cc pc = .ok (.ireturn, 1)) : Gs p l e R s m args below meth c (MQ below (gPost Z w s.heap.size Po) args s mc ms (va_A w s.heap.size)) Z A nL k n pc lv [.int v] ws := by
  subst hA
  exact fun H locs ls hP hD hS hl => W.widen hk hn (W.zret X.ex X.by' X.re hv (fun t ht hW => ⟨⟨_, ws, rfl, hPo, by rw [ht]; exact hP, hD⟩, hS.F ht⟩) hS.2.2 hd X.lk)
theorem g_vret {w : va_W} {Po : Option Value → va_W → Prop} {mc ms : Nat} (X : Cx p s m args meth c cc nL none own Z A) (hA : va_A w s.heap.size = A) (hPo : Po none ws) (hk : k ≤ mc) (hn : n ≤ ms) (hd : decode cc pc = .ok (.return_, 1)) : Gs p l e R s m args below meth c (MQ below (gPost Z w s.heap.size Po) args s mc ms (va_A w s.heap.size)) Z A nL k n pc lv [] ws := by
  subst hA
  exact fun H locs ls hP hD hS hl => W.widen hk hn (W.vret X.ex X.by' X.re (fun t ht hW => ⟨⟨_, ws, rfl, hPo, by rw [ht]; exact hP, hD⟩, hS.F ht⟩) hS.2.2 hd X.lk)
theorem g_aret {w : va_W} {Po : Option Value → va_W → Prop} {mc ms : Nat} {rt : FieldType} (X : Cx p s m args meth c cc nL (some rt) own Z A) (hrt : (∃ n, rt = .object n) ∨ ∃ t, rt = .array t) (hA : va_A w s.heap.size = A) {v : Value} (hv : v = .null ∨ ∃ a, v = .ref a) (hPo : Po (some v) ws) (hk : k ≤ mc) (hn : n ≤ ms) (hd : decode cc pc = .ok (.areturn, 1)) : Gs p l e R s m args below meth c (MQ below (gPost Z w s.heap.size Po) args s mc ms (va_A w s.heap.size)) Z A nL k n pc lv [v] ws := by
  subst hA
  exact fun H locs ls hP hD hS hl => W.widen hk hn (W.aret X.ex X.by' X.re hrt hv (fun t ht hW => ⟨⟨_, ws, rfl, hPo, by rw [ht]; exact hP, hD⟩, hS.F ht⟩) hS.2.2 hd X.lk)
/-- a method's own words -/
def gM (y : MethodName) (yc : ByteArray) (yL : Nat) (yr : Option FieldType) (ar : Nat) : Prop := Cond.code y yc yL yr ∈ wU ∧ Cond.initialized y.cls ∈ wU ∧ (y.cls ≠ "java/lang/invoke/MethodHandle" ∧ y.cls ≠ "java/lang/invoke/VarHandle" ∧ (parseMethodDescriptor y.desc).map (fun d => d.parameters.length) = some ar)
theorem g_pre {w : va_W} {as : List Value} {H : Heap} {locs : List Loc} (X : Cx p s m args meth c cc nL ret own Z A) (hP : va_P Z.1 vwCl ws H) (hD : va_D A ws) (hS : va_S A s.heap H locs) (isC : List Nat) (hnC : va_nd isC = true) (hC : isC.map (fun i => ws[i]?) = w.map some) : FrameBlind (gPre Z as w H.size) ∧ ∀ U : State, U.heap = H → s.WarmedH U.vm → gPre Z as w H.size as.toArray U := by
  refine ⟨fun a U g mk q => ⟨q.1, q.2.1, q.2.2.1, gK.same rfl q.2.2.2.1, gS.moved (u := U) (Vm.Alike.refl U.vm) q.2.2.2.2.1, q.2.2.2.2.2⟩, fun U hU hW => ?_⟩
  have hDw := hD.sub isC hnC hC
  have hPw : va_P Z.1 vwCl w H := gPw hP isC hC
  exact ⟨rfl, by rw [hU], by rw [hU]; exact hPw, gK.warm hW X.gk, by rw [hU]; exact gS.moved hW.alike ((gS.kept X.gs hS.2.1).narrow (va_free hD hS X.ha isC hC)), hDw.weaken (fun _ _ _ _ => trivial)⟩
theorem g_run {w wr : va_W} {Po : Option Value → va_W → Prop} {mc ms : Nat} {av : Array Value} {rest : List Value} (X : Cx p s m args meth c cc nL ret own Z A) (isC isR : List Nat) (hnC : va_nd isC = true) (hC : isC.map (fun i => ws[i]?) = w.map some) (hR : isR.map (fun i => ws[i]?) = wr.map some) (hnR : va_nd isR = true) (hdis : ∀ i ∈ isR, i ∉ isC)
    (hr : ∀ (H : Heap) (locs : List Loc) (ls : Array Slot), va_P Z.1 vwCl ws H → va_D A ws → va_S A s.heap H locs → lv_has ls nL lv → va_Run p l e R s m args below meth c H locs k n mc ms (F0 m pc ls st) rest (gPost Z w H.size Po av) (va_A w H.size))
    (kk : ∀ (r : Option Value) (w' : va_W), Po r w' → Gs p l e R s m args below meth c Q Z A nL (k + mc) (n + ms) (pc + 3) lv (r.toList ++ rest) (wr ++ w')) : Gs p l e R s m args below meth c Q Z A nL k n pc lv st ws := by
  intro H locs ls hP hD hS hl T hT XT
  have hF := va_free (wc := w) hD hS X.ha isC hC
  obtain ⟨v, st₀, t, T', L, h0, X', hL, e1, e2, ⟨⟨r, w', hv, hp, hP1, hD1⟩, hz, hk⟩, stp⟩ := hr H locs ls hP hD hS hl T hT XT
  cases hv
  rw [h0] at hz hk
  have hk' : ∀ q : Nat, q < H.size → ¬ va_A w H.size q → T'.heap[q]? = H[q]? := fun q a b => by rw [e1]; exact hk q a b
  obtain ⟨hP2, hD2⟩ := va_join hP hD isC isR hC hR hnR hdis hk' hF (by rw [e1]; exact hP1) hD1
  have hS2 : va_S A s.heap T'.heap (locs ++ L) := ⟨Nat.le_trans hS.1 (by rw [e1]; exact hz), fun q a b => by rw [hk' q (Nat.lt_of_lt_of_le a hS.1) (fun z => b (hF q z))]; exact hS.2.1 q a b, fun q hq => (List.mem_append.mp hq).elim (hS.2.2 q) (fun h => hF _ (hL q h))⟩
  obtain ⟨t2, a1, b1⟩ := kk _ w' hp T'.heap (locs ++ L) ls hP2 hD2 hS2 hl T' rfl X'
  exact ⟨t2, stp t2 a1, b1⟩
section
variable {y : MethodName} {yc : ByteArray} {yL ar i fr lo mc ms : Nat} {yr : Option FieldType} {w wr : va_W} {Po : Option Value → va_W → Prop} {As rest : List Value} {b : Nat}
theorem g_callS (X : Cx p s m args meth c cc nL ret own Z A) (hM : Con l Z y yc yL yr fr lo mc ms As w Po) (hm : gM y yc yL yr ar) (hl : Cond.methodLink own i y ∈ wU) (hs : Cond.static y ∈ wU) (isC isR : List Nat) (hC : isC.map (fun i => ws[i]?) = w.map some) (hR : isR.map (fun i => ws[i]?) = wr.map some) (hnd : va_nd isC = true ∧ va_nd isR = true ∧ ∀ i ∈ isR, i ∉ isC) (hn : As.length = ar) (hst : st = As.reverse ++ rest) (hw : (rest.map fun v => v.category).sum ≤ 8) (hroom : fr + 1 ≤ R.frames ∧ 8 + (yL + 11) + lo ≤ R.locals ∧ k + mc ≤ R.cells ∧ n + ms ≤ R.slots) (hd : decode cc pc = .ok (.invokestatic i, 3)) (kk : ∀ (r : Option Value) (w' : va_W), Po r w' → Gs p l e R s m args below meth c Q Z A nL (k + mc) (n + ms) (pc + 3) lv (r.toList ++ rest) (wr ++ w')) : Gs p l e R s m args below meth c Q Z A nL k n pc lv st ws :=
  g_run X isC isR hnd.1 hC hR hnd.2.1 hnd.2.2 (fun H locs ls hP hD hS hl' => va_runS ⟨X.ex, X.by', X.ml, X.ow, X.ts⟩ (hM H.size) ⟨callB_of ar X.ts (gGood hm.1) rfl rfl rfl (X.ts _ hm.2.1) (X.ts _ hl) hm.2.2 ⟨hroom.1, hroom.2.1⟩, X.ts _ hs⟩ (g_pre X hP hD hS isC hnd.1 hC) rfl hn hl'.1 hst (lv_room hw) hd hroom.2.2) kk
theorem g_callSN (X : Cx p s m args meth c cc nL ret own Z A) (hM : Con l Z y yc yL yr fr lo mc ms As w Po) (hm : gM y yc yL yr ar) (hl : (own, i, y) ∈ gNest) (hs : Cond.static y ∈ wU) (isC isR : List Nat) (hC : isC.map (fun i => ws[i]?) = w.map some) (hR : isR.map (fun i => ws[i]?) = wr.map some) (hnd : va_nd isC = true ∧ va_nd isR = true ∧ ∀ i ∈ isR, i ∉ isC) (hn : As.length = ar) (hst : st = As.reverse ++ rest) (hw : (rest.map fun v => v.category).sum ≤ 8) (hroom : fr + 1 ≤ R.frames ∧ 8 + (yL + 11) + lo ≤ R.locals ∧ k + mc ≤ R.cells ∧ n + ms ≤ R.slots) (hd : decode cc pc = .ok (.invokestatic i, 3)) (kk : ∀ (r : Option Value) (w' : va_W), Po r w' → Gs p l e R s m args below meth c Q Z A nL (k + mc) (n + ms) (pc + 3) lv (r.toList ++ rest) (wr ++ w')) : Gs p l e R s m args below meth c Q Z A nL k n pc lv st ws :=
  have e := X.gk.2.1 (own, i, y) hl
  g_run X isC isR hnd.1 hC hR hnd.2.1 hnd.2.2 (fun H locs ls hP hD hS hl' => va_runSN ⟨X.ex, X.by', X.ml, X.ow, X.ts⟩ (hM H.size) ⟨va_cnB ar X.ts (gGood hm.1) rfl rfl rfl e (X.ts _ hm.2.1) hm.2.2 ⟨hroom.1, hroom.2.1⟩, X.ts _ hs, trivial⟩ (g_pre X hP hD hS isC hnd.1 hC) rfl hn hl'.1 hst (lv_room hw) hd hroom.2.2) kk
theorem g_callV (X : Cx p s m args meth c cc nL ret own Z A) (hM : Con l Z y yc yL yr fr lo mc ms (.ref b :: As) w Po) (hm : gM y yc yL yr ar) (hl : Cond.methodLink own i y ∈ wU) (hin : Cond.instanceMethod y ∈ wU) (hse : Cond.selects y.cls y y ∈ wU) (q0 : Nat) {ci : Nat} {fs : List Value} {T : u_T} {N : Nat} (hq : ws[q0]? = some (b, .inr (ci, fs))) (hcl : vwCl[ci]? = some (y.cls, T, N)) (isC isR : List Nat) (hC : isC.map (fun i => ws[i]?) = w.map some) (hR : isR.map (fun i => ws[i]?) = wr.map some) (hnd : va_nd isC = true ∧ va_nd isR = true ∧ ∀ i ∈ isR, i ∉ isC) (hn : As.length = ar) (hst : st = As.reverse ++ .ref b :: rest) (hw : (rest.map fun v => v.category).sum ≤ 8) (hroom : fr + 1 ≤ R.frames ∧ 8 + (yL + 11) + lo ≤ R.locals ∧ k + mc ≤ R.cells ∧ n + ms ≤ R.slots) (hd : decode cc pc = .ok (.invokevirtual i, 3)) (kk : ∀ (r : Option Value) (w' : va_W), Po r w' → Gs p l e R s m args below meth c Q Z A nL (k + mc) (n + ms) (pc + 3) lv (r.toList ++ rest) (wr ++ w')) : Gs p l e R s m args below meth c Q Z A nL k n pc lv st ws :=
  g_run X isC isR hnd.1 hC hR hnd.2.1 hnd.2.2 (fun H locs ls hP hD hS hl' => va_runV ⟨X.ex, X.by', X.ml, X.ow, X.ts⟩ (hM H.size) ⟨callB_of ar X.ts (gGood hm.1) rfl rfl rfl (X.ts _ hm.2.1) (X.ts _ hl) hm.2.2 ⟨hroom.1, hroom.2.1⟩, X.ts _ hin, X.ts _ hse⟩ ⟨(g_pre X hP hD hS isC hnd.1 hC).1, va_recv X.ka hP hcl hq, (g_pre X hP hD hS isC hnd.1 hC).2⟩ rfl hn hl'.1 hst (lv_room hw) hd hroom.2.2) kk
theorem g_callI (X : Cx p s m args meth c cc nL ret own Z A) (hM : Con l Z y yc yL none fr lo mc ms (.ref b :: As) w Po) (hm : gM y yc yL none ar) (hy : y.name = "<init>") (hl : Cond.methodLink own i y ∈ wU) (hin : Cond.instanceMethod y ∈ wU) (isC isR : List Nat) (hC : isC.map (fun i => ws[i]?) = w.map some) (hR : isR.map (fun i => ws[i]?) = wr.map some) (hnd : va_nd isC = true ∧ va_nd isR = true ∧ ∀ i ∈ isR, i ∉ isC) (hn : As.length = ar) (hst : st = As.reverse ++ .ref b :: rest) (hw : (rest.map fun v => v.category).sum ≤ 8) (hroom : fr + 1 ≤ R.frames ∧ 8 + (yL + 11) + lo ≤ R.locals ∧ k + mc ≤ R.cells ∧ n + ms ≤ R.slots) (hd : decode cc pc = .ok (.invokespecial i, 3)) (kk : ∀ (r : Option Value) (w' : va_W), Po r w' → Gs p l e R s m args below meth c Q Z A nL (k + mc) (n + ms) (pc + 3) lv (r.toList ++ rest) (wr ++ w')) : Gs p l e R s m args below meth c Q Z A nL k n pc lv st ws :=
  g_run X isC isR hnd.1 hC hR hnd.2.1 hnd.2.2 (fun H locs ls hP hD hS hl' => va_runI ⟨X.ex, X.by', X.ml, X.ow, X.ts⟩ (hM H.size) ⟨callB_of ar X.ts (gGood hm.1) rfl rfl rfl (X.ts _ hm.2.1) (X.ts _ hl) hm.2.2 ⟨hroom.1, hroom.2.1⟩, hy, X.ts _ hin⟩ (g_pre X hP hD hS isC hnd.1 hC) rfl hn hl'.1 hst (lv_room hw) hd hroom.2.2) kk
end
end GCALL
