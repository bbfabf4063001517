/-! ===== new int[n][k] over the machine, my own walk of it (the rows that the printed names bring for it lean on words that no round has) ===== -/
def mgC (c : ClassId) (N h i : Nat) : Cell := arrV c N (fun j => va_rf (if j < i then some (h + 1 + j) else none))
def mgR (comp : ClassId) (K : Nat) : Cell := arrV comp K (fun _ => .int 0)
/-- the state with the outer row made and i inner ones laid into it -/
def mgF (T : State) (c comp : ClassId) (N K : Nat) : Nat → State
  | 0 => T.pushCell (mgC c N T.heap.size 0)
  | i + 1 => ((mgF T c comp N K i).pushCell (mgR comp K)).setCell T.heap.size (mgC c N T.heap.size (i + 1))
theorem mgC_next (c : ClassId) (N h i : Nat) : (mgC c N h i).setSlot i (.ref (h + 1 + i)) = mgC c N h (i + 1) := by
  unfold mgC
  rw [arrV_store]
  refine congrArg (arrV c N) (funext fun j => ?_)
  by_cases hj : j = i
  · subst hj; simp [updV, va_rf]
  · by_cases h2 : j < i
    · simp [updV, hj, h2, Nat.lt_succ_of_lt h2]
    · simp [updV, hj, h2, show ¬ j < i + 1 by omega]
theorem mgF_vm (T : State) (c comp : ClassId) (N K : Nat) : ∀ i, (mgF T c comp N K i).vm = T.vm
  | 0 => rfl
  | i + 1 => by simp [mgF, mgF_vm T c comp N K i]
theorem mgF_size (T : State) (c comp : ClassId) (N K : Nat) : ∀ i, (mgF T c comp N K i).heap.size = T.heap.size + 1 + i
  | 0 => by simp [mgF]
  | i + 1 => by simp [mgF, State.setCell, mgF_size T c comp N K i]; omega
theorem mgF_used (T : State) (c comp : ClassId) (N K : Nat) : ∀ i, (mgF T c comp N K i).slotsUsed = T.slotsUsed + N + i * K
  | 0 => by simp [mgF, mgC, arrV_size]
  | i + 1 => by simp [mgF, mgF_used T c comp N K i, mgR, arrV_size, Nat.succ_mul]; omega
theorem mgF_head (T : State) (c comp : ClassId) (N K : Nat) : ∀ i, (mgF T c comp N K i).heap[T.heap.size]? = some (mgC c N T.heap.size i)
  | 0 => by simp [mgF]
  | i + 1 => by
    have h0 : T.heap.size < (mgF T c comp N K i).heap.size := by rw [mgF_size]; omega
    exact State.heap_setCell_self (c := mgC c N T.heap.size i) (by rw [State.heap_pushCell_of_lt (h := h0)]; exact mgF_head T c comp N K i)
theorem mgF_old (T : State) (c comp : ClassId) (N K : Nat) {a : Nat} (ha : a < T.heap.size) : ∀ i, (mgF T c comp N K i).heap[a]? = T.heap[a]?
  | 0 => State.heap_pushCell_of_lt _ _ ha
  | i + 1 => by
    have h0 : a < (mgF T c comp N K i).heap.size := by rw [mgF_size]; omega
    show (((mgF T c comp N K i).pushCell (mgR comp K)).setCell T.heap.size _).heap[a]? = _
    rw [State.heap_setCell_other (Nat.ne_of_gt ha), State.heap_pushCell_of_lt (h := h0)]
    exact mgF_old T c comp N K ha i
theorem mgF_row (T : State) (c comp : ClassId) (N K : Nat) : ∀ i j, j < i → (mgF T c comp N K i).heap[T.heap.size + 1 + j]? = some (mgR comp K)
  | 0, _, h => absurd h (Nat.not_lt_zero _)
  | i + 1, j, h => by
    have hz := mgF_size T c comp N K i
    show (((mgF T c comp N K i).pushCell (mgR comp K)).setCell T.heap.size _).heap[T.heap.size + 1 + j]? = _
    rw [State.heap_setCell_other (show T.heap.size ≠ T.heap.size + 1 + j by omega)]
    by_cases hj : j < i
    · have h0 : T.heap.size + 1 + j < (mgF T c comp N K i).heap.size := by omega
      rw [State.heap_pushCell_of_lt (h := h0)]
      exact mgF_row T c comp N K i j hj
    · rw [show T.heap.size + 1 + j = (mgF T c comp N K i).heap.size by rw [hz]; omega]
      exact State.heap_pushCell_size _ _
theorem mgF_top (T : State) (f : JFrame) (c comp : ClassId) (N K : Nat) : ∀ i, mgF (T.setTop f) c comp N K i = (mgF T c comp N K i).setTop f
  | 0 => rfl
  | i + 1 => by simp only [mgF, mgF_top T f c comp N K i, State.heap_setTop, State.pushCell_setTop, State.setCell_setTop]
section MG
variable {p : Program} {l : Launch} {e : Env} {R : Room} {s : State} {m : MethodId} {args : Array Value} {below : List Frame} {meth : Method} {c : Code} {T : State} {locs : List Loc} {cells slots : Nat}
theorem mg_stand (X : Stand p l e R s m args below meth c T locs cells slots) (cA comp : ClassId) (N K : Nat) : ∀ i, Stand p l e R s m args below meth c (mgF T cA comp N K i) (locs ++ (List.range i).map fun j => ⟨T.heap.size, j⟩) (cells + 1 + i) (slots + N + i * K)
  | 0 => by
    have h := X.pushed (mgC cA N T.heap.size 0)
    rw [show (mgC cA N T.heap.size 0).slots.size = N from arrV_size _ _ _] at h
    simpa [mgF] using h
  | i + 1 => by
    have h0 : T.heap.size < (mgF T cA comp N K i).heap.size := by rw [mgF_size]; omega
    have hc : ((mgF T cA comp N K i).pushCell (mgR comp K)).heap[T.heap.size]? = some (mgC cA N T.heap.size i) := by rw [State.heap_pushCell_of_lt (h := h0)]; exact mgF_head T cA comp N K i
    have h := ((mg_stand X cA comp N K i).pushed (mgR comp K)).stored hc i (.ref (T.heap.size + 1 + i))
    rw [mgC_next, show (mgR comp K).slots.size = K from arrV_size _ _ _] at h
    rw [List.range_succ, List.map_append, ← List.append_assoc, show slots + N + (i + 1) * K = slots + N + i * K + K by rw [Nat.succ_mul]; omega]
    exact h
end MG
section MGW
variable {E : CtlPost} {e : Env} {d : Bool} {acts : List Action} {s : State}
/-- a row of default values comes -/
theorem mg_new {c comp : ClassId} {k : Class} {ty : FieldType} {len : Nat} {v : Value} {f : Nat → Value} (hk : s.vm.classes[c]? = some k) (hkind : k.kind = .array comp ty) (hl : len ≤ e.platform.arrayLengthLimit) (hh : len * componentBytes ty ≤ e.platform.maxHeapBytes) (hfit : fits ty v = true) (hdef : v.isDefault = true) (hf : f = fun _ => v) {Q : Addr → Pre} (h1 : s.heap.size < e.platform.maxCells) (h2 : s.slotsUsed + len ≤ e.platform.maxSlots) (hq : Q s.heap.size d acts (s.pushCell (arrV c len f))) : wp (Jvm.newArray c len v) Q E e d acts s := by
  subst hf
  have hsl : ∀ i x, (Array.replicate len v)[i]? = some x → s.fitsSlot c .none i x = true := fun i x hx => by
    rw [Array.getElem?_replicate] at hx
    split at hx
    · cases hx; simp [State.fitsSlot, State.slotType?, hk, hkind, hfit]
    · cases hx
  have hac : allocActs (Array.replicate len v) s.heap.size acts = acts := by
    unfold allocActs
    rw [if_pos]
    rw [Array.all_replicate]
    split <;> simp [hdef]
  have hl' : ¬ len > e.platform.arrayLengthLimit := by omega
  have hh' : ¬ len * componentBytes ty > e.platform.maxHeapBytes := by omega
  simp only [Jvm.newArray, Jvm.arrayFits, wp_bind', W.ask, W.ite, hl', if_false, wp_pure', W.theClass, hk, hkind, hh', W.alloc, W.stop, Option.some.injEq, exists_eq_left', Array.size_replicate, hac]
  rw [if_neg (by omega)]
  rw [← arrV_new] at hq
  exact ⟨h1, h2, hsl, hq⟩
theorem mg_make {c comp cc : ClassId} {kA kC : Class} {n k : Int32} (hA : s.vm.classes[c]? = some kA) (hkA : kA.kind = .array comp (.array .int)) (hC : s.vm.classes[comp]? = some kC) (hkC : kC.kind = .array cc .int) (hn : ¬ n < 0) (hk : ¬ k < 0) (hl1 : n.toNatClampNeg ≤ e.platform.arrayLengthLimit) (hh1 : n.toNatClampNeg * 4 ≤ e.platform.maxHeapBytes) (hl2 : k.toNatClampNeg ≤ e.platform.arrayLengthLimit) (hh2 : k.toNatClampNeg * 4 ≤ e.platform.maxHeapBytes)
    (hc : s.heap.size + 1 + n.toNatClampNeg ≤ e.platform.maxCells) (hs : s.slotsUsed + n.toNatClampNeg + n.toNatClampNeg * k.toNatClampNeg ≤ e.platform.maxSlots) {Q : Addr → Pre} (hq : ∀ d' acts', Q s.heap.size d' acts' (mgF s c comp n.toNatClampNeg k.toNatClampNeg n.toNatClampNeg)) : wp (multianewarray.make c [n, k]) Q E e d acts s := by
  rw [multianewarray.make]
  simp only [wp_bind', W.ite, hn, if_false, wp_pure', W.theClass, hA, hkA, Option.some.injEq, exists_eq_left']
  refine mg_new (f := fun j => va_rf (if j < 0 then some (s.heap.size + 1 + j) else none)) hA hkA hl1 hh1 rfl rfl (funext fun j => by simp [va_rf]) (by omega) (by have := Nat.zero_le (n.toNatClampNeg * k.toNatClampNeg); omega) ?_
  have hno : ([k].find? (· < 0)) = none := by simp [hk]
  simp only [hno]
  rw [ite_self, wp_bind', Std.Legacy.Range.forIn_eq_forIn_range']
  rw [show ([:n.toNatClampNeg] : Std.Legacy.Range).size = n.toNatClampNeg by simp [Std.Legacy.Range.size]]
  refine wp_forIn_inv (fun rest s' => ∃ i, i ≤ n.toNatClampNeg ∧ rest = List.range' i (n.toNatClampNeg - i) ∧ s' = mgF s c comp n.toNatClampNeg k.toNatClampNeg i) _ _ ⟨0, Nat.zero_le _, rfl, rfl⟩ ?_ ?_
  · rintro x rest s' d' acts' Q' ⟨i, hi, hr, rfl⟩ hnext
    have hlt : i < n.toNatClampNeg := by
      by_cases h : i < n.toNatClampNeg
      · exact h
      · rw [show n.toNatClampNeg - i = 0 by omega] at hr
        cases hr
    rw [show n.toNatClampNeg - i = (n.toNatClampNeg - (i + 1)) + 1 by omega, List.range'_succ] at hr
    obtain ⟨rfl, hrest⟩ := List.cons.inj hr
    have hz := mgF_size s c comp n.toNatClampNeg k.toNatClampNeg x
    have hu := mgF_used s c comp n.toNatClampNeg k.toNatClampNeg x
    have hv := mgF_vm s c comp n.toNatClampNeg k.toNatClampNeg x
    have hmul : x * k.toNatClampNeg + k.toNatClampNeg ≤ n.toNatClampNeg * k.toNatClampNeg := by
      have h := Nat.mul_le_mul_right k.toNatClampNeg (show x + 1 ≤ n.toNatClampNeg from hlt)
      rw [Nat.succ_mul] at h
      exact h
    simp only [wp_bind']
    rw [multianewarray.make]
    simp only [wp_bind', W.ite, hk, if_false, wp_pure', W.theClass, hv, hC, hkC, Option.some.injEq, exists_eq_left']
    refine mg_new (f := fun _ => .int 0) (by rw [hv]; exact hC) hkC hl2 hh2 rfl rfl rfl (by rw [hz]; omega) (by rw [hu]; omega) ?_
    have h0 : s.heap.size < (mgF s c comp n.toNatClampNeg k.toNatClampNeg x).heap.size := by rw [hz]; omega
    simp only [wp_bind', W.writeLoc, wp_pure']
    refine ⟨mgC c n.toNatClampNeg s.heap.size x, by rw [State.heap_pushCell_of_lt (h := h0)]; exact mgF_head s c comp _ _ x, by simp [mgC, arrV], by rw [show (mgC c n.toNatClampNeg s.heap.size x).slots.size = n.toNatClampNeg from arrV_size _ _ _]; exact hlt, ?_, hnext _ _ _ ⟨x + 1, hlt, hrest, ?_⟩⟩
    · simp [State.fitsSlot, State.slotType?, hv, hA, hkA, mgC, arrV, fits]
    · rw [hz, mgC_next]; rfl
  · rintro s' d' acts' ⟨i, hi, hr, rfl⟩
    have hiN : i = n.toNatClampNeg := by
      by_cases h : i < n.toNatClampNeg
      · rw [show n.toNatClampNeg - i = (n.toNatClampNeg - (i + 1)) + 1 by omega, List.range'_succ] at hr
        cases hr
      · omega
    subst hiN
    simp only [wp_pure']
    exact hq _ _
end MGW
/-- what the tables say of int[][] and int[] -/
def mgK (cA comp : ClassId) (U : State) : Prop := ∃ (kA kC : Class) (cc : ClassId), U.vm.findClass "[[I" = some cA ∧ U.vm.classes[cA]? = some kA ∧ kA.kind = .array comp (.array .int) ∧ U.vm.classes[comp]? = some kC ∧ kC.kind = .array cc .int
theorem mgK.moved {cA comp : ClassId} {u U : State} (hv : u.vm.Alike U.vm) (h : mgK cA comp u) : mgK cA comp U := by
  obtain ⟨kA, kC, cc, h1, h2, h3, h4, h5⟩ := h
  obtain ⟨kA', a1, a2⟩ := hv.2.2 _ _ h2
  obtain ⟨kC', b1, b2⟩ := hv.2.2 _ _ h4
  exact ⟨kA', kC', cc, by rw [hv.findClass]; exact h1, a1, by rw [a2]; exact h3, b1, by rw [b2]; exact h5⟩
section MGS
variable {p : Program} {l : Launch} {e : Env} {R : Room} {s : State} {m : MethodId} {args : Array Value} {below : List Frame} {meth : Method} {c : Code} {T : State} {locs : List Loc} {cells slots : Nat}
theorem mg_step (X : Stand p l e R s m args below meth c T locs cells slots) (hexec : p.tables.exec = Jvm.exec) {own : String} {index : Nat} (hown : s.vm.findClass own = some m.cls) (hlink : (Cond.classLink own index "[[I").before args s = true) {cA comp : ClassId} (hK : mgK cA comp s)
    {g : JFrame} (hg : g.method = m) (hdg : decode c.code g.pc = .ok (.multianewarray index 2, 4)) {n k : Int32} {rest : List Value} (hstack : g.stack = .int k :: .int n :: rest) (hn : ¬ n < 0) (hk : ¬ k < 0) (hb1 : n.toNatClampNeg ≤ 100000) (hb2 : k.toNatClampNeg ≤ 100000) (hcells : cells + (1 + n.toNatClampNeg) ≤ R.cells) (hslots : slots + (n.toNatClampNeg + n.toNatClampNeg * k.toNatClampNeg) ≤ R.slots) :
    ∃ vm₁ : Vm, Stand p l e R s m args below meth c (mgF (T.setVm vm₁) cA comp n.toNatClampNeg k.toNatClampNeg n.toNatClampNeg) locs (cells + 1 + n.toNatClampNeg) (slots + n.toNatClampNeg + n.toNatClampNeg * k.toNatClampNeg) ∧
      ∀ target, Steps p.tables e below ((mgF (T.setVm vm₁) cA comp n.toNatClampNeg k.toNatClampNeg n.toNatClampNeg).setTop { g with pc := g.pc + 4, stack := .ref T.heap.size :: rest }) target → Steps p.tables e below (T.setTop g) target := by
  subst hg
  obtain ⟨c0, hfc0, hcl⟩ := Cond.classLink_spec hown hlink e.platform (by rw [X.admits.platform])
  have hfA : s.vm.findClass "[[I" = some cA := hK.choose_spec.choose_spec.choose_spec.1
  cases hfA.symm.trans hfc0
  obtain ⟨hg₁, hwarm₁, hready₁⟩ := State.classEntry (e := e) X.warmed hcl
  generalize T.vm.noted g.method.cls index (.cls cA) = vm₁ at hg₁ hwarm₁ hready₁
  obtain ⟨kA, kC, cc, -, hA0, hkA, hC0, hkC⟩ := mgK.moved (U := T.setVm vm₁) hwarm₁.alike hK
  have hA : vm₁.classes[cA]? = some kA := hA0
  have hC : vm₁.classes[comp]? = some kC := hC0
  obtain ⟨hr1, hr2⟩ := X.roomAbove hcells hslots
  have XF := mg_stand (X.noted hwarm₁) cA comp n.toNatClampNeg k.toNatClampNeg n.toNatClampNeg
  have XG : Stand p l e R s g.method args below meth c (mgF (T.setVm vm₁) cA comp n.toNatClampNeg k.toNatClampNeg n.toNatClampNeg) locs (cells + 1 + n.toNatClampNeg) (slots + n.toNatClampNeg + n.toNatClampNeg * k.toNatClampNeg) := XF.dropFresh (fun x hx => by
    obtain ⟨j, -, rfl⟩ := List.mem_map.mp hx
    exact X.heapGrown)
  refine ⟨vm₁, XG, fun target hrest => ?_⟩
  have hlim := Launch.admits_arrayLengthLimit X.admits
  have hbyt := Launch.admits_maxHeapBytes X.admits
  jvm_step X.here [hexec, hdg]
  simp only [multianewarray.sem, wp_bind', W.resolveClassAt_links (State.method?_setTop g X.here.top) hg₁]
  rw [W.popN, if_neg (by decide)]
  refine ⟨g, State.topJava?_setTop' (s := T.setVm vm₁) g X.here.top, [.int n, .int k], rest, rfl, hstack, ?_⟩
  simp only [List.mapM_cons, List.mapM_nil, wp_bind', wp_pure']
  refine mg_make (kA := kA) (kC := kC) (comp := comp) (cc := cc) hA hkA hC hkC hn hk (by rw [hlim]; omega) (by rw [hbyt]; omega) (by rw [hlim]; omega) (by rw [hbyt]; omega) (by show T.heap.size + 1 + _ ≤ _; omega) (by show T.slotsUsed + _ + _ ≤ _; omega) (fun d' acts' => ?_)
  have eS : ((T.setTop g).setVm vm₁).setTop { g with stack := rest } = (T.setVm vm₁).setTop { g with stack := rest } := by
    show ((T.setVm vm₁).setTop g).setTop _ = _
    rw [State.setTop_setTop]
  rw [eS, mgF_top]
  simp only [wp_bind', W.mark, W.pushRef, State.topJava?_setTop' _ XF.here.top, Option.some.injEq, exists_eq_left', State.setTop_setTop, State.heap_setTop]
  intro acts
  simp [jvm, XF.here.top]
  exact hrest
end MGS
