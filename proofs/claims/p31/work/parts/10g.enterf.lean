/-- a method of a class of which the machine knows others itself -/
theorem enterF {l : Launch} {Z : gZ} {cc : ByteArray} {nL : Nat} {ret : Option FieldType} {y : MethodName} {fr lo mc ms : Nat} {as : List Value} {w : va_W} {Po : Option Value → va_W → Prop} (hy : plainFor y = true) (hn : (lg_sl as).length ≤ nL)
    (body : ∀ (p : Program) (e : Env) (s : State) (m : MethodId) (args : Array Value) (below : List Frame) (meth : Method) (c : Code) (A : Nat → Prop), Cx p s m args meth c cc nL ret y.cls Z A → meth.name = y.name → va_A w s.heap.size = A → Gs p l e { frames := fr, cells := mc, slots := ms, locals := lo } s m args below meth c (MQ below (gPost Z w s.heap.size Po) args s mc ms (va_A w s.heap.size)) Z A nL 0 0 0 (lv_args 0 as) [] w) : Con l Z y cc nL ret fr lo mc ms as w Po := by
  intro sz
  refine va_MetF (cc := cc) (maxL := nL) (ret := ret) hy rfl ?_
  intro p e s m args below meth c s₁ B hml hv
  obtain ⟨rfl, hsz, hP, hK, hSt, hD⟩ := hv
  subst hsz
  have hts := atoms_spec (ws := Cond.code y cc nL ret :: wU) B.pre
  have hC : Cx p s m as.toArray meth c cc nL ret y.cls Z (va_A w s.heap.size) := ⟨B.exec, B.bytes, B.returns, hml, findClass_of_methodNamed B.named, fun w h => hts w (List.mem_cons_of_mem _ h), hK, hSt, B.notSynchronized, fun q h => Or.inr h⟩
  have h := body p e s m as.toArray below meth c _ hC (name_of_methodNamed B.named B.method).1 rfl
  rw [lg_entry_eq]
  exact h s.heap [] _ hP hD.self va_S.rf (lv_entry as hn)
