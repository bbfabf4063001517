/-! THE CLAIM OUT OF ONE WALK OF THE LAW'S BODY. Your part is whole_start (and what it stands on); all else here is the same for every law, but numbers. -/
def R_law : String := "HalfDropLaw"
def lw_P (b : Addr) (xs : List Int32) (args : Array Value) (s : State) : Prop := args = #[.ref b] ∧ s.IntsAt b xs ∧ xs.length ≤ 3072 ∧ (Jvm.Cond.and given_1 narrow_1).before args s = true
def lw_Q (_ : Array Value) (s : State) (o : Outcome) (t : State) : Prop := o = .returned (some (.int 1)) ∧ Framed s o t [] 600000 7302250
def lw_Z (below : List Frame) (a : Array Value) (s : State) : State → Prop := fun t => ∃ o, t.status = .running ∧ Ended t below o ∧ lw_Q a s o t
/-- the law's own end, with 1 on the stack, nothing written that was there before, its room as the claim has it -/
theorem lw_ret {p : Program} {l : Launch} {e : Env} {s : State} {m : MethodId} {below : List Frame} {meth : Method} {c : Code} {b : Nat} (hx : p.tables.exec = Jvm.exec) (hb : c.code = code) (hr : meth.sig.returnType = ret) (hlocks : meth.locks = false) {pc : Nat} {H : Heap} {ls : Array Slot} (hdg : decode code pc = .ok (.ireturn, 1)) : W p l e room_1 s m #[Value.ref b] below meth c H [] 600000 7302250 (lw_Z below #[Value.ref b] s) (F0 m pc ls [.int 1]) := by
  intro T hT X
  obtain ⟨fs, hret, hrun, hended, hW, hframe⟩ := X.leave (v := some (.int 1)) (hlocks := hlocks) (fun h => by rw [hr] at h; cases h)
  have hmeth' : T.vm.method? m = some meth := X.method'
  refine ⟨T.setFrames fs, ?_, .returned (some (.int 1)), hrun, hended, rfl, ⟨_, rfl⟩, hW, hframe⟩
  jvm_step X.here [X.here.top, hx, hb, hdg, hmeth', hr, ret, narrow_b1]
  (try refine ⟨rfl, ?_⟩); (try refine ⟨rfl, ?_⟩)
  first | (intro acts; rw [hret _ acts rfl rfl rfl]) | rw [hret _ _ rfl rfl rfl]
  exact Steps.refl _
/-- what holds at the law's entry: the machine, the code, the tables' words (any of lw_tbl by 'hts w (by decide +kernel)'), the script of L ints xs at the cell b, what the Statement gives of the start (any of its parts by flat_of_before) -/
def lw_At (p : Program) (s : State) (m : MethodId) (meth : Method) (c : Code) (b L : Nat) (xs : Nat → Int32) : Prop :=
  p.tables.exec = Jvm.exec ∧ c.code = code ∧ meth.sig.returnType = ret ∧ c.maxLocals = 4 ∧ s.vm.findClass R_law = some m.cls ∧ (∀ w ∈ lw_tbl, w.before #[Value.ref b] s = true) ∧ va_X b L xs s s.heap ∧ b < s.heap.size ∧ meth.locks = false ∧ (Jvm.Cond.and given_1 narrow_1).before #[Value.ref b] s = true

theorem g_sld {p : Program} {l : Launch} {e : Env} {R : Room} {s : State} {m : MethodId} {args : Array Value} {below : List Frame} {meth : Method} {c : Code} {Q : State → Prop} {Z : gZ} {A : Nat → Prop} {nL k n pc : Nat} {lv : List (Nat × Value)} {st : List Value} {ws : va_W} {cc : ByteArray} {ret : Option FieldType} {own : String} (X : Cx p s m args meth c cc nL ret own Z A) {b L : Nat} {xs : Nat → Int32} (hX : va_X b L xs s s.heap) (hbl : b < s.heap.size) (hbA : ¬ A b) {i : Int32} (hin : vp_in i L) (hd : decode cc pc = .ok (.iaload, 1)) (kk : Gs p l e R s m args below meth c Q Z A nL k n (pc + 1) lv (.int (xs i.toNatClampNeg) :: st) ws) : Gs p l e R s m args below meth c Q Z A nL k n pc lv (.int i :: .ref b :: st) ws := fun H locs ls hP hD hS hl => va_sld X.ex X.by' hX hbl hbA hS hin hd (kk H locs ls hP hD hS hl)
theorem g_slen {p : Program} {l : Launch} {e : Env} {R : Room} {s : State} {m : MethodId} {args : Array Value} {below : List Frame} {meth : Method} {c : Code} {Q : State → Prop} {Z : gZ} {A : Nat → Prop} {nL k n pc : Nat} {lv : List (Nat × Value)} {st : List Value} {ws : va_W} {cc : ByteArray} {ret : Option FieldType} {own : String} (X : Cx p s m args meth c cc nL ret own Z A) {b L : Nat} {xs : Nat → Int32} (hX : va_X b L xs s s.heap) (hbl : b < s.heap.size) (hbA : ¬ A b) (hd : decode cc pc = .ok (.arraylength, 1)) (kk : Gs p l e R s m args below meth c Q Z A nL k n (pc + 1) lv (.int (Int32.ofNat L) :: st) ws) : Gs p l e R s m args below meth c Q Z A nL k n pc lv (.ref b :: st) ws := fun H locs ls hP hD hS hl => va_slen X.ex X.by' hX hbl hbA hS hd (kk H locs ls hP hD hS hl)
theorem law_ret {p : Program} {l : Launch} {e : Env} {s : State} {m : MethodId} {below : List Frame} {meth : Method} {c : Code} {b : Nat} {Z : gZ} {k n pc : Nat} {lv : List (Nat × Value)} {ws : va_W} (X : Cx p s m #[Value.ref b] meth c cL_law 4 ret R_law Z (fun q => s.heap.size ≤ q)) (hk : k ≤ 600000) (hn : n ≤ 7302250) (hd : decode cL_law pc = .ok (.ireturn, 1)) : Gs p l e room_1 s m #[Value.ref b] below meth c (lw_Z below #[Value.ref b] s) Z (fun q => s.heap.size ≤ q) 4 k n pc lv [.int 1] ws := fun H locs ls hP hD hS hl => va_forget (fun q hq => hS.2.2 q hq) (W.widen hk hn (lw_ret X.ex X.by' X.re X.lk hd))
theorem g_sldI {p : Program} {l : Launch} {e : Env} {R : Room} {s : State} {m : MethodId} {args : Array Value} {below : List Frame} {meth : Method} {c : Code} {Q : State → Prop} {Z : gZ} {A : Nat → Prop} {nL k n pc : Nat} {lv : List (Nat × Value)} {st : List Value} {ws : va_W} {cc : ByteArray} {ret : Option FieldType} {own : String} (X : Cx p s m args meth c cc nL ret own Z A) {b L : Nat} {xs : Nat → Int32} (hX : va_X b L xs s s.heap) (hbl : b < s.heap.size) (hbA : ¬ A b) {i : Int} (h0 : 0 ≤ i) (h1 : i < (L : Int)) (h2 : i ≤ 2147483647) (hd : decode cc pc = .ok (.iaload, 1)) (kk : ∀ a : Int, a = (xs i.toNat).toInt → (-2147483648 ≤ a ∧ a ≤ 2147483647) → Gs p l e R s m args below meth c Q Z A nL k n (pc + 1) lv (.int (iI a) :: st) ws) : Gs p l e R s m args below meth c Q Z A nL k n pc lv (.int (iI i) :: .ref b :: st) ws := g_sld X hX hbl hbA (iI_in h0 h1 ⟨by omega, h2⟩) hd (by rw [iI_cl ⟨by omega, h2⟩]; have h := kk _ rfl (inR_of _); rwa [iI_of] at h)
theorem g_sldE {p : Program} {l : Launch} {e : Env} {R : Room} {s : State} {m : MethodId} {args : Array Value} {below : List Frame} {meth : Method} {c : Code} {Q : State → Prop} {Z : gZ} {A : Nat → Prop} {nL k n pc : Nat} {lv : List (Nat × Value)} {st : List Value} {ws : va_W} {cc : ByteArray} {ret : Option FieldType} {own : String} (X : Cx p s m args meth c cc nL ret own Z A) {b L : Nat} {xs : Nat → Int32} (hX : va_X b L xs s s.heap) (hbl : b < s.heap.size) (hbA : ¬ A b) {i a : Int} (ea : a = (xs i.toNat).toInt) (h0 : 0 ≤ i) (h1 : i < (L : Int)) (h2 : i ≤ 2147483647) (hd : decode cc pc = .ok (.iaload, 1)) (kk : Gs p l e R s m args below meth c Q Z A nL k n (pc + 1) lv (.int (iI a) :: st) ws) : Gs p l e R s m args below meth c Q Z A nL k n pc lv (.int (iI i) :: .ref b :: st) ws := g_sldI X hX hbl hbA h0 h1 h2 hd (fun a2 e2 _ => by have q : a2 = a := e2.trans ea.symm; subst q; exact kk)
theorem pair_paper {y y' np np2 np3 : Int} {prr prr2 prr3 q : Nat → Int} {P : Prop} (F1 : (y = -1 ∧ np2 = np ∧ prr2 = prr ∧ (np = 4 ∨ ¬ P)) ∨ (y = np ∧ np < 4 ∧ np2 = np + 1 ∧ P ∧ prr2 = q)) (F2 : (y' = -1 ∧ np3 = np ∧ prr3 = prr ∧ (np = 4 ∨ ¬ P)) ∨ (y' = np ∧ np < 4 ∧ np3 = np + 1 ∧ P ∧ prr3 = q)) : y = y' ∧ np2 = np3 ∧ prr2 = prr3 := by
  rcases F1 with ⟨a1, a2, a3, a4⟩ | ⟨a1, a2, a3, a4, a5⟩ <;> rcases F2 with ⟨b1, b2, b3, b4⟩ | ⟨b1, b2, b3, b4, b5⟩
  · exact ⟨a1.trans b1.symm, a2.trans b2.symm, a3.trans b3.symm⟩
  · exfalso; rcases a4 with h | h; omega; exact h b4
  · exfalso; rcases b4 with h | h; omega; exact h a4
  · exact ⟨a1.trans b1.symm, a3.trans b3.symm, a5.trans b5.symm⟩
theorem pair_image {y y' : Int} {ki ki2 ki3 ie ie2 ie3 q1 q2 : Nat → Int} {P : Prop} (F1 : (y = 0 ∧ ¬ P ∧ ki2 = ki ∧ ie2 = ie) ∨ (y = 1 ∧ P ∧ ki2 = q1 ∧ ie2 = q2)) (F2 : (y' = 0 ∧ ¬ P ∧ ki3 = ki ∧ ie3 = ie) ∨ (y' = 1 ∧ P ∧ ki3 = q1 ∧ ie3 = q2)) : y = y' ∧ ki2 = ki3 ∧ ie2 = ie3 := by
  rcases F1 with ⟨a1, a2, a3, a4⟩ | ⟨a1, a2, a3, a4⟩ <;> rcases F2 with ⟨b1, b2, b3, b4⟩ | ⟨b1, b2, b3, b4⟩
  · exact ⟨a1.trans b1.symm, a3.trans b3.symm, a4.trans b4.symm⟩
  · exact absurd b2 a2
  · exact absurd a2 b2
  · exact ⟨a1.trans b1.symm, a3.trans b3.symm, a4.trans b4.symm⟩
theorem pair_feed {y y' ts ts2 ts3 z : Int} {Tb Tb2 Tb3 q : Nat → Int} (F1 : (y = -1 ∧ 380 < ts ∧ ts2 = ts ∧ Tb2 = Tb) ∨ (y = z ∧ ts ≤ 380 ∧ ts2 = z ∧ Tb2 = q)) (F2 : (y' = -1 ∧ 380 < ts ∧ ts3 = ts ∧ Tb3 = Tb) ∨ (y' = z ∧ ts ≤ 380 ∧ ts3 = z ∧ Tb3 = q)) : y = y' ∧ ts2 = ts3 ∧ Tb2 = Tb3 := by
  rcases F1 with ⟨a1, a2, a3, a4⟩ | ⟨a1, a2, a3, a4⟩ <;> rcases F2 with ⟨b1, b2, b3, b4⟩ | ⟨b1, b2, b3, b4⟩
  · exact ⟨a1.trans b1.symm, a3.trans b3.symm, a4.trans b4.symm⟩
  · exfalso; omega
  · exfalso; omega
  · exact ⟨a1.trans b1.symm, a3.trans b3.symm, a4.trans b4.symm⟩
theorem pair_count {b1 nr np tn hb se ts y y' : Int} (F1 : cnqF b1 nr np tn hb se ts y) (F2 : cnqF b1 nr np tn hb se ts y') : y = y' := by
  unfold cnqF at F1 F2
  omega
theorem pair_q {y y' n v : Int} {C : Prop} (F1 : (y = n ∧ ¬ C) ∨ (y = v ∧ C)) (F2 : (y' = n ∧ ¬ C) ∨ (y' = v ∧ C)) : y = y' := by
  rcases F1 with ⟨a, b⟩ | ⟨a, b⟩ <;> rcases F2 with ⟨c, d⟩ | ⟨c, d⟩
  · exact a.trans c.symm
  · exact absurd d b
  · exact absurd b d
  · exact a.trans c.symm
theorem pair_room {α : Type} {y y' nr nr2 nr3 ts ts2 ts3 : Int} {R R2 R3 q : α} {P : Prop} (F1 : (y = -1 ∧ nr2 = nr ∧ ts2 = ts ∧ (nr = 6 ∨ ¬ P) ∧ R2 = R) ∨ (y = nr ∧ nr2 = nr + 1 ∧ ts2 = 0 ∧ nr < 6 ∧ P ∧ R2 = q)) (F2 : (y' = -1 ∧ nr3 = nr ∧ ts3 = ts ∧ (nr = 6 ∨ ¬ P) ∧ R3 = R) ∨ (y' = nr ∧ nr3 = nr + 1 ∧ ts3 = 0 ∧ nr < 6 ∧ P ∧ R3 = q)) : y = y' ∧ nr2 = nr3 ∧ ts2 = ts3 ∧ R2 = R3 := by
  rcases F1 with ⟨a1, a2, a3, a4, a5⟩ | ⟨a1, a2, a3, a4, a5, a6⟩ <;> rcases F2 with ⟨b1, b2, b3, b4, b5⟩ | ⟨b1, b2, b3, b4, b5, b6⟩
  · exact ⟨a1.trans b1.symm, a2.trans b2.symm, a3.trans b3.symm, a5.trans b5.symm⟩
  · exfalso; rcases a4 with h | h; omega; exact h b5
  · exfalso; rcases b4 with h | h; omega; exact h a5
  · exact ⟨a1.trans b1.symm, a2.trans b2.symm, a3.trans b3.symm, a6.trans b6.symm⟩
