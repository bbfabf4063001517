/-! ===== worlds by rearrangement; rows of references; new rows in whole numbers ===== -/
theorem perm_P {D : va_G} {cl : List vw_C} {ws ws' : va_W} {H : Heap} (hP : va_P D cl ws H) (h : ws.Perm ws') : va_P D cl ws' H := fun k q hk => by
  obtain ⟨i, hi⟩ := List.getElem?_of_mem (h.symm.mem_iff.mp (List.mem_of_getElem? hk))
  exact hP i q hi
theorem apart_iff {ws : va_W} : (∀ (i j : Nat) (p q : Nat × va_E), ws[i]? = some p → ws[j]? = some q → p.1 = q.1 → i = j) ↔ ws.Pairwise (fun p q => p.1 ≠ q.1) := by
  rw [List.pairwise_iff_getElem]
  constructor
  · intro h i j hi hj hij he
    have := h i j _ _ (List.getElem?_eq_getElem hi) (List.getElem?_eq_getElem hj) he
    omega
  · intro h i j p q hp hq he
    obtain ⟨hi, rfl⟩ := List.getElem?_eq_some_iff.mp hp
    obtain ⟨hj, rfl⟩ := List.getElem?_eq_some_iff.mp hq
    rcases Nat.lt_trichotomy i j with h1 | h1 | h1
    · exact absurd he (h i j hi hj h1)
    · exact h1
    · exact absurd he.symm (h j i hj hi h1)
theorem perm_D {A : Nat → Prop} {ws ws' : va_W} (hD : va_D A ws) (h : ws.Perm ws') : va_D A ws' := by
  refine ⟨apart_iff.mpr ((h.pairwise_iff (fun hxy => Ne.symm hxy)).mp (apart_iff.mp hD.1)), fun k q hk => ?_⟩
  obtain ⟨i, hi⟩ := List.getElem?_of_mem (h.symm.mem_iff.mp (List.mem_of_getElem? hk))
  exact hD.2 i q hi
theorem nd_of {l : List Nat} (h : l.Nodup) : va_nd l = true := by
  induction l with
  | nil => rfl
  | cons a l ih =>
    obtain ⟨h1, h2⟩ := List.nodup_cons.mp h
    simp [va_nd, h1, ih h2]
theorem isC_app (w wr : va_W) : (List.range w.length).map (fun i => (w ++ wr)[i]?) = w.map some := by
  apply List.ext_getElem?
  intro i
  rw [List.getElem?_map, List.getElem?_map]
  by_cases h : i < w.length
  · rw [List.getElem?_range h, Option.map_some, List.getElem?_append_left h, List.getElem?_eq_getElem h]; rfl
  · rw [List.getElem?_eq_none (by simpa using h), List.getElem?_eq_none (by omega)]; rfl
theorem isR_app (w wr : va_W) : ((List.range wr.length).map (fun i => w.length + i)).map (fun i => (w ++ wr)[i]?) = wr.map some := by
  apply List.ext_getElem?
  intro i
  rw [List.getElem?_map, List.getElem?_map, List.getElem?_map]
  by_cases h : i < wr.length
  · rw [List.getElem?_range h, Option.map_some, Option.map_some, List.getElem?_append_right (by omega), show w.length + i - w.length = i by omega, List.getElem?_eq_getElem h]; rfl
  · rw [List.getElem?_eq_none (by simpa using h), List.getElem?_eq_none (by omega)]; rfl
theorem nd_app (w wr : va_W) : va_nd (List.range w.length) = true ∧ va_nd ((List.range wr.length).map (fun i => w.length + i)) = true ∧ ∀ i ∈ (List.range wr.length).map (fun i => w.length + i), i ∉ List.range w.length := by
  refine ⟨nd_of List.nodup_range, nd_of (List.Pairwise.map _ (fun a b h => by omega) List.nodup_range), fun i hi => ?_⟩
  obtain ⟨j, -, rfl⟩ := List.mem_map.mp hi
  simp
/-- cells of an explicit list by places, a tail that nobody looks at -/
theorem permT {X w wr T : va_W} (isC isR : List Nat) (hC : isC.map (fun i => X[i]?) = w.map some) (hR : isR.map (fun i => X[i]?) = wr.map some) (n : Nat) (hn : X.length = n) (hp : (isC ++ isR).Perm (List.range n)) : (X ++ T).Perm (w ++ (wr ++ T)) := by
  have h1 : (X.map some).Perm ((w ++ wr).map some) := by
    rw [List.map_append, ← hC, ← hR, ← List.map_append]
    have h2 : (List.range n).map (fun i => X[i]?) = X.map some := by
      subst hn
      have := isC_app X []
      rwa [List.append_nil] at this
    rw [← h2]
    exact (hp.map _).symm
  have h3 : X.Perm (w ++ wr) := by
    have h4 := h1.filterMap id
    simpa [List.filterMap_map] using h4
  rw [← List.append_assoc]
  exact h3.append_right T
section GROWN
variable {p : Program} {l : Launch} {e : Env} {R : Room} {s : State} {m : MethodId} {args : Array Value} {below : List Frame} {meth : Method} {c : Code} {Q : State → Prop} {Z : gZ} {A : Nat → Prop} {nL k n pc : Nat} {lv : List (Nat × Value)} {st : List Value} {ws : va_W} {cc : ByteArray} {ret : Option FieldType} {own : String}
theorem g_perm {ws' : va_W} (h : ws.Perm ws') (kk : Gs p l e R s m args below meth c Q Z A nL k n pc lv st ws') : Gs p l e R s m args below meth c Q Z A nL k n pc lv st ws := fun H locs ls hP hD hS hl => kk H locs ls (perm_P hP h) (perm_D hD h) hS hl
/-- a call on an object, the callee's cells split off by rearrangement -/
theorem g_callVP {y : MethodName} {yc : ByteArray} {yL ar i fr lo mc ms : Nat} {yr : Option FieldType} {w wr : va_W} {Po : Option Value → va_W → Prop} {As rest : List Value} {b : Nat} (X : Cx p s m args meth c cc nL ret own Z A) (hM : Con l Z y yc yL yr fr lo mc ms (.ref b :: As) w Po) (hm : gM y yc yL yr ar) (hl : Cond.methodLink own i y ∈ wU) (hin : Cond.instanceMethod y ∈ wU) (hse : Cond.selects y.cls y y ∈ wU) (q0 : Nat) {ci : Nat} {fs : List Value} {T : u_T} {N : Nat} (hq : w[q0]? = some (b, .inr (ci, fs))) (hcl : vwCl[ci]? = some (y.cls, T, N)) (hp : ws.Perm (w ++ wr)) (hn : As.length = ar) (hst : st = As.reverse ++ .ref b :: rest) (hw : (rest.map fun v => v.category).sum ≤ 8) (hroom : fr + 1 ≤ R.frames ∧ 8 + (yL + 11) + lo ≤ R.locals ∧ k + mc ≤ R.cells ∧ n + ms ≤ R.slots) (hd : decode cc pc = .ok (.invokevirtual i, 3)) (kk : ∀ (r : Option Value) (w' : va_W), Po r w' → Gs p l e R s m args below meth c Q Z A nL (k + mc) (n + ms) (pc + 3) lv (r.toList ++ rest) (w' ++ wr)) : Gs p l e R s m args below meth c Q Z A nL k n pc lv st ws :=
  g_perm hp (g_callV X hM hm hl hin hse q0 (by rw [List.getElem?_append_left (List.getElem?_eq_some_iff.mp hq).1]; exact hq) hcl (List.range w.length) ((List.range wr.length).map (fun i => w.length + i)) (isC_app w wr) (isR_app w wr) (nd_app w wr) hn hst hw hroom hd (fun r w' h => g_perm List.perm_append_comm (kk r w' h)))
theorem g_aaldS (X : Cx p s m args meth c cc nL ret own Z A) (q0 t0 : Nat) {C : String} {a N v : Nat} {f : Nat → Option Nat} {i : Int} (ha : ws[q0]? = some (a, .inl (Z.2.1 t0, N, .inr (.inr (.inr (.inr f)))))) (ht : (gTy Z.2.1)[t0]? = some (Z.2.1 t0, .object C)) (h0 : 0 ≤ i) (h1 : i < (N : Int)) (h2 : i ≤ 2147483647) (hf : f i.toNat = some v) (hd : decode cc pc = .ok (.aaload, 1)) (kk : Gs p l e R s m args below meth c Q Z A nL k n (pc + 1) lv (.ref v :: st) ws) : Gs p l e R s m args below meth c Q Z A nL k n pc lv (.int (iI i) :: .ref a :: st) ws := g_aald X q0 t0 ha ht (iI_in h0 h1 ⟨by omega, h2⟩) hd (by rw [iI_cl ⟨by omega, h2⟩, hf]; exact kk)
theorem g_aaldN (X : Cx p s m args meth c cc nL ret own Z A) (q0 t0 : Nat) {C : String} {a N : Nat} {f : Nat → Option Nat} {i : Int} (ha : ws[q0]? = some (a, .inl (Z.2.1 t0, N, .inr (.inr (.inr (.inr f)))))) (ht : (gTy Z.2.1)[t0]? = some (Z.2.1 t0, .object C)) (h0 : 0 ≤ i) (h1 : i < (N : Int)) (h2 : i ≤ 2147483647) (hf : f i.toNat = none) (hd : decode cc pc = .ok (.aaload, 1)) (kk : Gs p l e R s m args below meth c Q Z A nL k n (pc + 1) lv (.null :: st) ws) : Gs p l e R s m args below meth c Q Z A nL k n pc lv (.int (iI i) :: .ref a :: st) ws := g_aald X q0 t0 ha ht (iI_in h0 h1 ⟨by omega, h2⟩) hd (by rw [iI_cl ⟨by omega, h2⟩, hf]; exact kk)
/-- a row of int[][] -/
theorem g_aaldG (X : Cx p s m args meth c cc nL ret own Z A) (q0 : Nat) {a N v : Nat} {f : Nat → Option Nat} {i : Int} (ha : ws[q0]? = some (a, .inl (Z.2.1 6, N, .inr (.inr (.inr (.inr f)))))) (h0 : 0 ≤ i) (h1 : i < (N : Int)) (h2 : i ≤ 2147483647) (hf : f i.toNat = some v) (hd : decode cc pc = .ok (.aaload, 1)) (kk : Gs p l e R s m args below meth c Q Z A nL k n (pc + 1) lv (.ref v :: st) ws) : Gs p l e R s m args below meth c Q Z A nL k n pc lv (.int (iI i) :: .ref a :: st) ws := fun H locs ls hP hD hS hl => by
  have hin : vp_in (iI i) N := iI_in h0 h1 ⟨by omega, h2⟩
  have hlt : (iI i).toNatClampNeg < N := Nat.not_le.mp fun q => hin (Or.inr q)
  have hv : va_rf (f (iI i).toNatClampNeg) = .ref v := by rw [iI_cl ⟨by omega, h2⟩, hf]; rfl
  refine W.aald (v := .ref v) (ty := .array .int) X.ex X.by' (hP q0 _ ha) ((X.ka.2 6 _ rfl).1 N (fun j => va_rf (f j))) rfl (fun q => by cases q) (by show ¬ (iI i < 0 ∨ (arrV _ _ _).slots.size ≤ _); rw [arrV_size]; exact hin) (by show (arrV _ _ _).slots[_]? = _; rw [arrV_read _ _ hlt, hv]) rfl rfl hd (kk H locs ls hP hD hS hl)
theorem g_aastI (X : Cx p s m args meth c cc nL ret own Z A) (q0 t0 qk ci : Nat) {r : vw_C} {a N v : Nat} {vs : List Value} {f : Nat → Option Nat} {i : Int} (ha : ws[q0]? = some (a, .inl (Z.2.1 t0, N, .inr (.inr (.inr (.inr f)))))) (ht : (gTy Z.2.1)[t0]? = some (Z.2.1 t0, .object r.1)) (hv : ws[qk]? = some (v, .inr (ci, vs))) (hc : vwCl[ci]? = some r) (h0 : 0 ≤ i) (h1 : i < (N : Int)) (h2 : i ≤ 2147483647) {ws' : va_W} (hw : ws.set q0 (a, .inl (Z.2.1 t0, N, .inr (.inr (.inr (.inr (va_up f i.toNat (some v))))))) = ws') (hd : decode cc pc = .ok (.aastore, 1)) (kk : Gs p l e R s m args below meth c Q Z A nL k n (pc + 1) lv st ws') : Gs p l e R s m args below meth c Q Z A nL k n pc lv (.ref v :: .int (iI i) :: .ref a :: st) ws := g_aast X q0 t0 qk ci ha ht hv hc (iI_in h0 h1 ⟨by omega, h2⟩) (by rw [iI_cl ⟨by omega, h2⟩]; exact hw) hd kk
theorem g_newiI (X : Cx p s m args meth c cc nL ret own Z A) {x : Int32} (N : Nat) (harr : Cond.arrayClass .int ∈ wU) (hn : ¬ x < 0) (hN : x.toNatClampNeg = N) (hb : N ≤ 100000) (hcells : k + 1 ≤ R.cells) (hslots : n + N ≤ R.slots) (hd : decode cc pc = .ok (.newarray .int, 2)) (kk : ∀ (q : Nat) (F : Nat → Int), (∀ j, F j = 0) → Gs p l e R s m args below meth c Q Z A nL (k + 1) (n + N) (pc + 2) lv (.ref q :: st) (ws ++ [(q, .inl (Z.2.1 0, N, .inl (fun j => iI (F j))))])) : Gs p l e R s m args below meth c Q Z A nL k n pc lv (.int x :: st) ws := g_newi X N harr hn hN hb hcells hslots hd (fun q => kk q (fun _ => 0) (fun _ => rfl))
theorem g_newbI (X : Cx p s m args meth c cc nL ret own Z A) {x : Int32} (N : Nat) (harr : Cond.arrayClass .byte ∈ wU) (hn : ¬ x < 0) (hN : x.toNatClampNeg = N) (hb : N ≤ 100000) (hcells : k + 1 ≤ R.cells) (hslots : n + N ≤ R.slots) (hd : decode cc pc = .ok (.newarray .byte, 2)) (kk : ∀ (q : Nat) (F : Nat → Int), (∀ j, F j = 0) → Gs p l e R s m args below meth c Q Z A nL (k + 1) (n + N) (pc + 2) lv (.ref q :: st) (ws ++ [(q, .inl (Z.2.1 1, N, .inl (fun j => iI (F j))))])) : Gs p l e R s m args below meth c Q Z A nL k n pc lv (.int x :: st) ws := g_newb X N harr hn hN hb hcells hslots hd (fun q => kk q (fun _ => 0) (fun _ => rfl))
theorem g_newzI (X : Cx p s m args meth c cc nL ret own Z A) {x : Int32} (N : Nat) (harr : Cond.arrayClass .boolean ∈ wU) (hn : ¬ x < 0) (hN : x.toNatClampNeg = N) (hb : N ≤ 100000) (hcells : k + 1 ≤ R.cells) (hslots : n + N ≤ R.slots) (hd : decode cc pc = .ok (.newarray .boolean, 2)) (kk : ∀ (q : Nat) (F : Nat → Int), (∀ j, F j = 0) → Gs p l e R s m args below meth c Q Z A nL (k + 1) (n + N) (pc + 2) lv (.ref q :: st) (ws ++ [(q, .inl (Z.2.1 2, N, .inl (fun j => iI (F j))))])) : Gs p l e R s m args below meth c Q Z A nL k n pc lv (.int x :: st) ws := g_newz X N harr hn hN hb hcells hslots hd (fun q => kk q (fun _ => 0) (fun _ => rfl))
end GROWN
theorem bndZ {F : Nat → Int} {n : Nat} (h : ∀ j, F j = 0) : ∀ j, j < n → 0 ≤ F j ∧ F j ≤ 0 := fun j _ => by rw [h j]; exact ⟨Int.le_refl _, Int.le_refl _⟩
