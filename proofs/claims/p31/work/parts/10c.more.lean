theorem minL {a b : Int} (ha : inR a) (hb : inR b) : (if iI b < iI a then iI b else iI a) = iI (if a ≤ b then a else b) := by
  by_cases q : a ≤ b
  · rw [if_pos q, if_neg (by rw [iI_lt hb ha]; omega)]
  · rw [if_neg q, if_pos (by rw [iI_lt hb ha]; omega)]
section GROWJ
variable {p : Program} {l : Launch} {e : Env} {R : Room} {s : State} {m : MethodId} {args : Array Value} {below : List Frame} {meth : Method} {c : Code} {Q : State → Prop} {Z : gZ} {A : Nat → Prop} {nL k n pc : Nat} {lv : List (Nat × Value)} {st : List Value} {ws : va_W} {cc : ByteArray} {ret : Option FieldType} {own : String}
/-- the top number is some number -/
theorem g_any {x : Int32} (kk : ∀ y : Int, (-2147483648) ≤ y ∧ y ≤ 2147483647 → Gs p l e R s m args below meth c Q Z A nL k n pc lv (.int (iI y) :: st) ws) : Gs p l e R s m args below meth c Q Z A nL k n pc lv (.int x :: st) ws := by
  have h := kk x.toInt (inR_of x)
  rw [iI_of] at h
  exact h
theorem g_nameI {a : Int} (kk : ∀ y : Int, y = a → Gs p l e R s m args below meth c Q Z A nL k n pc lv (.int (iI y) :: st) ws) : Gs p l e R s m args below meth c Q Z A nL k n pc lv (.int (iI a) :: st) ws := kk a rfl
theorem g_idivP (X : Cx p s m args meth c cc nL ret own Z A) {a b : Int} (ha : 0 ≤ a) (ha2 : a ≤ 2147483647) (hb : 0 < b) (hb2 : b ≤ 2147483647) (hd : decode cc pc = .ok (.idiv, 1)) (kk : Gs p l e R s m args below meth c Q Z A nL k n (pc + 1) lv (.int (iI (a / b)) :: st) ws) : Gs p l e R s m args below meth c Q Z A nL k n pc lv (.int (iI b) :: .int (iI a) :: st) ws := g_idivI X ⟨by omega, by omega⟩ ⟨by omega, by omega⟩ (by omega) (by omega) hd (by rw [Int.tdiv_eq_ediv_of_nonneg ha]; exact kk)
theorem g_iremP (X : Cx p s m args meth c cc nL ret own Z A) {a b : Int} (ha : 0 ≤ a) (ha2 : a ≤ 2147483647) (hb : 0 < b) (hb2 : b ≤ 2147483647) (hd : decode cc pc = .ok (.irem, 1)) (kk : Gs p l e R s m args below meth c Q Z A nL k n (pc + 1) lv (.int (iI (a % b)) :: st) ws) : Gs p l e R s m args below meth c Q Z A nL k n pc lv (.int (iI b) :: .int (iI a) :: st) ws := g_iremI X ⟨by omega, by omega⟩ ⟨by omega, by omega⟩ (by omega) (by omega) hd (by rw [Int.tmod_eq_emod_of_nonneg ha]; exact kk)
theorem g_laddI (X : Cx p s m args meth c cc nL ret own Z A) {a b : Int} (hd : decode cc pc = .ok (.ladd, 1)) (kk : Gs p l e R s m args below meth c Q Z A nL k n (pc + 1) lv (.long (lI (a + b)) :: st) ws) : Gs p l e R s m args below meth c Q Z A nL k n pc lv (.long (lI b) :: .long (lI a) :: st) ws := fun H locs ls hP hD hS hl => lv_ladd X.ex X.by' hd (by rw [lI_add]; exact kk H locs ls hP hD hS hl)
theorem g_lcmp_lt (X : Cx p s m args meth c cc nL ret own Z A) {a b : Int} {off : Int} (tgt : Nat) (ht : (pc : Int) + off = (tgt : Int)) (ha : inL a) (hb : inL b) (hd : decode cc pc = .ok (.ifCond .lt off, 3)) (kt : a < b → Gs p l e R s m args below meth c Q Z A nL k n tgt lv st ws) (kf : b ≤ a → Gs p l e R s m args below meth c Q Z A nL k n (pc + 3) lv st ws) : Gs p l e R s m args below meth c Q Z A nL k n pc lv (.int (lg_cmp (lI a) (lI b)) :: st) ws := g_if_lt X tgt ht hd (fun h => kt ((lI_cmp_lt ha hb).mp h)) (fun h => kf (by have q : ¬ (a < b) := fun q => h ((lI_cmp_lt ha hb).mpr q); omega))
theorem g_lcmp_gt (X : Cx p s m args meth c cc nL ret own Z A) {a b : Int} {off : Int} (tgt : Nat) (ht : (pc : Int) + off = (tgt : Int)) (ha : inL a) (hb : inL b) (hd : decode cc pc = .ok (.ifCond .gt off, 3)) (kt : b < a → Gs p l e R s m args below meth c Q Z A nL k n tgt lv st ws) (kf : a ≤ b → Gs p l e R s m args below meth c Q Z A nL k n (pc + 3) lv st ws) : Gs p l e R s m args below meth c Q Z A nL k n pc lv (.int (lg_cmp (lI a) (lI b)) :: st) ws := g_if_gt X tgt ht hd (fun h => kt ((lI_cmp_gt ha hb).mp h)) (fun h => kf (by have q : ¬ (b < a) := fun q => h ((lI_cmp_gt ha hb).mpr q); omega))
theorem g_lcmp_le (X : Cx p s m args meth c cc nL ret own Z A) {a b : Int} {off : Int} (tgt : Nat) (ht : (pc : Int) + off = (tgt : Int)) (ha : inL a) (hb : inL b) (hd : decode cc pc = .ok (.ifCond .le off, 3)) (kt : a ≤ b → Gs p l e R s m args below meth c Q Z A nL k n tgt lv st ws) (kf : b < a → Gs p l e R s m args below meth c Q Z A nL k n (pc + 3) lv st ws) : Gs p l e R s m args below meth c Q Z A nL k n pc lv (.int (lg_cmp (lI a) (lI b)) :: st) ws := g_if_le X tgt ht hd (fun h => kt (by have q : ¬ (b < a) := fun q => (Int32.not_lt.mpr h) ((lI_cmp_gt ha hb).mpr q); omega)) (fun h => kf ((lI_cmp_gt ha hb).mp (Int32.not_le.mp h)))
theorem g_lcmp_ge (X : Cx p s m args meth c cc nL ret own Z A) {a b : Int} {off : Int} (tgt : Nat) (ht : (pc : Int) + off = (tgt : Int)) (ha : inL a) (hb : inL b) (hd : decode cc pc = .ok (.ifCond .ge off, 3)) (kt : b ≤ a → Gs p l e R s m args below meth c Q Z A nL k n tgt lv st ws) (kf : a < b → Gs p l e R s m args below meth c Q Z A nL k n (pc + 3) lv st ws) : Gs p l e R s m args below meth c Q Z A nL k n pc lv (.int (lg_cmp (lI a) (lI b)) :: st) ws := g_if_ge X tgt ht hd (fun h => kt (by have q : ¬ (a < b) := fun q => (Int32.not_lt.mpr h) ((lI_cmp_lt ha hb).mpr q); omega)) (fun h => kf ((lI_cmp_lt ha hb).mp (Int32.not_le.mp h)))
theorem g_iastG (X : Cx p s m args meth c cc nL ret own Z A) (q0 : Nat) {a N : Nat} {F : Nat → Int} {i x : Int} (ha : ws[q0]? = some (a, .inl (Z.2.1 0, N, .inl (fun j => iI (F j))))) (h0 : 0 ≤ i) (h1 : i < (N : Int)) (h2 : i ≤ 2147483647) {ws' : (Nat → Int) → va_W} (hw : ∀ G : Nat → Int, ws.set q0 (a, .inl (Z.2.1 0, N, .inl (fun j => iI (G j)))) = ws' G) (hd : decode cc pc = .ok (.iastore, 1)) (kk : ∀ G : Nat → Int, G = updI F i.toNat x → Gs p l e R s m args below meth c Q Z A nL k n (pc + 1) lv st (ws' G)) : Gs p l e R s m args below meth c Q Z A nL k n pc lv (.int (iI x) :: .int (iI i) :: .ref a :: st) ws := g_iastI X q0 ha h0 h1 h2 (hw _) hd (kk _ rfl)
theorem g_bastG (X : Cx p s m args meth c cc nL ret own Z A) (q0 : Nat) {a N : Nat} {F : Nat → Int} {i x : Int} (ha : ws[q0]? = some (a, .inl (Z.2.1 1, N, .inl (fun j => iI (F j))))) (h0 : 0 ≤ i) (h1 : i < (N : Int)) (h2 : i ≤ 2147483647) (hx : (-128) ≤ x ∧ x ≤ 127) {ws' : (Nat → Int) → va_W} (hw : ∀ G : Nat → Int, ws.set q0 (a, .inl (Z.2.1 1, N, .inl (fun j => iI (G j)))) = ws' G) (hd : decode cc pc = .ok (.bastore, 1)) (kk : ∀ G : Nat → Int, G = updI F i.toNat x → Gs p l e R s m args below meth c Q Z A nL k n (pc + 1) lv st (ws' G)) : Gs p l e R s m args below meth c Q Z A nL k n pc lv (.int (iI x) :: .int (iI i) :: .ref a :: st) ws := g_bastI X q0 ha h0 h1 h2 hx (hw _) hd (kk _ rfl)
theorem g_zastG (X : Cx p s m args meth c cc nL ret own Z A) (q0 : Nat) {a N : Nat} {F : Nat → Int} {i x : Int} (ha : ws[q0]? = some (a, .inl (Z.2.1 2, N, .inl (fun j => iI (F j))))) (h0 : 0 ≤ i) (h1 : i < (N : Int)) (h2 : i ≤ 2147483647) (hx : 0 ≤ x ∧ x ≤ 1) {ws' : (Nat → Int) → va_W} (hw : ∀ G : Nat → Int, ws.set q0 (a, .inl (Z.2.1 2, N, .inl (fun j => iI (G j)))) = ws' G) (hd : decode cc pc = .ok (.bastore, 1)) (kk : ∀ G : Nat → Int, G = updI F i.toNat x → Gs p l e R s m args below meth c Q Z A nL k n (pc + 1) lv st (ws' G)) : Gs p l e R s m args below meth c Q Z A nL k n pc lv (.int (iI x) :: .int (iI i) :: .ref a :: st) ws := g_zastI X q0 ha h0 h1 h2 (by omega) (hw _) hd (kk _ rfl)
theorem g_alen (X : Cx p s m args meth c cc nL ret own Z A) (q0 t0 : Nat) {a : Nat} {y : vp_A} {ty : FieldType} {v : Int32} (ha : ws[q0]? = some (a, .inl (Z.2.1 t0, y))) (ht : (gTy Z.2.1)[t0]? = some (Z.2.1 t0, ty)) (hv : Int32.ofNat y.1 = v) (hd : decode cc pc = .ok (.arraylength, 1)) (kk : Gs p l e R s m args below meth c Q Z A nL k n (pc + 1) lv (.int v :: st) ws) : Gs p l e R s m args below meth c Q Z A nL k n pc lv (.ref a :: st) ws := fun H locs ls hP hD hS hl => va_alen X.ex X.by' X.ka hP q0 t0 ha ht hv hd (kk H locs ls hP hD hS hl)
theorem g_maxI (X : Cx p s m args meth c cc nL ret own Z A) {i : Nat} {a b : Int} (hl : Cond.methodLink own i Lib.Math.max.name ∈ wU) (hs : Cond.static Lib.Math.max.name ∈ wU) (hi : Cond.initialized "java/lang/Math" ∈ wU) (hco : Cond.code Lib.Math.max.name Lib.Math.max.code 2 (some .int) ∈ wU) (hfr : 1 ≤ R.frames) (hlo : (st.map fun v => v.category).sum + 13 ≤ R.locals) (hk : k ≤ R.cells) (hn : n ≤ R.slots) (ha : inR a) (hb : inR b) (hd : decode cc pc = .ok (.invokestatic i, 3)) (kk : Gs p l e R s m args below meth c Q Z A nL k n (pc + 3) lv (.int (iI (if a < b then b else a)) :: st) ws) : Gs p l e R s m args below meth c Q Z A nL k n pc lv (.int (iI b) :: .int (iI a) :: st) ws := fun H locs ls hP hD hS hL => va_mmax X.ex X.by' (by rw [X.ml]; exact hL.1.symm) X.ow (X.ts _ hl) (X.ts _ hs) (X.ts _ hi) (X.ts _ hco) hfr hlo hk hn hd (by
  have h := kk H locs ls hP hD hS hL
  first
    | (rw [show (if iI a < iI b then iI b else iI a) = iI (if a < b then b else a) by by_cases q : a < b <;> simp [iI_lt ha hb, q]]; exact h)
    | (rw [show (if iI a ≤ iI b then iI a else iI b) = iI (if a ≤ b then a else b) by by_cases q : a ≤ b <;> simp [iI_le ha hb, q]]; exact h)
    | (rw [minL ha hb]; exact h))
theorem g_minI (X : Cx p s m args meth c cc nL ret own Z A) {i : Nat} {a b : Int} (hl : Cond.methodLink own i Lib.Math.min.name ∈ wU) (hs : Cond.static Lib.Math.min.name ∈ wU) (hi : Cond.initialized "java/lang/Math" ∈ wU) (hco : Cond.code Lib.Math.min.name Lib.Math.min.code 2 (some .int) ∈ wU) (hfr : 1 ≤ R.frames) (hlo : (st.map fun v => v.category).sum + 13 ≤ R.locals) (hk : k ≤ R.cells) (hn : n ≤ R.slots) (ha : inR a) (hb : inR b) (hd : decode cc pc = .ok (.invokestatic i, 3)) (kk : Gs p l e R s m args below meth c Q Z A nL k n (pc + 3) lv (.int (iI (if a ≤ b then a else b)) :: st) ws) : Gs p l e R s m args below meth c Q Z A nL k n pc lv (.int (iI b) :: .int (iI a) :: st) ws := fun H locs ls hP hD hS hL => va_mmin X.ex X.by' (by rw [X.ml]; exact hL.1.symm) X.ow (X.ts _ hl) (X.ts _ hs) (X.ts _ hi) (X.ts _ hco) hfr hlo hk hn hd (by
  have h := kk H locs ls hP hD hS hL
  first
    | (rw [show (if iI a < iI b then iI b else iI a) = iI (if a < b then b else a) by by_cases q : a < b <;> simp [iI_lt ha hb, q]]; exact h)
    | (rw [show (if iI a ≤ iI b then iI a else iI b) = iI (if a ≤ b then a else b) by by_cases q : a ≤ b <;> simp [iI_le ha hb, q]]; exact h)
    | (rw [minL ha hb]; exact h))
theorem g_absI (X : Cx p s m args meth c cc nL ret own Z A) {i : Nat} {a : Int} (hl : Cond.methodLink own i Lib.Math.abs.name ∈ wU) (hs : Cond.static Lib.Math.abs.name ∈ wU) (hi : Cond.initialized "java/lang/Math" ∈ wU) (hco : Cond.code Lib.Math.abs.name Lib.Math.abs.code 1 (some .int) ∈ wU) (hfr : 1 ≤ R.frames) (hlo : (st.map fun v => v.category).sum + 13 ≤ R.locals) (hk : k ≤ R.cells) (hn : n ≤ R.slots) (h1 : -2147483648 ≤ a) (h2 : a ≤ 2147483647) (hd : decode cc pc = .ok (.invokestatic i, 3)) (kk : Gs p l e R s m args below meth c Q Z A nL k n (pc + 3) lv (.int (iI (if 0 ≤ a then a else 0 - a)) :: st) ws) : Gs p l e R s m args below meth c Q Z A nL k n pc lv (.int (iI a) :: st) ws := fun H locs ls hP hD hS hL => va_mabs X.ex X.by' (by rw [X.ml]; exact hL.1.symm) X.ow (X.ts _ hl) (X.ts _ hs) (X.ts _ hi) (X.ts _ hco) hfr hlo hk hn hd (by
  have h := kk H locs ls hP hD hS hL
  have z0 : inR 0 := ⟨by decide, by decide⟩
  rw [show (if (0 : Int32) ≤ iI a then iI a else 0 - iI a) = iI (if 0 ≤ a then a else 0 - a) by
    by_cases q : 0 ≤ a
    · rw [if_pos q, if_pos (show (0 : Int32) ≤ iI a from (iI_le z0 ⟨h1, h2⟩).mpr q)]
    · rw [if_neg q, if_neg (show ¬ (0 : Int32) ≤ iI a from fun z => q ((iI_le z0 ⟨h1, h2⟩).mp z))]
      exact iI_sub 0 a]
  exact h)
end GROWJ
theorem maxF (a b : Int) : a ≤ (if a < b then b else a) ∧ b ≤ (if a < b then b else a) ∧ ((if a < b then b else a) = a ∨ (if a < b then b else a) = b) := by split <;> omega
theorem minF (a b : Int) : (if a ≤ b then a else b) ≤ a ∧ (if a ≤ b then a else b) ≤ b ∧ ((if a ≤ b then a else b) = a ∨ (if a ≤ b then a else b) = b) := by split <;> omega
theorem absF (a : Int) : 0 ≤ (if 0 ≤ a then a else 0 - a) ∧ ((if 0 ≤ a then a else 0 - a) = a ∨ (if 0 ≤ a then a else 0 - a) = -a) ∧ a ≤ (if 0 ≤ a then a else 0 - a) ∧ -a ≤ (if 0 ≤ a then a else 0 - a) := by split <;> omega
theorem tdivB {a b L : Int} (hb : 0 < b) (ha : -L ≤ a ∧ a ≤ L) : -L ≤ a.tdiv b ∧ a.tdiv b ≤ L := by
  have h : (a.tdiv b).natAbs ≤ a.natAbs := by
    rw [Int.natAbs_tdiv]
    exact Nat.div_le_self _ _
  omega
theorem updI_B {F : Nat → Int} {n k : Nat} {lo hi x : Int} (h : ∀ j, j < n → lo ≤ F j ∧ F j ≤ hi) (hx : lo ≤ x ∧ x ≤ hi) : ∀ j, j < n → lo ≤ updI F k x j ∧ updI F k x j ≤ hi := fun j hj => by
  by_cases q : j = k
  · subst q; rw [updI_s]; exact hx
  · rw [updI_n F x q]; exact h j hj
theorem bndW {F : Nat → Int} {n : Nat} {lo hi lo' hi' : Int} (h : ∀ j, j < n → lo ≤ F j ∧ F j ≤ hi) (h1 : lo' ≤ lo) (h2 : hi ≤ hi') : ∀ j, j < n → lo' ≤ F j ∧ F j ≤ hi' := fun j hj => ⟨Int.le_trans h1 (h j hj).1, Int.le_trans (h j hj).2 h2⟩
theorem bnd0 {n : Nat} {lo hi : Int} (h1 : lo ≤ 0) (h2 : 0 ≤ hi) : ∀ j, j < n → lo ≤ (fun _ : Nat => (0 : Int)) j ∧ (fun _ : Nat => (0 : Int)) j ≤ hi := fun _ _ => ⟨h1, h2⟩
theorem mulB {a b A B C : Int} (ha : -A ≤ a ∧ a ≤ A) (hb : -B ≤ b ∧ b ≤ B) (hC : A * B = C) : -C ≤ a * b ∧ a * b ≤ C := by
  have h : (a * b).natAbs ≤ A.natAbs * B.natAbs := by
    rw [Int.natAbs_mul]
    exact Nat.mul_le_mul (by omega) (by omega)
  have hA : 0 ≤ A := by omega
  have hB : 0 ≤ B := by omega
  have e : ((A.natAbs * B.natAbs : Nat) : Int) = A * B := by
    rw [Int.natCast_mul, Int.natAbs_of_nonneg hA, Int.natAbs_of_nonneg hB]
  omega
theorem modB {a b H : Int} (ha : 0 ≤ a) (hb : 0 < b) (hH : b - 1 ≤ H) : 0 ≤ a % b ∧ a % b ≤ H := by
  have h1 := Int.emod_nonneg a (by omega : b ≠ 0)
  have h2 := Int.emod_lt_of_pos a hb
  omega
theorem divB {a b H : Int} (ha : 0 ≤ a) (hb : 0 < b) (hH : a ≤ H) : 0 ≤ a / b ∧ a / b ≤ H := by
  have h1 := Int.ediv_nonneg ha (Int.le_of_lt hb)
  have h2 := Int.ediv_le_self b ha
  omega
theorem nar01 {a : Int} (h : 0 ≤ a ∧ a ≤ 1) : narrow .boolean (.int (iI a)) = .int (iI a) := by
  rcases (show a = 0 ∨ a = 1 by omega) with rfl | rfl <;> rfl
theorem fit01 {a : Int} (h : 0 ≤ a ∧ a ≤ 1) : fits .boolean (.int (iI a)) = true := by
  rcases (show a = 0 ∨ a = 1 by omega) with rfl | rfl <;> rfl
theorem bI_01 {P : Prop} [Decidable P] : 0 ≤ bI P ∧ bI P ≤ 1 := by unfold bI; split <;> decide
theorem fitB (P : Prop) [Decidable P] : fits .boolean (.int (iI (bI P))) = true := fit01 bI_01
theorem tdivB2 {a b L : Int} (hb : 0 < b) (ha : -(L * b) ≤ a ∧ a ≤ L * b) : -L ≤ a.tdiv b ∧ a.tdiv b ≤ L := by
  have h : (a.tdiv b).natAbs ≤ L.natAbs := by
    rw [Int.natAbs_tdiv]
    refine Nat.div_le_of_le_mul ?_
    have e : ((b.natAbs * L.natAbs : Nat) : Int) = b.natAbs * L.natAbs := by rw [Int.natCast_mul]
    have hL : 0 ≤ L := by
      by_cases q : 0 ≤ L
      · exact q
      · have := Int.mul_neg_of_neg_of_pos (show L < 0 by omega) hb
        omega
    have e1 : (b.natAbs : Int) = b := Int.natAbs_of_nonneg (Int.le_of_lt hb)
    have e2 : (L.natAbs : Int) = L := Int.natAbs_of_nonneg hL
    rw [e1, e2, Int.mul_comm] at e
    omega
  have hL : 0 ≤ L := by
    by_cases q : 0 ≤ L
    · exact q
    · have := Int.mul_neg_of_neg_of_pos (show L < 0 by omega) hb
      omega
  omega
