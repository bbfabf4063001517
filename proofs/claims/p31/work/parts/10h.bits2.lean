theorem and_leL (x y : Int32) (h : 0 ≤ x.toInt) : 0 ≤ (x &&& y).toInt ∧ (x &&& y).toInt ≤ x.toInt := by
  have h1 : x.toInt = if 2 * x.toBitVec.toNat < 2 ^ 32 then (x.toBitVec.toNat : Int) else (x.toBitVec.toNat : Int) - ((2 ^ 32 : Nat) : Int) := BitVec.toInt_eq_toNat_cond x.toBitVec
  have h2 : (x &&& y).toInt = if 2 * (x &&& y).toBitVec.toNat < 2 ^ 32 then ((x &&& y).toBitVec.toNat : Int) else ((x &&& y).toBitVec.toNat : Int) - ((2 ^ 32 : Nat) : Int) := BitVec.toInt_eq_toNat_cond _
  have h3 : (x &&& y).toBitVec.toNat ≤ x.toBitVec.toNat := by
    rw [Int32.toBitVec_and, BitVec.toNat_and]
    exact Nat.and_le_left
  have h4 := x.toBitVec.isLt
  split at h1 <;> split at h2 <;> omega
theorem and_leR (x y : Int32) (h : 0 ≤ y.toInt) : 0 ≤ (x &&& y).toInt ∧ (x &&& y).toInt ≤ y.toInt := by
  have h1 := and_leL y x h
  rwa [show y &&& x = x &&& y from Int32.toBitVec_inj.mp (by rw [Int32.toBitVec_and, Int32.toBitVec_and, BitVec.and_comm])] at h1
theorem shl1E : ∀ j : Fin 31, iI 1 <<< (iI ((j : Nat) : Int) &&& 31) = iI ((2 : Int) ^ (j : Nat)) := by decide +kernel
theorem pow2B {k : Int} {y M : Int} (K : Nat) (hM : (2 : Int) ^ K = M) (h0 : 0 ≤ k) (h1 : k ≤ K) (hy : y = (2 : Int) ^ k.toNat) : 1 ≤ y ∧ y ≤ M := by
  subst hy; subst hM
  have h3 : k.toNat ≤ K := by omega
  refine ⟨?_, ?_⟩
  · have := Nat.one_le_two_pow (n := k.toNat)
    have e : ((2 ^ k.toNat : Nat) : Int) = (2 : Int) ^ k.toNat := by simp
    omega
  · have := Nat.pow_le_pow_right (n := 2) (by decide) h3
    have e : ((2 ^ k.toNat : Nat) : Int) = (2 : Int) ^ k.toNat := by simp
    have e2 : ((2 ^ K : Nat) : Int) = (2 : Int) ^ K := by simp
    omega
section GROWL
variable {p : Program} {l : Launch} {e : Env} {R : Room} {s : State} {m : MethodId} {args : Array Value} {below : List Frame} {meth : Method} {c : Code} {Q : State → Prop} {Z : gZ} {A : Nat → Prop} {nL k n pc : Nat} {lv : List (Nat × Value)} {st : List Value} {ws : va_W} {cc : ByteArray} {ret : Option FieldType} {own : String}
theorem g_iandL (X : Cx p s m args meth c cc nL ret own Z A) {a : Int} {x : Int32} (h0 : 0 ≤ a) (h1 : a ≤ 2147483647) (hd : decode cc pc = .ok (.iand, 1)) (kk : ∀ y : Int, 0 ≤ y ∧ y ≤ a → Gs p l e R s m args below meth c Q Z A nL k n (pc + 1) lv (.int (iI y) :: st) ws) : Gs p l e R s m args below meth c Q Z A nL k n pc lv (.int x :: .int (iI a) :: st) ws := by
  have h := and_leL (iI a) x (by rw [iI_int ⟨by omega, h1⟩]; exact h0)
  rw [iI_int ⟨by omega, h1⟩] at h
  have h2 := kk _ h
  rw [iI_of] at h2
  exact g_iand X hd h2
theorem g_iandR (X : Cx p s m args meth c cc nL ret own Z A) {a : Int} {x : Int32} (h0 : 0 ≤ a) (h1 : a ≤ 2147483647) (hd : decode cc pc = .ok (.iand, 1)) (kk : ∀ y : Int, 0 ≤ y ∧ y ≤ a → Gs p l e R s m args below meth c Q Z A nL k n (pc + 1) lv (.int (iI y) :: st) ws) : Gs p l e R s m args below meth c Q Z A nL k n pc lv (.int (iI a) :: .int x :: st) ws := by
  have h := and_leR x (iI a) (by rw [iI_int ⟨by omega, h1⟩]; exact h0)
  rw [iI_int ⟨by omega, h1⟩] at h
  have h2 := kk _ h
  rw [iI_of] at h2
  exact g_iand X hd h2
theorem g_shl1 (X : Cx p s m args meth c cc nL ret own Z A) {a : Int} (h0 : 0 ≤ a) (h1 : a ≤ 30) (hd : decode cc pc = .ok (.ishl, 1)) (kk : ∀ y : Int, y = (2 : Int) ^ a.toNat → Gs p l e R s m args below meth c Q Z A nL k n (pc + 1) lv (.int (iI y) :: st) ws) : Gs p l e R s m args below meth c Q Z A nL k n pc lv (.int (iI a) :: .int (iI 1) :: st) ws := by
  obtain ⟨j, rfl⟩ := Int.eq_ofNat_of_zero_le h0
  have h2 := kk _ rfl
  rw [Int.toNat_natCast, ← shl1E ⟨j, by omega⟩] at h2
  exact g_ishl X hd h2
end GROWL
