theorem nI_iI (j : Nat) : nI j = iI (j : Int) := by
  apply Int32.toBitVec_inj.mp
  show BitVec.ofNat 32 j = BitVec.ofInt 32 (j : Int)
  exact (BitVec.ofInt_natCast 32 j).symm
theorem iI_bv {a : Int} (h : 0 ≤ a) (h2 : a ≤ 2147483647) : (iI a).toBitVec.toNat = a.toNat := by
  obtain ⟨j, rfl⟩ := Int.eq_ofNat_of_zero_le h
  rw [← nI_iI]
  exact pk_tn (by omega)
section GROWK
variable {p : Program} {l : Launch} {e : Env} {R : Room} {s : State} {m : MethodId} {args : Array Value} {below : List Frame} {meth : Method} {c : Code} {Q : State → Prop} {Z : gZ} {A : Nat → Prop} {nL k n pc : Nat} {lv : List (Nat × Value)} {st : List Value} {ws : va_W} {cc : ByteArray} {ret : Option FieldType} {own : String}
/-- the low bits of any number -/
theorem g_iandM (X : Cx p s m args meth c cc nL ret own Z A) {x : Int32} {M : Int} (b : Nat) (hM : M.toNat = 2 ^ b - 1) (h0 : 0 ≤ M) (h1 : M ≤ 2147483647) (hd : decode cc pc = .ok (.iand, 1)) (kk : ∀ y : Int, 0 ≤ y ∧ y ≤ M → Gs p l e R s m args below meth c Q Z A nL k n (pc + 1) lv (.int (iI y) :: st) ws) : Gs p l e R s m args below meth c Q Z A nL k n pc lv (.int (iI M) :: .int x :: st) ws := by
  obtain ⟨j, hj, ej⟩ := pk_andE x (m := iI M) b (by rw [iI_bv h0 h1]; exact hM)
  have h2 := kk (j : Int) ⟨by omega, by omega⟩
  rw [← nI_iI, ← ej] at h2
  exact g_iand X hd h2
end GROWK
