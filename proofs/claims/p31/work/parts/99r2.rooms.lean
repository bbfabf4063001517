theorem iRS_new {α : Type} {Rr : Nat → Option Nat} {rA : Nat → Nat} {RC : Nat → α} {RP : Nat → va_W} {Q : Nat → α → va_W → Prop} {n n2 : Int} {w : va_W} {r0 : Nat} {v : α} (h : ∀ i : Nat, (i : Int) < n → Rr i = some (rA i) ∧ Q (rA i) (RC i) (RP i)) (h0 : 0 ≤ n) (hn : n2 = n + 1) (hq : Q r0 v w) : ∀ i : Nat, (i : Int) < n2 → va_up Rr n.toNat (some r0) i = some (va_up rA n.toNat r0 i) ∧ Q (va_up rA n.toNat r0 i) (va_up RC n.toNat v i) (putW RP n.toNat w i) := fun i hi => by
  by_cases q : i = n.toNat
  · subst q
    rw [putW_s]
    simp only [va_up, if_true]
    exact ⟨trivial, hq⟩
  · rw [putW_n _ _ q]
    simp only [va_up, if_neg q]
    exact h i (by omega)
