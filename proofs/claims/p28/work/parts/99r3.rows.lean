theorem iPD_new {α : Type} {Pr : Nat → Option Nat} {pA : Nat → Nat} {prr : Nat → Int} {PF : Nat → α} {PP : Nat → va_W} {Q : Nat → Int → α → va_W → Prop} {n n2 : Int} {w : va_W} {p0 : Nat} {v : Int} {u : α} (h : ∀ i : Nat, (i : Int) < n → Pr i = some (pA i) ∧ Q (pA i) (prr i) (PF i) (PP i)) (h0 : 0 ≤ n) (hn : n2 = n + 1) (hq : Q p0 v u w) : ∀ i : Nat, (i : Int) < n2 → va_up Pr n.toNat (some p0) i = some (va_up pA n.toNat p0 i) ∧ Q (va_up pA n.toNat p0 i) (updI prr n.toNat v i) (va_up PF n.toNat u i) (putW PP n.toNat w i) := fun i hi => by
  by_cases q : i = n.toNat
  · subst q
    rw [putW_s, updI_s]
    simp only [va_up, if_true]
    exact ⟨trivial, hq⟩
  · rw [putW_n _ _ q, updI_n _ _ q]
    simp only [va_up, if_neg q]
    exact h i (by omega)
theorem iID_put {α : Type} {Ir : Nat → Option Nat} {iA : Nat → Nat} {ki ie : Nat → Int} {ii : Nat → α} {IP : Nat → va_W} {Q : Nat → Int → α → va_W → Prop} {k : Nat} {w : va_W} {d0 : Nat} {v : Int} {u : α} (h : ∀ i : Nat, i < 3 → (Ir i = none ∧ IP i = [] ∧ ki i = 0) ∨ (Ir i = some (iA i) ∧ Q (iA i) (ie i) (ii i) (IP i) ∧ ki i = 1)) (hq : Q d0 v u w) : ∀ i : Nat, i < 3 → (va_up Ir k (some d0) i = none ∧ putW IP k w i = [] ∧ updI ki k 1 i = 0) ∨ (va_up Ir k (some d0) i = some (va_up iA k d0 i) ∧ Q (va_up iA k d0 i) (updI ie k v i) (va_up ii k u i) (putW IP k w i) ∧ updI ki k 1 i = 1) := fun i hi => by
  by_cases q : i = k
  · subst q
    right
    rw [putW_s, updI_s, updI_s]
    simp only [va_up, if_true]
    exact ⟨trivial, hq, trivial⟩
  · rw [putW_n _ _ q, updI_n _ _ q, updI_n _ _ q]
    simp only [va_up, if_neg q]
    exact h i hi
theorem iID_put' {α : Type} {Ir : Nat → Option Nat} {iA : Nat → Nat} {ki ie : Nat → Int} {ii : Nat → α} {IP : Nat → va_W} {Q : Nat → Int → α → va_W → Prop} {k : Nat} {w : va_W} {d0 : Nat} {v : Int} {u : α} (h : ∀ i : Nat, i < 3 → (Ir i = none ∧ IP i = [] ∧ ki i = 0) ∨ (Ir i = some (iA i) ∧ Q (iA i) (ie i) (ii i) (IP i) ∧ ki i = 1)) (h1 : Ir k = some d0) (h2 : d0 = iA k) (h3 : ki k = 1) (hq : Q d0 v u w) : ∀ i : Nat, i < 3 → (Ir i = none ∧ putW IP k w i = [] ∧ updI ki k 1 i = 0) ∨ (Ir i = some (iA i) ∧ Q (iA i) (updI ie k v i) (va_up ii k u i) (putW IP k w i) ∧ updI ki k 1 i = 1) := fun i hi => by
  by_cases q : i = k
  · subst q
    right
    rw [putW_s, updI_s, updI_s, ← h2, show va_up ii i u i = u from if_pos rfl]
    exact ⟨h1, hq, rfl⟩
  · rw [putW_n _ _ q, updI_n _ _ q, updI_n _ _ q, show va_up ii k u i = ii i from if_neg q]
    exact h i hi
