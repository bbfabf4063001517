theorem imgStep {K K1 K2 K3 K4 A B C D : Nat → Int} {r a b c d : Int} (h : ∀ j : Nat, (j : Int) < r → K (4 * j) = A j ∧ K (4 * j + 1) = B j ∧ K (4 * j + 2) = C j ∧ K (4 * j + 3) = D j) (e1 : K1 = updI K (4 * r).toNat a) (e2 : K2 = updI K1 (4 * r + 1).toNat b) (e3 : K3 = updI K2 (4 * r + 2).toNat c) (e4 : K4 = updI K3 (4 * r + 3).toNat d) (ha : a = A r.toNat) (hb : b = B r.toNat) (hc : c = C r.toNat) (hd : d = D r.toNat) (h0 : 0 ≤ r) : ∀ j : Nat, (j : Int) < r + 1 → K4 (4 * j) = A j ∧ K4 (4 * j + 1) = B j ∧ K4 (4 * j + 2) = C j ∧ K4 (4 * j + 3) = D j := fun j hj => by
  subst e1; subst e2; subst e3; subst e4
  by_cases q : (j : Int) < r
  · obtain ⟨q1, q2, q3, q4⟩ := h j q
    refine ⟨?_, ?_, ?_, ?_⟩ <;> (simp only [updI]; rw [if_neg (by omega), if_neg (by omega), if_neg (by omega), if_neg (by omega)]; assumption)
  · have hr : j = r.toNat := by omega
    subst hr
    refine ⟨?_, ?_, ?_, ?_⟩
    · simp only [updI]; rw [if_neg (by omega), if_neg (by omega), if_neg (by omega), if_pos (by omega)]; exact ha
    · simp only [updI]; rw [if_neg (by omega), if_neg (by omega), if_pos (by omega)]; exact hb
    · simp only [updI]; rw [if_neg (by omega), if_pos (by omega)]; exact hc
    · simp only [updI]; rw [if_pos (by omega)]; exact hd
theorem onStepY {P P2 S S2 K : Nat → Int} {r x y z : Int} (h : ∀ j : Nat, (j : Int) < r → ((j : Int) < z ∧ P j = K (4 * j) ∧ S j = K (4 * j + 1)) ∨ P j = -1) (e1 : P2 = updI P r.toNat x) (e2 : S2 = updI S r.toNat y) (hx : x = K (4 * r).toNat) (hy : y = K (4 * r + 1).toNat) (h0 : 0 ≤ r) (hz : r < z) : ∀ j : Nat, (j : Int) < r + 1 → ((j : Int) < z ∧ P2 j = K (4 * j) ∧ S2 j = K (4 * j + 1)) ∨ P2 j = -1 := fun j hj => by
  subst e1; subst e2
  by_cases q : j = r.toNat
  · subst q
    refine Or.inl ⟨by omega, ?_, ?_⟩
    · rw [updI_s, hx, show (4 * r).toNat = 4 * r.toNat by omega]
    · rw [updI_s, hy, show (4 * r + 1).toNat = 4 * r.toNat + 1 by omega]
  · rw [updI_n _ _ q, updI_n _ _ q]; exact h j (by omega)
theorem onStepN {P P2 S S2 K : Nat → Int} {r y z : Int} (h : ∀ j : Nat, (j : Int) < r → ((j : Int) < z ∧ P j = K (4 * j) ∧ S j = K (4 * j + 1)) ∨ P j = -1) (e1 : P2 = updI P r.toNat (-1)) (e2 : S2 = updI S r.toNat y) (h0 : 0 ≤ r) : ∀ j : Nat, (j : Int) < r + 1 → ((j : Int) < z ∧ P2 j = K (4 * j) ∧ S2 j = K (4 * j + 1)) ∨ P2 j = -1 := fun j hj => by
  subst e1; subst e2
  by_cases q : j = r.toNat
  · subst q; exact Or.inr (updI_s _ _ _)
  · rw [updI_n _ _ q, updI_n _ _ q]; exact h j (by omega)
theorem tdq1 {a : Int} (h : 0 ≤ a) : Int.tdiv a 1000 = a / 1000 := Int.tdiv_eq_ediv_of_nonneg h
theorem tdq2 {a : Int} (h : 0 ≤ a) : Int.tmod a 1000 = a % 1000 := Int.tmod_eq_emod_of_nonneg h
theorem tdq3 {a : Int} (h : a < 0) : Int.tmod a 1000 ≤ 0 := by
  have h1 := Int.tmod_nonneg (a := -a) 1000 (by omega)
  rw [Int.neg_tmod] at h1
  omega
