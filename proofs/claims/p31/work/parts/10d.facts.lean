theorem tmodB {a d : Int} (hd : 0 < d) : -d < a.tmod d ∧ a.tmod d < d := tmod_bounds hd
theorem rest_n {a d : Int} (hd : 0 < d) (h : a.tmod d < 0) : a.tmod d + d = a % d := by
  have h1 := Int.emod_nonneg a (by omega : d ≠ 0)
  have h2 := Int.emod_lt_of_pos a hd
  have h3 := tmod_bounds (a := a) hd
  have h4 := Int.mul_tdiv_add_tmod a d
  have h5 := Int.mul_ediv_add_emod a d
  have h6 : (a.tmod d + d - a % d) % d = 0 := by
    rw [Int.sub_emod, Int.add_emod, Int.emod_self, Int.add_zero, Int.emod_emod_of_dvd _ (Int.dvd_refl d), Int.emod_emod_of_dvd _ (Int.dvd_refl d)]
    have e : a.tmod d % d = a % d := by
      rw [← h4, Int.add_comm, Int.add_mul_emod_self_left] 
      rw [Int.add_comm, h4] 
    rw [e]; simp
  rcases Int.dvd_of_emod_eq_zero h6 with ⟨q, hq⟩
  have : q = 0 := by
    by_cases h7 : q = 0
    · exact h7
    · rcases (show q ≤ -1 ∨ 1 ≤ q by omega) with h8 | h8
      · have := Int.mul_le_mul_of_nonneg_left h8 (Int.le_of_lt hd)
        omega
      · have := Int.mul_le_mul_of_nonneg_left h8 (Int.le_of_lt hd)
        omega
  subst this
  omega
theorem rest_p {a d : Int} (hd : 0 < d) (h : 0 ≤ a.tmod d) : a.tmod d = a % d := by
  by_cases h0 : 0 ≤ a
  · exact Int.tmod_eq_emod_of_nonneg h0
  · have h1 := Int.tmod_nonneg (a := -a) d (by omega)
    rw [Int.neg_tmod] at h1
    have h2 : a.tmod d = 0 := by omega
    rw [h2]
    exact (Int.emod_eq_zero_of_dvd (Int.dvd_of_tmod_eq_zero h2)).symm
theorem stripsB {r w y : Int} (hw : 20 ≤ w) (h0 : 0 ≤ r) (hr : r ≤ 4800) (h : y = (r + w - 1) / w) : 0 ≤ y ∧ y ≤ 240 := by
  have h1 : 0 ≤ (r + w - 1) / w := Int.ediv_nonneg (by omega) (by omega)
  have h2 : (r + w - 1) / w < 241 := Int.ediv_lt_of_lt_mul (by omega) (by omega)
  omega
/-- one more byte of the kind -/
theorem stepE {F : Nat → Int} {a b lo hi y : Int} (h : ∀ j : Nat, a ≤ j → (j : Int) < b → lo ≤ F j ∧ F j ≤ hi) (hb : 0 ≤ b) (hc : lo ≤ y ∧ y ≤ hi) (hy : y = F b.toNat) : ∀ j : Nat, a ≤ j → (j : Int) < b + 1 → lo ≤ F j ∧ F j ≤ hi := fun j h1 h2 => by
  by_cases q : (j : Int) < b
  · exact h j h1 q
  · have e : j = b.toNat := by omega
    subst e
    rw [← hy]
    exact hc
