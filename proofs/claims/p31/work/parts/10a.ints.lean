/-! ===== ints told by whole numbers: iI a; sums, differences and products need no bounds, tests and quotients do ===== -/
def iI (a : Int) : Int32 := Int32.ofInt a
def lI (a : Int) : Int64 := Int64.ofInt a
/-- a fits into an int -/
abbrev inR (a : Int) : Prop := -2147483648 ≤ a ∧ a ≤ 2147483647
theorem inR_of (x : Int32) : inR x.toInt := ⟨Int32.le_toInt x, by have := Int32.toInt_lt x; omega⟩
theorem iI_of (x : Int32) : iI x.toInt = x := Int32.ofInt_toInt x
theorem iI_add (a b : Int) : iI a + iI b = iI (a + b) := (Int32.ofInt_add a b).symm
theorem iI_sub (a b : Int) : iI a - iI b = iI (a - b) := (Int32.ofInt_sub a b).symm
theorem iI_mul (a b : Int) : iI a * iI b = iI (a * b) := (Int32.ofInt_mul a b).symm
theorem iI_neg (a : Int) : - iI a = iI (-a) := (Int32.ofInt_neg a).symm
theorem iI_int {a : Int} (h : inR a) : (iI a).toInt = a := Int32.toInt_ofInt_of_le (by have := h.1; omega) (by have := h.2; omega)
theorem iI_lt {a b : Int} (ha : inR a) (hb : inR b) : iI a < iI b ↔ a < b := by rw [Int32.lt_iff_toInt_lt, iI_int ha, iI_int hb]
theorem iI_le {a b : Int} (ha : inR a) (hb : inR b) : iI a ≤ iI b ↔ a ≤ b := by rw [Int32.le_iff_toInt_le, iI_int ha, iI_int hb]
theorem iI_eq {a b : Int} (ha : inR a) (hb : inR b) : iI a = iI b ↔ a = b := ⟨fun h => by rw [← iI_int ha, h, iI_int hb], fun h => by rw [h]⟩
theorem iI_0 : (0 : Int32) = iI 0 := rfl
theorem iI_cl {a : Int} (h : inR a) : (iI a).toNatClampNeg = a.toNat := by
  show (iI a).toInt.toNat = _
  rw [iI_int h]
theorem iI_in {a : Int} {n : Nat} (h0 : 0 ≤ a) (h1 : a < n) (hr : inR a) : vp_in (iI a) n := vp_in_iff.mpr ⟨by rw [iI_int hr]; exact h0, by rw [iI_int hr]; exact h1⟩
theorem iI_div {a b : Int} (ha : inR a) (hb : inR b) (h1 : b ≠ -1) : iI a / iI b = iI (a.tdiv b) := by
  apply Int32.toInt_inj.mp
  rw [Int32.toInt_div, iI_int ha, iI_int hb]
  have h : inR (a.tdiv b) := by
    by_cases h0 : b = 0
    · subst h0
      rw [Int.tdiv_zero]
      exact ⟨by decide, by decide⟩
    · have hn : (a.tdiv b).natAbs ≤ a.natAbs := by
        rw [Int.natAbs_tdiv]
        exact Nat.div_le_self _ _
      by_cases hm : a = -2147483648
      · have h2 : 2 ≤ b.natAbs ∨ b = 1 := by omega
        rcases h2 with h2 | h2
        · have h3 : (a.tdiv b).natAbs ≤ a.natAbs / 2 := by
            rw [Int.natAbs_tdiv]
            exact Nat.div_le_div_left h2 (by decide)
          have := ha.1
          omega
        · subst h2
          rw [Int.tdiv_one]
          exact ha
      · have := ha.1
        have := ha.2
        omega
  rw [iI_int h]
  exact Int.bmod_eq_of_le (by have := h.1; omega) (by have := h.2; omega)
theorem iI_rem {a b : Int} (ha : inR a) (hb : inR b) (h1 : b ≠ -1) : iI a - iI a / iI b * iI b = iI (a.tmod b) := by
  rw [iI_div ha hb h1, iI_mul, iI_sub]
  refine congrArg iI ?_
  have h := Int.mul_tdiv_add_tmod a b
  have e : a.tdiv b * b = b * a.tdiv b := Int.mul_comm _ _
  omega
/-- a truth as an int -/
def bI (P : Prop) [Decidable P] : Int := if P then 1 else 0
theorem bI_t {P : Prop} [Decidable P] (h : P) : bI P = 1 := if_pos h
theorem bI_f {P : Prop} [Decidable P] (h : ¬ P) : bI P = 0 := if_neg h
theorem bI_R (P : Prop) [Decidable P] : inR (bI P) := by unfold bI; split <;> exact ⟨by decide, by decide⟩
theorem bI_nar (P : Prop) [Decidable P] : narrow .boolean (.int (iI (bI P))) = .int (iI (bI P)) := by
  unfold bI
  split <;> rfl
theorem bI_0 {P : Prop} [Decidable P] : bI P = 0 ↔ ¬ P := by unfold bI; split <;> simp [*]
theorem lI_of {a : Int} (h : inR a) : (iI a).toInt64 = lI a := by
  apply Int64.toInt_inj.mp
  rw [Int32.toInt_toInt64, iI_int h]
  exact (Int64.toInt_ofInt_of_le (by have := h.1; omega) (by have := h.2; omega)).symm
abbrev inL (a : Int) : Prop := -9223372036854775808 ≤ a ∧ a ≤ 9223372036854775807
theorem lI_int {a : Int} (h : inL a) : (lI a).toInt = a := Int64.toInt_ofInt_of_le (by have := h.1; omega) (by have := h.2; omega)
theorem lI_add (a b : Int) : lI a + lI b = lI (a + b) := (Int64.ofInt_add a b).symm
theorem lI_cmp_lt {a b : Int} (ha : inL a) (hb : inL b) : lg_cmp (lI a) (lI b) < 0 ↔ a < b := by rw [lgc_lt, Int64.lt_iff_toInt_lt, lI_int ha, lI_int hb]
theorem lI_cmp_gt {a b : Int} (ha : inL a) (hb : inL b) : 0 < lg_cmp (lI a) (lI b) ↔ b < a := by rw [lgc_gt, Int64.lt_iff_toInt_lt, lI_int ha, lI_int hb]
def updI (F : Nat → Int) (k : Nat) (x : Int) : Nat → Int := fun j => if j = k then x else F j
theorem updI_s (F : Nat → Int) (k : Nat) (x : Int) : updI F k x k = x := if_pos rfl
theorem updI_n (F : Nat → Int) {k j : Nat} (x : Int) (h : j ≠ k) : updI F k x j = F j := if_neg h
theorem updI_eq (F : Nat → Int) (k : Nat) (x : Int) : upd (fun j => iI (F j)) k (iI x) = fun j => iI (updI F k x j) := by
  funext j
  by_cases h : j = k
  · subst h; simp [upd, updI]
  · simp [upd, updI, h]
