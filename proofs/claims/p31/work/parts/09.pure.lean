/-! ===== plain facts ===== -/
def isF (a v b : Int32) : Int32 := if a ≤ v ∧ v ≤ b then 1 else 0
theorem i32_nlt {a b : Int32} (h : ¬ a < b) : b ≤ a := Int32.not_lt.mp h
theorem isF_y {a v b : Int32} (h1 : ¬ v < a) (h2 : ¬ b < v) : 1 = isF a v b := (if_pos ⟨i32_nlt h1, i32_nlt h2⟩).symm
theorem isF_n1 {a v b : Int32} (h : v < a) : 0 = isF a v b := (if_neg (fun q => (Int32.not_lt.mpr q.1) h)).symm
theorem isF_n2 {a v b : Int32} (h : b < v) : 0 = isF a v b := (if_neg (fun q => (Int32.not_lt.mpr q.2) h)).symm
theorem isF_or (a v b : Int32) : isF a v b = 0 ∨ isF a v b = 1 := by unfold isF; split <;> simp
theorem isF_one {a v b : Int32} (h : ¬ isF a v b = 0) : isF a v b = 1 := (isF_or a v b).resolve_left h
theorem isF_nar (a v b : Int32) : narrow .boolean (.int (isF a v b)) = .int (isF a v b) := by
  rcases isF_or a v b with h | h <;> rw [h] <;> rfl
theorem isF_e (n : Int32) : isF 0 n (-1) = 0 := if_neg (fun q => by
  have h1 := Int32.le_iff_toInt_le.mp q.1
  have h2 := Int32.le_iff_toInt_le.mp q.2
  have e1 : (0 : Int32).toInt = 0 := by decide
  have e2 : (-1 : Int32).toInt = -1 := by decide
  omega)
theorem isF_in {k : Int32} {M : Int32} {n : Nat} (hM : M.toInt + 1 = n) (h : ¬ isF 0 k M = 0) : vp_in k n := by
  have h1 : (0 : Int32) ≤ k ∧ k ≤ M := by
    by_cases q : (0 : Int32) ≤ k ∧ k ≤ M
    · exact q
    · exact absurd (if_neg q) h
  have a := Int32.le_iff_toInt_le.mp h1.1
  have b := Int32.le_iff_toInt_le.mp h1.2
  have e1 : (0 : Int32).toInt = 0 := by decide
  exact vp_in_iff.mpr ⟨by omega, by omega⟩
theorem lgc_lt {x y : Int64} : lg_cmp x y < 0 ↔ x < y := by
  unfold lg_cmp
  constructor
  · intro h
    by_cases h1 : x > y
    · rw [if_pos h1] at h; exact absurd h (by decide)
    · by_cases h2 : x = y
      · rw [if_neg h1, if_pos h2] at h; exact absurd h (by decide)
      · rcases Int64.lt_or_eq_of_le (Int64.not_lt.mp h1) with q | q
        · exact q
        · exact absurd q h2
  · intro h
    have h1 : ¬ x > y := Int64.not_lt.mpr (Int64.le_of_lt h)
    have h2 : ¬ x = y := fun q => by subst q; exact Int64.lt_irrefl h
    rw [if_neg h1, if_neg h2]
    decide
theorem lgc_gt {x y : Int64} : 0 < lg_cmp x y ↔ y < x := by
  unfold lg_cmp
  constructor
  · intro h
    by_cases h1 : x > y
    · exact h1
    · by_cases h2 : x = y
      · rw [if_neg h1, if_pos h2] at h; exact absurd h (by decide)
      · rw [if_neg h1, if_neg h2] at h; exact absurd h (by decide)
  · intro h
    rw [if_pos (show x > y from h)]
    decide
def inF (v a b : Int64) : Int32 := if a ≤ v ∧ v ≤ b then 1 else 0
theorem inF_n1 {v a b : Int64} (h : lg_cmp v a < 0) : 0 = inF v a b := (if_neg (fun q => (Int64.not_lt.mpr q.1) (lgc_lt.mp h))).symm
theorem inF_n2 {v a b : Int64} (h : 0 < lg_cmp v b) : 0 = inF v a b := (if_neg (fun q => (Int64.not_lt.mpr q.2) (lgc_gt.mp h))).symm
theorem inF_y {v a b : Int64} (h1 : ¬ lg_cmp v a < 0) (h2 : ¬ 0 < lg_cmp v b) : 1 = inF v a b := (if_pos ⟨Int64.not_lt.mp (fun q => h1 (lgc_lt.mpr q)), Int64.not_lt.mp (fun q => h2 (lgc_gt.mpr q))⟩).symm
theorem inF_or (v a b : Int64) : inF v a b = 0 ∨ inF v a b = 1 := by unfold inF; split <;> simp
theorem inF_one {v a b : Int64} (h : ¬ inF v a b = 0) : inF v a b = 1 := (inF_or v a b).resolve_left h
/-- the reference's test of longs is the class's of ints -/
theorem inF_isF (v a b : Int32) : inF v.toInt64 a.toInt64 b.toInt64 = isF a v b := by
  unfold inF isF
  simp only [Int64.le_iff_toInt_le, Int32.le_iff_toInt_le, Int32.toInt_toInt64]
theorem inF_e (n : Int32) : inF n.toInt64 0 (-1) = 0 := (inF_isF n 0 (-1)).trans (isF_e n)
theorem inF_in {k M : Int32} {N : Int64} {n : Nat} (hM : M.toInt + 1 = n) (hN : M.toInt64 = N := by rfl) (h : ¬ inF k.toInt64 0 N = 0) : vp_in k n := by
  subst hN
  exact isF_in hM (fun q => h ((inF_isF k 0 M).trans q))
def canB (w r d l f : Int32) : Int32 := if isF 20 w 120 = 0 then 0 else if isF 10 r 120 = 0 then 0 else if isF 0 d 2 = 0 then 0 else if isF 300 l 2000 = 0 then 0 else if isF 0 (f / 1000) (r - 1) = 0 then 0 else if isF 1 (f - f / 1000 * 1000) r = 0 then 0 else 1
def papC (w r d l f : Int32) : Int32 := if canB w r d l f = 0 then -1 else 0
def papM (w r d l f : Int32) : Int32 := if inF w.toInt64 20 120 = 0 then -1 else if inF r.toInt64 10 120 = 0 then -1 else if inF d.toInt64 0 2 = 0 then -1 else if inF l.toInt64 300 2000 = 0 then -1 else if f < 0 then -1 else if inF (f / 1000).toInt64 0 (r - 1).toInt64 = 0 then -1 else if inF (f - f / 1000 * 1000).toInt64 1 r.toInt64 = 0 then -1 else 0
def cntF (x : Int32) : Int32 := if x.toInt = 2 then 5 else if x.toInt < 0 ∨ 5 < x.toInt then -1 else 0
theorem cntF_out {x : Int32} (h : x.toInt < 0 ∨ 5 < x.toInt) : (-1) = cntF x := by
  unfold cntF
  rw [if_neg (by omega), if_pos h]
theorem cntF_2 {x : Int32} (h : x.toInt = 2) : 5 = cntF x := by
  unfold cntF
  rw [if_pos h]
theorem cntF_in {x : Int32} {q : Int} (h : x.toInt = q) (h2 : q ≠ 2) (h3 : 0 ≤ q ∧ q ≤ 5) : 0 = cntF x := by
  unfold cntF
  rw [if_neg (by omega), if_neg (by omega)]
theorem f1000 (f : Int32) : (f - f / 1000 * 1000).toInt = f.toInt.tmod 1000 := by
  have h := Int32.toInt_mod f 1000
  have e : f - f / 1000 * 1000 = f % 1000 := by
    apply Int32.toInt_inj.mp
    rw [Int32.toInt_mod, Int32.toInt_sub, Int32.toInt_mul, Int32.toInt_div]
    have h0 : (1000 : Int32).toInt = 1000 := by decide
    rw [h0]
    have r1 := Int32.le_toInt f
    have r2 := Int32.toInt_lt f
    have hd := Int.mul_tdiv_add_tmod f.toInt 1000
    have hb : -1000 < f.toInt.tmod 1000 ∧ f.toInt.tmod 1000 < 1000 := tmod_bounds (by decide)
    have hs1 : 0 ≤ f.toInt → 0 ≤ f.toInt.tmod 1000 := fun h => Int.tmod_nonneg 1000 h
    have hs2 : f.toInt ≤ 0 → f.toInt.tmod 1000 ≤ 0 := fun h => by
      have h4 := Int.tmod_nonneg (a := -f.toInt) 1000 (by omega)
      rw [Int.neg_tmod] at h4
      omega
    have e1 : (f.toInt.tdiv 1000).bmod (2 ^ 32) = f.toInt.tdiv 1000 := Int.bmod_eq_of_le (by omega) (by omega)
    have e2 : (f.toInt.tdiv 1000 * 1000).bmod (2 ^ 32) = f.toInt.tdiv 1000 * 1000 := Int.bmod_eq_of_le (by omega) (by omega)
    rw [e1, e2]
    have e3 : f.toInt - f.toInt.tdiv 1000 * 1000 = f.toInt.tmod 1000 := by omega
    rw [e3]
    exact Int.bmod_eq_of_le (by omega) (by omega)
  rw [e, Int32.toInt_mod]
  rfl
theorem pap_eq (w r d l f : Int32) : papC w r d l f = papM w r d l f := by
  unfold papC papM canB
  have i1 : inF w.toInt64 20 120 = isF 20 w 120 := inF_isF w 20 120
  have i2 : inF r.toInt64 10 120 = isF 10 r 120 := inF_isF r 10 120
  have i3 : inF d.toInt64 0 2 = isF 0 d 2 := inF_isF d 0 2
  have i4 : inF l.toInt64 300 2000 = isF 300 l 2000 := inF_isF l 300 2000
  have i5 : inF (f / 1000).toInt64 0 (r - 1).toInt64 = isF 0 (f / 1000) (r - 1) := inF_isF _ 0 _
  have i6 : inF (f - f / 1000 * 1000).toInt64 1 r.toInt64 = isF 1 (f - f / 1000 * 1000) r := inF_isF _ 1 _
  rw [i1, i2, i3, i4, i5, i6]
  by_cases hf : f < 0
  · have hn : isF 1 (f - f / 1000 * 1000) r = 0 := if_neg (fun q => by
      have h1 := Int32.le_iff_toInt_le.mp q.1
      rw [f1000] at h1
      have h2 := Int32.lt_iff_toInt_lt.mp hf
      have e0 : (0 : Int32).toInt = 0 := by decide
      have e1 : (1 : Int32).toInt = 1 := by decide
      rw [e0] at h2
      have h3 : f.toInt.tmod 1000 ≤ 0 := by
        have h4 := Int.tmod_nonneg (a := -f.toInt) 1000 (by omega)
        rw [Int.neg_tmod] at h4
        omega
      omega)
    rw [hn]
    simp [hf]
  · simp only [hf, if_false]
    by_cases a1 : isF 20 w 120 = 0 <;> by_cases a2 : isF 10 r 120 = 0 <;> by_cases a3 : isF 0 d 2 = 0 <;> by_cases a4 : isF 300 l 2000 = 0 <;> by_cases a5 : isF 0 (f / 1000) (r - 1) = 0 <;> by_cases a6 : isF 1 (f - f / 1000 * 1000) r = 0 <;> simp [a1, a2, a3, a4, a5, a6]
theorem i30 {z : Int} (h : ¬ (z < 0 ∨ 29 < z)) : z = 0 ∨ z = 1 ∨ z = 2 ∨ z = 3 ∨ z = 4 ∨ z = 5 ∨ z = 6 ∨ z = 7 ∨ z = 8 ∨ z = 9 ∨ z = 10 ∨ z = 11 ∨ z = 12 ∨ z = 13 ∨ z = 14 ∨ z = 15 ∨ z = 16 ∨ z = 17 ∨ z = 18 ∨ z = 19 ∨ z = 20 ∨ z = 21 ∨ z = 22 ∨ z = 23 ∨ z = 24 ∨ z = 25 ∨ z = 26 ∨ z = 27 ∨ z = 28 ∨ z = 29 := by omega
