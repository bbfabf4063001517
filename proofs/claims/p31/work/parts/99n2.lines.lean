/-! ===== the LINES, by their TOKENS ===== -/
def les (H Q : Nat → Int) (w : Int) : Int := if H w.toNat ≤ Q w.toNat then H w.toNat else Q w.toNat
theorem les_of {H Q : Nat → Int} {w y : Int} (h : y ≤ H w.toNat ∧ y ≤ Q w.toNat ∧ (y = H w.toNat ∨ y = Q w.toNat)) : y = les H Q w := by unfold les; split <;> omega
def wlC (K V : Nat → Int)  (t : Int) : Int := (if (K (t + 1).toNat = 6 ∧ 50 ≤ V (t + 1).toNat ∧ V (t + 1).toNat ≤ 600) then (if (K (t + 1 + 1).toNat = 6 ∧ 100 ≤ V (t + 1 + 1).toNat ∧ V (t + 1 + 1).toNat ≤ 400) then (if (K (t + 1 + 1 + 1).toNat = 6 ∧ 100 ≤ V (t + 1 + 1 + 1).toNat ∧ V (t + 1 + 1 + 1).toNat ≤ 400) then (if (K (t + 1 + 1 + 1 + 1).toNat = 8) then -1 - (t + 1 + 1 + 1 + 1 + 1) else t + 1 + 1 + 1 + 1) else t + 1 + 1 + 1) else t + 1 + 1) else t + 1)
theorem wlC_1 {K V : Nat → Int}  {t : Int}  (h1 : ¬ (K (t + 1).toNat = 6 ∧ 50 ≤ V (t + 1).toNat ∧ V (t + 1).toNat ≤ 600)) : wlC K V  t = t + 1 := by unfold wlC; rw [if_neg h1]
theorem wlC_2 {K V : Nat → Int}  {t : Int} (h1 : (K (t + 1).toNat = 6 ∧ 50 ≤ V (t + 1).toNat ∧ V (t + 1).toNat ≤ 600)) (h2 : ¬ (K (t + 1 + 1).toNat = 6 ∧ 100 ≤ V (t + 1 + 1).toNat ∧ V (t + 1 + 1).toNat ≤ 400)) : wlC K V  t = t + 1 + 1 := by unfold wlC; rw [if_pos h1, if_neg h2]
theorem wlC_3 {K V : Nat → Int}  {t : Int} (h1 : (K (t + 1).toNat = 6 ∧ 50 ≤ V (t + 1).toNat ∧ V (t + 1).toNat ≤ 600)) (h2 : (K (t + 1 + 1).toNat = 6 ∧ 100 ≤ V (t + 1 + 1).toNat ∧ V (t + 1 + 1).toNat ≤ 400)) (h3 : ¬ (K (t + 1 + 1 + 1).toNat = 6 ∧ 100 ≤ V (t + 1 + 1 + 1).toNat ∧ V (t + 1 + 1 + 1).toNat ≤ 400)) : wlC K V  t = t + 1 + 1 + 1 := by unfold wlC; rw [if_pos h1, if_pos h2, if_neg h3]
theorem wlC_4 {K V : Nat → Int}  {t : Int} (h1 : (K (t + 1).toNat = 6 ∧ 50 ≤ V (t + 1).toNat ∧ V (t + 1).toNat ≤ 600)) (h2 : (K (t + 1 + 1).toNat = 6 ∧ 100 ≤ V (t + 1 + 1).toNat ∧ V (t + 1 + 1).toNat ≤ 400)) (h3 : (K (t + 1 + 1 + 1).toNat = 6 ∧ 100 ≤ V (t + 1 + 1 + 1).toNat ∧ V (t + 1 + 1 + 1).toNat ≤ 400)) (h4 : ¬ (K (t + 1 + 1 + 1 + 1).toNat = 8)) : wlC K V  t = t + 1 + 1 + 1 + 1 := by unfold wlC; rw [if_pos h1, if_pos h2, if_pos h3, if_neg h4]
theorem wlC_ok {K V : Nat → Int}  {t : Int} (h1 : (K (t + 1).toNat = 6 ∧ 50 ≤ V (t + 1).toNat ∧ V (t + 1).toNat ≤ 600)) (h2 : (K (t + 1 + 1).toNat = 6 ∧ 100 ≤ V (t + 1 + 1).toNat ∧ V (t + 1 + 1).toNat ≤ 400)) (h3 : (K (t + 1 + 1 + 1).toNat = 6 ∧ 100 ≤ V (t + 1 + 1 + 1).toNat ∧ V (t + 1 + 1 + 1).toNat ≤ 400)) (h4 : (K (t + 1 + 1 + 1 + 1).toNat = 8)) : wlC K V  t = -1 - (t + 1 + 1 + 1 + 1 + 1) := by unfold wlC; rw [if_pos h1, if_pos h2, if_pos h3, if_pos h4]
def doC (K V : Nat → Int) (nw : Int) (L : Nat → Int) (H : Nat → Int) (Q : Nat → Int) (t : Int) : Int := (if (K (t + 1).toNat = 6 ∧ 0 ≤ V (t + 1).toNat ∧ V (t + 1).toNat ≤ nw - 1) then (if (K (t + 1 + 1).toNat = 6 ∧ 0 ≤ V (t + 1 + 1).toNat ∧ V (t + 1 + 1).toNat ≤ L (V (t + 1).toNat).toNat) then (if (K (t + 1 + 1 + 1).toNat = 6 ∧ V (t + 1 + 1).toNat + 1 ≤ V (t + 1 + 1 + 1).toNat ∧ V (t + 1 + 1 + 1).toNat ≤ L (V (t + 1).toNat).toNat) then (if (K (t + 1 + 1 + 1 + 1).toNat = 6 ∧ 50 ≤ V (t + 1 + 1 + 1 + 1).toNat ∧ V (t + 1 + 1 + 1 + 1).toNat ≤ les H Q (V (t + 1).toNat) - 1) then (if (K (t + 1 + 1 + 1 + 1 + 1).toNat = 8) then -1 - (t + 1 + 1 + 1 + 1 + 1 + 1) else t + 1 + 1 + 1 + 1 + 1) else t + 1 + 1 + 1 + 1) else t + 1 + 1 + 1) else t + 1 + 1) else t + 1)
theorem doC_1 {K V : Nat → Int} {nw : Int} {L : Nat → Int} {H : Nat → Int} {Q : Nat → Int} {t : Int}  (h1 : ¬ (K (t + 1).toNat = 6 ∧ 0 ≤ V (t + 1).toNat ∧ V (t + 1).toNat ≤ nw - 1)) : doC K V nw L H Q t = t + 1 := by unfold doC; rw [if_neg h1]
theorem doC_2 {K V : Nat → Int} {nw : Int} {L : Nat → Int} {H : Nat → Int} {Q : Nat → Int} {t : Int} (h1 : (K (t + 1).toNat = 6 ∧ 0 ≤ V (t + 1).toNat ∧ V (t + 1).toNat ≤ nw - 1)) (h2 : ¬ (K (t + 1 + 1).toNat = 6 ∧ 0 ≤ V (t + 1 + 1).toNat ∧ V (t + 1 + 1).toNat ≤ L (V (t + 1).toNat).toNat)) : doC K V nw L H Q t = t + 1 + 1 := by unfold doC; rw [if_pos h1, if_neg h2]
theorem doC_3 {K V : Nat → Int} {nw : Int} {L : Nat → Int} {H : Nat → Int} {Q : Nat → Int} {t : Int} (h1 : (K (t + 1).toNat = 6 ∧ 0 ≤ V (t + 1).toNat ∧ V (t + 1).toNat ≤ nw - 1)) (h2 : (K (t + 1 + 1).toNat = 6 ∧ 0 ≤ V (t + 1 + 1).toNat ∧ V (t + 1 + 1).toNat ≤ L (V (t + 1).toNat).toNat)) (h3 : ¬ (K (t + 1 + 1 + 1).toNat = 6 ∧ V (t + 1 + 1).toNat + 1 ≤ V (t + 1 + 1 + 1).toNat ∧ V (t + 1 + 1 + 1).toNat ≤ L (V (t + 1).toNat).toNat)) : doC K V nw L H Q t = t + 1 + 1 + 1 := by unfold doC; rw [if_pos h1, if_pos h2, if_neg h3]
theorem doC_4 {K V : Nat → Int} {nw : Int} {L : Nat → Int} {H : Nat → Int} {Q : Nat → Int} {t : Int} (h1 : (K (t + 1).toNat = 6 ∧ 0 ≤ V (t + 1).toNat ∧ V (t + 1).toNat ≤ nw - 1)) (h2 : (K (t + 1 + 1).toNat = 6 ∧ 0 ≤ V (t + 1 + 1).toNat ∧ V (t + 1 + 1).toNat ≤ L (V (t + 1).toNat).toNat)) (h3 : (K (t + 1 + 1 + 1).toNat = 6 ∧ V (t + 1 + 1).toNat + 1 ≤ V (t + 1 + 1 + 1).toNat ∧ V (t + 1 + 1 + 1).toNat ≤ L (V (t + 1).toNat).toNat)) (h4 : ¬ (K (t + 1 + 1 + 1 + 1).toNat = 6 ∧ 50 ≤ V (t + 1 + 1 + 1 + 1).toNat ∧ V (t + 1 + 1 + 1 + 1).toNat ≤ les H Q (V (t + 1).toNat) - 1)) : doC K V nw L H Q t = t + 1 + 1 + 1 + 1 := by unfold doC; rw [if_pos h1, if_pos h2, if_pos h3, if_neg h4]
theorem doC_5 {K V : Nat → Int} {nw : Int} {L : Nat → Int} {H : Nat → Int} {Q : Nat → Int} {t : Int} (h1 : (K (t + 1).toNat = 6 ∧ 0 ≤ V (t + 1).toNat ∧ V (t + 1).toNat ≤ nw - 1)) (h2 : (K (t + 1 + 1).toNat = 6 ∧ 0 ≤ V (t + 1 + 1).toNat ∧ V (t + 1 + 1).toNat ≤ L (V (t + 1).toNat).toNat)) (h3 : (K (t + 1 + 1 + 1).toNat = 6 ∧ V (t + 1 + 1).toNat + 1 ≤ V (t + 1 + 1 + 1).toNat ∧ V (t + 1 + 1 + 1).toNat ≤ L (V (t + 1).toNat).toNat)) (h4 : (K (t + 1 + 1 + 1 + 1).toNat = 6 ∧ 50 ≤ V (t + 1 + 1 + 1 + 1).toNat ∧ V (t + 1 + 1 + 1 + 1).toNat ≤ les H Q (V (t + 1).toNat) - 1)) (h5 : ¬ (K (t + 1 + 1 + 1 + 1 + 1).toNat = 8)) : doC K V nw L H Q t = t + 1 + 1 + 1 + 1 + 1 := by unfold doC; rw [if_pos h1, if_pos h2, if_pos h3, if_pos h4, if_neg h5]
theorem doC_ok {K V : Nat → Int} {nw : Int} {L : Nat → Int} {H : Nat → Int} {Q : Nat → Int} {t : Int} (h1 : (K (t + 1).toNat = 6 ∧ 0 ≤ V (t + 1).toNat ∧ V (t + 1).toNat ≤ nw - 1)) (h2 : (K (t + 1 + 1).toNat = 6 ∧ 0 ≤ V (t + 1 + 1).toNat ∧ V (t + 1 + 1).toNat ≤ L (V (t + 1).toNat).toNat)) (h3 : (K (t + 1 + 1 + 1).toNat = 6 ∧ V (t + 1 + 1).toNat + 1 ≤ V (t + 1 + 1 + 1).toNat ∧ V (t + 1 + 1 + 1).toNat ≤ L (V (t + 1).toNat).toNat)) (h4 : (K (t + 1 + 1 + 1 + 1).toNat = 6 ∧ 50 ≤ V (t + 1 + 1 + 1 + 1).toNat ∧ V (t + 1 + 1 + 1 + 1).toNat ≤ les H Q (V (t + 1).toNat) - 1)) (h5 : (K (t + 1 + 1 + 1 + 1 + 1).toNat = 8)) : doC K V nw L H Q t = -1 - (t + 1 + 1 + 1 + 1 + 1 + 1) := by unfold doC; rw [if_pos h1, if_pos h2, if_pos h3, if_pos h4, if_pos h5]
def wiC (K V : Nat → Int) (nw : Int) (L : Nat → Int) (H : Nat → Int) (Q : Nat → Int) (t : Int) : Int := (if (K (t + 1).toNat = 6 ∧ 0 ≤ V (t + 1).toNat ∧ V (t + 1).toNat ≤ nw - 1) then (if (K (t + 1 + 1).toNat = 6 ∧ 0 ≤ V (t + 1 + 1).toNat ∧ V (t + 1 + 1).toNat ≤ L (V (t + 1).toNat).toNat) then (if (K (t + 1 + 1 + 1).toNat = 6 ∧ V (t + 1 + 1).toNat + 1 ≤ V (t + 1 + 1 + 1).toNat ∧ V (t + 1 + 1 + 1).toNat ≤ L (V (t + 1).toNat).toNat) then (if (K (t + 1 + 1 + 1 + 1).toNat = 6 ∧ 1 ≤ V (t + 1 + 1 + 1 + 1).toNat ∧ V (t + 1 + 1 + 1 + 1).toNat ≤ 300) then (if (K (t + 1 + 1 + 1 + 1 + 1).toNat = 6 ∧ V (t + 1 + 1 + 1 + 1).toNat + 1 ≤ V (t + 1 + 1 + 1 + 1 + 1).toNat ∧ V (t + 1 + 1 + 1 + 1 + 1).toNat ≤ les H Q (V (t + 1).toNat) - 1) then (if (K (t + 1 + 1 + 1 + 1 + 1 + 1).toNat = 8) then -1 - (t + 1 + 1 + 1 + 1 + 1 + 1 + 1) else t + 1 + 1 + 1 + 1 + 1 + 1) else t + 1 + 1 + 1 + 1 + 1) else t + 1 + 1 + 1 + 1) else t + 1 + 1 + 1) else t + 1 + 1) else t + 1)
theorem wiC_1 {K V : Nat → Int} {nw : Int} {L : Nat → Int} {H : Nat → Int} {Q : Nat → Int} {t : Int}  (h1 : ¬ (K (t + 1).toNat = 6 ∧ 0 ≤ V (t + 1).toNat ∧ V (t + 1).toNat ≤ nw - 1)) : wiC K V nw L H Q t = t + 1 := by unfold wiC; rw [if_neg h1]
theorem wiC_2 {K V : Nat → Int} {nw : Int} {L : Nat → Int} {H : Nat → Int} {Q : Nat → Int} {t : Int} (h1 : (K (t + 1).toNat = 6 ∧ 0 ≤ V (t + 1).toNat ∧ V (t + 1).toNat ≤ nw - 1)) (h2 : ¬ (K (t + 1 + 1).toNat = 6 ∧ 0 ≤ V (t + 1 + 1).toNat ∧ V (t + 1 + 1).toNat ≤ L (V (t + 1).toNat).toNat)) : wiC K V nw L H Q t = t + 1 + 1 := by unfold wiC; rw [if_pos h1, if_neg h2]
theorem wiC_3 {K V : Nat → Int} {nw : Int} {L : Nat → Int} {H : Nat → Int} {Q : Nat → Int} {t : Int} (h1 : (K (t + 1).toNat = 6 ∧ 0 ≤ V (t + 1).toNat ∧ V (t + 1).toNat ≤ nw - 1)) (h2 : (K (t + 1 + 1).toNat = 6 ∧ 0 ≤ V (t + 1 + 1).toNat ∧ V (t + 1 + 1).toNat ≤ L (V (t + 1).toNat).toNat)) (h3 : ¬ (K (t + 1 + 1 + 1).toNat = 6 ∧ V (t + 1 + 1).toNat + 1 ≤ V (t + 1 + 1 + 1).toNat ∧ V (t + 1 + 1 + 1).toNat ≤ L (V (t + 1).toNat).toNat)) : wiC K V nw L H Q t = t + 1 + 1 + 1 := by unfold wiC; rw [if_pos h1, if_pos h2, if_neg h3]
theorem wiC_4 {K V : Nat → Int} {nw : Int} {L : Nat → Int} {H : Nat → Int} {Q : Nat → Int} {t : Int} (h1 : (K (t + 1).toNat = 6 ∧ 0 ≤ V (t + 1).toNat ∧ V (t + 1).toNat ≤ nw - 1)) (h2 : (K (t + 1 + 1).toNat = 6 ∧ 0 ≤ V (t + 1 + 1).toNat ∧ V (t + 1 + 1).toNat ≤ L (V (t + 1).toNat).toNat)) (h3 : (K (t + 1 + 1 + 1).toNat = 6 ∧ V (t + 1 + 1).toNat + 1 ≤ V (t + 1 + 1 + 1).toNat ∧ V (t + 1 + 1 + 1).toNat ≤ L (V (t + 1).toNat).toNat)) (h4 : ¬ (K (t + 1 + 1 + 1 + 1).toNat = 6 ∧ 1 ≤ V (t + 1 + 1 + 1 + 1).toNat ∧ V (t + 1 + 1 + 1 + 1).toNat ≤ 300)) : wiC K V nw L H Q t = t + 1 + 1 + 1 + 1 := by unfold wiC; rw [if_pos h1, if_pos h2, if_pos h3, if_neg h4]
theorem wiC_5 {K V : Nat → Int} {nw : Int} {L : Nat → Int} {H : Nat → Int} {Q : Nat → Int} {t : Int} (h1 : (K (t + 1).toNat = 6 ∧ 0 ≤ V (t + 1).toNat ∧ V (t + 1).toNat ≤ nw - 1)) (h2 : (K (t + 1 + 1).toNat = 6 ∧ 0 ≤ V (t + 1 + 1).toNat ∧ V (t + 1 + 1).toNat ≤ L (V (t + 1).toNat).toNat)) (h3 : (K (t + 1 + 1 + 1).toNat = 6 ∧ V (t + 1 + 1).toNat + 1 ≤ V (t + 1 + 1 + 1).toNat ∧ V (t + 1 + 1 + 1).toNat ≤ L (V (t + 1).toNat).toNat)) (h4 : (K (t + 1 + 1 + 1 + 1).toNat = 6 ∧ 1 ≤ V (t + 1 + 1 + 1 + 1).toNat ∧ V (t + 1 + 1 + 1 + 1).toNat ≤ 300)) (h5 : ¬ (K (t + 1 + 1 + 1 + 1 + 1).toNat = 6 ∧ V (t + 1 + 1 + 1 + 1).toNat + 1 ≤ V (t + 1 + 1 + 1 + 1 + 1).toNat ∧ V (t + 1 + 1 + 1 + 1 + 1).toNat ≤ les H Q (V (t + 1).toNat) - 1)) : wiC K V nw L H Q t = t + 1 + 1 + 1 + 1 + 1 := by unfold wiC; rw [if_pos h1, if_pos h2, if_pos h3, if_pos h4, if_neg h5]
theorem wiC_6 {K V : Nat → Int} {nw : Int} {L : Nat → Int} {H : Nat → Int} {Q : Nat → Int} {t : Int} (h1 : (K (t + 1).toNat = 6 ∧ 0 ≤ V (t + 1).toNat ∧ V (t + 1).toNat ≤ nw - 1)) (h2 : (K (t + 1 + 1).toNat = 6 ∧ 0 ≤ V (t + 1 + 1).toNat ∧ V (t + 1 + 1).toNat ≤ L (V (t + 1).toNat).toNat)) (h3 : (K (t + 1 + 1 + 1).toNat = 6 ∧ V (t + 1 + 1).toNat + 1 ≤ V (t + 1 + 1 + 1).toNat ∧ V (t + 1 + 1 + 1).toNat ≤ L (V (t + 1).toNat).toNat)) (h4 : (K (t + 1 + 1 + 1 + 1).toNat = 6 ∧ 1 ≤ V (t + 1 + 1 + 1 + 1).toNat ∧ V (t + 1 + 1 + 1 + 1).toNat ≤ 300)) (h5 : (K (t + 1 + 1 + 1 + 1 + 1).toNat = 6 ∧ V (t + 1 + 1 + 1 + 1).toNat + 1 ≤ V (t + 1 + 1 + 1 + 1 + 1).toNat ∧ V (t + 1 + 1 + 1 + 1 + 1).toNat ≤ les H Q (V (t + 1).toNat) - 1)) (h6 : ¬ (K (t + 1 + 1 + 1 + 1 + 1 + 1).toNat = 8)) : wiC K V nw L H Q t = t + 1 + 1 + 1 + 1 + 1 + 1 := by unfold wiC; rw [if_pos h1, if_pos h2, if_pos h3, if_pos h4, if_pos h5, if_neg h6]
theorem wiC_ok {K V : Nat → Int} {nw : Int} {L : Nat → Int} {H : Nat → Int} {Q : Nat → Int} {t : Int} (h1 : (K (t + 1).toNat = 6 ∧ 0 ≤ V (t + 1).toNat ∧ V (t + 1).toNat ≤ nw - 1)) (h2 : (K (t + 1 + 1).toNat = 6 ∧ 0 ≤ V (t + 1 + 1).toNat ∧ V (t + 1 + 1).toNat ≤ L (V (t + 1).toNat).toNat)) (h3 : (K (t + 1 + 1 + 1).toNat = 6 ∧ V (t + 1 + 1).toNat + 1 ≤ V (t + 1 + 1 + 1).toNat ∧ V (t + 1 + 1 + 1).toNat ≤ L (V (t + 1).toNat).toNat)) (h4 : (K (t + 1 + 1 + 1 + 1).toNat = 6 ∧ 1 ≤ V (t + 1 + 1 + 1 + 1).toNat ∧ V (t + 1 + 1 + 1 + 1).toNat ≤ 300)) (h5 : (K (t + 1 + 1 + 1 + 1 + 1).toNat = 6 ∧ V (t + 1 + 1 + 1 + 1).toNat + 1 ≤ V (t + 1 + 1 + 1 + 1 + 1).toNat ∧ V (t + 1 + 1 + 1 + 1 + 1).toNat ≤ les H Q (V (t + 1).toNat) - 1)) (h6 : (K (t + 1 + 1 + 1 + 1 + 1 + 1).toNat = 8)) : wiC K V nw L H Q t = -1 - (t + 1 + 1 + 1 + 1 + 1 + 1 + 1) := by unfold wiC; rw [if_pos h1, if_pos h2, if_pos h3, if_pos h4, if_pos h5, if_pos h6]
def stC (K V : Nat → Int) (nw : Int) (L : Nat → Int) (t : Int) : Int := (if (K (t + 1).toNat = 6 ∧ 0 ≤ V (t + 1).toNat ∧ V (t + 1).toNat ≤ nw - 1) then (if (K (t + 1 + 1).toNat = 6 ∧ 0 ≤ V (t + 1 + 1).toNat ∧ V (t + 1 + 1).toNat ≤ L (V (t + 1).toNat).toNat) then (if (K (t + 1 + 1 + 1).toNat = 6 ∧ 0 ≤ V (t + 1 + 1 + 1).toNat ∧ V (t + 1 + 1 + 1).toNat ≤ 400) then (if (K (t + 1 + 1 + 1 + 1).toNat = 8) then -1 - (t + 1 + 1 + 1 + 1 + 1) else t + 1 + 1 + 1 + 1) else t + 1 + 1 + 1) else t + 1 + 1) else t + 1)
theorem stC_1 {K V : Nat → Int} {nw : Int} {L : Nat → Int} {t : Int}  (h1 : ¬ (K (t + 1).toNat = 6 ∧ 0 ≤ V (t + 1).toNat ∧ V (t + 1).toNat ≤ nw - 1)) : stC K V nw L t = t + 1 := by unfold stC; rw [if_neg h1]
theorem stC_2 {K V : Nat → Int} {nw : Int} {L : Nat → Int} {t : Int} (h1 : (K (t + 1).toNat = 6 ∧ 0 ≤ V (t + 1).toNat ∧ V (t + 1).toNat ≤ nw - 1)) (h2 : ¬ (K (t + 1 + 1).toNat = 6 ∧ 0 ≤ V (t + 1 + 1).toNat ∧ V (t + 1 + 1).toNat ≤ L (V (t + 1).toNat).toNat)) : stC K V nw L t = t + 1 + 1 := by unfold stC; rw [if_pos h1, if_neg h2]
theorem stC_3 {K V : Nat → Int} {nw : Int} {L : Nat → Int} {t : Int} (h1 : (K (t + 1).toNat = 6 ∧ 0 ≤ V (t + 1).toNat ∧ V (t + 1).toNat ≤ nw - 1)) (h2 : (K (t + 1 + 1).toNat = 6 ∧ 0 ≤ V (t + 1 + 1).toNat ∧ V (t + 1 + 1).toNat ≤ L (V (t + 1).toNat).toNat)) (h3 : ¬ (K (t + 1 + 1 + 1).toNat = 6 ∧ 0 ≤ V (t + 1 + 1 + 1).toNat ∧ V (t + 1 + 1 + 1).toNat ≤ 400)) : stC K V nw L t = t + 1 + 1 + 1 := by unfold stC; rw [if_pos h1, if_pos h2, if_neg h3]
theorem stC_4 {K V : Nat → Int} {nw : Int} {L : Nat → Int} {t : Int} (h1 : (K (t + 1).toNat = 6 ∧ 0 ≤ V (t + 1).toNat ∧ V (t + 1).toNat ≤ nw - 1)) (h2 : (K (t + 1 + 1).toNat = 6 ∧ 0 ≤ V (t + 1 + 1).toNat ∧ V (t + 1 + 1).toNat ≤ L (V (t + 1).toNat).toNat)) (h3 : (K (t + 1 + 1 + 1).toNat = 6 ∧ 0 ≤ V (t + 1 + 1 + 1).toNat ∧ V (t + 1 + 1 + 1).toNat ≤ 400)) (h4 : ¬ (K (t + 1 + 1 + 1 + 1).toNat = 8)) : stC K V nw L t = t + 1 + 1 + 1 + 1 := by unfold stC; rw [if_pos h1, if_pos h2, if_pos h3, if_neg h4]
theorem stC_ok {K V : Nat → Int} {nw : Int} {L : Nat → Int} {t : Int} (h1 : (K (t + 1).toNat = 6 ∧ 0 ≤ V (t + 1).toNat ∧ V (t + 1).toNat ≤ nw - 1)) (h2 : (K (t + 1 + 1).toNat = 6 ∧ 0 ≤ V (t + 1 + 1).toNat ∧ V (t + 1 + 1).toNat ≤ L (V (t + 1).toNat).toNat)) (h3 : (K (t + 1 + 1 + 1).toNat = 6 ∧ 0 ≤ V (t + 1 + 1 + 1).toNat ∧ V (t + 1 + 1 + 1).toNat ≤ 400)) (h4 : (K (t + 1 + 1 + 1 + 1).toNat = 8)) : stC K V nw L t = -1 - (t + 1 + 1 + 1 + 1 + 1) := by unfold stC; rw [if_pos h1, if_pos h2, if_pos h3, if_pos h4]
def lmC (K V : Nat → Int) (nw : Int) (Y : Nat → Int) (t : Int) : Int := (if (K (t + 1).toNat = 6 ∧ 0 ≤ V (t + 1).toNat ∧ V (t + 1).toNat ≤ nw - 1 ∧ Y (V (t + 1).toNat).toNat = 0) then (if (K (t + 1 + 1 + 1).toNat = 6 ∧ 0 ≤ V (t + 1 + 1 + 1).toNat ∧ V (t + 1 + 1 + 1).toNat ≤ 50) then (if (K (t + 1 + 1 + 1 + 1).toNat = 8) then -1 - (t + 1 + 1 + 1 + 1 + 1) else t + 1 + 1 + 1 + 1) else t + 1 + 1 + 1) else t + 1)
theorem lmC_1 {K V : Nat → Int} {nw : Int} {Y : Nat → Int} {t : Int}  (h1 : ¬ (K (t + 1).toNat = 6 ∧ 0 ≤ V (t + 1).toNat ∧ V (t + 1).toNat ≤ nw - 1 ∧ Y (V (t + 1).toNat).toNat = 0)) : lmC K V nw Y t = t + 1 := by unfold lmC; rw [if_neg h1]
theorem lmC_2 {K V : Nat → Int} {nw : Int} {Y : Nat → Int} {t : Int} (h1 : (K (t + 1).toNat = 6 ∧ 0 ≤ V (t + 1).toNat ∧ V (t + 1).toNat ≤ nw - 1 ∧ Y (V (t + 1).toNat).toNat = 0)) (h2 : ¬ (K (t + 1 + 1 + 1).toNat = 6 ∧ 0 ≤ V (t + 1 + 1 + 1).toNat ∧ V (t + 1 + 1 + 1).toNat ≤ 50)) : lmC K V nw Y t = t + 1 + 1 + 1 := by unfold lmC; rw [if_pos h1, if_neg h2]
theorem lmC_3 {K V : Nat → Int} {nw : Int} {Y : Nat → Int} {t : Int} (h1 : (K (t + 1).toNat = 6 ∧ 0 ≤ V (t + 1).toNat ∧ V (t + 1).toNat ≤ nw - 1 ∧ Y (V (t + 1).toNat).toNat = 0)) (h2 : (K (t + 1 + 1 + 1).toNat = 6 ∧ 0 ≤ V (t + 1 + 1 + 1).toNat ∧ V (t + 1 + 1 + 1).toNat ≤ 50)) (h3 : ¬ (K (t + 1 + 1 + 1 + 1).toNat = 8)) : lmC K V nw Y t = t + 1 + 1 + 1 + 1 := by unfold lmC; rw [if_pos h1, if_pos h2, if_neg h3]
theorem lmC_ok {K V : Nat → Int} {nw : Int} {Y : Nat → Int} {t : Int} (h1 : (K (t + 1).toNat = 6 ∧ 0 ≤ V (t + 1).toNat ∧ V (t + 1).toNat ≤ nw - 1 ∧ Y (V (t + 1).toNat).toNat = 0)) (h2 : (K (t + 1 + 1 + 1).toNat = 6 ∧ 0 ≤ V (t + 1 + 1 + 1).toNat ∧ V (t + 1 + 1 + 1).toNat ≤ 50)) (h3 : (K (t + 1 + 1 + 1 + 1).toNat = 8)) : lmC K V nw Y t = -1 - (t + 1 + 1 + 1 + 1 + 1) := by unfold lmC; rw [if_pos h1, if_pos h2, if_pos h3]
def lpC (K V : Nat → Int) (nw : Int) (Y : Nat → Int) (t : Int) : Int := (if (K (t + 1).toNat = 6 ∧ 0 ≤ V (t + 1).toNat ∧ V (t + 1).toNat ≤ nw - 1 ∧ Y (V (t + 1).toNat).toNat = 0) then (if (K (t + 1 + 1).toNat = 6 ∧ 0 ≤ V (t + 1 + 1).toNat ∧ V (t + 1 + 1).toNat ≤ 50) then (if (K (t + 1 + 1 + 1).toNat = 8) then -1 - (t + 1 + 1 + 1 + 1) else t + 1 + 1 + 1) else t + 1 + 1) else t + 1)
theorem lpC_1 {K V : Nat → Int} {nw : Int} {Y : Nat → Int} {t : Int}  (h1 : ¬ (K (t + 1).toNat = 6 ∧ 0 ≤ V (t + 1).toNat ∧ V (t + 1).toNat ≤ nw - 1 ∧ Y (V (t + 1).toNat).toNat = 0)) : lpC K V nw Y t = t + 1 := by unfold lpC; rw [if_neg h1]
theorem lpC_2 {K V : Nat → Int} {nw : Int} {Y : Nat → Int} {t : Int} (h1 : (K (t + 1).toNat = 6 ∧ 0 ≤ V (t + 1).toNat ∧ V (t + 1).toNat ≤ nw - 1 ∧ Y (V (t + 1).toNat).toNat = 0)) (h2 : ¬ (K (t + 1 + 1).toNat = 6 ∧ 0 ≤ V (t + 1 + 1).toNat ∧ V (t + 1 + 1).toNat ≤ 50)) : lpC K V nw Y t = t + 1 + 1 := by unfold lpC; rw [if_pos h1, if_neg h2]
theorem lpC_3 {K V : Nat → Int} {nw : Int} {Y : Nat → Int} {t : Int} (h1 : (K (t + 1).toNat = 6 ∧ 0 ≤ V (t + 1).toNat ∧ V (t + 1).toNat ≤ nw - 1 ∧ Y (V (t + 1).toNat).toNat = 0)) (h2 : (K (t + 1 + 1).toNat = 6 ∧ 0 ≤ V (t + 1 + 1).toNat ∧ V (t + 1 + 1).toNat ≤ 50)) (h3 : ¬ (K (t + 1 + 1 + 1).toNat = 8)) : lpC K V nw Y t = t + 1 + 1 + 1 := by unfold lpC; rw [if_pos h1, if_pos h2, if_neg h3]
theorem lpC_ok {K V : Nat → Int} {nw : Int} {Y : Nat → Int} {t : Int} (h1 : (K (t + 1).toNat = 6 ∧ 0 ≤ V (t + 1).toNat ∧ V (t + 1).toNat ≤ nw - 1 ∧ Y (V (t + 1).toNat).toNat = 0)) (h2 : (K (t + 1 + 1).toNat = 6 ∧ 0 ≤ V (t + 1 + 1).toNat ∧ V (t + 1 + 1).toNat ≤ 50)) (h3 : (K (t + 1 + 1 + 1).toNat = 8)) : lpC K V nw Y t = -1 - (t + 1 + 1 + 1 + 1) := by unfold lpC; rw [if_pos h1, if_pos h2, if_pos h3]
def leC (K V : Nat → Int) (nw : Int) (Y : Nat → Int) (t : Int) : Int := if K (t + 1 + 1).toNat = 7 then lmC K V nw Y t else lpC K V nw Y t
theorem leC_1 {K V : Nat → Int} {nw : Int} {Y : Nat → Int} {t : Int} (h : ¬ (K (t + 1).toNat = 6 ∧ 0 ≤ V (t + 1).toNat ∧ V (t + 1).toNat ≤ nw - 1 ∧ Y (V (t + 1).toNat).toNat = 0)) : leC K V nw Y t = t + 1 := by
  unfold leC
  split
  · exact lmC_1 h
  · exact lpC_1 h
theorem leC_m {K V : Nat → Int} {nw : Int} {Y : Nat → Int} {t : Int} (h : K (t + 1 + 1).toNat = 7) : leC K V nw Y t = lmC K V nw Y t := if_pos h
theorem leC_p {K V : Nat → Int} {nw : Int} {Y : Nat → Int} {t : Int} (h : ¬ K (t + 1 + 1).toNat = 7) : leC K V nw Y t = lpC K V nw Y t := if_neg h
def cnC (a b c : Int) : Nat → Int := fun j => if j = 0 then a else if j = 1 then b else c
def lnC (K V : Nat → Int) (S : List (Nat → Int)) (t : Int) : Int := if K t.toNat = 0 then (if (S.getD 0 zQ 0) < 8 then wlC K V t else t) else if K t.toNat = 1 then (if (S.getD 0 zQ 1) < 8 then doC K V (S.getD 0 zQ 0) (S.getD 1 zQ) (S.getD 2 zQ) (S.getD 3 zQ) t else t) else if K t.toNat = 2 then (if (S.getD 0 zQ 1) < 8 then wiC K V (S.getD 0 zQ 0) (S.getD 1 zQ) (S.getD 2 zQ) (S.getD 3 zQ) t else t) else if K t.toNat = 3 then leC K V (S.getD 0 zQ 0) (S.getD 5 zQ) t else if K t.toNat = 4 then (if (S.getD 0 zQ 2) < 4 then stC K V (S.getD 0 zQ 0) (S.getD 1 zQ) t else t) else t
theorem lnC_w1 {K V : Nat → Int} {S : List (Nat → Int)} {t : Int} (k0 : K t.toNat = 0) (hx : (S.getD 0 zQ 0) < 8) : lnC K V S t = wlC K V t := by unfold lnC; rw [if_pos k0, if_pos hx]
theorem lnC_w0 {K V : Nat → Int} {S : List (Nat → Int)} {t : Int} (k0 : K t.toNat = 0) (hx : ¬ (S.getD 0 zQ 0) < 8) : lnC K V S t = t := by unfold lnC; rw [if_pos k0, if_neg hx]
theorem lnC_d1 {K V : Nat → Int} {S : List (Nat → Int)} {t : Int} (k0 : ¬ K t.toNat = 0) (k1 : K t.toNat = 1) (hx : (S.getD 0 zQ 1) < 8) : lnC K V S t = doC K V (S.getD 0 zQ 0) (S.getD 1 zQ) (S.getD 2 zQ) (S.getD 3 zQ) t := by unfold lnC; rw [if_neg k0, if_pos k1, if_pos hx]
theorem lnC_d0 {K V : Nat → Int} {S : List (Nat → Int)} {t : Int} (k0 : ¬ K t.toNat = 0) (k1 : K t.toNat = 1) (hx : ¬ (S.getD 0 zQ 1) < 8) : lnC K V S t = t := by unfold lnC; rw [if_neg k0, if_pos k1, if_neg hx]
theorem lnC_i1 {K V : Nat → Int} {S : List (Nat → Int)} {t : Int} (k0 : ¬ K t.toNat = 0) (k1 : ¬ K t.toNat = 1) (k2 : K t.toNat = 2) (hx : (S.getD 0 zQ 1) < 8) : lnC K V S t = wiC K V (S.getD 0 zQ 0) (S.getD 1 zQ) (S.getD 2 zQ) (S.getD 3 zQ) t := by unfold lnC; rw [if_neg k0, if_neg k1, if_pos k2, if_pos hx]
theorem lnC_i0 {K V : Nat → Int} {S : List (Nat → Int)} {t : Int} (k0 : ¬ K t.toNat = 0) (k1 : ¬ K t.toNat = 1) (k2 : K t.toNat = 2) (hx : ¬ (S.getD 0 zQ 1) < 8) : lnC K V S t = t := by unfold lnC; rw [if_neg k0, if_neg k1, if_pos k2, if_neg hx]
theorem lnC_l {K V : Nat → Int} {S : List (Nat → Int)} {t : Int} (k0 : ¬ K t.toNat = 0) (k1 : ¬ K t.toNat = 1) (k2 : ¬ K t.toNat = 2) (k3 : K t.toNat = 3) : lnC K V S t = leC K V (S.getD 0 zQ 0) (S.getD 5 zQ) t := by unfold lnC; rw [if_neg k0, if_neg k1, if_neg k2, if_pos k3]
theorem lnC_s1 {K V : Nat → Int} {S : List (Nat → Int)} {t : Int} (k0 : ¬ K t.toNat = 0) (k1 : ¬ K t.toNat = 1) (k2 : ¬ K t.toNat = 2) (k3 : ¬ K t.toNat = 3) (k4 : K t.toNat = 4) (hx : (S.getD 0 zQ 2) < 4) : lnC K V S t = stC K V (S.getD 0 zQ 0) (S.getD 1 zQ) t := by unfold lnC; rw [if_neg k0, if_neg k1, if_neg k2, if_neg k3, if_pos k4, if_pos hx]
theorem lnC_s0 {K V : Nat → Int} {S : List (Nat → Int)} {t : Int} (k0 : ¬ K t.toNat = 0) (k1 : ¬ K t.toNat = 1) (k2 : ¬ K t.toNat = 2) (k3 : ¬ K t.toNat = 3) (k4 : K t.toNat = 4) (hx : ¬ (S.getD 0 zQ 2) < 4) : lnC K V S t = t := by unfold lnC; rw [if_neg k0, if_neg k1, if_neg k2, if_neg k3, if_pos k4, if_neg hx]
theorem lnC_n {K V : Nat → Int} {S : List (Nat → Int)} {t : Int} (k0 : ¬ K t.toNat = 0) (k1 : ¬ K t.toNat = 1) (k2 : ¬ K t.toNat = 2) (k3 : ¬ K t.toNat = 3) (k4 : ¬ K t.toNat = 4) : lnC K V S t = t := by unfold lnC; rw [if_neg k0, if_neg k1, if_neg k2, if_neg k3, if_neg k4]
def wlS (K V : Nat → Int) (S : List (Nat → Int)) (t : Int) : List (Nat → Int) := [cnC ((S.getD 0 zQ 0) + 1) (S.getD 0 zQ 1) (S.getD 0 zQ 2), updI (S.getD 1 zQ) (S.getD 0 zQ 0).toNat (V (t + 1).toNat), updI (S.getD 2 zQ) (S.getD 0 zQ 0).toNat (V (t + 1 + 1).toNat), updI (S.getD 3 zQ) (S.getD 0 zQ 0).toNat (V (t + 1 + 1 + 1).toNat), updI (S.getD 4 zQ) (S.getD 0 zQ 0).toNat (0), updI (S.getD 5 zQ) (S.getD 0 zQ 0).toNat (0), (S.getD 6 zQ), (S.getD 7 zQ), (S.getD 8 zQ), (S.getD 9 zQ), (S.getD 10 zQ), (S.getD 11 zQ), (S.getD 12 zQ), (S.getD 13 zQ), (S.getD 14 zQ)]
def doS (K V : Nat → Int) (S : List (Nat → Int)) (t : Int) : List (Nat → Int) := [cnC (S.getD 0 zQ 0) ((S.getD 0 zQ 1) + 1) (S.getD 0 zQ 2), (S.getD 1 zQ), (S.getD 2 zQ), (S.getD 3 zQ), (S.getD 4 zQ), (S.getD 5 zQ), updI (S.getD 6 zQ) (S.getD 0 zQ 1).toNat (V (t + 1).toNat), updI (S.getD 7 zQ) (S.getD 0 zQ 1).toNat (V (t + 1 + 1).toNat), updI (S.getD 8 zQ) (S.getD 0 zQ 1).toNat (V (t + 1 + 1 + 1).toNat), updI (S.getD 9 zQ) (S.getD 0 zQ 1).toNat (0), updI (S.getD 10 zQ) (S.getD 0 zQ 1).toNat (V (t + 1 + 1 + 1 + 1).toNat), updI (S.getD 11 zQ) (S.getD 0 zQ 1).toNat (1), (S.getD 12 zQ), (S.getD 13 zQ), (S.getD 14 zQ)]
def wiS (K V : Nat → Int) (S : List (Nat → Int)) (t : Int) : List (Nat → Int) := [cnC (S.getD 0 zQ 0) ((S.getD 0 zQ 1) + 1) (S.getD 0 zQ 2), (S.getD 1 zQ), (S.getD 2 zQ), (S.getD 3 zQ), (S.getD 4 zQ), (S.getD 5 zQ), updI (S.getD 6 zQ) (S.getD 0 zQ 1).toNat (V (t + 1).toNat), updI (S.getD 7 zQ) (S.getD 0 zQ 1).toNat (V (t + 1 + 1).toNat), updI (S.getD 8 zQ) (S.getD 0 zQ 1).toNat (V (t + 1 + 1 + 1).toNat), updI (S.getD 9 zQ) (S.getD 0 zQ 1).toNat (V (t + 1 + 1 + 1 + 1).toNat), updI (S.getD 10 zQ) (S.getD 0 zQ 1).toNat (V (t + 1 + 1 + 1 + 1 + 1).toNat), updI (S.getD 11 zQ) (S.getD 0 zQ 1).toNat (0), (S.getD 12 zQ), (S.getD 13 zQ), (S.getD 14 zQ)]
def lnM (K V : Nat → Int) (t : Int) : Int := if K (t + 1 + 1).toNat = 7 then -1 * V (t + 1 + 1 + 1).toNat else 1 * V (t + 1 + 1).toNat
def leS (K V : Nat → Int) (S : List (Nat → Int)) (t : Int) : List (Nat → Int) := [cnC (S.getD 0 zQ 0) (S.getD 0 zQ 1) (S.getD 0 zQ 2), (S.getD 1 zQ), (S.getD 2 zQ), (S.getD 3 zQ), updI (S.getD 4 zQ) (V (t + 1).toNat).toNat (lnM K V t), updI (S.getD 5 zQ) (V (t + 1).toNat).toNat 1, (S.getD 6 zQ), (S.getD 7 zQ), (S.getD 8 zQ), (S.getD 9 zQ), (S.getD 10 zQ), (S.getD 11 zQ), (S.getD 12 zQ), (S.getD 13 zQ), (S.getD 14 zQ)]
def stS (K V : Nat → Int) (S : List (Nat → Int)) (t : Int) : List (Nat → Int) := [cnC (S.getD 0 zQ 0) (S.getD 0 zQ 1) ((S.getD 0 zQ 2) + 1), (S.getD 1 zQ), (S.getD 2 zQ), (S.getD 3 zQ), (S.getD 4 zQ), (S.getD 5 zQ), (S.getD 6 zQ), (S.getD 7 zQ), (S.getD 8 zQ), (S.getD 9 zQ), (S.getD 10 zQ), (S.getD 11 zQ), updI (S.getD 12 zQ) (S.getD 0 zQ 2).toNat (V (t + 1).toNat), updI (S.getD 13 zQ) (S.getD 0 zQ 2).toNat (V (t + 1 + 1).toNat), updI (S.getD 14 zQ) (S.getD 0 zQ 2).toNat (V (t + 1 + 1 + 1).toNat)]
def lnS (K V : Nat → Int) (S : List (Nat → Int)) (t : Int) : List (Nat → Int) := if K t.toNat = 0 then wlS K V S t else if K t.toNat = 1 then doS K V S t else if K t.toNat = 2 then wiS K V S t else if K t.toNat = 3 then leS K V S t else stS K V S t
theorem lnS_0 {K V : Nat → Int} {S : List (Nat → Int)} {t : Int} (k0 : K t.toNat = 0) : lnS K V S t = wlS K V S t := by unfold lnS; rw [if_pos k0]
theorem lnS_1 {K V : Nat → Int} {S : List (Nat → Int)} {t : Int} (k0 : ¬ K t.toNat = 0) (k1 : K t.toNat = 1) : lnS K V S t = doS K V S t := by unfold lnS; rw [if_neg k0, if_pos k1]
theorem lnS_2 {K V : Nat → Int} {S : List (Nat → Int)} {t : Int} (k0 : ¬ K t.toNat = 0) (k1 : ¬ K t.toNat = 1) (k2 : K t.toNat = 2) : lnS K V S t = wiS K V S t := by unfold lnS; rw [if_neg k0, if_neg k1, if_pos k2]
theorem lnS_3 {K V : Nat → Int} {S : List (Nat → Int)} {t : Int} (k0 : ¬ K t.toNat = 0) (k1 : ¬ K t.toNat = 1) (k2 : ¬ K t.toNat = 2) (k3 : K t.toNat = 3) : lnS K V S t = leS K V S t := by unfold lnS; rw [if_neg k0, if_neg k1, if_neg k2, if_pos k3]
theorem lnS_4 {K V : Nat → Int} {S : List (Nat → Int)} {t : Int} (k0 : ¬ K t.toNat = 0) (k1 : ¬ K t.toNat = 1) (k2 : ¬ K t.toNat = 2) (k3 : ¬ K t.toNat = 3) : lnS K V S t = stS K V S t := by unfold lnS; rw [if_neg k0, if_neg k1, if_neg k2, if_neg k3]
/-- the whole text -/
def prs (K V P : Nat → Int) (n : Int) : Nat → Int → List (Nat → Int) → Int × List (Nat → Int)
  | 0, _, S => (-2, S)
  | f + 1, t, S => if K t.toNat = 10 then (if S.getD 0 zQ 0 = 0 then n else -1, S) else if lnC K V S t < 0 then prs K V P n f (-1 - lnC K V S t) (lnS K V S t) else (P (lnC K V S t).toNat, S)
theorem prs_over {K V P : Nat → Int} {n t : Int} {f : Nat} {S : List (Nat → Int)} (h : K t.toNat = 10) : prs K V P n (f + 1) t S = (if S.getD 0 zQ 0 = 0 then n else -1, S) := by
  show (if K t.toNat = 10 then _ else _) = _
  rw [if_pos h]
theorem prs_fail {K V P : Nat → Int} {n t : Int} {f : Nat} {S : List (Nat → Int)} (h : ¬ K t.toNat = 10) (h2 : ¬ lnC K V S t < 0) : prs K V P n (f + 1) t S = (P (lnC K V S t).toNat, S) := by
  show (if K t.toNat = 10 then _ else _) = _
  rw [if_neg h, if_neg h2]
theorem prs_step {K V P : Nat → Int} {n t : Int} {f : Nat} {S : List (Nat → Int)} (h : ¬ K t.toNat = 10) (h2 : lnC K V S t < 0) : prs K V P n (f + 1) t S = prs K V P n f (-1 - lnC K V S t) (lnS K V S t) := by
  show (if K t.toNat = 10 then _ else _) = _
  rw [if_neg h, if_pos h2]
def agr (A S : List (Nat → Int)) : Prop := ((A.getD 0 zQ 0) = (S.getD 0 zQ 0) ∧ 0 ≤ (A.getD 0 zQ 0)) ∧ ((A.getD 0 zQ 1) = (S.getD 0 zQ 1) ∧ 0 ≤ (A.getD 0 zQ 1)) ∧ ((A.getD 0 zQ 2) = (S.getD 0 zQ 2) ∧ 0 ≤ (A.getD 0 zQ 2)) ∧ (∀ j : Nat, (j : Int) < (A.getD 0 zQ 0) → (A.getD 1 zQ j) = (S.getD 1 zQ j)) ∧ (∀ j : Nat, (j : Int) < (A.getD 0 zQ 0) → (A.getD 2 zQ j) = (S.getD 2 zQ j)) ∧ (∀ j : Nat, (j : Int) < (A.getD 0 zQ 0) → (A.getD 3 zQ j) = (S.getD 3 zQ j)) ∧ (∀ j : Nat, (j : Int) < (A.getD 0 zQ 0) → (A.getD 4 zQ j) = (S.getD 4 zQ j)) ∧ (∀ j : Nat, (j : Int) < (A.getD 0 zQ 0) → (A.getD 5 zQ j) = (S.getD 5 zQ j)) ∧ (∀ j : Nat, (j : Int) < (A.getD 0 zQ 1) → (A.getD 6 zQ j) = (S.getD 6 zQ j)) ∧ (∀ j : Nat, (j : Int) < (A.getD 0 zQ 1) → (A.getD 7 zQ j) = (S.getD 7 zQ j)) ∧ (∀ j : Nat, (j : Int) < (A.getD 0 zQ 1) → (A.getD 8 zQ j) = (S.getD 8 zQ j)) ∧ (∀ j : Nat, (j : Int) < (A.getD 0 zQ 1) → (A.getD 9 zQ j) = (S.getD 9 zQ j)) ∧ (∀ j : Nat, (j : Int) < (A.getD 0 zQ 1) → (A.getD 10 zQ j) = (S.getD 10 zQ j)) ∧ (∀ j : Nat, (j : Int) < (A.getD 0 zQ 1) → (A.getD 11 zQ j) = (S.getD 11 zQ j)) ∧ (∀ j : Nat, (j : Int) < (A.getD 0 zQ 2) → (A.getD 12 zQ j) = (S.getD 12 zQ j)) ∧ (∀ j : Nat, (j : Int) < (A.getD 0 zQ 2) → (A.getD 13 zQ j) = (S.getD 13 zQ j)) ∧ (∀ j : Nat, (j : Int) < (A.getD 0 zQ 2) → (A.getD 14 zQ j) = (S.getD 14 zQ j))
theorem upA {F G : Nat → Int} {a b v : Int} (h0 : a = b ∧ 0 ≤ a) (h : ∀ j : Nat, (j : Int) < a → F j = G j) : ∀ j : Nat, (j : Int) < a + 1 → updI F a.toNat v j = updI G b.toNat v j := fun j hj => by
  rw [← h0.1]
  by_cases q : j = a.toNat
  · rw [q, updI_s, updI_s]
  · rw [updI_n _ _ q, updI_n _ _ q]; exact h j (by omega)
theorem upX {F G : Nat → Int} {a v : Int} {k : Nat} (h : ∀ j : Nat, (j : Int) < a → F j = G j) : ∀ j : Nat, (j : Int) < a → updI F k v j = updI G k v j := fun j hj => by
  by_cases q : j = k
  · rw [q, updI_s, updI_s]
  · rw [updI_n _ _ q, updI_n _ _ q]; exact h j hj
theorem cP {a b : Int} (h : a = b ∧ 0 ≤ a) : a + 1 = b + 1 ∧ 0 ≤ a + 1 := by omega
theorem agr_wlS {K V : Nat → Int} {A S : List (Nat → Int)} {t : Int} (h : agr A S) : agr (wlS K V A t) (wlS K V S t) := by
  obtain ⟨c0, c1, c2, h1, h2, h3, h4, h5, h6, h7, h8, h9, h10, h11, h12, h13, h14⟩ := h
  exact ⟨cP c0, c1, c2, upA c0 h1, upA c0 h2, upA c0 h3, upA c0 h4, upA c0 h5, h6, h7, h8, h9, h10, h11, h12, h13, h14⟩
theorem agr_doS {K V : Nat → Int} {A S : List (Nat → Int)} {t : Int} (h : agr A S) : agr (doS K V A t) (doS K V S t) := by
  obtain ⟨c0, c1, c2, h1, h2, h3, h4, h5, h6, h7, h8, h9, h10, h11, h12, h13, h14⟩ := h
  exact ⟨c0, cP c1, c2, h1, h2, h3, h4, h5, upA c1 h6, upA c1 h7, upA c1 h8, upA c1 h9, upA c1 h10, upA c1 h11, h12, h13, h14⟩
theorem agr_wiS {K V : Nat → Int} {A S : List (Nat → Int)} {t : Int} (h : agr A S) : agr (wiS K V A t) (wiS K V S t) := by
  obtain ⟨c0, c1, c2, h1, h2, h3, h4, h5, h6, h7, h8, h9, h10, h11, h12, h13, h14⟩ := h
  exact ⟨c0, cP c1, c2, h1, h2, h3, h4, h5, upA c1 h6, upA c1 h7, upA c1 h8, upA c1 h9, upA c1 h10, upA c1 h11, h12, h13, h14⟩
theorem agr_leS {K V : Nat → Int} {A S : List (Nat → Int)} {t : Int} (h : agr A S) : agr (leS K V A t) (leS K V S t) := by
  obtain ⟨c0, c1, c2, h1, h2, h3, h4, h5, h6, h7, h8, h9, h10, h11, h12, h13, h14⟩ := h
  exact ⟨c0, c1, c2, h1, h2, h3, upX h4, upX h5, h6, h7, h8, h9, h10, h11, h12, h13, h14⟩
theorem agr_stS {K V : Nat → Int} {A S : List (Nat → Int)} {t : Int} (h : agr A S) : agr (stS K V A t) (stS K V S t) := by
  obtain ⟨c0, c1, c2, h1, h2, h3, h4, h5, h6, h7, h8, h9, h10, h11, h12, h13, h14⟩ := h
  exact ⟨c0, c1, cP c2, h1, h2, h3, h4, h5, h6, h7, h8, h9, h10, h11, upA c2 h12, upA c2 h13, upA c2 h14⟩
theorem agr_lnS {K V : Nat → Int} {A S : List (Nat → Int)} {t : Int} (h : agr A S) : agr (lnS K V A t) (lnS K V S t) := by
  unfold lnS
  split
  · exact agr_wlS h
  · split
    · exact agr_doS h
    · split
      · exact agr_wiS h
      · split
        · exact agr_leS h
        · exact agr_stS h
theorem doC_c {K V : Nat → Int} {n : Int} {L H Q L' H' Q' : Nat → Int} {t : Int} (hL : ∀ j : Nat, (j : Int) < n → L j = L' j) (hH : ∀ j : Nat, (j : Int) < n → H j = H' j) (hQ : ∀ j : Nat, (j : Int) < n → Q j = Q' j) : doC K V n L H Q t = doC K V n L' H' Q' t := by
  by_cases h1 : (K (t + 1).toNat = 6 ∧ 0 ≤ V (t + 1).toNat ∧ V (t + 1).toNat ≤ n - 1)
  · have a := hL (V (t + 1).toNat).toNat (by omega)
    have b := hH (V (t + 1).toNat).toNat (by omega)
    have c := hQ (V (t + 1).toNat).toNat (by omega)
    unfold doC les
    rw [a, b, c]
  · rw [doC_1 h1, doC_1 h1]
theorem wiC_c {K V : Nat → Int} {n : Int} {L H Q L' H' Q' : Nat → Int} {t : Int} (hL : ∀ j : Nat, (j : Int) < n → L j = L' j) (hH : ∀ j : Nat, (j : Int) < n → H j = H' j) (hQ : ∀ j : Nat, (j : Int) < n → Q j = Q' j) : wiC K V n L H Q t = wiC K V n L' H' Q' t := by
  by_cases h1 : (K (t + 1).toNat = 6 ∧ 0 ≤ V (t + 1).toNat ∧ V (t + 1).toNat ≤ n - 1)
  · have a := hL (V (t + 1).toNat).toNat (by omega)
    have b := hH (V (t + 1).toNat).toNat (by omega)
    have c := hQ (V (t + 1).toNat).toNat (by omega)
    unfold wiC les
    rw [a, b, c]
  · rw [wiC_1 h1, wiC_1 h1]
theorem stC_c {K V : Nat → Int} {n : Int} {L L' : Nat → Int} {t : Int} (hL : ∀ j : Nat, (j : Int) < n → L j = L' j) : stC K V n L t = stC K V n L' t := by
  by_cases h1 : (K (t + 1).toNat = 6 ∧ 0 ≤ V (t + 1).toNat ∧ V (t + 1).toNat ≤ n - 1)
  · have a := hL (V (t + 1).toNat).toNat (by omega)
    unfold stC
    rw [a]
  · rw [stC_1 h1, stC_1 h1]
theorem leC_c {K V : Nat → Int} {n : Int} {Y Y' : Nat → Int} {t : Int} (hY : ∀ j : Nat, (j : Int) < n → Y j = Y' j) : leC K V n Y t = leC K V n Y' t := by
  by_cases h1 : (K (t + 1).toNat = 6 ∧ 0 ≤ V (t + 1).toNat ∧ V (t + 1).toNat ≤ n - 1)
  · have a := hY (V (t + 1).toNat).toNat (by omega)
    unfold leC lmC lpC
    rw [a]
  · rw [leC_1 (fun z => h1 ⟨z.1, z.2.1, z.2.2.1⟩), leC_1 (fun z => h1 ⟨z.1, z.2.1, z.2.2.1⟩)]
theorem agr_lnC {K V : Nat → Int} {A S : List (Nat → Int)} {t : Int} (h : agr A S) : lnC K V A t = lnC K V S t := by
  obtain ⟨c0, c1, c2, h1, h2, h3, h4, h5, h6, h7, h8, h9, h10, h11, h12, h13, h14⟩ := h
  unfold lnC
  rw [← c0.1, ← c1.1, ← c2.1, doC_c h1 h2 h3, wiC_c h1 h2 h3, leC_c h5, stC_c h1]
theorem agr_prs {K V P : Nat → Int} {n : Int} : ∀ (f : Nat) (t : Int) (A S : List (Nat → Int)), agr A S → (prs K V P n f t A).1 = (prs K V P n f t S).1 ∧ agr (prs K V P n f t A).2 (prs K V P n f t S).2 := by
  intro f
  induction f with
  | zero => intro t A S h; exact ⟨rfl, h⟩
  | succ f ih =>
    intro t A S h
    by_cases h1 : K t.toNat = 10
    · rw [prs_over h1, prs_over h1]
      have e : A.getD 0 zQ 0 = S.getD 0 zQ 0 := h.1.1
      exact ⟨by show (if A.getD 0 zQ 0 = 0 then n else -1) = (if S.getD 0 zQ 0 = 0 then n else -1); rw [e], h⟩
    · have e := agr_lnC (K := K) (V := V) (t := t) h
      by_cases h2 : lnC K V S t < 0
      · rw [prs_step h1 (by rw [e]; exact h2), prs_step h1 h2, e]
        exact ih _ _ _ (agr_lnS h)
      · rw [prs_fail h1 (by rw [e]; exact h2), prs_fail h1 h2, e]
        exact ⟨rfl, h⟩
theorem agr_rf {A : List (Nat → Int)} (h : 0 ≤ A.getD 0 zQ 0 ∧ 0 ≤ A.getD 0 zQ 1 ∧ 0 ≤ A.getD 0 zQ 2) : agr A A := ⟨⟨rfl, h.1⟩, ⟨rfl, h.2.1⟩, ⟨rfl, h.2.2⟩, fun _ _ => rfl, fun _ _ => rfl, fun _ _ => rfl, fun _ _ => rfl, fun _ _ => rfl, fun _ _ => rfl, fun _ _ => rfl, fun _ _ => rfl, fun _ _ => rfl, fun _ _ => rfl, fun _ _ => rfl, fun _ _ => rfl, fun _ _ => rfl, fun _ _ => rfl⟩
/-- nothing told yet -/
def S00 : List (Nat → Int) := [cnC 0 0 0, zQ, zQ, zQ, zQ, zQ, zQ, zQ, zQ, zQ, zQ, zQ, zQ, zQ, zQ]
theorem agr_0 {F1 F2 F3 F4 F5 F6 F7 F8 F9 F10 F11 F12 F13 F14 : Nat → Int} : agr [cnC 0 0 0, F1, F2, F3, F4, F5, F6, F7, F8, F9, F10, F11, F12, F13, F14] S00 := ⟨⟨rfl, Int.le_refl _⟩, ⟨rfl, Int.le_refl _⟩, ⟨rfl, Int.le_refl _⟩, fun j h => absurd h (by show ¬ (j : Int) < 0; omega), fun j h => absurd h (by show ¬ (j : Int) < 0; omega), fun j h => absurd h (by show ¬ (j : Int) < 0; omega), fun j h => absurd h (by show ¬ (j : Int) < 0; omega), fun j h => absurd h (by show ¬ (j : Int) < 0; omega), fun j h => absurd h (by show ¬ (j : Int) < 0; omega), fun j h => absurd h (by show ¬ (j : Int) < 0; omega), fun j h => absurd h (by show ¬ (j : Int) < 0; omega), fun j h => absurd h (by show ¬ (j : Int) < 0; omega), fun j h => absurd h (by show ¬ (j : Int) < 0; omega), fun j h => absurd h (by show ¬ (j : Int) < 0; omega), fun j h => absurd h (by show ¬ (j : Int) < 0; omega), fun j h => absurd h (by show ¬ (j : Int) < 0; omega), fun j h => absurd h (by show ¬ (j : Int) < 0; omega)⟩
def pFault (B : Nat → Int) (n : Int) : Int := (prs (tK B n) (tV B n) (tA B n) n 401 0 S00).1
def pRoom (B : Nat → Int) (n : Int) : List (Nat → Int) := (prs (tK B n) (tV B n) (tA B n) n 401 0 S00).2

/-! bytes of a number -/
def us8 (v sh : Int) : Int := ((iI v).toUInt32 >>> ((iI sh).toUInt32 &&& Int32.toUInt32 31)).toInt32.toInt
def by8 (v sh : Int) : Int := (iI (us8 v sh) &&& iI 255).toInt
def sgI (x : Int) : Int := if x < 128 then x else x - 256
theorem us8_e (v sh : Int) : ((iI v).toUInt32 >>> ((iI sh).toUInt32 &&& Int32.toUInt32 31)).toInt32 = iI (us8 v sh) := (iI_of _).symm
theorem by8_e (v sh : Int) : iI (us8 v sh) &&& iI 255 = iI (by8 v sh) := (iI_of _).symm
theorem by8_b (v sh : Int) : 0 ≤ by8 v sh ∧ by8 v sh ≤ 255 := by
  have h := and_leR (iI (us8 v sh)) (iI 255) (by decide)
  rw [iI_int (a := 255) ⟨by decide, by decide⟩] at h
  exact h
theorem sgI_b {x : Int} (h : 0 ≤ x ∧ x ≤ 255) : -128 ≤ sgI x ∧ sgI x ≤ 127 := by unfold sgI; split <;> omega
theorem sgI_e (x : Int32) : x.toInt8.toInt32 = iI (sgI (x &&& iI 255).toInt) := by
  have h1 : (x &&& iI 255).toBitVec.toNat = x.toBitVec.toNat % 256 := by
    rw [Int32.toBitVec_and, BitVec.toNat_and]
    show x.toBitVec.toNat &&& 255 = _
    exact Nat.and_two_pow_sub_one_eq_mod _ 8
  have h2 : x.toInt = if 2 * x.toBitVec.toNat < 2 ^ 32 then (x.toBitVec.toNat : Int) else (x.toBitVec.toNat : Int) - ((2 ^ 32 : Nat) : Int) := BitVec.toInt_eq_toNat_cond x.toBitVec
  have h3 : (x &&& iI 255).toInt = if 2 * (x &&& iI 255).toBitVec.toNat < 2 ^ 32 then ((x &&& iI 255).toBitVec.toNat : Int) else ((x &&& iI 255).toBitVec.toNat : Int) - ((2 ^ 32 : Nat) : Int) := BitVec.toInt_eq_toNat_cond _
  have h4 := x.toBitVec.isLt
  have e : (x &&& iI 255).toInt = x.toInt % 256 := by
    rw [h1] at h3
    split at h2 <;> split at h3 <;> omega
  have b : 0 ≤ (x &&& iI 255).toInt ∧ (x &&& iI 255).toInt ≤ 255 := by omega
  have c := sgI_b b
  apply Int32.toInt_inj.mp
  rw [Int8.toInt_toInt32, Int32.toInt_toInt8, iI_int ⟨by omega, by omega⟩, e]
  unfold sgI Int.bmod
  simp only []
  split <;> split <;> omega
theorem sg8_e (v sh : Int) : (iI (us8 v sh)).toInt8.toInt32 = iI (sgI (by8 v sh)) := sgI_e _
def fd4 (F : Nat → Int) (n v : Int) : Nat → Int := updI (updI (updI (updI F n.toNat (by8 v 24)) (n + 1).toNat (by8 v 16)) (n + 1 + 1).toNat (by8 v 8)) (n + 1 + 1 + 1).toNat (by8 v 0)
def gm4 (F : Nat → Int) (n v : Int) : Nat → Int := updI (updI (updI (updI F n.toNat (sgI (by8 v 24))) (n + 1).toNat (sgI (by8 v 16))) (n + 1 + 1).toNat (sgI (by8 v 8))) (n + 1 + 1 + 1).toNat (sgI (by8 v 0))
def fd20 (F : Nat → Int) (n a b c d e : Int) : Nat → Int := fd4 (fd4 (fd4 (fd4 (fd4 F n a) (n + 1 + 1 + 1 + 1) b) (n + 1 + 1 + 1 + 1 + 1 + 1 + 1 + 1) c) (n + 1 + 1 + 1 + 1 + 1 + 1 + 1 + 1 + 1 + 1 + 1 + 1) d) (n + 1 + 1 + 1 + 1 + 1 + 1 + 1 + 1 + 1 + 1 + 1 + 1 + 1 + 1 + 1 + 1) e
def gm20 (F : Nat → Int) (n a b c d e : Int) : Nat → Int := gm4 (gm4 (gm4 (gm4 (gm4 F n a) (n + 1 + 1 + 1 + 1) b) (n + 1 + 1 + 1 + 1 + 1 + 1 + 1 + 1) c) (n + 1 + 1 + 1 + 1 + 1 + 1 + 1 + 1 + 1 + 1 + 1 + 1) d) (n + 1 + 1 + 1 + 1 + 1 + 1 + 1 + 1 + 1 + 1 + 1 + 1 + 1 + 1 + 1 + 1) e
/-- the reference's bytes are the class's, with a sign -/
def txR (M B : Nat → Int) (n : Int) : Prop := ∀ j : Nat, (j : Int) < n → (0 ≤ B j ∧ B j ≤ 255) ∧ M j = sgI (B j)
theorem txR_u {M B : Nat → Int} {n x : Int} (h : txR M B n) (h0 : 0 ≤ n) (hx : 0 ≤ x ∧ x ≤ 255) : txR (updI M n.toNat (sgI x)) (updI B n.toNat x) (n + 1) := fun j hj => by
  by_cases q : j = n.toNat
  · rw [q, updI_s, updI_s]; exact ⟨hx, rfl⟩
  · rw [updI_n _ _ q, updI_n _ _ q]; exact h j (by omega)
theorem txR_4 {M B : Nat → Int} {n : Int} (v : Int) (h : txR M B n) (h0 : 0 ≤ n) : txR (gm4 M n v) (fd4 B n v) (n + 1 + 1 + 1 + 1) :=
  txR_u (txR_u (txR_u (txR_u h h0 (by8_b v 24)) (by omega) (by8_b v 16)) (by omega) (by8_b v 8)) (by omega) (by8_b v 0)
theorem txR_20 {M B : Nat → Int} {n m : Int} (a b c d e : Int) (h : txR M B n) (h0 : 0 ≤ n) (hm : m = n + 20) : txR (gm20 M n a b c d e) (fd20 B n a b c d e) m := by
  have q := txR_4 e (txR_4 d (txR_4 c (txR_4 b (txR_4 a h h0) (by omega)) (by omega)) (by omega)) (by omega)
  have z : m = n + 1 + 1 + 1 + 1 + 1 + 1 + 1 + 1 + 1 + 1 + 1 + 1 + 1 + 1 + 1 + 1 + 1 + 1 + 1 + 1 := by omega
  rw [z]
  exact q
theorem txR_le {M B : Nat → Int} {n m : Int} (h : txR M B n) (hm : m ≤ n) : txR M B m := fun j hj => h j (by omega)
theorem skp_c {M B : Nat → Int} {n : Int} (h : txR M B n) : ∀ (f : Nat) (p : Int), 0 ≤ p → skp M n f p = skp B n f p := by
  intro f
  induction f with
  | zero => intro p _; rfl
  | succ f ih =>
    intro p h0
    unfold skp
    by_cases z : p < n ∧ (B p.toNat = 32 ∨ B p.toNat = 10)
    · have q := h p.toNat (by omega)
      have q2 : M p.toNat = B p.toNat := by rw [q.2]; unfold sgI; rw [if_pos (by omega)]
      rw [if_pos z, if_pos (by rw [q2]; exact z)]
      exact ih (p + 1) (by omega)
    · rw [if_neg z, if_neg]
      intro w
      have q := h p.toNat (by omega)
      unfold sgI at q
      apply z
      refine ⟨w.1, ?_⟩
      have w2 := w.2
      rw [q.2] at w2
      split at w2 <;> omega
theorem rne_c {M B : Nat → Int} {n lo hi : Int} (h : txR M B n) (hl : 0 ≤ lo) (hh : hi ≤ 127) : ∀ (f : Nat) (p : Int), 0 ≤ p → rne M n lo hi f p = rne B n lo hi f p := by
  intro f
  induction f with
  | zero => intro p _; rfl
  | succ f ih =>
    intro p h0
    unfold rne
    by_cases z : p < n ∧ lo ≤ B p.toNat ∧ B p.toNat ≤ hi
    · have q := h p.toNat (by omega)
      have q2 : M p.toNat = B p.toNat := by rw [q.2]; unfold sgI; rw [if_pos (by omega)]
      rw [if_pos z, if_pos (by rw [q2]; exact z)]
      exact ih (p + 1) (by omega)
    · rw [if_neg z, if_neg]
      intro w
      have q := h p.toNat (by omega)
      unfold sgI at q
      apply z
      refine ⟨w.1, ?_⟩
      have w2 := w.2
      rw [q.2] at w2
      split at w2 <;> omega
theorem byt_c {M B : Nat → Int} {n a lo hi : Int} (h : txR M B n) (h0 : 0 ≤ a) (ha : a < n) (hl : 0 ≤ lo) (hh : hi ≤ 127) : (lo ≤ M a.toNat ∧ M a.toNat ≤ hi) ↔ (lo ≤ B a.toNat ∧ B a.toNat ≤ hi) := by
  have q := h a.toNat (by omega)
  rw [q.2]
  unfold sgI
  split <;> omega
theorem tkE_c {M B : Nat → Int} {n a : Int} (h : txR M B n) (h0 : 0 ≤ a) : tkE M n a = tkE B n a := by
  unfold tkE
  by_cases ha : a < n
  · rw [if_pos ha, if_pos ha]
    have e1 := byt_c (lo := 97) (hi := 122) h h0 ha (by decide) (by decide)
    have e2 := byt_c (lo := 48) (hi := 57) h h0 ha (by decide) (by decide)
    by_cases z : 97 ≤ B a.toNat ∧ B a.toNat ≤ 122
    · rw [if_pos z, if_pos (e1.mpr z)]; exact rne_c h (by decide) (by decide) 401 a h0
    · rw [if_neg z, if_neg (fun w => z (e1.mp w))]
      by_cases z2 : 48 ≤ B a.toNat ∧ B a.toNat ≤ 57
      · rw [if_pos z2, if_pos (e2.mpr z2)]; exact rne_c h (by decide) (by decide) 401 a h0
      · rw [if_neg z2, if_neg (fun w => z2 (e2.mp w))]
  · rw [if_neg ha, if_neg ha]
theorem tA_c {M B : Nat → Int} {n : Int} (h : txR M B n) (hn : 0 ≤ n) : ∀ k : Nat, tA M n k = tA B n k := by
  intro k
  induction k with
  | zero => exact skp_c h 401 0 (Int.le_refl _)
  | succ k ih =>
    show skp M n 401 (tkE M n (tA M n k)) = skp B n 401 (tkE B n (tA B n k))
    have b := tA_B (B := B) hn k
    have b2 := tkE_B (B := B) b.2
    rw [ih, tkE_c h b.1]
    exact skp_c h 401 _ (by omega)
theorem spl_c {M B : Nat → Int} {n a e : Int} {j : Nat} (hj : j < 5) (h : txR M B n) (h0 : 0 ≤ a) (he : e ≤ n) : spl M a e j ↔ spl B a e j := by
  constructor
  · intro s
    refine ⟨s.1, fun i hi => ?_⟩
    have s1 := s.1
    have q := h (a.toNat + i) (by omega)
    have c := ((gCh_ok j hj).2 i hi).1
    have z := s.2 i hi
    rw [q.2] at z
    unfold sgI at z
    split at z <;> omega
  · intro s
    refine ⟨s.1, fun i hi => ?_⟩
    have s1 := s.1
    have q := h (a.toNat + i) (by omega)
    have c := ((gCh_ok j hj).2 i hi).1
    have z := s.2 i hi
    rw [q.2]
    unfold sgI
    split <;> omega
theorem wdK_c {M B : Nat → Int} {n a e : Int} (h : txR M B n) (h0 : 0 ≤ a) (he : e ≤ n) : wdK M a e = wdK B a e := by
  have b1 := wdK_B M a e
  have b2 := wdK_B B a e
  have e0 := ((wdK_eq (B := M) (a := a) (e := e) (j := 0) (by decide)).trans (spl_c (by decide) h h0 he)).trans (wdK_eq (by decide)).symm
  have e1 := ((wdK_eq (B := M) (a := a) (e := e) (j := 1) (by decide)).trans (spl_c (by decide) h h0 he)).trans (wdK_eq (by decide)).symm
  have e2 := ((wdK_eq (B := M) (a := a) (e := e) (j := 2) (by decide)).trans (spl_c (by decide) h h0 he)).trans (wdK_eq (by decide)).symm
  have e3 := ((wdK_eq (B := M) (a := a) (e := e) (j := 3) (by decide)).trans (spl_c (by decide) h h0 he)).trans (wdK_eq (by decide)).symm
  have e4 := ((wdK_eq (B := M) (a := a) (e := e) (j := 4) (by decide)).trans (spl_c (by decide) h h0 he)).trans (wdK_eq (by decide)).symm
  omega
theorem dvl_c {M B : Nat → Int} {a : Nat} : ∀ m : Nat, (∀ i : Nat, i < m → M (a + i) = B (a + i)) → dvl M a m = dvl B a m := by
  intro m
  induction m with
  | zero => intro _; rfl
  | succ m ih =>
    intro h
    unfold dvl
    rw [ih (fun i hi => h i (by omega)), h m (by omega)]
theorem kdA_c {M B : Nat → Int} {n a : Int} (h : txR M B n) (h0 : 0 ≤ a) (ha : a < n) : kdA M n a = kdA B n a := by
  unfold kdA
  have e1 := byt_c (lo := 97) (hi := 122) h h0 ha (by decide) (by decide)
  have e2 := byt_c (lo := 48) (hi := 57) h h0 ha (by decide) (by decide)
  have e3 := byt_c (lo := 45) (hi := 45) h h0 ha (by decide) (by decide)
  have e4 := byt_c (lo := 59) (hi := 59) h h0 ha (by decide) (by decide)
  by_cases z : 97 ≤ B a.toNat ∧ B a.toNat ≤ 122
  · rw [if_pos z, if_pos (e1.mpr z), tkE_c h h0]
    exact wdK_c h h0 (tkE_B (by omega)).2.1
  · rw [if_neg z, if_neg (fun w => z (e1.mp w))]
    by_cases z2 : 48 ≤ B a.toNat ∧ B a.toNat ≤ 57
    · rw [if_pos z2, if_pos (e2.mpr z2)]
    · rw [if_neg z2, if_neg (fun w => z2 (e2.mp w))]
      by_cases z3 : B a.toNat = 45
      · rw [if_pos z3, if_pos (by omega)]
      · rw [if_neg z3, if_neg (by omega)]
        by_cases z4 : B a.toNat = 59
        · rw [if_pos z4, if_pos (by omega)]
        · rw [if_neg z4, if_neg (by omega)]
theorem vlA_c {M B : Nat → Int} {n a : Int} (h : txR M B n) (h0 : 0 ≤ a) (ha : a < n) : vlA M n a = vlA B n a := by
  unfold vlA
  have e2 := byt_c (lo := 48) (hi := 57) h h0 ha (by decide) (by decide)
  by_cases z2 : 48 ≤ B a.toNat ∧ B a.toNat ≤ 57
  · rw [if_pos z2, if_pos (e2.mpr z2), tkE_c h h0]
    have e : tkE B n a = rne B n 48 57 401 a := by
      unfold tkE
      rw [if_pos ha, if_neg (by omega), if_pos z2]
    have b := rne_B (B := B) (n := n) (lo := 48) (hi := 57) 401 a (by omega)
    rw [e]
    refine dvl_c _ (fun i hi => ?_)
    have q := h (a.toNat + i) (by omega)
    have d := rne_all (B := B) (n := n) (lo := 48) (hi := 57) 401 a h0 (a.toNat + i) (by omega) (by omega)
    rw [q.2]
    unfold sgI
    rw [if_pos (by omega)]
  · rw [if_neg z2, if_neg (fun w => z2 (e2.mp w))]
theorem tok_c {M B : Nat → Int} {n : Int} (h : txR M B n) (hn : 0 ≤ n) : tK M n = tK B n ∧ tV M n = tV B n ∧ tA M n = tA B n := by
  refine ⟨funext fun k => ?_, funext fun k => ?_, funext fun k => tA_c h hn k⟩
  · unfold tK
    rw [tA_c h hn k]
    have b := tA_B (B := B) hn k
    by_cases z : tA B n k < n
    · rw [if_pos z, if_pos z]; exact kdA_c h b.1 z
    · rw [if_neg z, if_neg z]
  · unfold tV
    rw [tA_c h hn k]
    have b := tA_B (B := B) hn k
    by_cases z : tA B n k < n
    · rw [if_pos z, if_pos z]; exact vlA_c h b.1 z
    · rw [if_neg z, if_neg z]
theorem prs_c {M B : Nat → Int} {n : Int} (h : txR M B n) (hn : 0 ≤ n) {S : List (Nat → Int)} : prs (tK M n) (tV M n) (tA M n) n 401 0 S = prs (tK B n) (tV B n) (tA B n) n 401 0 S := by
  rw [(tok_c h hn).1, (tok_c h hn).2.1, (tok_c h hn).2.2]
/-! the loop over LINES -/
theorem prs_go {K V P : Nat → Int} {n t t2 : Int} {f f' : Nat} {S S2 : List (Nat → Int)} {R : Int × List (Nat → Int)} (hf : f = f' + 1) (h : prs K V P n f t S = R) (h1 : ¬ K t.toNat = 10) (hC : lnC K V S t = -1 - t2) (ht : 0 ≤ t2) (hS : S2 = lnS K V S t) : prs K V P n f' t2 S2 = R := by
  subst hf
  rw [prs_step h1 (by omega), show -1 - lnC K V S t = t2 by omega, ← hS] at h
  exact h
theorem prs_no {K V P : Nat → Int} {n t t2 : Int} {f f' : Nat} {S : List (Nat → Int)} {R : Int × List (Nat → Int)} (hf : f = f' + 1) (h : prs K V P n f t S = R) (h1 : ¬ K t.toNat = 10) (hC : lnC K V S t = t2) (ht : 0 ≤ t2) : R.1 = P t2.toNat := by
  subst hf
  rw [prs_fail h1 (by omega), hC] at h
  exact (congrArg Prod.fst h).symm
theorem prs_o1 {K V P : Nat → Int} {n t : Int} {f f' : Nat} {S : List (Nat → Int)} {R : Int × List (Nat → Int)} (hf : f = f' + 1) (h : prs K V P n f t S = R) (h1 : K t.toNat = 10) (hz : S.getD 0 zQ 0 = 0) : R.1 = n := by
  subst hf
  rw [prs_over h1, if_pos hz] at h
  exact (congrArg Prod.fst h).symm
theorem prs_o2 {K V P : Nat → Int} {n t : Int} {f f' : Nat} {S : List (Nat → Int)} {R : Int × List (Nat → Int)} (hf : f = f' + 1) (h : prs K V P n f t S = R) (h1 : K t.toNat = 10) (hz : ¬ S.getD 0 zQ 0 = 0) : R.1 = -1 ∧ S = R.2 := by
  subst hf
  rw [prs_over h1, if_neg hz] at h
  exact ⟨(congrArg Prod.fst h).symm, congrArg Prod.snd h⟩
theorem lnM_m {K V : Nat → Int} {t : Int} (h : K (t + 1 + 1).toNat = 7) : lnM K V t = -1 * V (t + 1 + 1 + 1).toNat := if_pos h
theorem lnM_p {K V : Nat → Int} {t : Int} (h : ¬ K (t + 1 + 1).toNat = 7) : lnM K V t = 1 * V (t + 1 + 1).toNat := if_neg h
theorem les_B {H Q : Nat → Int} {w : Int} {lo hi : Int} (h1 : lo ≤ H w.toNat ∧ H w.toNat ≤ hi) (h2 : lo ≤ Q w.toNat ∧ Q w.toNat ≤ hi) : lo ≤ les H Q w ∧ les H Q w ≤ hi := by unfold les; split <;> omega
/-! the class's loops over bytes -/
theorem dvl_s {B : Nat → Int} {fr i v y : Int} (h0 : 0 ≤ fr) (h1 : fr ≤ i) (hv : v = dvl B fr.toNat (i - fr).toNat) (hy : y ≤ 100000 ∧ y ≤ v * 10 + B i.toNat - 48 ∧ (y = 100000 ∨ y = v * 10 + B i.toNat - 48)) : y = dvl B fr.toNat (i + 1 - fr).toNat := by
  have e : (i + 1 - fr).toNat = (i - fr).toNat + 1 := by omega
  have e2 : fr.toNat + (i - fr).toNat = i.toNat := by omega
  rw [e]
  unfold dvl
  rw [← hv, e2]
  split <;> omega
theorem spl_s {B : Nat → Int} {fr i : Int} {sj : Nat} {y : Int} (h : ∀ q : Nat, (q : Int) < i → B (fr.toNat + q) = gCh sj q) (h0 : 0 ≤ fr) (hi : 0 ≤ i) (ey : y = B (fr + i).toNat) (ez : y = gCh sj i.toNat) : ∀ q : Nat, (q : Int) < i + 1 → B (fr.toNat + q) = gCh sj q := fun q hq => by
  by_cases e : (q : Int) < i
  · exact h q e
  · have e1 : q = i.toNat := by omega
    have e2 : fr.toNat + q = (fr + i).toNat := by omega
    rw [e2, ← ey, ez, e1]
theorem spl_x {B : Nat → Int} {fr to i : Int} {sj : Nat} {y : Int} (h0 : 0 ≤ fr) (hi : 0 ≤ i) (hl : i < ((gLen.getD sj 0 : Nat) : Int)) (ey : y = B (fr + i).toNat) (ez : ¬ y = gCh sj i.toNat) : ¬ spl B fr to sj := fun s => by
  have q := s.2 i.toNat (by omega)
  have e2 : fr.toNat + i.toNat = (fr + i).toNat := by omega
  rw [e2, ← ey] at q
  exact ez q
theorem wdK_of {B : Nat → Int} {a e : Int} {y : Int} (h : (y = 0 ∧ spl B a e 0) ∨ (y = 1 ∧ spl B a e 1) ∨ (y = 2 ∧ spl B a e 2) ∨ (y = 3 ∧ spl B a e 3) ∨ (y = 4 ∧ spl B a e 4)) : y = wdK B a e := by
  rcases h with ⟨rfl, h⟩ | ⟨rfl, h⟩ | ⟨rfl, h⟩ | ⟨rfl, h⟩ | ⟨rfl, h⟩
  · exact ((wdK_eq (j := 0) (by decide)).mpr h).symm
  · exact ((wdK_eq (j := 1) (by decide)).mpr h).symm
  · exact ((wdK_eq (j := 2) (by decide)).mpr h).symm
  · exact ((wdK_eq (j := 3) (by decide)).mpr h).symm
  · exact ((wdK_eq (j := 4) (by decide)).mpr h).symm
theorem wdK_5 {B : Nat → Int} {a e : Int} (h0 : ¬ spl B a e 0) (h1 : ¬ spl B a e 1) (h2 : ¬ spl B a e 2) (h3 : ¬ spl B a e 3) (h4 : ¬ spl B a e 4) : 5 = wdK B a e := by
  unfold wdK
  rw [if_neg h0, if_neg h1, if_neg h2, if_neg h3, if_neg h4]
theorem tkE_w {B : Nat → Int} {n a : Int} (h : a < n) (hb : 97 ≤ B a.toNat ∧ B a.toNat ≤ 122) : tkE B n a = rne B n 97 122 401 a := by unfold tkE; rw [if_pos h, if_pos hb]
theorem tkE_d {B : Nat → Int} {n a : Int} (h : a < n) (hb : 48 ≤ B a.toNat ∧ B a.toNat ≤ 57) : tkE B n a = rne B n 48 57 401 a := by unfold tkE; rw [if_pos h, if_neg (by omega), if_pos hb]
theorem tkE_o {B : Nat → Int} {n a : Int} (h : a < n) (h1 : ¬ (97 ≤ B a.toNat ∧ B a.toNat ≤ 122)) (h2 : ¬ (48 ≤ B a.toNat ∧ B a.toNat ≤ 57)) : tkE B n a = a + 1 := by unfold tkE; rw [if_pos h, if_neg h1, if_neg h2]
theorem kdA_w {B : Nat → Int} {n a : Int} (hb : 97 ≤ B a.toNat ∧ B a.toNat ≤ 122) : kdA B n a = wdK B a (tkE B n a) := if_pos hb
theorem kdA_d {B : Nat → Int} {n a : Int} (hb : 48 ≤ B a.toNat ∧ B a.toNat ≤ 57) : kdA B n a = 6 := by unfold kdA; rw [if_neg (by omega), if_pos hb]
theorem kdA_s {B : Nat → Int} {n a y : Int} (h1 : ¬ (97 ≤ B a.toNat ∧ B a.toNat ≤ 122)) (h2 : ¬ (48 ≤ B a.toNat ∧ B a.toNat ≤ 57)) (hy : (y = 7 ∧ B a.toNat = 45) ∨ (y = 8 ∧ B a.toNat = 59) ∨ (y = 9 ∧ ¬ B a.toNat = 45 ∧ ¬ B a.toNat = 59)) : y = kdA B n a := by
  unfold kdA
  rw [if_neg h1, if_neg h2]
  rcases hy with ⟨e, h⟩ | ⟨e, h⟩ | ⟨e, h, h'⟩
  · rw [if_pos h, e]
  · rw [if_neg (by omega), if_pos h, e]
  · rw [if_neg h, if_neg h', e]
theorem vlA_d {B : Nat → Int} {n a : Int} (hb : 48 ≤ B a.toNat ∧ B a.toNat ≤ 57) : vlA B n a = dvl B a.toNat (tkE B n a - a).toNat := if_pos hb
theorem vlA_o {B : Nat → Int} {n a : Int} (hb : ¬ (48 ≤ B a.toNat ∧ B a.toNat ≤ 57)) : 0 = vlA B n a := (if_neg hb).symm
/-- what count answers -/
def cnqF (b1 nr np tn hb se ts y : Int) : Prop := (b1 = 0 ∧ y = nr) ∨ (b1 = 1 ∧ y = np) ∨ (b1 = 2 ∧ y = tn) ∨ (b1 = 3 ∧ y = hb) ∨ (b1 = 4 ∧ y = se) ∨ (b1 = 5 ∧ y = ts) ∨ ((b1 < 0 ∨ 5 < b1) ∧ y = -1)
