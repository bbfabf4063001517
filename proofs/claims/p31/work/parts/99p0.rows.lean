/-! ===== what a ROOM is asked: rows for the class's and the reference's loops ===== -/
def xrq (a b : Int) : Int := (iI a ^^^ iI b).toInt
theorem xrq_e (a b : Int) : iI a ^^^ iI b = iI (xrq a b) := (iI_of _).symm
def bc1 (v : Int) : Int := v - anq (us8 v 1) 1431655765
def bc2 (x : Int) : Int := anq x 858993459 + anq (us8 x 2) 858993459
def bc3 (x : Int) : Int := anq (x + us8 x 4) 252645135
def bc4 (x : Int) : Int := x + us8 x 8
def bc5 (x : Int) : Int := x + us8 x 16
def bcn (v : Int) : Int := anq (bc5 (bc4 (bc3 (bc2 (bc1 v))))) 63
theorem anq63 (a : Int) : 0 ≤ anq a 63 ∧ anq a 63 ≤ 63 := by
  have h := and_leR (iI a) (iI 63) (by decide)
  rw [iI_int (a := 63) ⟨by decide, by decide⟩] at h
  exact h
def pw2 (k : Nat) : Int := (2 : Int) ^ k
def shF (M Q : Nat → Int) (n : Nat) (c : Int) : Int := rnN M Q c n
theorem wq_1 {L : Nat → Int} {pl : Int} : wq L pl 1 = 0 := by
  show (if psum L 0 ≤ pl then ((0 : Nat) : Int) else 0) = 0
  split <;> rfl
theorem wq_in {L : Nat → Int} {pl : Int} (h0 : 0 ≤ pl) : ∀ n : Nat, 1 ≤ n → psum L (wq L pl n).toNat ≤ pl ∧ ∀ k : Nat, wq L pl n < (k : Int) → k < n → pl < psum L k
  | 0, h => absurd h (by decide)
  | n + 1, _ => by
    unfold wq
    by_cases c : psum L n ≤ pl
    · rw [if_pos c]
      exact ⟨by rw [show ((n : Nat) : Int).toNat = n by omega]; exact c, fun k a b => by omega⟩
    · rw [if_neg c]
      by_cases e : 1 ≤ n
      · have q := wq_in (L := L) h0 n e
        refine ⟨q.1, fun k a b => ?_⟩
        by_cases z : k = n
        · rw [z]; omega
        · exact q.2 k a (by omega)
      · exfalso
        have e0 : n = 0 := by omega
        subst e0
        exact c h0
theorem wq_rng {L : Nat → Int} {pl : Int} {n : Nat} (h0 : 0 ≤ pl) (hn : 1 ≤ n) (h : pl < psum L n) : psum L (wq L pl n).toNat ≤ pl ∧ pl < psum L (wq L pl n).toNat + L (wq L pl n).toNat ∧ 0 ≤ wq L pl n ∧ wq L pl n < (n : Int) := by
  have q := wq_in (L := L) h0 n hn
  have b := wq_B (L := L) (pl := pl) n
  have b2 := b.2 hn
  refine ⟨q.1, ?_, b.1, b2⟩
  have e : psum L ((wq L pl n).toNat + 1) = psum L (wq L pl n).toNat + L (wq L pl n).toNat := rfl
  rw [← e]
  by_cases z : (wq L pl n).toNat + 1 = n
  · rw [z]; exact h
  · exact q.2 _ (by omega) (by omega)
def lcS (S : List (Nat → Int)) : Int := lcq (shS S) bcn (pw2 (S.getD 0 zQ 0 - 1).toNat).toNat
theorem lcS_c {A S : List (Nat → Int)} (h : agrR A S) : lcS A = lcS S := by
  unfold lcS
  rw [show shS A = shS S from funext fun c => shS_c h, show A.getD 0 zQ 0 = S.getD 0 zQ 0 from h.1]
theorem boS_of {S : List (Nat → Int)} {hh ln wr d m y : Int} (hr : rdS S = wr) (hd : d = dsm (S.getD 7 zQ) (S.getD 8 zQ) (S.getD 10 zQ) (S.getD 11 zQ) hh (S.getD 0 zQ 1).toNat) (hm : 0 ≤ m ∧ wr - d ≤ m ∧ (m = 0 ∨ m = wr - d)) (hy : y = (m + ln - 1) / ln) : y = boS S hh ln := by
  unfold boS
  rw [hr, ← hd, hy]
  have e : m = (if 0 ≤ wr - d then wr - d else 0) := by split <;> omega
  rw [e]
theorem pw2_1 (k : Nat) : 1 ≤ pw2 k := by
  unfold pw2
  have := Nat.one_le_two_pow (n := k)
  have e : ((2 ^ k : Nat) : Int) = (2 : Int) ^ k := by simp
  omega
