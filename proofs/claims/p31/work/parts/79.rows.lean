/-! ===== the reference: its object in short, sums of lengths ===== -/
def mO (gA : Nat → Nat) (i18 i20 i21 i22 i23 i24 i32 i33 i47 i48 i49 i50 i51 i52 i53 i55 i64 i65 i69 : Int) : List Value :=
  [.ref (gA 0), .ref (gA 1), .ref (gA 2), .ref (gA 3), .ref (gA 4), .ref (gA 5), .ref (gA 6), .ref (gA 7), .ref (gA 8), .ref (gA 9), .ref (gA 10), .ref (gA 11), .ref (gA 12), .ref (gA 13), .ref (gA 14), .ref (gA 15), .ref (gA 16), .ref (gA 17), .int (iI i18), .ref (gA 19), .int (iI i20), .int (iI i21), .int (iI i22), .int (iI i23), .int (iI i24), .ref (gA 25), .ref (gA 26), .ref (gA 27), .ref (gA 28), .ref (gA 29), .ref (gA 30), .ref (gA 31), .int (iI i32), .int (iI i33), .ref (gA 34), .ref (gA 35), .ref (gA 36), .ref (gA 37), .ref (gA 38), .ref (gA 39), .ref (gA 40), .ref (gA 41), .ref (gA 42), .ref (gA 43), .ref (gA 44), .ref (gA 45), .ref (gA 46), .int (iI i47), .int (iI i48), .int (iI i49), .int (iI i50), .int (iI i51), .int (iI i52), .int (iI i53), .ref (gA 54), .int (iI i55), .ref (gA 56), .ref (gA 57), .ref (gA 58), .ref (gA 59), .ref (gA 60), .ref (gA 61), .ref (gA 62), .ref (gA 63), .int (iI i64), .int (iI i65), .ref (gA 66), .ref (gA 67), .ref (gA 68), .int (iI i69), .ref (gA 70), .ref (gA 71), .ref (gA 72), .ref (gA 73), .ref (gA 74)]
def psum (F : Nat → Int) : Nat → Int
  | 0 => 0
  | n + 1 => psum F n + F n
theorem psum_s (F : Nat → Int) {w : Int} (h : 0 ≤ w) : psum F (w + 1).toNat = psum F w.toNat + F w.toNat := by
  rw [show (w + 1).toNat = w.toNat + 1 by omega]; rfl
theorem psum_up {F : Nat → Int} {a b : Nat} (hF : ∀ j, j < b → 0 ≤ F j) (h : a ≤ b) : psum F a ≤ psum F b := by
  induction b with
  | zero => rw [show a = 0 by omega]; exact Int.le_refl _
  | succ b ih =>
    by_cases e : a = b + 1
    · rw [e]; exact Int.le_refl _
    · have h1 := ih (fun j hj => hF j (by omega)) (by omega)
      have h2 := hF b (by omega)
      have h3 : psum F (b + 1) = psum F b + F b := rfl
      omega
theorem wallStep {F : Nat → Int} {w wn pl left y : Int} (h0 : 0 ≤ w) (hw : w < wn) (hl : left = pl - psum F w.toNat) (hp : pl < psum F wn.toNat) (hy : y = F w.toNat) (hge : y ≤ left) : w + 1 < wn ∧ left - y = pl - psum F (w + 1).toNat := by
  have h1 := psum_s F h0
  by_cases e : w + 1 = wn
  · rw [e] at h1
    exfalso; omega
  · exact ⟨by omega, by omega⟩
theorem psum_50 {F : Nat → Int} : ∀ n : Nat, (∀ j, j < n → 50 ≤ F j ∧ F j ≤ 600) → 50 * (n : Int) ≤ psum F n ∧ psum F n ≤ 600 * (n : Int)
  | 0, _ => ⟨Int.le_refl _, Int.le_refl _⟩
  | n + 1, h => by
    have h1 := psum_50 n (fun j hj => h j (by omega))
    have h2 := h n (by omega)
    have h3 : psum F (n + 1) = psum F n + F n := rfl
    omega
section GROWB
variable {p : Program} {l : Launch} {e : Env} {R : Room} {s : State} {m : MethodId} {args : Array Value} {below : List Frame} {meth : Method} {c : Code} {Q : State → Prop} {Z : gZ} {A : Nat → Prop} {nL k n pc : Nat} {lv : List (Nat × Value)} {st : List Value} {ws : va_W} {cc : ByteArray} {ret : Option FieldType} {own : String}
theorem g_i2bB (X : Cx p s m args meth c cc nL ret own Z A) {x : Int32} (hd : decode cc pc = .ok (.i2b, 1)) (kk : ∀ y : Int, -128 ≤ y ∧ y ≤ 127 → Gs p l e R s m args below meth c Q Z A nL k n (pc + 1) lv (.int (iI y) :: st) ws) : Gs p l e R s m args below meth c Q Z A nL k n pc lv (.int x :: st) ws := by
  have h1 : (x.toInt8.toInt32).toInt = x.toInt8.toInt := Int8.toInt_toInt32 _
  have h2 := Int8.le_toInt x.toInt8
  have h3 := Int8.toInt_lt x.toInt8
  have h := kk (x.toInt8.toInt32).toInt (by rw [h1]; omega)
  rw [iI_of] at h
  exact g_i2b X hd h
end GROWB
theorem vL_store {F G : Nat → Int} {w x : Int} {k : Nat} (h : ∀ j : Nat, (j : Int) < w → 50 ≤ F j) (e : G = updI F k x) (hk : w ≤ (k : Int)) : ∀ j : Nat, (j : Int) < w → 50 ≤ G j := fun j hj => by
  rw [e, updI_n _ _ (show j ≠ k by omega)]; exact h j hj
theorem vL_step {G : Nat → Int} {w : Int} (h : ∀ j : Nat, (j : Int) < w → 50 ≤ G j) (h0 : 0 ≤ w) (hw : 50 ≤ G w.toNat) : ∀ j : Nat, (j : Int) < w + 1 → 50 ≤ G j := fun j hj => by
  by_cases q : (j : Int) < w
  · exact h j q
  · rw [show j = w.toNat by omega]; exact hw
theorem vL_up {Mw Mw2 Ml G : Nat → Int} {k : Nat} {x z : Int} (vL : ∀ j : Nat, (j : Int) < Mw 6 → 50 ≤ Ml j) (e : G = updI Ml k x) (e2 : Mw2 = updI Mw 6 z) (hk : (k : Int) = Mw 6) (hx : 50 ≤ x) (hz : z = Mw 6 + 1) : ∀ j : Nat, (j : Int) < Mw2 6 → 50 ≤ G j := by
  rw [e2, updI_s, hz]
  exact vL_step (vL_store vL e (by omega)) (by omega) (by rw [e, show (Mw 6).toNat = k by omega, updI_s]; exact hx)
theorem vL_0 {Mw2 Mw Ml : Nat → Int} (e : Mw2 = updI Mw 6 0) : ∀ j : Nat, (j : Int) < Mw2 6 → 50 ≤ Ml j := fun j hj => by
  rw [e, updI_s] at hj; omega
theorem psum_upd {F : Nat → Int} {k : Nat} {x : Int} : ∀ n, n ≤ k → psum (updI F k x) n = psum F n
  | 0, _ => rfl
  | n + 1, h => by
    show psum (updI F k x) n + updI F k x n = psum F n + F n
    rw [psum_upd n (by omega), updI_n _ _ (by omega)]
theorem roomStep {Nl G1 Mr G2 : Nat → Int} {w y x z : Int} {k : Nat} (iv : Mr k = psum Nl w.toNat) (e1 : G1 = updI Nl w.toNat x) (ey : y = Mr k) (ez : z = G1 w.toNat) (e2 : G2 = updI Mr k (y + z)) (h0 : 0 ≤ w) : G2 k = psum G1 (w + 1).toNat := by
  rw [e2, updI_s, psum_s G1 h0, ez, ey, iv, e1, psum_upd _ (Nat.le_refl _)]
theorem bI_1i {P : Prop} [Decidable P] (h : bI P = 1) : P := by
  by_cases q : P
  · exact q
  · rw [bI_f q] at h; omega
theorem or_B {a b : Int} {K : Nat} (hK : K ≤ 30) (ha : 0 ≤ a) (ha1 : a < 2 ^ K) (hb : 0 ≤ b) (hb1 : b < 2 ^ K) : 0 ≤ (iI a ||| iI b).toInt ∧ (iI a ||| iI b).toInt < 2 ^ K := by
  have hp : (2 : Int) ^ K ≤ 2 ^ 30 := by
    have h7 := Nat.pow_le_pow_right (n := 2) (by decide) hK
    have e1 : ((2 ^ K : Nat) : Int) = (2 : Int) ^ K := by simp
    have e2 : ((2 ^ 30 : Nat) : Int) = (2 : Int) ^ 30 := by simp
    omega
  have e0 : (2 : Int) ^ 30 = 1073741824 := by decide
  have t : ∀ x : Int32, 0 ≤ x.toInt → x.toInt < 2 ^ K → x.toBitVec.toNat < 2 ^ K := fun x h0 h1 => by
    have h2 : x.toInt = if 2 * x.toBitVec.toNat < 2 ^ 32 then (x.toBitVec.toNat : Int) else (x.toBitVec.toNat : Int) - ((2 ^ 32 : Nat) : Int) := BitVec.toInt_eq_toNat_cond x.toBitVec
    have h3 := x.toBitVec.isLt
    have h4 : ((2 ^ K : Nat) : Int) = (2 : Int) ^ K := by simp
    split at h2 <;> omega
  have h1 := t (iI a) (by rw [iI_int ⟨by omega, by omega⟩]; exact ha) (by rw [iI_int ⟨by omega, by omega⟩]; exact ha1)
  have h2 := t (iI b) (by rw [iI_int ⟨by omega, by omega⟩]; exact hb) (by rw [iI_int ⟨by omega, by omega⟩]; exact hb1)
  have h3 : (iI a ||| iI b).toBitVec.toNat < 2 ^ K := by
    rw [Int32.toBitVec_or, BitVec.toNat_or]
    exact Nat.or_lt_two_pow h1 h2
  have h5 : ((2 ^ K : Nat) : Int) = (2 : Int) ^ K := by simp
  have h6 : (iI a ||| iI b).toInt = if 2 * (iI a ||| iI b).toBitVec.toNat < 2 ^ 32 then ((iI a ||| iI b).toBitVec.toNat : Int) else ((iI a ||| iI b).toBitVec.toNat : Int) - ((2 ^ 32 : Nat) : Int) := BitVec.toInt_eq_toNat_cond _
  have h7 : (2 ^ K : Nat) ≤ 2 ^ 30 := Nat.pow_le_pow_right (by decide) hK
  split at h6 <;> omega
section GROWO
variable {p : Program} {l : Launch} {e : Env} {R : Room} {s : State} {m : MethodId} {args : Array Value} {below : List Frame} {meth : Method} {c : Code} {Q : State → Prop} {Z : gZ} {A : Nat → Prop} {nL k n pc : Nat} {lv : List (Nat × Value)} {st : List Value} {ws : va_W} {cc : ByteArray} {ret : Option FieldType} {own : String}
theorem g_iorB (X : Cx p s m args meth c cc nL ret own Z A) {a b : Int} (K : Nat) (hK : K ≤ 30) (ha : 0 ≤ a) (ha1 : a < 2 ^ K) (hb : 0 ≤ b) (hb1 : b < 2 ^ K) (hd : decode cc pc = .ok (.ior, 1)) (kk : ∀ y : Int, 0 ≤ y ∧ y < 2 ^ K → Gs p l e R s m args below meth c Q Z A nL k n (pc + 1) lv (.int (iI y) :: st) ws) : Gs p l e R s m args below meth c Q Z A nL k n pc lv (.int (iI b) :: .int (iI a) :: st) ws := by
  have h := kk _ (or_B hK ha ha1 hb hb1)
  rw [iI_of] at h
  exact g_ior X hd h
end GROWO
theorem pS_step {F G : Nat → Int} {a v : Int} (h : ∀ j : Nat, (j : Int) < a → F j ≤ v) (e : G = updI F a.toNat v) (h0 : 0 ≤ a) : ∀ j : Nat, (j : Int) < a + 1 → G j ≤ v := fun j hj => by
  rw [e]
  by_cases q : j = a.toNat
  · subst q; rw [updI_s]; exact Int.le_refl _
  · rw [updI_n _ _ q]; exact h j (by omega)
theorem aS_step {F G : Nat → Int} {a v x : Int} (h : ∀ j : Nat, (j : Int) < a → F j < v) (e : G = updI F a.toNat x) (h0 : 0 ≤ a) (hx : x < v) : ∀ j : Nat, (j : Int) < a + 1 → G j < v := fun j hj => by
  rw [e]
  by_cases q : j = a.toNat
  · subst q; rw [updI_s]; exact hx
  · rw [updI_n _ _ q]; exact h j (by omega)
