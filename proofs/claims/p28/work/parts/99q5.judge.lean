/-! ===== what the JUDGE says, as pure functions of told lists ===== -/
def fOq (W F T : Nat → Int) (w x : Int) : Nat → Int
  | 0 => -1
  | n + 1 => if fOq W F T w x n = -1 then (if W n = w ∧ F n ≤ x ∧ x ≤ T n then (n : Int) else -1) else fOq W F T w x n
theorem fOq_B {W F T : Nat → Int} {w x : Int} : ∀ n : Nat, -1 ≤ fOq W F T w x n ∧ fOq W F T w x n < (n : Int)
  | 0 => ⟨Int.le_refl _, by show (-1 : Int) < ((0 : Nat) : Int); omega⟩
  | n + 1 => by
    have q := fOq_B (W := W) (F := F) (T := T) (w := w) (x := x) n
    unfold fOq
    split
    · split <;> omega
    · omega
theorem fOq_s {W F T : Nat → Int} {w x i : Int} (h : 0 ≤ i) (h0 : fOq W F T w x i.toNat = -1) : fOq W F T w x (i + 1).toNat = if W i.toNat = w ∧ F i.toNat ≤ x ∧ x ≤ T i.toNat then i else -1 := by
  rw [show (i + 1).toNat = i.toNat + 1 by omega]
  show (if fOq W F T w x i.toNat = -1 then (if W i.toNat = w ∧ F i.toNat ≤ x ∧ x ≤ T i.toNat then ((i.toNat : Nat) : Int) else -1) else fOq W F T w x i.toNat) = _
  rw [if_pos h0, show ((i.toNat : Nat) : Int) = i by omega]
theorem fOq_n {W F T : Nat → Int} {w x i : Int} (h : 0 ≤ i) (h0 : fOq W F T w x i.toNat = -1) (hc : ¬ (W i.toNat = w ∧ F i.toNat ≤ x ∧ x ≤ T i.toNat)) : fOq W F T w x (i + 1).toNat = -1 := by
  rw [fOq_s h h0, if_neg hc]
theorem fOq_k {W F T : Nat → Int} {w x : Int} {n : Nat} (h : ¬ fOq W F T w x n = -1) : ∀ k : Nat, fOq W F T w x (n + k) = fOq W F T w x n
  | 0 => rfl
  | k + 1 => by
    show (if fOq W F T w x (n + k) = -1 then _ else fOq W F T w x (n + k)) = _
    rw [fOq_k h k, if_neg h]
theorem fOq_hit {W F T : Nat → Int} {w x i n : Int} (h : 0 ≤ i) (hn : i < n) (h0 : fOq W F T w x i.toNat = -1) (hc : W i.toNat = w ∧ F i.toNat ≤ x ∧ x ≤ T i.toNat) : fOq W F T w x n.toNat = i := by
  have e := fOq_s h h0
  rw [if_pos hc] at e
  rw [show n.toNat = (i + 1).toNat + (n - i - 1).toNat by omega, fOq_k (by rw [e]; omega), e]
theorem fOq_c {W F T W' F' T' : Nat → Int} {w x : Int} : ∀ n : Nat, (∀ j : Nat, j < n → W j = W' j ∧ F j = F' j ∧ T j = T' j) → fOq W F T w x n = fOq W' F' T' w x n
  | 0, _ => rfl
  | n + 1, h => by
    obtain ⟨q1, q2, q3⟩ := h n (by omega)
    unfold fOq
    rw [fOq_c n (fun j hj => h j (by omega)), q1, q2, q3]
def aOq (W F T O U : Nat → Int) (w x lo up : Int) : Nat → Int
  | 0 => 0
  | n + 1 => if (W n = w ∧ F n ≤ x ∧ x ≤ T n) ∧ O n < up ∧ lo < U n then 1 else aOq W F T O U w x lo up n
theorem aOq_B {W F T O U : Nat → Int} {w x lo up : Int} : ∀ n : Nat, 0 ≤ aOq W F T O U w x lo up n ∧ aOq W F T O U w x lo up n ≤ 1
  | 0 => ⟨Int.le_refl _, by show (0 : Int) ≤ 1; decide⟩
  | n + 1 => by
    have q := aOq_B (W := W) (F := F) (T := T) (O := O) (U := U) (w := w) (x := x) (lo := lo) (up := up) n
    unfold aOq
    split <;> omega
theorem aOq_s {W F T O U : Nat → Int} {w x lo up i : Int} (h : 0 ≤ i) : aOq W F T O U w x lo up (i + 1).toNat = if (W i.toNat = w ∧ F i.toNat ≤ x ∧ x ≤ T i.toNat) ∧ O i.toNat < up ∧ lo < U i.toNat then 1 else aOq W F T O U w x lo up i.toNat := by
  rw [show (i + 1).toNat = i.toNat + 1 by omega]
  rfl
theorem aOq_n {W F T O U : Nat → Int} {w x lo up i : Int} (h : 0 ≤ i) (h0 : aOq W F T O U w x lo up i.toNat = 0) (hc : ¬ ((W i.toNat = w ∧ F i.toNat ≤ x ∧ x ≤ T i.toNat) ∧ O i.toNat < up ∧ lo < U i.toNat)) : aOq W F T O U w x lo up (i + 1).toNat = 0 := by
  rw [aOq_s h, if_neg hc, h0]
theorem aOq_k {W F T O U : Nat → Int} {w x lo up : Int} {n : Nat} (h : aOq W F T O U w x lo up n = 1) : ∀ k : Nat, aOq W F T O U w x lo up (n + k) = 1
  | 0 => h
  | k + 1 => by
    show (if _ then 1 else aOq W F T O U w x lo up (n + k)) = 1
    rw [aOq_k h k]; split <;> rfl
theorem aOq_hit {W F T O U : Nat → Int} {w x lo up i n : Int} (h : 0 ≤ i) (hn : i < n) (hc : (W i.toNat = w ∧ F i.toNat ≤ x ∧ x ≤ T i.toNat) ∧ O i.toNat < up ∧ lo < U i.toNat) : aOq W F T O U w x lo up n.toNat = 1 := by
  have e := aOq_s (W := W) (F := F) (T := T) (O := O) (U := U) (w := w) (x := x) (lo := lo) (up := up) h
  rw [if_pos hc] at e
  rw [show n.toNat = (i + 1).toNat + (n - i - 1).toNat by omega]
  exact aOq_k e _
theorem aOq_c {W F T O U W' F' T' O' U' : Nat → Int} {w x lo up : Int} : ∀ n : Nat, (∀ j : Nat, j < n → W j = W' j ∧ F j = F' j ∧ T j = T' j ∧ O j = O' j ∧ U j = U' j) → aOq W F T O U w x lo up n = aOq W' F' T' O' U' w x lo up n
  | 0, _ => rfl
  | n + 1, h => by
    obtain ⟨q1, q2, q3, q4, q5⟩ := h n (by omega)
    unfold aOq
    rw [aOq_c n (fun j hj => h j (by omega)), q1, q2, q3, q4, q5]
theorem and1E {a : Int} (h0 : 0 ≤ a) (h1 : a ≤ 2147483647) : iI a &&& iI 1 = iI (a % 2) := by
  obtain ⟨j, rfl⟩ := Int.eq_ofNat_of_zero_le h0
  rw [← nI_iI]
  have h := pk_andN (n := j) (by omega) (m := iI 1) 1 (by decide)
  rw [h, nI_iI]
  exact congrArg iI (by omega)
theorem div_mod' {a b : Int} (hb : 0 < b) : (a - a % b) / b = a / b := by
  have h := Int.mul_ediv_add_emod a b
  have e : a - a % b = b * (a / b) := by omega
  rw [e, Int.mul_ediv_cancel_left _ (by omega)]
/-! four stands as bits -/
def bI4 (b : Bool) : Int := if b then 1 else 0
def bt4 (a b c d : Bool) : Int := bI4 a + 2 * bI4 b + 4 * bI4 c + 8 * bI4 d
def orq (a b : Int) : Int := (iI a ||| iI b).toInt
theorem orq_e (a b : Int) : iI a ||| iI b = iI (orq a b) := (iI_of _).symm
def xoq (a b : Int) : Int := (iI a ^^^ iI b).toInt
theorem xoq_e (a b : Int) : iI a ^^^ iI b = iI (xoq a b) := (iI_of _).symm
def bts (f : Nat → Int) : Nat → Int
  | 0 => 0
  | n + 1 => bts f n + (if f n = 1 then 2 ^ n else 0)
def cts (f : Nat → Int) : Nat → Int
  | 0 => 0
  | n + 1 => cts f n + (if f n = 1 then 1 else 0)
theorem bt4_and : ∀ a b c d a' b' c' d' : Bool, anq (bt4 a b c d) (bt4 a' b' c' d') = bt4 (a && a') (b && b') (c && c') (d && d') := by decide +kernel
theorem bt4_or : ∀ a b c d a' b' c' d' : Bool, orq (bt4 a b c d) (bt4 a' b' c' d') = bt4 (a || a') (b || b') (c || c') (d || d') := by decide +kernel
theorem bt4_not : ∀ a b c d : Bool, anq 15 (xoq (bt4 a b c d) (-1)) = bt4 (!a) (!b) (!c) (!d) ∧ anq 7 (xoq (bt4 a b c d) (-1)) = bt4 (!a) (!b) (!c) false ∧ anq 3 (xoq (bt4 a b c d) (-1)) = bt4 (!a) (!b) false false ∧ anq 1 (xoq (bt4 a b c d) (-1)) = bt4 (!a) false false false ∧ anq 0 (xoq (bt4 a b c d) (-1)) = 0 := by decide +kernel
theorem bt4_cnt : ∀ a b c d : Bool, bcn (bt4 a b c d) = bI4 a + bI4 b + bI4 c + bI4 d := by decide +kernel
theorem bts_bt {f : Nat → Int} {n : Nat} (h : n ≤ 4) : bts f n = bt4 (decide (0 < n ∧ f 0 = 1)) (decide (1 < n ∧ f 1 = 1)) (decide (2 < n ∧ f 2 = 1)) (decide (3 < n ∧ f 3 = 1)) := by
  rcases (show n = 0 ∨ n = 1 ∨ n = 2 ∨ n = 3 ∨ n = 4 by omega) with rfl | rfl | rfl | rfl | rfl <;> by_cases h0 : f 0 = 1 <;> by_cases h1 : f 1 = 1 <;> by_cases h2 : f 2 = 1 <;> by_cases h3 : f 3 = 1 <;> simp [bts, bt4, bI4, h0, h1, h2, h3]
theorem cts_bt {f : Nat → Int} {n : Nat} (h : n ≤ 4) : cts f n = bI4 (decide (0 < n ∧ f 0 = 1)) + bI4 (decide (1 < n ∧ f 1 = 1)) + bI4 (decide (2 < n ∧ f 2 = 1)) + bI4 (decide (3 < n ∧ f 3 = 1)) := by
  rcases (show n = 0 ∨ n = 1 ∨ n = 2 ∨ n = 3 ∨ n = 4 by omega) with rfl | rfl | rfl | rfl | rfl <;> by_cases h0 : f 0 = 1 <;> by_cases h1 : f 1 = 1 <;> by_cases h2 : f 2 = 1 <;> by_cases h3 : f 3 = 1 <;> simp [cts, bI4, h0, h1, h2, h3]
theorem bcn_bts {f : Nat → Int} {n : Nat} (h : n ≤ 4) : bcn (bts f n) = cts f n := by
  rw [bts_bt h, cts_bt h, bt4_cnt]
def adf (f g : Nat → Int) : Nat → Int := fun s => if f s = 1 ∧ g s = 1 then 1 else 0
def orf (f g : Nat → Int) : Nat → Int := fun s => if f s = 1 ∨ g s = 1 then 1 else 0
def ntf (f : Nat → Int) : Nat → Int := fun s => if f s = 1 then 0 else 1
theorem adf_1 {f g : Nat → Int} {s : Nat} : adf f g s = 1 ↔ (f s = 1 ∧ g s = 1) := by unfold adf; split <;> simp_all
theorem orf_1 {f g : Nat → Int} {s : Nat} : orf f g s = 1 ↔ (f s = 1 ∨ g s = 1) := by unfold orf; split <;> simp_all
theorem ntf_1 {f : Nat → Int} {s : Nat} : ntf f s = 1 ↔ ¬ f s = 1 := by unfold ntf; split <;> simp_all
theorem dec_and {n k : Nat} {p q : Prop} [Decidable p] [Decidable q] : (decide (k < n ∧ p) && decide (k < n ∧ q)) = decide (k < n ∧ p ∧ q) := by
  by_cases h : k < n <;> by_cases hp : p <;> by_cases hq : q <;> simp [h, hp, hq]
theorem dec_or {n k : Nat} {p q : Prop} [Decidable p] [Decidable q] : (decide (k < n ∧ p) || decide (k < n ∧ q)) = decide (k < n ∧ (p ∨ q)) := by
  by_cases h : k < n <;> by_cases hp : p <;> by_cases hq : q <;> simp [h, hp, hq]
theorem bts_and {f g : Nat → Int} {n : Nat} (h : n ≤ 4) : anq (bts f n) (bts g n) = bts (adf f g) n := by
  rw [bts_bt h, bts_bt h, bts_bt h, bt4_and]
  simp only [dec_and, adf_1]
theorem bts_or {f g : Nat → Int} {n : Nat} (h : n ≤ 4) : orq (bts f n) (bts g n) = bts (orf f g) n := by
  rw [bts_bt h, bts_bt h, bts_bt h, bt4_or]
  simp only [dec_or, orf_1]
theorem bts_not {f : Nat → Int} {n : Nat} (h : n ≤ 4) : anq (2 ^ n - 1) (xoq (bts f n) (-1)) = bts (ntf f) n := by
  rw [bts_bt h, bts_bt h]
  have q := bt4_not (decide (0 < n ∧ f 0 = 1)) (decide (1 < n ∧ f 1 = 1)) (decide (2 < n ∧ f 2 = 1)) (decide (3 < n ∧ f 3 = 1))
  simp only [ntf_1]
  rcases (show n = 0 ∨ n = 1 ∨ n = 2 ∨ n = 3 ∨ n = 4 by omega) with rfl | rfl | rfl | rfl | rfl
  · rw [show ((2 : Int) ^ 0 - 1) = 0 by decide, q.2.2.2.2]; simp [bt4, bI4]
  · rw [show ((2 : Int) ^ 1 - 1) = 1 by decide, q.2.2.2.1]; simp
  · rw [show ((2 : Int) ^ 2 - 1) = 3 by decide, q.2.2.1]; simp
  · rw [show ((2 : Int) ^ 3 - 1) = 7 by decide, q.2.1]; simp
  · rw [show ((2 : Int) ^ 4 - 1) = 15 by decide, q.1]; simp
theorem bts_c {f g : Nat → Int} : ∀ n : Nat, (∀ s : Nat, s < n → (f s = 1 ↔ g s = 1)) → bts f n = bts g n
  | 0, _ => rfl
  | n + 1, h => by
    show bts f n + (if f n = 1 then 2 ^ n else 0) = bts g n + (if g n = 1 then 2 ^ n else 0)
    rw [bts_c n (fun s hs => h s (by omega))]
    have q := h n (by omega)
    by_cases z : f n = 1
    · rw [if_pos z, if_pos (q.mp z)]
    · rw [if_neg z, if_neg (fun w => z (q.mpr w))]
theorem cts_c {f g : Nat → Int} : ∀ n : Nat, (∀ s : Nat, s < n → (f s = 1 ↔ g s = 1)) → cts f n = cts g n
  | 0, _ => rfl
  | n + 1, h => by
    show cts f n + (if f n = 1 then 1 else 0) = cts g n + (if g n = 1 then 1 else 0)
    rw [cts_c n (fun s hs => h s (by omega))]
    have q := h n (by omega)
    by_cases z : f n = 1
    · rw [if_pos z, if_pos (q.mp z)]
    · rw [if_neg z, if_neg (fun w => z (q.mpr w))]
theorem bts_s {f : Nat → Int} {i : Int} (h : 0 ≤ i) : bts f (i + 1).toNat = bts f i.toNat + (if f i.toNat = 1 then 2 ^ i.toNat else 0) := by
  rw [show (i + 1).toNat = i.toNat + 1 by omega]
  rfl
theorem orq_up (f : Nat → Int) {i : Int} {z : Int} (h0 : 0 ≤ i) (h : i < 4) (hz : z = 2 ^ i.toNat) : orq (bts f i.toNat) z = bts f i.toNat + z := by
  subst hz
  rw [bts_bt (show i.toNat ≤ 4 by omega)]
  rcases (show i = 0 ∨ i = 1 ∨ i = 2 ∨ i = 3 by omega) with rfl | rfl | rfl | rfl
  · by_cases a : f 0 = 1 <;> simp [bt4, bI4, a] <;> decide
  · by_cases a : f 0 = 1 <;> simp [bt4, bI4, a] <;> decide
  · by_cases a : f 0 = 1 <;> by_cases b : f 1 = 1 <;> simp [bt4, bI4, a, b] <;> decide
  · by_cases a : f 0 = 1 <;> by_cases b : f 1 = 1 <;> by_cases c : f 2 = 1 <;> simp [bt4, bI4, a, b, c] <;> decide
theorem orq_0 (f : Nat → Int) {n : Nat} (h : n ≤ 4) : orq (bts f n) 0 = bts f n := by
  have e : (0 : Int) = bts (fun _ => 0) n := by
    rw [bts_bt h]; simp [bt4, bI4]
  conv => lhs; rw [e]
  rw [bts_or h]
  exact bts_c n (fun s _ => by rw [orf_1]; simp)
theorem bts_B (f : Nat → Int) {n : Nat} (h : n ≤ 4) : 0 ≤ bts f n ∧ bts f n ≤ 15 := by
  rw [bts_bt h]
  have q : ∀ a b c d : Bool, 0 ≤ bt4 a b c d ∧ bt4 a b c d ≤ 15 := by decide +kernel
  exact q _ _ _ _
theorem cts_B (f : Nat → Int) : ∀ n : Nat, 0 ≤ cts f n ∧ cts f n ≤ (n : Int)
  | 0 => ⟨Int.le_refl _, Int.le_refl _⟩
  | n + 1 => by
    have q := cts_B f n
    show 0 ≤ cts f n + (if f n = 1 then 1 else 0) ∧ cts f n + (if f n = 1 then 1 else 0) ≤ _
    split <;> omega
theorem cts_not (f : Nat → Int) : ∀ n : Nat, cts (ntf f) n = (n : Int) - cts f n
  | 0 => rfl
  | n + 1 => by
    show cts (ntf f) n + (if ntf f n = 1 then 1 else 0) = ((n + 1 : Nat) : Int) - (cts f n + (if f n = 1 then 1 else 0))
    rw [cts_not f n]
    by_cases z : f n = 1
    · rw [if_neg (fun w => ntf_1.mp w z), if_pos z]; omega
    · rw [if_pos (ntf_1.mpr z), if_neg z]; omega
