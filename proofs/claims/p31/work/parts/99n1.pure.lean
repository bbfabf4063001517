/-! ===== the text: its TOKENS, by places ===== -/
def zQ : Nat → Int := fun _ => 0
def skp (B : Nat → Int) (n : Int) : Nat → Int → Int
  | 0, p => p
  | f + 1, p => if p < n ∧ (B p.toNat = 32 ∨ B p.toNat = 10) then skp B n f (p + 1) else p
def rne (B : Nat → Int) (n lo hi : Int) : Nat → Int → Int
  | 0, p => p
  | f + 1, p => if p < n ∧ lo ≤ B p.toNat ∧ B p.toNat ≤ hi then rne B n lo hi f (p + 1) else p
theorem skp_eq {B : Nat → Int} {n e : Int} : ∀ (f : Nat) (p : Int), 0 ≤ p → p ≤ e → e ≤ n → e - p < (f : Int) → (∀ j : Nat, p ≤ (j : Int) → (j : Int) < e → B j = 32 ∨ B j = 10) → (e < n → ¬ (B e.toNat = 32 ∨ B e.toNat = 10)) → skp B n f p = e := by
  intro f
  induction f with
  | zero => intro p h0 h1 h2 h3; exfalso; omega
  | succ f ih =>
    intro p h0 h1 h2 h3 h4 h5
    unfold skp
    by_cases hp : p < e
    · have q := h4 p.toNat (by omega) (by omega)
      rw [if_pos ⟨by omega, q⟩]
      exact ih (p + 1) (by omega) (by omega) h2 (by omega) (fun j a b => h4 j (by omega) b) h5
    · have e1 : p = e := by omega
      subst e1
      rw [if_neg (fun h => h5 h.1 h.2)]
theorem rne_eq {B : Nat → Int} {n lo hi e : Int} : ∀ (f : Nat) (p : Int), 0 ≤ p → p ≤ e → e ≤ n → e - p < (f : Int) → (∀ j : Nat, p ≤ (j : Int) → (j : Int) < e → lo ≤ B j ∧ B j ≤ hi) → (e < n → ¬ (lo ≤ B e.toNat ∧ B e.toNat ≤ hi)) → rne B n lo hi f p = e := by
  intro f
  induction f with
  | zero => intro p h0 h1 h2 h3; exfalso; omega
  | succ f ih =>
    intro p h0 h1 h2 h3 h4 h5
    unfold rne
    by_cases hp : p < e
    · have q := h4 p.toNat (by omega) (by omega)
      rw [if_pos ⟨by omega, q⟩]
      exact ih (p + 1) (by omega) (by omega) h2 (by omega) (fun j a b => h4 j (by omega) b) h5
    · have e1 : p = e := by omega
      subst e1
      rw [if_neg (fun h => h5 h.1 h.2)]
theorem skp_B {B : Nat → Int} {n : Int} : ∀ (f : Nat) (p : Int), p ≤ n → p ≤ skp B n f p ∧ skp B n f p ≤ n := by
  intro f
  induction f with
  | zero => intro p h; exact ⟨Int.le_refl _, h⟩
  | succ f ih =>
    intro p h
    unfold skp
    split
    · next q => have := ih (p + 1) (by omega); omega
    · exact ⟨Int.le_refl _, h⟩
theorem rne_B {B : Nat → Int} {n lo hi : Int} : ∀ (f : Nat) (p : Int), p ≤ n → p ≤ rne B n lo hi f p ∧ rne B n lo hi f p ≤ n := by
  intro f
  induction f with
  | zero => intro p h; exact ⟨Int.le_refl _, h⟩
  | succ f ih =>
    intro p h
    unfold rne
    split
    · next q => have := ih (p + 1) (by omega); omega
    · exact ⟨Int.le_refl _, h⟩
theorem rne_all {B : Nat → Int} {n lo hi : Int} : ∀ (f : Nat) (p : Int), 0 ≤ p → ∀ j : Nat, p ≤ (j : Int) → (j : Int) < rne B n lo hi f p → lo ≤ B j ∧ B j ≤ hi := by
  intro f
  induction f with
  | zero => intro p h0 j h1 h2; unfold rne at h2; exfalso; omega
  | succ f ih =>
    intro p h0 j h1 h2
    unfold rne at h2
    split at h2
    · next q =>
      by_cases hj : (j : Int) = p
      · have e1 : j = p.toNat := by omega
        subst e1; exact q.2
      · exact ih (p + 1) (by omega) j (by omega) h2
    · exfalso; omega
theorem rne_gt {B : Nat → Int} {n lo hi p : Int} (f : Nat) (h : p < n) (hb : lo ≤ B p.toNat ∧ B p.toNat ≤ hi) : p + 1 ≤ rne B n lo hi (f + 1) p := by
  unfold rne
  rw [if_pos ⟨h, hb⟩]
  exact (rne_B f (p + 1) (by omega)).1
theorem rne_g1 {B : Nat → Int} {n lo hi p : Int} (h : p < n) (hb : lo ≤ B p.toNat ∧ B p.toNat ≤ hi) : p + 1 ≤ rne B n lo hi 401 p := rne_gt 400 h hb
/-- a blank more, or not -/
theorem skp_blank {B : Nat → Int} {n p : Int} (h0 : 0 ≤ p) (hn : n ≤ 400) (h : p < n) (hb : B p.toNat = 32 ∨ B p.toNat = 10) : skp B n 401 p = skp B n 401 (p + 1) := by
  have e : skp B n 401 p = skp B n 400 (p + 1) := by
    show (if p < n ∧ (B p.toNat = 32 ∨ B p.toNat = 10) then skp B n 400 (p + 1) else p) = _
    rw [if_pos ⟨h, hb⟩]
  rw [e]
  have g : ∀ (f f' : Nat) (q : Int), n - q < (f : Int) → n - q < (f' : Int) → skp B n f q = skp B n f' q := by
    intro f
    induction f with
    | zero =>
      intro f' q h1 h2
      cases f' with
      | zero => rfl
      | succ f' => unfold skp; rw [if_neg (fun z => absurd z.1 (by omega))]
    | succ f ih =>
      intro f' q h1 h2
      cases f' with
      | zero => unfold skp; rw [if_neg (fun z => absurd z.1 (by omega))]
      | succ f' =>
        unfold skp
        by_cases z : q < n ∧ (B q.toNat = 32 ∨ B q.toNat = 10)
        · rw [if_pos z, if_pos z]; exact ih f' (q + 1) (by omega) (by omega)
        · rw [if_neg z, if_neg z]
  exact g 400 401 (p + 1) (by omega) (by omega)
theorem skp_stay {B : Nat → Int} {n p : Int} (h : ¬ (p < n ∧ (B p.toNat = 32 ∨ B p.toNat = 10))) : skp B n 401 p = p := by
  show (if p < n ∧ (B p.toNat = 32 ∨ B p.toNat = 10) then skp B n 400 (p + 1) else p) = p
  rw [if_neg h]
/-- where the TOKEN that begins at a ends -/
def tkE (B : Nat → Int) (n a : Int) : Int := if a < n then (if 97 ≤ B a.toNat ∧ B a.toNat ≤ 122 then rne B n 97 122 401 a else if 48 ≤ B a.toNat ∧ B a.toNat ≤ 57 then rne B n 48 57 401 a else a + 1) else a
theorem tkE_B {B : Nat → Int} {n a : Int} (h : a ≤ n) : a ≤ tkE B n a ∧ tkE B n a ≤ n ∧ (a < n → a < tkE B n a) := by
  unfold tkE
  split
  · next h1 =>
    split
    · next h2 => have q := rne_B (B := B) (lo := 97) (hi := 122) 401 a h; have q2 := rne_g1 (B := B) h1 h2; omega
    · split
      · next h2 => have q := rne_B (B := B) (lo := 48) (hi := 57) 401 a h; have q2 := rne_g1 (B := B) h1 h2; omega
      · omega
  · omega
def tA (B : Nat → Int) (n : Int) : Nat → Int
  | 0 => skp B n 401 0
  | k + 1 => skp B n 401 (tkE B n (tA B n k))
def tE (B : Nat → Int) (n : Int) (k : Nat) : Int := tkE B n (tA B n k)
theorem tA_B {B : Nat → Int} {n : Int} (hn : 0 ≤ n) : ∀ k : Nat, 0 ≤ tA B n k ∧ tA B n k ≤ n := by
  intro k
  induction k with
  | zero => exact skp_B 401 0 hn
  | succ k ih =>
    have q := tkE_B (B := B) ih.2
    have q2 := skp_B (B := B) (n := n) 401 (tkE B n (tA B n k)) q.2.1
    show 0 ≤ skp B n 401 (tkE B n (tA B n k)) ∧ skp B n 401 (tkE B n (tA B n k)) ≤ n
    omega
theorem tok_B {B : Nat → Int} {n : Int} (hn : 0 ≤ n) (k : Nat) : 0 ≤ tA B n k ∧ tA B n k ≤ tE B n k ∧ tE B n k ≤ n ∧ (tA B n k < n → tA B n k < tE B n k) := by
  have q := tA_B (B := B) hn k
  have q2 := tkE_B (B := B) q.2
  unfold tE
  omega
abbrev spl (B : Nat → Int) (a e : Int) (j : Nat) : Prop := e - a = ((gLen.getD j 0 : Nat) : Int) ∧ ∀ i : Nat, i < gLen.getD j 0 → B (a.toNat + i) = gCh j i
def wdK (B : Nat → Int) (a e : Int) : Int := if spl B a e 0 then 0 else if spl B a e 1 then 1 else if spl B a e 2 then 2 else if spl B a e 3 then 3 else if spl B a e 4 then 4 else 5
def dvl (B : Nat → Int) (a : Nat) : Nat → Int
  | 0 => 0
  | m + 1 => if 100000 ≤ dvl B a m * 10 + B (a + m) - 48 then 100000 else dvl B a m * 10 + B (a + m) - 48
def kdA (B : Nat → Int) (n a : Int) : Int := if 97 ≤ B a.toNat ∧ B a.toNat ≤ 122 then wdK B a (tkE B n a) else if 48 ≤ B a.toNat ∧ B a.toNat ≤ 57 then 6 else if B a.toNat = 45 then 7 else if B a.toNat = 59 then 8 else 9
def vlA (B : Nat → Int) (n a : Int) : Int := if 48 ≤ B a.toNat ∧ B a.toNat ≤ 57 then dvl B a.toNat (tkE B n a - a).toNat else 0
def tK (B : Nat → Int) (n : Int) (k : Nat) : Int := if tA B n k < n then kdA B n (tA B n k) else 10
def tV (B : Nat → Int) (n : Int) (k : Nat) : Int := if tA B n k < n then vlA B n (tA B n k) else 0
theorem wdK_B (B : Nat → Int) (a e : Int) : 0 ≤ wdK B a e ∧ wdK B a e ≤ 5 := by unfold wdK; repeat (first | omega | split)
theorem kdA_B (B : Nat → Int) (n a : Int) : 0 ≤ kdA B n a ∧ kdA B n a ≤ 9 := by
  have q := wdK_B B a (tkE B n a)
  unfold kdA; repeat (first | omega | split)
theorem tK_10 {B : Nat → Int} {n : Int} (k : Nat) : tK B n k = 10 ↔ ¬ tA B n k < n := by
  have q := kdA_B B n (tA B n k)
  unfold tK
  split
  · next h => exact ⟨fun z => by omega, fun z => absurd h z⟩
  · next h => exact ⟨fun _ => h, fun _ => rfl⟩
theorem spl0 {B : Nat → Int} {a e : Int} {j : Nat} (hj : j < 5) (h : spl B a e j) : (j = 0 ∧ e - a = 4 ∧ B a.toNat = 119) ∨ (j = 1 ∧ e - a = 4 ∧ B a.toNat = 100) ∨ (j = 2 ∧ e - a = 6 ∧ B a.toNat = 119) ∨ (j = 3 ∧ e - a = 4 ∧ B a.toNat = 108) ∨ (j = 4 ∧ e - a = 5 ∧ B a.toNat = 115) := by
  obtain ⟨h1, h2⟩ := h
  rcases (show j = 0 ∨ j = 1 ∨ j = 2 ∨ j = 3 ∨ j = 4 by omega) with rfl | rfl | rfl | rfl | rfl
  · exact Or.inl ⟨rfl, h1, h2 0 (by decide)⟩
  · exact Or.inr (Or.inl ⟨rfl, h1, h2 0 (by decide)⟩)
  · exact Or.inr (Or.inr (Or.inl ⟨rfl, h1, h2 0 (by decide)⟩))
  · exact Or.inr (Or.inr (Or.inr (Or.inl ⟨rfl, h1, h2 0 (by decide)⟩)))
  · exact Or.inr (Or.inr (Or.inr (Or.inr ⟨rfl, h1, h2 0 (by decide)⟩)))
theorem spl_u {B : Nat → Int} {a e : Int} {i j : Nat} (hi : i < 5) (hj : j < 5) (h : spl B a e i) (h' : spl B a e j) : i = j := by
  have q := spl0 hi h
  have q2 := spl0 hj h'
  omega
theorem wdK_eq {B : Nat → Int} {a e : Int} {j : Nat} (hj : j < 5) : wdK B a e = (j : Int) ↔ spl B a e j := by
  constructor
  · intro h
    unfold wdK at h
    split at h
    · next s => have : j = 0 := by omega
                subst this; exact s
    · split at h
      · next s => have : j = 1 := by omega
                  subst this; exact s
      · split at h
        · next s => have : j = 2 := by omega
                    subst this; exact s
        · split at h
          · next s => have : j = 3 := by omega
                      subst this; exact s
          · split at h
            · next s => have : j = 4 := by omega
                        subst this; exact s
            · exfalso; omega
  · intro h
    unfold wdK
    split
    · next s => have := spl_u hj (by decide) h s; omega
    · split
      · next s => have := spl_u hj (by decide) h s; omega
      · split
        · next s => have := spl_u hj (by decide) h s; omega
        · split
          · next s => have := spl_u hj (by decide) h s; omega
          · split
            · next s => have := spl_u hj (by decide) h s; omega
            · next s0 s1 s2 s3 s4 =>
              exfalso
              rcases (show j = 0 ∨ j = 1 ∨ j = 2 ∨ j = 3 ∨ j = 4 by omega) with rfl | rfl | rfl | rfl | rfl
              · exact s0 h
              · exact s1 h
              · exact s2 h
              · exact s3 h
              · exact s4 h
/-- a word, by its TOKEN's kind -/
theorem tK_word {B : Nat → Int} {n : Int} {k j : Nat} (hj : j < 5) (h : tA B n k < n) : tK B n k = (j : Int) ↔ spl B (tA B n k) (tE B n k) j := by
  unfold tK tE
  rw [if_pos h]
  constructor
  · intro q
    unfold kdA at q
    split at q
    · exact (wdK_eq hj).mp q
    · exfalso
      split at q
      · omega
      · split at q
        · omega
        · split at q <;> omega
  · intro q
    have q0 := spl0 hj q
    unfold kdA
    rw [if_pos (by omega)]
    exact (wdK_eq hj).mpr q
theorem tK_6 {B : Nat → Int} {n : Int} {k : Nat} : tK B n k = 6 ↔ (tA B n k < n ∧ 48 ≤ B (tA B n k).toNat ∧ B (tA B n k).toNat ≤ 57) := by
  have q := wdK_B B (tA B n k) (tkE B n (tA B n k))
  unfold tK kdA
  constructor
  · intro h
    split at h
    · next h1 =>
      split at h
      · exfalso; omega
      · split at h
        · next h2 => exact ⟨h1, h2⟩
        · exfalso
          split at h
          · omega
          · split at h <;> omega
    · exfalso; omega
  · intro h
    rw [if_pos h.1, if_neg (by omega), if_pos h.2]
theorem tK_s {B : Nat → Int} {n : Int} {k : Nat} {c d : Int} (hc : (c = 45 ∧ d = 7) ∨ (c = 59 ∧ d = 8)) : tK B n k = d ↔ (tA B n k < n ∧ B (tA B n k).toNat = c) := by
  have q := wdK_B B (tA B n k) (tkE B n (tA B n k))
  unfold tK kdA
  constructor
  · intro h
    split at h
    · next h1 =>
      refine ⟨h1, ?_⟩
      split at h
      · exfalso; omega
      · split at h
        · exfalso; omega
        · split at h
          · omega
          · split at h <;> omega
    · exfalso; omega
  · intro h
    rw [if_pos h.1, if_neg (by omega), if_neg (by omega)]
    rcases hc with ⟨rfl, rfl⟩ | ⟨rfl, rfl⟩
    · rw [if_pos h.2]
    · rw [if_neg (by omega), if_pos h.2]
theorem tA_s (B : Nat → Int) (n : Int) {t : Int} (h : 0 ≤ t) : tA B n (t + 1).toNat = skp B n 401 (tE B n t.toNat) := by
  have e : (t + 1).toNat = t.toNat + 1 := by omega
  rw [e]; rfl
/-- the number's value as the reference reads it -/
def mvl (B : Nat → Int) (c : Int) (a : Nat) : Nat → Int
  | 0 => 0
  | m + 1 => if c < mvl B c a m then mvl B c a m else 10 * mvl B c a m + B (a + m) - 48
theorem mvl_B {B : Nat → Int} {c : Int} {a : Nat} (hc : 0 ≤ c) : ∀ m : Nat, (∀ i : Nat, i < m → 48 ≤ B (a + i) ∧ B (a + i) ≤ 57) → 0 ≤ mvl B c a m ∧ mvl B c a m ≤ 10 * c + 9 := by
  intro m
  induction m with
  | zero => intro _; exact ⟨Int.le_refl _, by show (0 : Int) ≤ _; omega⟩
  | succ m ih =>
    intro h
    have q := ih (fun i hi => h i (by omega))
    have d := h m (by omega)
    unfold mvl
    split <;> omega
theorem mvl_dvl {B : Nat → Int} {c : Int} {a : Nat} (hc : 0 ≤ c) (hc2 : c ≤ 9999) : ∀ m : Nat, (∀ i : Nat, i < m → 48 ≤ B (a + i) ∧ B (a + i) ≤ 57) → (mvl B c a m ≤ c ∧ dvl B a m = mvl B c a m) ∨ (c < mvl B c a m ∧ c < dvl B a m) := by
  intro m
  induction m with
  | zero => intro _; exact Or.inl ⟨hc, rfl⟩
  | succ m ih =>
    intro h
    have q := ih (fun i hi => h i (by omega))
    have d := h m (by omega)
    have b := mvl_B (B := B) (a := a) hc m (fun i hi => h i (by omega))
    unfold mvl dvl
    split <;> split <;> omega
theorem dvl_B {B : Nat → Int} {a : Nat} : ∀ m : Nat, (∀ i : Nat, i < m → 48 ≤ B (a + i) ∧ B (a + i) ≤ 57) → 0 ≤ dvl B a m ∧ dvl B a m ≤ 100000 := by
  intro m
  induction m with
  | zero => intro _; exact ⟨Int.le_refl _, show (0 : Int) ≤ 100000 by decide⟩
  | succ m ih =>
    intro h
    have q := ih (fun i hi => h i (by omega))
    have d := h m (by omega)
    unfold dvl
    split <;> omega
/-- what the reference's test of a number says -/
theorem numIn {B : Nat → Int} {n c v v0 lw tp : Int} {k : Nat} (hn : 0 ≤ n) (hc : 0 ≤ c) (hc2 : c ≤ 9999) (h0 : (v0 = 0 ∧ tK B n k = 6) ∨ (v0 = -1 ∧ ¬ tK B n k = 6)) (hv : (v0 = -1 ∧ v = -1) ∨ (v0 = 0 ∧ v = mvl B c (tA B n k).toNat (tE B n k - tA B n k).toNat)) (hl : 0 ≤ lw) (ht : tp ≤ c) : ((lw ≤ v ∧ v ≤ tp) ↔ (tK B n k = 6 ∧ lw ≤ tV B n k ∧ tV B n k ≤ tp)) ∧ ((lw ≤ v ∧ v ≤ tp) → v = tV B n k) := by
  by_cases h6 : tK B n k = 6
  · have a6 := tK_6.mp h6
    have hA := tA_B (B := B) hn k
    have e1 : tE B n k = rne B n 48 57 401 (tA B n k) := by
      unfold tE tkE
      rw [if_pos a6.1, if_neg (by omega), if_pos a6.2]
    have hd : ∀ i : Nat, i < (tE B n k - tA B n k).toNat → 48 ≤ B ((tA B n k).toNat + i) ∧ B ((tA B n k).toNat + i) ≤ 57 := fun i hi => by
      rw [e1] at hi
      exact rne_all (B := B) (n := n) 401 (tA B n k) hA.1 _ (by omega) (by omega)
    have eV : tV B n k = dvl B (tA B n k).toNat (tE B n k - tA B n k).toNat := by
      unfold tV vlA
      rw [if_pos a6.1, if_pos a6.2]; rfl
    have m := mvl_dvl (B := B) (a := (tA B n k).toNat) hc hc2 _ hd
    have e0 : v0 = 0 := by omega
    have ev : v = mvl B c (tA B n k).toNat (tE B n k - tA B n k).toNat := by omega
    rw [eV, ← ev] at *
    omega
  · have e : v = -1 := by omega
    exact ⟨⟨fun z => by omega, fun z => absurd z.1 h6⟩, fun z => by omega⟩
/-! one TOKEN more, in the class's rows -/
theorem tok_add {B : Nat → Int} {n tq pl kd va : Int} {K P V K' P' V' aK aP aV : Nat → Int} (hT : aK = tK B n ∧ aV = tV B n ∧ aP = tA B n) (h0 : 0 ≤ tq) (hI : ∀ j : Nat, (j : Int) < tq → K j = aK j ∧ P j = aP j ∧ V j = aV j ∧ aP j < n) (hS : skp B n 401 pl = aP tq.toNat) (hn : pl < n) (hb : ¬ (B pl.toNat = 32 ∨ B pl.toNat = 10)) (eK : K' = updI K tq.toNat kd) (eP : P' = updI P tq.toNat pl) (eV : V' = updI V tq.toNat va) (hk : kd = kdA B n pl) (hv : va = vlA B n pl) : ∀ j : Nat, (j : Int) < tq + 1 → K' j = aK j ∧ P' j = aP j ∧ V' j = aV j ∧ aP j < n := fun j hj => by
  obtain ⟨rfl, rfl, rfl⟩ := hT
  subst eK; subst eP; subst eV
  by_cases q : j = tq.toNat
  · subst q
    have e : tA B n tq.toNat = pl := by rw [← hS]; exact skp_stay (fun z => hb z.2)
    rw [updI_s, updI_s, updI_s]
    unfold tK tV
    rw [e, if_pos hn, if_pos hn]
    exact ⟨hk, rfl, hv, hn⟩
  · rw [updI_n _ _ q, updI_n _ _ q, updI_n _ _ q]
    exact hI j (by omega)
theorem tok_nxt {B : Nat → Int} {n tq pl q : Int} {aP : Nat → Int} (hP : aP = tA B n) (h0 : 0 ≤ tq) (hS : skp B n 401 pl = aP tq.toNat) (hn : pl < n) (hb : ¬ (B pl.toNat = 32 ∨ B pl.toNat = 10)) (hq : q = tkE B n pl) : skp B n 401 q = aP (tq + 1).toNat := by
  subst hP
  have e : tA B n tq.toNat = pl := by rw [← hS]; exact skp_stay (fun z => hb z.2)
  rw [tA_s B n h0]
  unfold tE
  rw [e, hq]
theorem tok_end {B : Nat → Int} {n tq pl : Int} {K P V K' P' V' aK aP aV : Nat → Int} (hT : aK = tK B n ∧ aV = tV B n ∧ aP = tA B n) (h0 : 0 ≤ tq) (hI : ∀ j : Nat, (j : Int) < tq → K j = aK j ∧ P j = aP j ∧ V j = aV j ∧ aP j < n) (hS : skp B n 401 pl = aP tq.toNat) (hn : pl = n) (eK : K' = updI K tq.toNat 10) (eP : P' = updI P tq.toNat n) (eV : V' = updI V tq.toNat 0) : ∀ j : Nat, (j : Int) < tq + 1 → (K' j = aK j ∧ P' j = aP j ∧ V' j = aV j) ∧ (aK j ≠ 10 → (j : Int) + 1 < tq + 1) := fun j hj => by
  obtain ⟨rfl, rfl, rfl⟩ := hT
  subst eK; subst eP; subst eV
  by_cases q : j = tq.toNat
  · subst q
    have e : tA B n tq.toNat = n := by rw [← hS, hn]; exact skp_stay (fun z => absurd z.1 (Int.lt_irrefl _))
    rw [updI_s, updI_s, updI_s]
    have e2 : tK B n tq.toNat = 10 := (tK_10 _).mpr (by omega)
    refine ⟨⟨e2.symm, e.symm, ?_⟩, fun z => absurd e2 z⟩
    unfold tV
    rw [e, if_neg (Int.lt_irrefl _)]
  · rw [updI_n _ _ q, updI_n _ _ q, updI_n _ _ q]
    have := hI j (by omega)
    exact ⟨⟨this.1, this.2.1, this.2.2.1⟩, fun _ => by omega⟩
