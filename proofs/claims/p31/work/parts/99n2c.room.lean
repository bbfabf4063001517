/-! ===== the reference's reader, by the TOKENS ===== -/
theorem tok_Bm {M aA aE aK aV : Nat → Int} {n : Int} (hT : aA = tA M n ∧ aE = tE M n ∧ aK = tK M n ∧ aV = tV M n) (hn : 0 ≤ n) (k : Nat) : 0 ≤ aA k ∧ aA k ≤ aE k ∧ aE k ≤ n ∧ (aA k < n → aA k < aE k) := by
  obtain ⟨rfl, rfl, rfl, rfl⟩ := hT
  exact tok_B hn k
theorem hsS {M aA aE aK aV : Nat → Int} {n ti : Int} (hT : aA = tA M n ∧ aE = tE M n ∧ aK = tK M n ∧ aV = tV M n) (h0 : 0 ≤ ti) : skp M n 401 (aE ti.toNat) = aA (ti + 1).toNat := by
  obtain ⟨rfl, rfl, rfl, rfl⟩ := hT
  exact (tA_s M n h0).symm
theorem hs0 {M aA aE aK aV : Nat → Int} {n : Int} (hT : aA = tA M n ∧ aE = tE M n ∧ aK = tK M n ∧ aV = tV M n) : skp M n 401 0 = aA (0 : Int).toNat := by
  obtain ⟨rfl, rfl, rfl, rfl⟩ := hT
  rfl
theorem aE_s {M aA aE aK aV : Nat → Int} {n ti : Int} (hT : aA = tA M n ∧ aE = tE M n ∧ aK = tK M n ∧ aV = tV M n) (hn : 0 ≤ n) (h0 : 0 ≤ ti) : aE ti.toNat ≤ aA (ti + 1).toNat := by
  have q := hsS hT h0
  have b := tok_Bm hT hn ti.toNat
  have z := skp_B (B := M) (n := n) 401 (aE ti.toNat) b.2.2.1
  omega
theorem aE_w {M aA aE aK aV : Nat → Int} {n : Int} {k : Nat} (hT : aA = tA M n ∧ aE = tE M n ∧ aK = tK M n ∧ aV = tV M n) (h : aA k < n ∧ 97 ≤ M (aA k).toNat ∧ M (aA k).toNat ≤ 122) : aE k = rne M n 97 122 401 (aA k) := by
  obtain ⟨rfl, rfl, rfl, rfl⟩ := hT
  exact tkE_w h.1 h.2
theorem aE_d {M aA aE aK aV : Nat → Int} {n : Int} {k : Nat} (hT : aA = tA M n ∧ aE = tE M n ∧ aK = tK M n ∧ aV = tV M n) (h : aA k < n ∧ 48 ≤ M (aA k).toNat ∧ M (aA k).toNat ≤ 57) : aE k = rne M n 48 57 401 (aA k) := by
  obtain ⟨rfl, rfl, rfl, rfl⟩ := hT
  exact tkE_d h.1 h.2
theorem aE_o {M aA aE aK aV : Nat → Int} {n : Int} {k : Nat} (hT : aA = tA M n ∧ aE = tE M n ∧ aK = tK M n ∧ aV = tV M n) (h : aA k < n) (h1 : ¬ (aA k < n ∧ 97 ≤ M (aA k).toNat ∧ M (aA k).toNat ≤ 122)) (h2 : ¬ (aA k < n ∧ 48 ≤ M (aA k).toNat ∧ M (aA k).toNat ≤ 57)) : aA k + 1 = aE k := by
  obtain ⟨rfl, rfl, rfl, rfl⟩ := hT
  exact (tkE_o h (fun z => h1 ⟨h, z⟩) (fun z => h2 ⟨h, z⟩)).symm
theorem aE_n {M aA aE aK aV : Nat → Int} {n : Int} {k : Nat} (hT : aA = tA M n ∧ aE = tE M n ∧ aK = tK M n ∧ aV = tV M n) (h : ¬ aA k < n) : aA k = aE k := by
  obtain ⟨rfl, rfl, rfl, rfl⟩ := hT
  exact (if_neg h).symm
theorem aK_6 {M aA aE aK aV : Nat → Int} {n : Int} (hT : aA = tA M n ∧ aE = tE M n ∧ aK = tK M n ∧ aV = tV M n) (k : Nat) : aK k = 6 ↔ (aA k < n ∧ 48 ≤ M (aA k).toNat ∧ M (aA k).toNat ≤ 57) := by
  obtain ⟨rfl, rfl, rfl, rfl⟩ := hT
  exact tK_6
theorem aK_10 {M aA aE aK aV : Nat → Int} {n : Int} (hT : aA = tA M n ∧ aE = tE M n ∧ aK = tK M n ∧ aV = tV M n) (k : Nat) : aK k = 10 ↔ ¬ aA k < n := by
  obtain ⟨rfl, rfl, rfl, rfl⟩ := hT
  exact tK_10 k
theorem aK_s8 {M aA aE aK aV : Nat → Int} {n : Int} (hT : aA = tA M n ∧ aE = tE M n ∧ aK = tK M n ∧ aV = tV M n) (k : Nat) : aK k = 8 ↔ (aA k < n ∧ M (aA k).toNat = 59) := by
  obtain ⟨rfl, rfl, rfl, rfl⟩ := hT
  exact tK_s (Or.inr ⟨rfl, rfl⟩)
theorem aK_s7 {M aA aE aK aV : Nat → Int} {n : Int} (hT : aA = tA M n ∧ aE = tE M n ∧ aK = tK M n ∧ aV = tV M n) (k : Nat) : aK k = 7 ↔ (aA k < n ∧ M (aA k).toNat = 45) := by
  obtain ⟨rfl, rfl, rfl, rfl⟩ := hT
  exact tK_s (Or.inl ⟨rfl, rfl⟩)
theorem aK_word {M aA aE aK aV : Nat → Int} {n : Int} {j : Nat} (hT : aA = tA M n ∧ aE = tE M n ∧ aK = tK M n ∧ aV = tV M n) (hj : j < 5) (k : Nat) : aA k < n → (aK k = (j : Int) ↔ spl M (aA k) (aE k) j) := by
  obtain ⟨rfl, rfl, rfl, rfl⟩ := hT
  exact fun h => tK_word hj h
theorem aE_dig {M aA aE aK aV : Nat → Int} {n : Int} {k : Nat} (hT : aA = tA M n ∧ aE = tE M n ∧ aK = tK M n ∧ aV = tV M n) (hn : 0 ≤ n) (h : aK k = 6) (j : Nat) (h1 : aA k ≤ (j : Int)) (h2 : (j : Int) < aE k) : 48 ≤ M j ∧ M j ≤ 57 := by
  have q := (aK_6 hT k).mp h
  have b := tok_Bm hT hn k
  rw [aE_d hT q] at h2
  exact rne_all (B := M) (n := n) 401 (aA k) b.1 j h1 h2
theorem numInA {M aA aE aK aV : Nat → Int} {n c v v0 lw tp : Int} {k : Nat} (hT : aA = tA M n ∧ aE = tE M n ∧ aK = tK M n ∧ aV = tV M n) (hn : 0 ≤ n) (hc : 0 ≤ c) (hc2 : c ≤ 9999) (h0 : (v0 = 0 ∧ aK k = 6) ∨ (v0 = -1 ∧ ¬ aK k = 6)) (hv : (v0 = -1 ∧ v = -1) ∨ (v0 = 0 ∧ 0 ≤ v ∧ v = mvl M c (aA k).toNat (aE k - aA k).toNat)) (hl : 0 ≤ lw) (ht : tp ≤ c) : ((lw ≤ v ∧ v ≤ tp) ↔ (aK k = 6 ∧ lw ≤ aV k ∧ aV k ≤ tp)) ∧ ((lw ≤ v ∧ v ≤ tp) → v = aV k) := by
  obtain ⟨rfl, rfl, rfl, rfl⟩ := hT
  exact numIn hn hc hc2 h0 (hv.elim Or.inl (fun q => Or.inr ⟨q.1, q.2.2⟩)) hl ht
theorem mvl_s1 {B : Nat → Int} {c a k v : Int} (h0 : 0 ≤ a) (h1 : a ≤ k) (hv : v = mvl B c a.toNat (k - a).toNat) (hc : c < v) : v = mvl B c a.toNat (k + 1 - a).toNat := by
  have e : (k + 1 - a).toNat = (k - a).toNat + 1 := by omega
  rw [e]
  unfold mvl
  rw [← hv, if_pos hc]
theorem mvl_s2 {B : Nat → Int} {c a k v y : Int} (h0 : 0 ≤ a) (h1 : a ≤ k) (hv : v = mvl B c a.toNat (k - a).toNat) (hc : ¬ c < v) (ey : y = B k.toNat) : 10 * v + y - 48 = mvl B c a.toNat (k + 1 - a).toNat := by
  have e : (k + 1 - a).toNat = (k - a).toNat + 1 := by omega
  have e2 : a.toNat + (k - a).toNat = k.toNat := by omega
  rw [e]
  unfold mvl
  rw [← hv, if_neg hc, e2, ← ey]
/-! the corners that lean, as bits -/
def btf (b : Int) : Nat → Int := fun j => ((b.toNat >>> j % 2 : Nat) : Int)
def srq (b v : Int) : Int := (iI b >>> (iI v &&& 31)).toInt
def orb (b v : Int) : Int := ((b.toNat ||| 2 ^ v.toNat : Nat) : Int)
theorem srq_e (b v : Int) : iI b >>> (iI v &&& 31) = iI (srq b v) := (iI_of _).symm
theorem btf_d : ∀ (b : Fin 256) (v : Fin 8), iI (srq ((b : Nat) : Int) ((v : Nat) : Int)) &&& iI 1 = iI (btf ((b : Nat) : Int) (v : Nat)) := by decide +kernel
theorem btf_e {b v : Int} (hb : 0 ≤ b ∧ b ≤ 255) (hv : 0 ≤ v ∧ v ≤ 7) : iI (srq b v) &&& iI 1 = iI (btf b v.toNat) := by
  obtain ⟨j, rfl⟩ := Int.eq_ofNat_of_zero_le hb.1
  obtain ⟨k, rfl⟩ := Int.eq_ofNat_of_zero_le hv.1
  exact btf_d ⟨j, by omega⟩ ⟨k, by omega⟩
theorem orb_d : ∀ (b : Fin 256) (v : Fin 8), iI ((b : Nat) : Int) ||| iI ((2 : Int) ^ (v : Nat)) = iI (orb ((b : Nat) : Int) ((v : Nat) : Int)) ∧ orb ((b : Nat) : Int) ((v : Nat) : Int) ≤ 255 := by decide +kernel
theorem orb_e {b v : Int} (hb : 0 ≤ b ∧ b ≤ 255) (hv : 0 ≤ v ∧ v ≤ 7) : iI b ||| iI ((2 : Int) ^ v.toNat) = iI (orb b v) := by
  obtain ⟨j, rfl⟩ := Int.eq_ofNat_of_zero_le hb.1
  obtain ⟨k, rfl⟩ := Int.eq_ofNat_of_zero_le hv.1
  exact (orb_d ⟨j, by omega⟩ ⟨k, by omega⟩).1
theorem orb_b {b v : Int} (hb : 0 ≤ b ∧ b ≤ 255) (hv : 0 ≤ v ∧ v ≤ 7) : 0 ≤ orb b v ∧ orb b v ≤ 255 := by
  obtain ⟨j, rfl⟩ := Int.eq_ofNat_of_zero_le hb.1
  obtain ⟨k, rfl⟩ := Int.eq_ofNat_of_zero_le hv.1
  exact ⟨Int.natCast_nonneg _, (orb_d ⟨j, by omega⟩ ⟨k, by omega⟩).2⟩
theorem btf_o8 : ∀ (b : Fin 256) (v j : Fin 8), btf (orb ((b : Nat) : Int) ((v : Nat) : Int)) (j : Nat) = if (j : Nat) = (v : Nat) then 1 else btf ((b : Nat) : Int) (j : Nat) := by decide +kernel
theorem btf_z {b : Int} (hb : 0 ≤ b ∧ b ≤ 255) {j : Nat} (h : 8 ≤ j) : btf b j = 0 := by
  unfold btf
  have e : b.toNat >>> j = 0 := by
    rw [Nat.shiftRight_eq_div_pow]
    refine Nat.div_eq_of_lt (Nat.lt_of_lt_of_le (show b.toNat < 2 ^ 8 by omega) (Nat.pow_le_pow_right (by decide) h))
  rw [e]; rfl
theorem btf_or {b v : Int} (hb : 0 ≤ b ∧ b ≤ 255) (hv : 0 ≤ v ∧ v ≤ 7) : btf (orb b v) = updI (btf b) v.toNat 1 := by
  funext j
  have ho := orb_b hb hv
  by_cases h : j < 8
  · obtain ⟨b', rfl⟩ := Int.eq_ofNat_of_zero_le hb.1
    obtain ⟨v', rfl⟩ := Int.eq_ofNat_of_zero_le hv.1
    exact btf_o8 ⟨b', by omega⟩ ⟨v', by omega⟩ ⟨j, h⟩
  · rw [updI_n _ _ (show j ≠ v.toNat by omega), btf_z ho (by omega), btf_z hb (by omega)]
theorem btf_01 (b : Int) (j : Nat) : 0 ≤ btf b j ∧ btf b j ≤ 1 := by
  unfold btf
  have := Nat.mod_lt (b.toNat >>> j) (show 0 < 2 by decide)
  omega
theorem updI_id {F : Nat → Int} {k : Nat} {v : Int} (h : F k = v) : updI F k v = F := by
  funext j
  by_cases q : j = k
  · rw [q, updI_s, h]
  · rw [updI_n _ _ q]
theorem updI_u {F : Nat → Int} {k : Nat} {a b : Int} : updI (updI F k a) k b = updI F k b := by
  funext j
  by_cases q : j = k
  · rw [q, updI_s, updI_s]
  · rw [updI_n _ _ q, updI_n _ _ q, updI_n _ _ q]
theorem btf_0 (j : Nat) : btf 0 j = 0 := by
  unfold btf
  rw [show (0 : Int).toNat = 0 from rfl, Nat.zero_shiftRight]; rfl
/-- a corner leans at a WALL that is told -/
theorem leanNe {K V : Nat → Int} {nw t tj : Int} {Y : Nat → Int} {j : Nat} (h : leC K V nw Y t = -1 - tj) (ht : 0 ≤ t) (h2 : t + 2 ≤ tj) (hj : nw ≤ (j : Int)) : j ≠ (V (t + 1).toNat).toNat := fun e => by
  by_cases c : (K (t + 1).toNat = 6 ∧ 0 ≤ V (t + 1).toNat ∧ V (t + 1).toNat ≤ nw - 1 ∧ Y (V (t + 1).toNat).toNat = 0)
  · omega
  · have q := leC_1 c
    omega
/-! ===== rooms by their told lists ===== -/
def agrR (A S : List (Nat → Int)) : Prop := ((A.getD 0 zQ 0) = (S.getD 0 zQ 0)) ∧ ((A.getD 0 zQ 1) = (S.getD 0 zQ 1)) ∧ ((A.getD 0 zQ 2) = (S.getD 0 zQ 2)) ∧ (∀ j : Nat, (j : Int) < (A.getD 0 zQ 0) → (A.getD 1 zQ j) = (S.getD 1 zQ j)) ∧ (∀ j : Nat, (j : Int) < (A.getD 0 zQ 0) → (A.getD 2 zQ j) = (S.getD 2 zQ j)) ∧ (∀ j : Nat, (j : Int) < (A.getD 0 zQ 0) → (A.getD 3 zQ j) = (S.getD 3 zQ j)) ∧ (∀ j : Nat, (j : Int) < (A.getD 0 zQ 0) → (A.getD 4 zQ j) = (S.getD 4 zQ j)) ∧ (∀ j : Nat, (j : Int) < (A.getD 0 zQ 1) → (A.getD 6 zQ j) = (S.getD 6 zQ j)) ∧ (∀ j : Nat, (j : Int) < (A.getD 0 zQ 1) → (A.getD 7 zQ j) = (S.getD 7 zQ j)) ∧ (∀ j : Nat, (j : Int) < (A.getD 0 zQ 1) → (A.getD 8 zQ j) = (S.getD 8 zQ j)) ∧ (∀ j : Nat, (j : Int) < (A.getD 0 zQ 1) → (A.getD 9 zQ j) = (S.getD 9 zQ j)) ∧ (∀ j : Nat, (j : Int) < (A.getD 0 zQ 1) → (A.getD 10 zQ j) = (S.getD 10 zQ j)) ∧ (∀ j : Nat, (j : Int) < (A.getD 0 zQ 1) → (A.getD 11 zQ j) = (S.getD 11 zQ j)) ∧ (∀ j : Nat, (j : Int) < (A.getD 0 zQ 2) → (A.getD 12 zQ j) = (S.getD 12 zQ j)) ∧ (∀ j : Nat, (j : Int) < (A.getD 0 zQ 2) → (A.getD 13 zQ j) = (S.getD 13 zQ j)) ∧ (∀ j : Nat, (j : Int) < (A.getD 0 zQ 2) → (A.getD 14 zQ j) = (S.getD 14 zQ j))
theorem agrR_of {A S : List (Nat → Int)} (h : agr A S) : agrR A S := by
  obtain ⟨c0, c1, c2, h1, h2, h3, h4, h5, h6, h7, h8, h9, h10, h11, h12, h13, h14⟩ := h
  exact ⟨c0.1, c1.1, c2.1, h1, h2, h3, h4, h6, h7, h8, h9, h10, h11, h12, h13, h14⟩
theorem agrR_tr {A S T : List (Nat → Int)} (h : agrR A S) (g : agrR S T) : agrR A T := by
  obtain ⟨c0, c1, c2, h1, h2, h3, h4, h6, h7, h8, h9, h10, h11, h12, h13, h14⟩ := h
  obtain ⟨d0, d1, d2, g1, g2, g3, g4, g6, g7, g8, g9, g10, g11, g12, g13, g14⟩ := g
  exact ⟨c0.trans d0, c1.trans d1, c2.trans d2, fun j hj => (h1 j hj).trans (g1 j (by rw [← c0]; exact hj)), fun j hj => (h2 j hj).trans (g2 j (by rw [← c0]; exact hj)), fun j hj => (h3 j hj).trans (g3 j (by rw [← c0]; exact hj)), fun j hj => (h4 j hj).trans (g4 j (by rw [← c0]; exact hj)), fun j hj => (h6 j hj).trans (g6 j (by rw [← c1]; exact hj)), fun j hj => (h7 j hj).trans (g7 j (by rw [← c1]; exact hj)), fun j hj => (h8 j hj).trans (g8 j (by rw [← c1]; exact hj)), fun j hj => (h9 j hj).trans (g9 j (by rw [← c1]; exact hj)), fun j hj => (h10 j hj).trans (g10 j (by rw [← c1]; exact hj)), fun j hj => (h11 j hj).trans (g11 j (by rw [← c1]; exact hj)), fun j hj => (h12 j hj).trans (g12 j (by rw [← c2]; exact hj)), fun j hj => (h13 j hj).trans (g13 j (by rw [← c2]; exact hj)), fun j hj => (h14 j hj).trans (g14 j (by rw [← c2]; exact hj))⟩
theorem psum_c {F G : Nat → Int} : ∀ n : Nat, (∀ j : Nat, j < n → F j = G j) → psum F n = psum G n
  | 0, _ => rfl
  | n + 1, h => by
    show psum F n + F n = psum G n + G n
    rw [psum_c n (fun j hj => h j (by omega)), h n (by omega)]
def rdS (S : List (Nat → Int)) : Int := psum (S.getD 1 zQ) (S.getD 0 zQ 0).toNat
theorem rdS_c {A S : List (Nat → Int)} (h : agrR A S) : rdS A = rdS S := by
  obtain ⟨c0, c1, c2, h1, h2, h3, h4, h6, h7, h8, h9, h10, h11, h12, h13, h14⟩ := h
  unfold rdS
  rw [← c0]
  exact psum_c _ (fun j hj => h1 j (by omega))
/-- the WALL of a place: the last that begins no later -/
def wq (L : Nat → Int) (pl : Int) : Nat → Int
  | 0 => 0
  | k + 1 => if psum L k ≤ pl then (k : Int) else wq L pl k
theorem wq_B {L : Nat → Int} {pl : Int} : ∀ n : Nat, 0 ≤ wq L pl n ∧ (1 ≤ n → wq L pl n < (n : Int))
  | 0 => ⟨Int.le_refl _, fun h => absurd h (by decide)⟩
  | n + 1 => by
    have q := wq_B (L := L) (pl := pl) n
    unfold wq
    split
    · exact ⟨by omega, fun _ => by omega⟩
    · refine ⟨q.1, fun _ => ?_⟩
      by_cases h : 1 ≤ n
      · have := q.2 h; omega
      · have e : n = 0 := by omega
        subst e
        show (0 : Int) < _
        omega
theorem wq_c {L L' : Nat → Int} {pl : Int} : ∀ n : Nat, (∀ j : Nat, j < n → L j = L' j) → wq L pl n = wq L' pl n
  | 0, _ => rfl
  | n + 1, h => by
    unfold wq
    rw [psum_c n (fun j hj => h j (by omega)), wq_c n (fun j hj => h j (by omega))]
theorem wq_s {L : Nat → Int} {pl i : Int} (h : 0 ≤ i) : wq L pl (i + 1).toNat = if psum L i.toNat ≤ pl then i else wq L pl i.toNat := by
  have e : (i + 1).toNat = i.toNat + 1 := by omega
  rw [e]
  show (if psum L i.toNat ≤ pl then ((i.toNat : Nat) : Int) else wq L pl i.toNat) = _
  rw [show ((i.toNat : Nat) : Int) = i by omega]
theorem wq_eq {L : Nat → Int} {pl w : Int} (h0 : 0 ≤ w) (h1 : psum L w.toNat ≤ pl) (h2 : pl < psum L w.toNat + L w.toNat) : ∀ n : Nat, w < (n : Int) → (∀ j : Nat, j < n → 0 ≤ L j) → wq L pl n = w
  | 0, h, _ => absurd h (by omega)
  | n + 1, h, hL => by
    unfold wq
    by_cases e : (n : Int) = w
    · rw [if_pos (by rw [show n = w.toNat by omega]; exact h1), e]
    · have q := psum_up (F := L) (a := w.toNat + 1) (b := n) (fun j hj => hL j (by omega)) (by omega)
      have q2 : psum L (w.toNat + 1) = psum L w.toNat + L w.toNat := rfl
      rw [if_neg (by omega)]
      exact wq_eq h0 h1 h2 n (by omega) (fun j hj => hL j (by omega))
def hgq (L H Q : Nat → Int) (w x : Int) : Int := H w.toNat + ((Q w.toNat - H w.toNat) * x) / L w.toNat
def hgS (S : List (Nat → Int)) (pl : Int) : Int := hgq (S.getD 1 zQ) (S.getD 2 zQ) (S.getD 3 zQ) (wq (S.getD 1 zQ) pl (S.getD 0 zQ 0).toNat) (pl - psum (S.getD 1 zQ) (wq (S.getD 1 zQ) pl (S.getD 0 zQ 0).toNat).toNat)
theorem hgS_c {A S : List (Nat → Int)} {pl : Int} (h : agrR A S) (hn : 1 ≤ A.getD 0 zQ 0) : hgS A pl = hgS S pl := by
  obtain ⟨c0, c1, c2, h1, h2, h3, h4, h6, h7, h8, h9, h10, h11, h12, h13, h14⟩ := h
  unfold hgS hgq
  rw [← c0, wq_c (L := A.getD 1 zQ) (L' := S.getD 1 zQ) (A.getD 0 zQ 0).toNat (fun j hj => h1 j (by omega))]
  have b := wq_B (L := S.getD 1 zQ) (pl := pl) (A.getD 0 zQ 0).toNat
  have b2 := b.2 (by omega)
  rw [h1 _ (by omega), h2 _ (by omega), h3 _ (by omega), psum_c (F := A.getD 1 zQ) (G := S.getD 1 zQ) _ (fun j hj => h1 j (by omega))]
/-! the pattern that runs off -/
def bq (c k : Int) : Int := ((iI c >>> (iI k &&& 31)) &&& iI 1).toInt
theorem bq_e (c k : Int) : iI (srq c k) &&& iI 1 = iI (bq c k) := by
  unfold bq
  rw [srq_e]
  exact (iI_of _).symm
theorem bq_01 (c k : Int) : 0 ≤ bq c k ∧ bq c k ≤ 1 := by
  have h := and_leR (iI c >>> (iI k &&& 31)) (iI 1) (by decide)
  rw [iI_int (a := 1) ⟨by decide, by decide⟩] at h
  exact h
def abq (x : Int) : Int := if 0 ≤ x then x else -x
def ofq (M Q : Nat → Int) (k : Nat) : Int := Int.tdiv (M k * Q k) 100
def rnR (M Q : Nat → Int) (c : Int) : Nat → Int
  | 0 => 0
  | k + 1 => if bq c (k : Int) = 1 then 0 else rnR M Q c k + ofq M Q k
def rnN (M Q : Nat → Int) (c : Int) : Nat → Int
  | 0 => 0
  | k + 1 => rnN M Q c k + (if bq c (k : Int) = 1 then 2 * abq (rnR M Q c k + ofq M Q k) else abq (rnR M Q c k + ofq M Q k))
theorem rnR_s {M Q : Nat → Int} {c i : Int} (h : 0 ≤ i) : rnR M Q c (i + 1).toNat = if bq c i = 1 then 0 else rnR M Q c i.toNat + ofq M Q i.toNat := by
  have e : (i + 1).toNat = i.toNat + 1 := by omega
  rw [e]
  show (if bq c ((i.toNat : Nat) : Int) = 1 then 0 else _) = _
  rw [show ((i.toNat : Nat) : Int) = i by omega]
theorem rnN_s {M Q : Nat → Int} {c i : Int} (h : 0 ≤ i) : rnN M Q c (i + 1).toNat = rnN M Q c i.toNat + (if bq c i = 1 then 2 * abq (rnR M Q c i.toNat + ofq M Q i.toNat) else abq (rnR M Q c i.toNat + ofq M Q i.toNat)) := by
  have e : (i + 1).toNat = i.toNat + 1 := by omega
  rw [e]
  show rnN M Q c i.toNat + (if bq c ((i.toNat : Nat) : Int) = 1 then _ else _) = _
  rw [show ((i.toNat : Nat) : Int) = i by omega]
theorem rnR_c {M Q M' Q' : Nat → Int} {c : Int} : ∀ n : Nat, (∀ j : Nat, j < n → M j = M' j ∧ Q j = Q' j) → rnR M Q c n = rnR M' Q' c n
  | 0, _ => rfl
  | n + 1, h => by
    have q := h n (by omega)
    unfold rnR ofq
    rw [rnR_c n (fun j hj => h j (by omega)), q.1, q.2]
theorem rnN_c {M Q M' Q' : Nat → Int} {c : Int} : ∀ n : Nat, (∀ j : Nat, j < n → M j = M' j ∧ Q j = Q' j) → rnN M Q c n = rnN M' Q' c n
  | 0, _ => rfl
  | n + 1, h => by
    have q := h n (by omega)
    unfold rnN ofq
    rw [rnN_c n (fun j hj => h j (by omega)), rnR_c n (fun j hj => h j (by omega)), q.1, q.2]
def shS (S : List (Nat → Int)) (c : Int) : Int := rnN (S.getD 4 zQ) (S.getD 3 zQ) c (S.getD 0 zQ 0 - 1).toNat
theorem shS_c {A S : List (Nat → Int)} {c : Int} (h : agrR A S) : shS A c = shS S c := by
  obtain ⟨c0, c1, c2, h1, h2, h3, h4, h6, h7, h8, h9, h10, h11, h12, h13, h14⟩ := h
  unfold shS
  rw [← c0]
  exact rnN_c _ (fun j hj => ⟨h4 j (by omega), h3 j (by omega)⟩)
def ruS (S : List (Nat → Int)) (c w : Int) : Int := rnR (S.getD 4 zQ) (S.getD 3 zQ) c w.toNat
theorem ruS_c {A S : List (Nat → Int)} {c w : Int} (h : agrR A S) (hw : w < A.getD 0 zQ 0) : ruS A c w = ruS S c w := by
  obtain ⟨c0, c1, c2, h1, h2, h3, h4, h6, h7, h8, h9, h10, h11, h12, h13, h14⟩ := h
  unfold ruS
  exact rnR_c _ (fun j hj => ⟨h4 j (by omega), h3 j (by omega)⟩)
/-- the least cuts, of like ones the fewest, then the first -/
def lcq (f g : Int → Int) : Nat → Int
  | 0 => 0
  | k + 1 => if f (k : Int) < f (lcq f g k) ∨ (f (k : Int) = f (lcq f g k) ∧ g (k : Int) < g (lcq f g k)) then (k : Int) else lcq f g k
theorem lcq_s {f g : Int → Int} {i : Int} (h : 0 ≤ i) : lcq f g (i + 1).toNat = if f i < f (lcq f g i.toNat) ∨ (f i = f (lcq f g i.toNat) ∧ g i < g (lcq f g i.toNat)) then i else lcq f g i.toNat := by
  have e : (i + 1).toNat = i.toNat + 1 := by omega
  rw [e]
  show (if f ((i.toNat : Nat) : Int) < _ ∨ (f ((i.toNat : Nat) : Int) = _ ∧ g ((i.toNat : Nat) : Int) < _) then ((i.toNat : Nat) : Int) else _) = _
  rw [show ((i.toNat : Nat) : Int) = i by omega]
theorem lcq_1 {f g : Int → Int} : lcq f g 1 = 0 := by
  have h : lcq f g 1 = if f ((0 : Nat) : Int) < f (lcq f g 0) ∨ (f ((0 : Nat) : Int) = f (lcq f g 0) ∧ g ((0 : Nat) : Int) < g (lcq f g 0)) then ((0 : Nat) : Int) else lcq f g 0 := rfl
  rw [h]
  exact ite_self (0 : Int)
theorem lcq_c {f f' g : Int → Int} (h : ∀ c, f c = f' c) (n : Nat) : lcq f g n = lcq f' g n := by rw [show f = f' from funext h]
/-! borders -/
def dsm (F T U D : Nat → Int) (hh : Int) : Nat → Int
  | 0 => 0
  | k + 1 => dsm F T U D hh k + (if D k = 1 ∧ hh < U k then T k - F k else 0)
theorem dsm_s {F T U D : Nat → Int} {hh i : Int} (h : 0 ≤ i) : dsm F T U D hh (i + 1).toNat = dsm F T U D hh i.toNat + (if D i.toNat = 1 ∧ hh < U i.toNat then T i.toNat - F i.toNat else 0) := by
  have e : (i + 1).toNat = i.toNat + 1 := by omega
  rw [e]; rfl
theorem dsm_c {F T U D F' T' U' D' : Nat → Int} {hh : Int} : ∀ n : Nat, (∀ j : Nat, j < n → F j = F' j ∧ T j = T' j ∧ U j = U' j ∧ D j = D' j) → dsm F T U D hh n = dsm F' T' U' D' hh n
  | 0, _ => rfl
  | n + 1, h => by
    have q := h n (by omega)
    unfold dsm
    rw [dsm_c n (fun j hj => h j (by omega)), q.1, q.2.1, q.2.2.1, q.2.2.2]
def boS (S : List (Nat → Int)) (hh ln : Int) : Int := ((if 0 ≤ rdS S - dsm (S.getD 7 zQ) (S.getD 8 zQ) (S.getD 10 zQ) (S.getD 11 zQ) hh (S.getD 0 zQ 1).toNat then rdS S - dsm (S.getD 7 zQ) (S.getD 8 zQ) (S.getD 10 zQ) (S.getD 11 zQ) hh (S.getD 0 zQ 1).toNat else 0) + ln - 1) / ln
theorem boS_c {A S : List (Nat → Int)} {hh ln : Int} (h : agrR A S) : boS A hh ln = boS S hh ln := by
  have e := rdS_c h
  obtain ⟨c0, c1, c2, h1, h2, h3, h4, h6, h7, h8, h9, h10, h11, h12, h13, h14⟩ := h
  unfold boS
  rw [e, ← c1, dsm_c (F := A.getD 7 zQ) (F' := S.getD 7 zQ) (T := A.getD 8 zQ) (T' := S.getD 8 zQ) (U := A.getD 10 zQ) (U' := S.getD 10 zQ) (D := A.getD 11 zQ) (D' := S.getD 11 zQ) _ (fun j hj => ⟨h7 j (by omega), h8 j (by omega), h10 j (by omega), h11 j (by omega)⟩)]
/-! the rows of one room copied from the other -/
theorem cpy {F G G' : Nat → Int} {w y : Int} (h : ∀ j : Nat, (j : Int) < w → G j = F j) (e : G' = updI G w.toNat y) (ey : y = F w.toNat) (h0 : 0 ≤ w) : ∀ j : Nat, (j : Int) < w + 1 → G' j = F j := fun j hj => by
  subst e
  by_cases q : j = w.toNat
  · rw [q, updI_s, ey]
  · rw [updI_n _ _ q]; exact h j (by omega)
theorem psR {F G : Nat → Int} {n n2 r r2 v : Int} (hR : r = psum F n.toNat) (e : G = updI F n.toNat v) (en : n2 = n + 1) (er : r2 = r + v) (h0 : 0 ≤ n) : r2 = psum G n2.toNat := by
  subst e; subst en
  rw [psum_s _ h0, updI_s, psum_upd _ (Nat.le_refl _), ← hR, er]
theorem psB {F G B C : Nat → Int} {n n2 r v : Int} (hR : r = psum F n.toNat) (hB : ∀ j : Nat, (j : Int) < n → B j = psum F j) (e : G = updI F n.toNat v) (eC : C = updI B n.toNat r) (en : n2 = n + 1) (h0 : 0 ≤ n) : ∀ j : Nat, (j : Int) < n2 → C j = psum G j := fun j hj => by
  subst e; subst eC; subst en
  rw [psum_upd _ (show j ≤ n.toNat by omega)]
  by_cases q : j = n.toNat
  · rw [q, updI_s, hR]
  · rw [updI_n _ _ q]; exact hB j (by omega)
/-! every WALL is 50 long at least -/
def okL (S : List (Nat → Int)) : Prop := 0 ≤ S.getD 0 zQ 0 ∧ ∀ j : Nat, (j : Int) < S.getD 0 zQ 0 → 50 ≤ S.getD 1 zQ j
theorem wl_c1 {K V : Nat → Int} {t : Int} (ht : 0 ≤ t) (h : wlC K V t < 0) : 50 ≤ V (t + 1).toNat := by
  by_cases c : (K (t + 1).toNat = 6 ∧ 50 ≤ V (t + 1).toNat ∧ V (t + 1).toNat ≤ 600)
  · exact c.2.1
  · rw [wlC_1 c] at h; omega
theorem okL_ln {K V : Nat → Int} {S : List (Nat → Int)} {t : Int} (ht : 0 ≤ t) (h : okL S) (hc : lnC K V S t < 0) : okL (lnS K V S t) := by
  by_cases k0 : K t.toNat = 0
  · rw [lnS_0 k0]
    by_cases h8 : S.getD 0 zQ 0 < 8
    · rw [lnC_w1 k0 h8] at hc
      have v := wl_c1 ht hc
      refine ⟨?_, ?_⟩
      · show 0 ≤ S.getD 0 zQ 0 + 1
        have := h.1; omega
      · intro j hj
        have hj2 : (j : Int) < S.getD 0 zQ 0 + 1 := hj
        show 50 ≤ updI (S.getD 1 zQ) (S.getD 0 zQ 0).toNat (V (t + 1).toNat) j
        have h0 := h.1
        by_cases q : j = (S.getD 0 zQ 0).toNat
        · rw [q, updI_s]; exact v
        · rw [updI_n _ _ q]; exact h.2 j (by omega)
    · rw [lnC_w0 k0 h8] at hc; omega
  · unfold lnS
    rw [if_neg k0]
    split
    · exact h
    · split
      · exact h
      · split
        · exact h
        · exact h
theorem okL_prs {K V P : Nat → Int} {n : Int} : ∀ (f : Nat) (t : Int) (S : List (Nat → Int)), 0 ≤ t → okL S → okL (prs K V P n f t S).2 := by
  intro f
  induction f with
  | zero => intro t S _ h; exact h
  | succ f ih =>
    intro t S ht h
    by_cases h1 : K t.toNat = 10
    · rw [prs_over h1]; exact h
    · by_cases h2 : lnC K V S t < 0
      · rw [prs_step h1 h2]; exact ih _ _ (by omega) (okL_ln ht h h2)
      · rw [prs_fail h1 h2]; exact h
theorem okL_p (B : Nat → Int) (n : Int) : okL (pRoom B n) := okL_prs 401 0 S00 (Int.le_refl _) ⟨Int.le_refl _, fun j hj => absurd hj (by show ¬ (j : Int) < 0; omega)⟩
theorem okL_c {A S : List (Nat → Int)} (h : agrR A S) (ho : okL S) : ∀ j : Nat, (j : Int) < A.getD 0 zQ 0 → 50 ≤ A.getD 1 zQ j := by
  obtain ⟨c0, c1, c2, h1, h2, h3, h4, h6, h7, h8, h9, h10, h11, h12, h13, h14⟩ := h
  intro j hj
  rw [h1 j hj]
  exact ho.2 j (by rw [← c0]; exact hj)
/-! bits of a whole number, as the library counts them -/
def anq (a b : Int) : Int := (iI a &&& iI b).toInt
theorem anq_e (a b : Int) : iI a &&& iI b = iI (anq a b) := (iI_of _).symm
theorem floor_p {a b : Int} (hb : 0 < b) (h : 0 ≤ a ∨ a.tdiv b * b = a) : a.tdiv b = a / b := by
  have h4 := Int.mul_tdiv_add_tmod a b
  have h5 := Int.mul_ediv_add_emod a b
  have h1 := Int.emod_nonneg a (show b ≠ 0 by omega)
  have h2 := Int.emod_lt_of_pos a hb
  rcases h with h | h
  · exact Int.tdiv_eq_ediv_of_nonneg h
  · have e : a % b = 0 := Int.emod_eq_zero_of_dvd ⟨a.tdiv b, by rw [Int.mul_comm]; exact h.symm⟩
    have e2 : b * (a / b) = b * a.tdiv b := by rw [Int.mul_comm b (a.tdiv b), h]; omega
    exact (Int.eq_of_mul_eq_mul_left (by omega) e2).symm
theorem floor_n {a b : Int} (hb : 0 < b) (h : a < 0) (h2 : ¬ a.tdiv b * b = a) : a.tdiv b - 1 = a / b := by
  have t := tmod_bounds (a := a) hb
  have h4 := Int.mul_tdiv_add_tmod a b
  have hm : a.tmod b ≤ 0 := by
    have q := Int.tmod_nonneg (a := -a) b (by omega)
    rw [Int.neg_tmod] at q
    omega
  have hn : a.tmod b ≠ 0 := fun e => h2 (by rw [e, Int.add_zero] at h4; rw [Int.mul_comm]; exact h4)
  have e1 : b * (a.tdiv b - 1) = b * a.tdiv b - b := by rw [Int.mul_sub, Int.mul_one]
  have q := Int.ediv_emod_unique (a := a) (b := b) (r := a.tmod b + b) (q := a.tdiv b - 1) hb
  exact (q.mpr ⟨by omega, by omega, by omega⟩).1.symm
theorem xor_neg {a d : Int} (ha : inR a) (hd : 0 ≤ d ∧ d ≤ 2147483647) : (iI a ^^^ iI d).toInt < 0 ↔ a < 0 := by
  have e : (iI a ^^^ iI d).toBitVec.msb = (iI a).toBitVec.msb := by
    have z : (iI d).toBitVec.msb = false := by
      rw [BitVec.msb_eq_false_iff_two_mul_lt, iI_bv hd.1 hd.2]; omega
    rw [Int32.toBitVec_xor, BitVec.msb_xor, z, Bool.xor_false]
  have h1 : ∀ x : Int32, x.toInt < 0 ↔ x.toBitVec.msb = true := fun x => by
    rw [BitVec.msb_eq_toInt]
    show x.toBitVec.toInt < 0 ↔ _
    simp
  rw [h1, e, ← h1, iI_int ha]
