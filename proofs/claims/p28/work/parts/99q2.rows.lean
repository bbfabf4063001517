theorem cp4 {P S B H P1 S1 B1 H1 P2 S2 B2 H2 : Nat → Int} {i a b c d : Int} (h : ∀ j : Nat, (j : Int) < i → P1 j = P j ∧ S1 j = S j ∧ B1 j = B j ∧ H1 j = H j) (e1 : P2 = updI P1 i.toNat a) (e2 : S2 = updI S1 i.toNat b) (e3 : B2 = updI B1 i.toNat c) (e4 : H2 = updI H1 i.toNat d) (ha : a = P i.toNat) (hb : b = S i.toNat) (hc : c = B i.toNat) (hd : d = H i.toNat) (h0 : 0 ≤ i) : ∀ j : Nat, (j : Int) < i + 1 → P2 j = P j ∧ S2 j = S j ∧ B2 j = B j ∧ H2 j = H j := fun j hj => by
  subst e1; subst e2; subst e3; subst e4
  by_cases q : j = i.toNat
  · subst q; rw [updI_s, updI_s, updI_s, updI_s]; exact ⟨ha, hb, hc, hd⟩
  · rw [updI_n _ _ q, updI_n _ _ q, updI_n _ _ q, updI_n _ _ q]; exact h j (by omega)
def dAg (A B C D : Nat → Int) (d : Nat → Nat → Int) : Prop := ∀ j : Nat, (j : Int) < 6 → A j = d 0 j ∧ (d 0 j = -1 ∨ (B j = d 1 j ∧ C j = d 2 j ∧ D j = d 3 j))
def dn4 (d : Nat → Nat → Int) (r : Nat) (a b c e : Int) : Nat → Nat → Int := fun k j => if j = r then (if k = 0 then a else if k = 1 then b else if k = 2 then c else e) else d k j
def dd0 : Nat → Nat → Int := fun k _ => if k = 0 then -1 else 0
def pF4 (a b c d : Int) : Nat → Int := fun k => if k = 0 then a else if k = 1 then b else if k = 2 then c else d
theorem dn4_s (d : Nat → Nat → Int) (r : Nat) (a b c e : Int) : dn4 d r a b c e 0 r = a ∧ dn4 d r a b c e 1 r = b ∧ dn4 d r a b c e 2 r = c ∧ dn4 d r a b c e 3 r = e := by
  simp [dn4]
theorem dn4_n (d : Nat → Nat → Int) {r j : Nat} (a b c e : Int) (h : j ≠ r) (k : Nat) : dn4 d r a b c e k j = d k j := if_neg h
theorem dAg_0 {A B C D : Nat → Int} (h : ∀ j : Nat, j < 6 → A j = -1) : dAg A B C D dd0 := fun j hj => ⟨h j (by omega), Or.inl rfl⟩
theorem dAg_tr {A B C D A2 B2 C2 D2 : Nat → Int} {d : Nat → Nat → Int} (h : ∀ j : Nat, (j : Int) < 6 → A2 j = A j ∧ B2 j = B j ∧ C2 j = C j ∧ D2 j = D j) (a : dAg A B C D d) : dAg A2 B2 C2 D2 d := fun j hj => by
  obtain ⟨q1, q2, q3, q4⟩ := h j hj
  rw [q1, q2, q3, q4]; exact a j hj
theorem dAg_done {A B C D A2 B2 C2 D2 : Nat → Int} {d : Nat → Nat → Int} {r : Nat} {a b c e : Int} (e1 : A2 = updI A r a) (e2 : B2 = updI B r b) (e3 : C2 = updI C r c) (e4 : D2 = updI D r e) (h : dAg A B C D d) : dAg A2 B2 C2 D2 (dn4 d r a b c e) := fun j hj => by
  subst e1; subst e2; subst e3; subst e4
  by_cases q : j = r
  · subst q
    obtain ⟨q1, q2, q3, q4⟩ := dn4_s d j a b c e
    rw [updI_s, updI_s, updI_s, updI_s, q1, q2, q3, q4]; exact ⟨rfl, Or.inr ⟨rfl, rfl, rfl⟩⟩
  · rw [updI_n _ _ q, updI_n _ _ q, updI_n _ _ q, updI_n _ _ q, dn4_n _ _ _ _ _ q, dn4_n _ _ _ _ _ q, dn4_n _ _ _ _ _ q, dn4_n _ _ _ _ _ q]; exact h j hj
theorem dAg_hang {A B C D D2 : Nat → Int} {d : Nat → Nat → Int} {r : Nat} {e : Int} (e4 : D2 = updI D r e) (h : dAg A B C D d) (hr : (r : Int) < 6) (hn : 0 ≤ A r) : dAg A B C D2 (dn4 d r (d 0 r) (d 1 r) (d 2 r) e) := fun j hj => by
  subst e4
  by_cases q : j = r
  · subst q
    obtain ⟨q1, q2, q3, q4⟩ := dn4_s d j (d 0 j) (d 1 j) (d 2 j) e
    obtain ⟨p1, p2⟩ := h j hr
    rw [updI_s, q1, q2, q3, q4]
    refine ⟨p1, Or.inr ?_⟩
    rcases p2 with p | p
    · omega
    · exact ⟨p.1, p.2.1, rfl⟩
  · rw [updI_n _ _ q, dn4_n _ _ _ _ _ q, dn4_n _ _ _ _ _ q, dn4_n _ _ _ _ _ q, dn4_n _ _ _ _ _ q]; exact h j hj
theorem onStepY4 {P P2 S S2 B B2 H H2 K : Nat → Int} {r x y u v z : Int} (h : ∀ j : Nat, (j : Int) < r → ((j : Int) < z ∧ P j = K (4 * j) ∧ S j = K (4 * j + 1) ∧ B j = K (4 * j + 2) ∧ H j = K (4 * j + 3)) ∨ (z ≤ (j : Int) ∧ P j = -1)) (e1 : P2 = updI P r.toNat x) (e2 : S2 = updI S r.toNat y) (e3 : B2 = updI B r.toNat u) (e4 : H2 = updI H r.toNat v) (hx : x = K (4 * r).toNat) (hy : y = K (4 * r + 1).toNat) (hu : u = K (4 * r + 2).toNat) (hv : v = K (4 * r + 3).toNat) (h0 : 0 ≤ r) (hz : r < z) : ∀ j : Nat, (j : Int) < r + 1 → ((j : Int) < z ∧ P2 j = K (4 * j) ∧ S2 j = K (4 * j + 1) ∧ B2 j = K (4 * j + 2) ∧ H2 j = K (4 * j + 3)) ∨ (z ≤ (j : Int) ∧ P2 j = -1) := fun j hj => by
  subst e1; subst e2; subst e3; subst e4
  by_cases q : j = r.toNat
  · subst q
    refine Or.inl ⟨by omega, ?_, ?_, ?_, ?_⟩
    · rw [updI_s, hx, show (4 * r).toNat = 4 * r.toNat by omega]
    · rw [updI_s, hy, show (4 * r + 1).toNat = 4 * r.toNat + 1 by omega]
    · rw [updI_s, hu, show (4 * r + 2).toNat = 4 * r.toNat + 2 by omega]
    · rw [updI_s, hv, show (4 * r + 3).toNat = 4 * r.toNat + 3 by omega]
  · rw [updI_n _ _ q, updI_n _ _ q, updI_n _ _ q, updI_n _ _ q]; exact h j (by omega)
theorem onStepN4 {P P2 S S2 B B2 H H2 K : Nat → Int} {r y u v z : Int} (h : ∀ j : Nat, (j : Int) < r → ((j : Int) < z ∧ P j = K (4 * j) ∧ S j = K (4 * j + 1) ∧ B j = K (4 * j + 2) ∧ H j = K (4 * j + 3)) ∨ (z ≤ (j : Int) ∧ P j = -1)) (e1 : P2 = updI P r.toNat (-1)) (e2 : S2 = updI S r.toNat y) (e3 : B2 = updI B r.toNat u) (e4 : H2 = updI H r.toNat v) (h0 : 0 ≤ r) (hz : z ≤ r) : ∀ j : Nat, (j : Int) < r + 1 → ((j : Int) < z ∧ P2 j = K (4 * j) ∧ S2 j = K (4 * j + 1) ∧ B2 j = K (4 * j + 2) ∧ H2 j = K (4 * j + 3)) ∨ (z ≤ (j : Int) ∧ P2 j = -1) := fun j hj => by
  subst e1; subst e2; subst e3; subst e4
  by_cases q : j = r.toNat
  · subst q; exact Or.inr ⟨by omega, updI_s _ _ _⟩
  · rw [updI_n _ _ q, updI_n _ _ q, updI_n _ _ q, updI_n _ _ q]; exact h j (by omega)
def mD (A B C D : Nat → Int) (d : Nat → Nat → Int) (n : Int) : Prop := ∀ r : Nat, r < 6 → ((r : Int) < n → A r = d 0 r ∧ (d 0 r = -1 ∨ (B r = d 1 r ∧ C r = d 2 r ∧ D r = d 3 r))) ∧ (n ≤ (r : Int) → d 0 r = -1)
def mDK (K : Nat → Int) (d : Nat → Nat → Int) (n : Int) : Prop := ∀ r : Nat, r < 6 → ((r : Int) < n → K (4 * r) = d 0 r ∧ (d 0 r = -1 ∨ (K (4 * r + 1) = d 1 r ∧ K (4 * r + 2) = d 2 r ∧ K (4 * r + 3) = d 3 r))) ∧ (n ≤ (r : Int) → d 0 r = -1)
theorem mD_0 (A B C D : Nat → Int) : mD A B C D dd0 0 := fun r _ => ⟨fun h => absurd h (by omega), fun _ => rfl⟩
theorem mD_done {A B C D A2 B2 C2 D2 : Nat → Int} {d : Nat → Nat → Int} {n : Int} {r : Nat} {a b c e : Int} (g1 : A2 r = a) (g2 : B2 r = b) (g3 : C2 r = c) (g4 : D2 r = e) (o1 : ∀ j : Nat, j ≠ r → A2 j = A j) (o2 : ∀ j : Nat, j ≠ r → B2 j = B j) (o3 : ∀ j : Nat, j ≠ r → C2 j = C j) (o4 : ∀ j : Nat, j ≠ r → D2 j = D j) (h : mD A B C D d n) (hr : (r : Int) < n) : mD A2 B2 C2 D2 (dn4 d r a b c e) n := fun j hj => by
  by_cases q : j = r
  · subst q
    obtain ⟨q1, q2, q3, q4⟩ := dn4_s d j a b c e
    rw [q1, q2, q3, q4]
    exact ⟨fun _ => ⟨g1, Or.inr ⟨g2, g3, g4⟩⟩, fun z => absurd z (by omega)⟩
  · rw [o1 j q, o2 j q, o3 j q, o4 j q, dn4_n _ _ _ _ _ q, dn4_n _ _ _ _ _ q, dn4_n _ _ _ _ _ q, dn4_n _ _ _ _ _ q]; exact h j hj
theorem mD_hang {A B C D D2 : Nat → Int} {d : Nat → Nat → Int} {n : Int} {r : Nat} {e : Int} (g4 : D2 r = e) (o4 : ∀ j : Nat, j ≠ r → D2 j = D j) (h : mD A B C D d n) (hr : (r : Int) < n) (h6 : r < 6) (hn : ¬ A r = -1) : mD A B C D2 (dn4 d r (d 0 r) (d 1 r) (d 2 r) e) n := fun j hj => by
  by_cases q : j = r
  · subst q
    obtain ⟨q1, q2, q3, q4⟩ := dn4_s d j (d 0 j) (d 1 j) (d 2 j) e
    rw [q1, q2, q3, q4]
    refine ⟨fun _ => ?_, fun z => absurd z (by omega)⟩
    obtain ⟨p1, p2⟩ := (h j h6).1 hr
    refine ⟨p1, Or.inr ?_⟩
    rcases p2 with p | p
    · exact absurd (p1.trans p) hn
    · exact ⟨p.1, p.2.1, g4⟩
  · rw [o4 j q, dn4_n _ _ _ _ _ q, dn4_n _ _ _ _ _ q, dn4_n _ _ _ _ _ q, dn4_n _ _ _ _ _ q]; exact h j hj
theorem mD_room {A B C D A2 : Nat → Int} {d : Nat → Nat → Int} {n n2 : Int} (h : mD A B C D d n) (hn : n2 = n + 1) (h0 : 0 ≤ n) (kp : A2 n.toNat = -1) (kq : ∀ j : Nat, j ≠ n.toNat → A2 j = A j) : mD A2 B C D d n2 := fun j hj => by
  by_cases q : j = n.toNat
  · subst q
    have p := (h _ hj).2 (by omega)
    exact ⟨fun _ => ⟨kp.trans p.symm, Or.inl p⟩, fun z => absurd z (by omega)⟩
  · rw [kq j q]
    exact ⟨fun z => (h j hj).1 (by omega), fun z => (h j hj).2 (by omega)⟩
theorem mD_on {A2 B2 C2 D2 K : Nat → Int} {d : Nat → Nat → Int} {n z : Int} (kN : ∀ j : Nat, (j : Int) < n → ((j : Int) < z ∧ A2 j = K (4 * j) ∧ B2 j = K (4 * j + 1) ∧ C2 j = K (4 * j + 2) ∧ D2 j = K (4 * j + 3)) ∨ (z ≤ (j : Int) ∧ A2 j = -1)) (hz : z ≤ n) (hK : mDK K d z) : mD A2 B2 C2 D2 d n := fun j hj => by
  refine ⟨fun q => ?_, fun q => (hK j hj).2 (by omega)⟩
  rcases kN j q with ⟨p0, p1, p2, p3, p4⟩ | ⟨p0, p1⟩
  · rw [p1, p2, p3, p4]; exact (hK j hj).1 p0
  · have e := (hK j hj).2 p0
    exact ⟨p1.trans e.symm, Or.inl e⟩
theorem mDK_img {A B C D K : Nat → Int} {d : Nat → Nat → Int} {n : Int} (kI : ∀ j : Nat, (j : Int) < n → K (4 * j) = A j ∧ K (4 * j + 1) = B j ∧ K (4 * j + 2) = C j ∧ K (4 * j + 3) = D j) (h : mD A B C D d n) : mDK K d n := fun j hj => by
  refine ⟨fun q => ?_, (h j hj).2⟩
  obtain ⟨q1, q2, q3, q4⟩ := kI j q
  rw [q1, q2, q3, q4]; exact (h j hj).1 q
theorem kN_2 {A2 B2 C2 D2 K : Nat → Int} {n z : Int} (kN : ∀ j : Nat, (j : Int) < n → ((j : Int) < z ∧ A2 j = K (4 * j) ∧ B2 j = K (4 * j + 1) ∧ C2 j = K (4 * j + 2) ∧ D2 j = K (4 * j + 3)) ∨ (z ≤ (j : Int) ∧ A2 j = -1)) : ∀ j : Nat, (j : Int) < n → ((j : Int) < z ∧ A2 j = K (4 * j) ∧ B2 j = K (4 * j + 1)) ∨ A2 j = -1 := fun j hj => by
  rcases kN j hj with ⟨p0, p1, p2, -, -⟩ | ⟨-, p1⟩
  · exact Or.inl ⟨p0, p1, p2⟩
  · exact Or.inr p1
theorem iE_img {ii : Nat → Nat → Nat → Int} {dd : Nat → Nat → Int} {KF : Nat → Nat → Int} {Ki Ki2 Kr Kr2 Kp2 : Nat → Int} {i : Nat} {n : Int} {up : (Nat → Nat → Int) → Nat → (Nat → Int) → Nat → Nat → Int} (us : ∀ F i G, up F i G i = G) (un : ∀ F i r G, r ≠ i → up F i G r = F r) (h : ∀ k : Nat, k < 3 → Ki k = 1 → mDK (KF k) (ii k) (Kr k)) (hk : mDK Kp2 dd n) (gr : Kr2 i = n) (orr : ∀ j : Nat, j ≠ i → Kr2 j = Kr j) (oi : ∀ j : Nat, j ≠ i → Ki2 j = Ki j) : ∀ k : Nat, k < 3 → Ki2 k = 1 → mDK (up KF i Kp2 k) (va_up ii i dd k) (Kr2 k) := fun k hk3 h1 => by
  by_cases q : k = i
  · subst q; rw [us, gr, show va_up ii k dd k = dd from if_pos rfl]; exact hk
  · rw [un _ _ _ _ q, orr k q, show va_up ii i dd k = ii k from if_neg q]; exact h k hk3 (by rw [← oi k q]; exact h1)
theorem iF_new {PF : Nat → Nat → Int} {n n2 a b c d : Int} {W D F G W2 D2 F2 G2 : Nat → Int} (h : ∀ j : Nat, (j : Int) < n → W j = PF j 0 ∧ D j = PF j 1 ∧ F j = PF j 2 ∧ G j = PF j 3) (h0 : 0 ≤ n) (hn : n2 = n + 1) (g1 : W2 n.toNat = a) (g2 : D2 n.toNat = b) (g3 : F2 n.toNat = c) (g4 : G2 n.toNat = d) (o1 : ∀ j : Nat, j ≠ n.toNat → W2 j = W j) (o2 : ∀ j : Nat, j ≠ n.toNat → D2 j = D j) (o3 : ∀ j : Nat, j ≠ n.toNat → F2 j = F j) (o4 : ∀ j : Nat, j ≠ n.toNat → G2 j = G j) : ∀ j : Nat, (j : Int) < n2 → W2 j = va_up PF n.toNat (pF4 a b c d) j 0 ∧ D2 j = va_up PF n.toNat (pF4 a b c d) j 1 ∧ F2 j = va_up PF n.toNat (pF4 a b c d) j 2 ∧ G2 j = va_up PF n.toNat (pF4 a b c d) j 3 := fun j hj => by
  by_cases q : j = n.toNat
  · subst q
    rw [show va_up PF n.toNat (pF4 a b c d) n.toNat = pF4 a b c d from if_pos rfl]
    exact ⟨g1, g2, g3, g4⟩
  · rw [show va_up PF n.toNat (pF4 a b c d) j = PF j from if_neg q, o1 j q, o2 j q, o3 j q, o4 j q]
    exact h j (by omega)
