def up2 {α : Type} (F : Nat → Nat → α) (i : Nat) (G : Nat → α) : Nat → Nat → α := fun r => if r = i then G else F r
theorem up2_s {α : Type} (F : Nat → Nat → α) (i : Nat) (G : Nat → α) : up2 F i G i = G := if_pos rfl
theorem up2_n {α : Type} (F : Nat → Nat → α) {i r : Nat} (G : Nat → α) (h : r ≠ i) : up2 F i G r = F r := if_neg h
theorem put_off (f : Nat → va_W) {i k : Nat} (h : i ≠ k) (w : va_W) : ∀ j, j < 7 → putW (offW f k) i w j = offW (putW f i w) k j := fun j _ => by
  unfold putW offW
  by_cases q : j = i
  · simp [q, h]
  · by_cases q2 : j = k
    · subst q2; simp [q]
    · simp [q, q2]
theorem iM_put {gG : Nat → Nat → Option Nat} {xAA : Nat → Nat → Nat} {ML : Nat → Nat → Nat → Int} {MP : Nat → va_W} {Q : (Nat → Nat) → (Nat → Nat → Int) → va_W → Prop} {i : Nat} {xA : Nat → Nat} {F : Nat → Nat → Int} {w : va_W} (h : ∀ r : Nat, r ≤ 6 → (∀ k, gG k r = some (xAA r k)) ∧ Q (xAA r) (ML r) (MP r)) (hx : xA = xAA i) (hq : Q xA F w) : ∀ r : Nat, r ≤ 6 → (∀ k, gG k r = some (xAA r k)) ∧ Q (xAA r) (up2 ML i F r) (putW MP i w r) := fun r hr => by
  refine ⟨(h r hr).1, ?_⟩
  by_cases q : r = i
  · subst q; rw [up2_s, putW_s, ← hx]; exact hq
  · rw [up2_n _ _ q, putW_n _ _ q]; exact (h r hr).2
theorem iV_6 {ML : Nat → Nat → Nat → Int} {np nr : Int} {Mw Mw2 Mr Op Os : Nat → Int} {F : Nat → Nat → Int} (h : ∀ r : Nat, (r : Int) < nr → mV ML np Mw Mr Op Os r) (kw : ∀ j : Nat, j ≠ 6 → Mw2 j = Mw j) (h6 : nr ≤ 6) : ∀ r : Nat, (r : Int) < nr → mV (up2 ML 6 F) np Mw2 Mr Op Os r := fun r hr => by
  unfold mV
  rw [kw r (by omega), up2_n _ _ (show r ≠ 6 by omega)]
  exact h r hr
theorem iV_np {ML : Nat → Nat → Nat → Int} {np np2 nr : Int} {Mw Mr Op Os : Nat → Int} (h : ∀ r : Nat, (r : Int) < nr → mV ML np Mw Mr Op Os r) (hn : np ≤ np2) : ∀ r : Nat, (r : Int) < nr → mV ML np2 Mw Mr Op Os r := fun r hr => by
  obtain ⟨a, b, c, d⟩ := h r hr
  exact ⟨a, b, c, d.elim Or.inl (fun q => Or.inr ⟨q.1, by have := q.2.1; omega, q.2.2⟩)⟩
theorem iPm_new {np np2 rp : Int} {Pw Pq Pl Pw2 Pq2 Pl2 prr : Nat → Int} (h : ∀ j : Nat, (j : Int) < np → ((20 ≤ Pw j ∧ Pw j ≤ 120) ∧ (10 ≤ Pq j ∧ Pq j ≤ 120) ∧ (300 ≤ Pl j ∧ Pl j ≤ 2000)) ∧ Pq j = prr j) (ow : ∀ j : Nat, j ≠ np.toNat → Pw2 j = Pw j) (oq : ∀ j : Nat, j ≠ np.toNat → Pq2 j = Pq j) (ol : ∀ j : Nat, j ≠ np.toNat → Pl2 j = Pl j) (h0 : 0 ≤ np) (hn : np2 = np + 1) (hv : (20 ≤ Pw2 np.toNat ∧ Pw2 np.toNat ≤ 120) ∧ (10 ≤ Pq2 np.toNat ∧ Pq2 np.toNat ≤ 120) ∧ (300 ≤ Pl2 np.toNat ∧ Pl2 np.toNat ≤ 2000)) (hq : Pq2 np.toNat = rp) : ∀ j : Nat, (j : Int) < np2 → ((20 ≤ Pw2 j ∧ Pw2 j ≤ 120) ∧ (10 ≤ Pq2 j ∧ Pq2 j ≤ 120) ∧ (300 ≤ Pl2 j ∧ Pl2 j ≤ 2000)) ∧ Pq2 j = updI prr np.toNat rp j := fun j hj => by
  by_cases q : j = np.toNat
  · subst q; exact ⟨hv, by rw [updI_s]; exact hq⟩
  · rw [ow j q, oq j q, ol j q, updI_n _ _ q]; exact h j (by omega)
theorem mVK_np {F : Nat → Int} {np np2 : Int} {Mr : Nat → Int} {j : Nat} (h : mVK F np Mr j) (hn : np ≤ np2) : mVK F np2 Mr j := by
  obtain ⟨a, b, c, d, e⟩ := h
  exact ⟨a, b, c, d, e.elim Or.inl (fun q => Or.inr ⟨q.1, by have := q.2.1; omega, q.2.2⟩)⟩
theorem mVK_K {F : Nat → Int} {np : Int} {Mr : Nat → Int} {j : Nat} (h : mVK F np Mr j) : (-1 ≤ F (4 * j) ∧ F (4 * j) ≤ 3) ∧ (0 ≤ F (4 * j + 1) ∧ F (4 * j + 1) ≤ 4799) ∧ (0 ≤ F (4 * j + 2) ∧ F (4 * j + 2) ≤ 119) ∧ (0 ≤ F (4 * j + 3) ∧ F (4 * j + 3) ≤ 240) := ⟨h.1, h.2.1, h.2.2.1, h.2.2.2.1⟩
theorem iK_np {K0 K1 : Nat → Option Nat} {kA kE : Nat → Nat} {Q : Nat → Nat → (Nat → Int) → va_W → Prop} {KF : Nat → Nat → Int} {KP : Nat → va_W} {Ki ki Km ie Kr Mr : Nat → Int} {np np2 nr : Int} (h : ∀ k : Nat, k < 3 → K0 k = some (kA k) ∧ K1 k = some (kE k) ∧ Q (kA k) (kE k) (KF k) (KP k) ∧ Ki k = ki k ∧ (Ki k = 0 ∨ (Ki k = 1 ∧ Km k = ie k ∧ Kr k ≤ nr ∧ ∀ j : Nat, (j : Int) < Kr k → mVK (KF k) np Mr j))) (hn : np ≤ np2) : ∀ k : Nat, k < 3 → K0 k = some (kA k) ∧ K1 k = some (kE k) ∧ Q (kA k) (kE k) (KF k) (KP k) ∧ Ki k = ki k ∧ (Ki k = 0 ∨ (Ki k = 1 ∧ Km k = ie k ∧ Kr k ≤ nr ∧ ∀ j : Nat, (j : Int) < Kr k → mVK (KF k) np2 Mr j)) := fun k hk => by
  obtain ⟨a, b, c, d, e⟩ := h k hk
  exact ⟨a, b, c, d, e.elim Or.inl (fun q => Or.inr ⟨q.1, q.2.1, q.2.2.1, fun j hj => mVK_np (q.2.2.2 j hj) hn⟩)⟩
theorem keepN {np se pp b1 b2 : Int} {Pw Pq Pl prr : Nat → Int} (h : ∀ j : Nat, (j : Int) < np → ((20 ≤ Pw j ∧ Pw j ≤ 120) ∧ (10 ≤ Pq j ∧ Pq j ≤ 120) ∧ (300 ≤ Pl j ∧ Pl j ≤ 2000)) ∧ Pq j = prr j) (f : ¬ (0 ≤ pp ∧ pp < np) ∨ ¬ (1 ≤ b1 ∧ b1 ≤ 2000) ∨ ¬ (0 ≤ b2 ∧ b2 ≤ Pq pp.toNat - 1) ∨ se = 10) : ¬ (0 ≤ pp ∧ pp < np) ∨ ¬ (0 ≤ b2 ∧ b2 ≤ prr pp.toNat - 1) ∨ 10 ≤ se ∨ ¬ (1 ≤ b1 ∧ b1 ≤ 2000) := by
  by_cases q : 0 ≤ pp ∧ pp < np
  · have e := (h pp.toNat (by omega)).2
    rw [← e]; omega
  · exact Or.inl q
theorem keepY {np se pp b1 b2 : Int} {Pw Pq Pl prr : Nat → Int} (h : ∀ j : Nat, (j : Int) < np → ((20 ≤ Pw j ∧ Pw j ≤ 120) ∧ (10 ≤ Pq j ∧ Pq j ≤ 120) ∧ (300 ≤ Pl j ∧ Pl j ≤ 2000)) ∧ Pq j = prr j) (f : 0 ≤ pp ∧ pp < np ∧ 1 ≤ b1 ∧ b1 ≤ 2000 ∧ 0 ≤ b2 ∧ b2 ≤ Pq pp.toNat - 1 ∧ se < 10) : 0 ≤ pp ∧ pp < np ∧ 0 ≤ b2 ∧ b2 ≤ prr pp.toNat - 1 ∧ se < 10 ∧ 1 ≤ b1 ∧ b1 ≤ 2000 := by
  have e := (h pp.toNat (by omega)).2
  rw [← e]; omega
theorem iV_done {ML : Nat → Nat → Nat → Int} {np nr rm pp b1 : Int} {Mw Mr Op Os Op2 Os2 : Nat → Int} (h : ∀ r : Nat, (r : Int) < nr → mV ML np Mw Mr Op Os r) (gp : Op2 rm.toNat = pp) (gs : Os2 rm.toNat = b1) (op : ∀ j : Nat, j ≠ rm.toNat → Op2 j = Op j) (os : ∀ j : Nat, j ≠ rm.toNat → Os2 j = Os j) (h1 : 0 ≤ pp ∧ pp < np) (h2 : b1 < Mr rm.toNat) : ∀ r : Nat, (r : Int) < nr → mV ML np Mw Mr Op2 Os2 r := fun r hr => by
  by_cases q : r = rm.toNat
  · subst q
    obtain ⟨a, b, c, -⟩ := h _ hr
    exact ⟨a, b, c, Or.inr ⟨by omega, by omega, by omega⟩⟩
  · unfold mV
    rw [op r q, os r q]; exact h r hr
theorem iV_on {ML : Nat → Nat → Nat → Int} {np nr z : Int} {Mw Mr Op Os Op2 Os2 K : Nat → Int} (h : ∀ r : Nat, (r : Int) < nr → mV ML np Mw Mr Op Os r) (kN : ∀ j : Nat, (j : Int) < nr → ((j : Int) < z ∧ Op2 j = K (4 * j) ∧ Os2 j = K (4 * j + 1)) ∨ Op2 j = -1) (hk : ∀ j : Nat, (j : Int) < z → mVK K np Mr j) : ∀ r : Nat, (r : Int) < nr → mV ML np Mw Mr Op2 Os2 r := fun r hr => by
  obtain ⟨a, b, c, -⟩ := h r hr
  refine ⟨a, b, c, ?_⟩
  rcases kN r hr with ⟨q1, q2, q3⟩ | q
  · rw [q2, q3]; exact (hk r q1).2.2.2.2
  · exact Or.inl q
theorem iV_room {ML : Nat → Nat → Nat → Int} {np nr nr2 : Int} {Mw Mw2 Mr Mr2 Op Op2 Os : Nat → Int} {Yl M6 : Nat → Nat → Int} (h : ∀ r : Nat, (r : Int) < nr → mV ML np Mw Mr Op Os r) (f1 : nr < 6) (f2 : nr2 = nr + 1) (hw : 1 ≤ Mw2 nr.toNat) (h_Mw2 : ∀ j, j < 7 → 0 ≤ Mw2 j ∧ Mw2 j ≤ 8) (vLz : ∀ j : Nat, (j : Int) < Mw2 nr.toNat → 50 ≤ Yl 0 j) (hR : Mr2 nr.toNat = psum (Yl 0) (Mw2 nr.toNat).toNat) (kw : ∀ j : Nat, j ≠ 6 → j ≠ nr.toNat → Mw2 j = Mw j) (kr : ∀ j : Nat, j ≠ nr.toNat → Mr2 j = Mr j) (kp : Op2 nr.toNat = -1) (kq : ∀ j : Nat, j ≠ nr.toNat → Op2 j = Op j) (h0 : 0 ≤ nr) : ∀ r : Nat, (r : Int) < nr2 → mV (up2 (up2 ML nr.toNat Yl) 6 M6) np Mw2 Mr2 Op2 Os r := fun r hr => by
  by_cases q : r = nr.toNat
  · subst q
    unfold mV
    rw [up2_n _ _ (show nr.toNat ≠ 6 by omega), up2_s]
    exact ⟨⟨hw, (h_Mw2 _ (by omega)).2⟩, vLz, hR, Or.inl kp⟩
  · unfold mV
    rw [up2_n _ _ (show r ≠ 6 by omega), up2_n _ _ q, kw r (by omega) q, kr r q, kq r q]
    exact h r (by omega)
theorem iK_room {K0 K1 : Nat → Option Nat} {kA kE : Nat → Nat} {Q : Nat → Nat → (Nat → Int) → va_W → Prop} {KF : Nat → Nat → Int} {KP : Nat → va_W} {Ki ki Km ie Kr Mr Mr2 : Nat → Int} {np nr nr2 : Int} (h : ∀ k : Nat, k < 3 → K0 k = some (kA k) ∧ K1 k = some (kE k) ∧ Q (kA k) (kE k) (KF k) (KP k) ∧ Ki k = ki k ∧ (Ki k = 0 ∨ (Ki k = 1 ∧ Km k = ie k ∧ Kr k ≤ nr ∧ ∀ j : Nat, (j : Int) < Kr k → mVK (KF k) np Mr j))) (kr : ∀ j : Nat, j ≠ nr.toNat → Mr2 j = Mr j) (hn : nr ≤ nr2) : ∀ k : Nat, k < 3 → K0 k = some (kA k) ∧ K1 k = some (kE k) ∧ Q (kA k) (kE k) (KF k) (KP k) ∧ Ki k = ki k ∧ (Ki k = 0 ∨ (Ki k = 1 ∧ Km k = ie k ∧ Kr k ≤ nr2 ∧ ∀ j : Nat, (j : Int) < Kr k → mVK (KF k) np Mr2 j)) := fun k hk => by
  obtain ⟨a, b, c, d, e⟩ := h k hk
  refine ⟨a, b, c, d, e.elim Or.inl (fun q => Or.inr ⟨q.1, q.2.1, by have := q.2.2.1; omega, fun j hj => ?_⟩)⟩
  have hh := q.2.2.2 j hj
  unfold mVK at hh ⊢
  rw [kr j (by have := q.2.2.1; omega)]
  exact hh
theorem iK_img {K0 K1 : Nat → Option Nat} {kA kE : Nat → Nat} {Q : Nat → Nat → (Nat → Int) → va_W → Prop} {KF : Nat → Nat → Int} {KP : Nat → va_W} {Ki ki Km ie Kr Mr Kr2 Km2 Ki2 Kp2 Op Os Ob Oh Mw : Nat → Int} {ML : Nat → Nat → Nat → Int} {np nr se : Int} {i kr0 ke0 : Nat} {w : va_W} (h : ∀ k : Nat, k < 3 → K0 k = some (kA k) ∧ K1 k = some (kE k) ∧ Q (kA k) (kE k) (KF k) (KP k) ∧ Ki k = ki k ∧ (Ki k = 0 ∨ (Ki k = 1 ∧ Km k = ie k ∧ Kr k ≤ nr ∧ ∀ j : Nat, (j : Int) < Kr k → mVK (KF k) np Mr j))) (hkr : kr0 = kA i) (hke : ke0 = kE i) (hq : Q kr0 ke0 Kp2 w) (iV : ∀ r : Nat, (r : Int) < nr → mV ML np Mw Mr Op Os r) (h_Op : ∀ j, j < 6 → -1 ≤ Op j ∧ Op j ≤ 3) (h_Os : ∀ j, j < 6 → 0 ≤ Os j ∧ Os j ≤ 4799) (h_Ob : ∀ j, j < 6 → 0 ≤ Ob j ∧ Ob j ≤ 119) (h_Oh : ∀ j, j < 6 → 0 ≤ Oh j ∧ Oh j ≤ 240) (kI : ∀ j : Nat, (j : Int) < nr → Kp2 (4 * j) = Op j ∧ Kp2 (4 * j + 1) = Os j ∧ Kp2 (4 * j + 2) = Ob j ∧ Kp2 (4 * j + 3) = Oh j) (gr : Kr2 i = nr) (gm : Km2 i = se) (gi : Ki2 i = 1) (orr : ∀ j : Nat, j ≠ i → Kr2 j = Kr j) (om : ∀ j : Nat, j ≠ i → Km2 j = Km j) (oi : ∀ j : Nat, j ≠ i → Ki2 j = Ki j) (hi : i < 3) (h6 : nr ≤ 6) : ∀ k : Nat, k < 3 → K0 k = some (kA k) ∧ K1 k = some (kE k) ∧ Q (kA k) (kE k) (up2 KF i Kp2 k) (putW KP i w k) ∧ Ki2 k = updI ki i 1 k ∧ (Ki2 k = 0 ∨ (Ki2 k = 1 ∧ Km2 k = updI ie i se k ∧ Kr2 k ≤ nr ∧ ∀ j : Nat, (j : Int) < Kr2 k → mVK (up2 KF i Kp2 k) np Mr j)) := fun k hk => by
  obtain ⟨a, b, c, d, e⟩ := h k hk
  by_cases q : k = i
  · subst q
    rw [up2_s, putW_s, updI_s, updI_s, ← hkr, ← hke]
    refine ⟨by rw [hkr]; exact a, by rw [hke]; exact b, hq, gi, Or.inr ⟨gi, gm, by omega, fun j hj => ?_⟩⟩
    rw [gr] at hj
    obtain ⟨k1, k2, k3, k4⟩ := kI j hj
    obtain ⟨-, -, -, v4⟩ := iV j hj
    unfold mVK
    rw [k1, k2, k3, k4]
    exact ⟨h_Op j (by omega), h_Os j (by omega), h_Ob j (by omega), h_Oh j (by omega), v4⟩
  · rw [up2_n _ _ q, putW_n _ _ q, updI_n _ _ q, updI_n _ _ q, oi k q, om k q, orr k q]
    exact ⟨a, b, c, d, e⟩
theorem agrR_rf (A : List (Nat → Int)) : agrR A A := ⟨rfl, rfl, rfl, fun _ _ => rfl, fun _ _ => rfl, fun _ _ => rfl, fun _ _ => rfl, fun _ _ => rfl, fun _ _ => rfl, fun _ _ => rfl, fun _ _ => rfl, fun _ _ => rfl, fun _ _ => rfl, fun _ _ => rfl, fun _ _ => rfl, fun _ _ => rfl⟩
theorem iC_6 {ML : Nat → Nat → Nat → Int} {nr : Int} {Mw Mw2 Mo Mo2 Ms Ms2 : Nat → Int} {RC : Nat → List (Nat → Int)} {F : Nat → Nat → Int} (h : ∀ r : Nat, (r : Int) < nr → mC ML Mw Mo Ms RC r) (kw : ∀ j : Nat, j ≠ 6 → Mw2 j = Mw j) (ko : ∀ j : Nat, j ≠ 6 → Mo2 j = Mo j) (ks : ∀ j : Nat, j ≠ 6 → Ms2 j = Ms j) (h6 : nr ≤ 6) : ∀ r : Nat, (r : Int) < nr → mC (up2 ML 6 F) Mw2 Mo2 Ms2 RC r := fun r hr => by
  unfold mC
  rw [kw r (by omega), ko r (by omega), ks r (by omega), up2_n _ _ (show r ≠ 6 by omega)]
  exact h r hr
theorem iC_room {ML : Nat → Nat → Nat → Int} {nr nr2 : Int} {Mw Mw2 Mo Mo2 Ms Ms2 : Nat → Int} {RC : Nat → List (Nat → Int)} {Y F : Nat → Nat → Int} {S : List (Nat → Int)} (h : ∀ r : Nat, (r : Int) < nr → mC ML Mw Mo Ms RC r) (f2 : nr2 = nr + 1) (kw : ∀ j : Nat, j ≠ 6 → j ≠ nr.toNat → Mw2 j = Mw j) (ko : ∀ j : Nat, j ≠ 6 → j ≠ nr.toNat → Mo2 j = Mo j) (ks : ∀ j : Nat, j ≠ 6 → j ≠ nr.toNat → Ms2 j = Ms j) (hA : agrR [cnC (Mw2 nr.toNat) (Mo2 nr.toNat) (Ms2 nr.toNat), Y 0, Y 1, Y 2, Y 3, zQ, Y 4, Y 5, Y 6, Y 7, Y 8, Y 9, Y 10, Y 11, Y 12] S) (h6 : nr < 6) (h0 : 0 ≤ nr) : ∀ r : Nat, (r : Int) < nr2 → mC (up2 (up2 ML nr.toNat Y) 6 F) Mw2 Mo2 Ms2 (va_up RC nr.toNat S) r := fun r hr => by
  unfold mC
  by_cases q : r = nr.toNat
  · subst q
    rw [up2_n _ _ (show nr.toNat ≠ 6 by omega), up2_s, show va_up RC nr.toNat S nr.toNat = S from if_pos rfl]
    exact hA
  · rw [kw r (by omega) q, ko r (by omega) q, ks r (by omega) q, up2_n _ _ (show r ≠ 6 by omega), up2_n _ _ q, show va_up RC nr.toNat S r = RC r from if_neg q]
    exact h r (by omega)
