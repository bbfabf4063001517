/-! ===== the JUDGE of a ROOM and a PAPER ===== -/
def waS (S : List (Nat → Int)) (pl : Int) : Int := wq (S.getD 1 zQ) pl (S.getD 0 zQ 0).toNat
def xwS (S : List (Nat → Int)) (pl : Int) : Int := pl - psum (S.getD 1 zQ) (waS S pl).toNat
def foS (S : List (Nat → Int)) (pl : Int) : Int := fOq (S.getD 6 zQ) (S.getD 7 zQ) (S.getD 8 zQ) (waS S pl) (xwS S pl) (S.getD 0 zQ 1).toNat
def ioq (U : Nat → Int) (i : Int) : Int := if i = -1 then 0 else U i.toNat
def smS (S : List (Nat → Int)) (st : Int) : Int := hgS S st - (ioq (S.getD 10 zQ) (foS S st) - ioq (S.getD 9 zQ) (foS S st))
def bdQ (rd wd dr : Int) : Int := if ¬ dr = 2 ∧ (¬ rd % wd = 0 ∨ (dr = 1 ∧ ((rd + wd - 1) / wd) % 2 = 1)) then 1 else 0
def seS (S : List (Nat → Int)) (pF : Nat → Int) (st : Int) : Int := if bdQ (rdS S) (pF 0) (pF 1) = 1 then smS S st else 0
def nwQ (rd wd : Int) : Int := if rd - ((rd + wd - 1) / wd - 1) * wd < 10 then 50 else 0
def spS (S : List (Nat → Int)) (s : Nat) : Int := (psum (S.getD 1 zQ) (S.getD 12 zQ s).toNat + S.getD 13 zQ s) % rdS S
def aoS (S : List (Nat → Int)) (pl lo up : Int) : Int := aOq (S.getD 6 zQ) (S.getD 7 zQ) (S.getD 8 zQ) (S.getD 9 zQ) (S.getD 10 zQ) (waS S pl) (xwS S pl) lo up (S.getD 0 zQ 1).toNat
def fgT (a e v hg fh : Int) : Int := if 0 ≤ e ∧ v < fh ∧ 0 ≤ e - v ∧ e - v + fh ≤ hg ∧ a = 0 then 1 else 0
def fvq (hg y of ff rp : Int) : Int := (hg - y + of - ff) % rp
def fgP (S : List (Nat → Int)) (pF : Nat → Int) (rp of pl y : Int) : Int := if pF 1 = 2 then (if aoS S pl (y - 1) (y + 1) = 0 then 1 else 0) else fgT (aoS S pl (hgS S pl - (hgS S pl - y - fvq (hgS S pl) y of (pF 2) rp + pF 3)) (hgS S pl - (hgS S pl - y - fvq (hgS S pl) y of (pF 2) rp))) (hgS S pl - y) (fvq (hgS S pl) y of (pF 2) rp) (hgS S pl) (pF 3)
def fgS (S : List (Nat → Int)) (pF : Nat → Int) (rp of : Int) (s : Nat) : Int := fgP S pF rp of (spS S s) (S.getD 14 zQ s)
def faS (S : List (Nat → Int)) (st : Int) (s : Nat) : Int := (spS S s - st) % rdS S
def inQ (far wd rd : Int) : Int := if 5 ≤ far % wd ∧ 5 ≤ wd - far % wd ∧ 5 ≤ rd - far then 1 else 0
def ofQ (dr rp ba k : Int) : Int := if dr = 1 ∧ k = 1 then (ba + rp / 2) % rp else ba % rp
def itS (S : List (Nat → Int)) (wd st od : Int) (s : Nat) : Int := if inQ (faS S st s) wd (rdS S) = 1 ∧ (faS S st s / wd) % 2 = od then 1 else 0
def whS (S : List (Nat → Int)) (pF : Nat → Int) (rp st ba : Int) (s : Nat) : Int := if inQ (faS S st s) (pF 0) (rdS S) = 1 ∧ fgS S pF rp (ofQ (pF 1) rp ba ((faS S st s / pF 0) % 2)) s = 1 then 1 else 0
def ftS (S : List (Nat → Int)) (pF : Nat → Int) (rp st ba : Int) : Int := seS S pF st + nwQ (rdS S) (pF 0) + 100 * cts (ntf (whS S pF rp st ba)) (S.getD 0 zQ 2).toNat
def brS (S : List (Nat → Int)) (pF : Nat → Int) (rp st ba : Int) : Int := bts (ntf (whS S pF rp st ba)) (S.getD 0 zQ 2).toNat
theorem ofQ_B {dr rp ba k : Int} (h : 0 < rp) : 0 ≤ ofQ dr rp ba k ∧ ofQ dr rp ba k < rp := by
  unfold ofQ
  split
  · exact ⟨Int.emod_nonneg _ (by omega), Int.emod_lt_of_pos _ h⟩
  · exact ⟨Int.emod_nonneg _ (by omega), Int.emod_lt_of_pos _ h⟩
theorem bdQ_B (a b c : Int) : 0 ≤ bdQ a b c ∧ bdQ a b c ≤ 1 := by unfold bdQ; split <;> omega
theorem nwQ_B (a b : Int) : 0 ≤ nwQ a b ∧ nwQ a b ≤ 50 := by unfold nwQ; split <;> omega
/-- the whole stands by bits, out of those within even and odd STRIPS -/
theorem wh_bits {S : List (Nat → Int)} {pF : Nat → Int} {rp st ba : Int} {n : Nat} (h : n ≤ 4) : orq (anq (bts (itS S (pF 0) st 0) n) (bts (fgS S pF rp (ofQ (pF 1) rp ba 0)) n)) (anq (bts (itS S (pF 0) st 1) n) (bts (fgS S pF rp (ofQ (pF 1) rp ba 1)) n)) = bts (whS S pF rp st ba) n := by
  rw [bts_and h, bts_and h, bts_or h]
  refine bts_c n (fun s _ => ?_)
  rw [orf_1, adf_1, adf_1]
  unfold itS whS
  rcases Int.emod_two_eq (faS S st s / pF 0) with e | e <;> rw [e] <;> by_cases q : inQ (faS S st s) (pF 0) (rdS S) = 1
  · by_cases z : fgS S pF rp (ofQ (pF 1) rp ba 0) s = 1 <;> simp [q, z]
  · simp [q]
  · by_cases z : fgS S pF rp (ofQ (pF 1) rp ba 1) s = 1 <;> simp [q, z]
  · simp [q]
/-! rooms that agree are judged alike -/
theorem waS_c {A S : List (Nat → Int)} {pl : Int} (h : agrR A S) : waS A pl = waS S pl := by
  obtain ⟨c0, c1, c2, h1, h2, h3, h4, h6, h7, h8, h9, h10, h11, h12, h13, h14⟩ := h
  unfold waS
  rw [← c0]
  exact wq_c _ (fun j hj => h1 j (by omega))
theorem waS_B {A : List (Nat → Int)} (pl : Int) (hn : 1 ≤ A.getD 0 zQ 0) : 0 ≤ waS A pl ∧ waS A pl < A.getD 0 zQ 0 := by
  have b := wq_B (L := A.getD 1 zQ) (pl := pl) (A.getD 0 zQ 0).toNat
  have b2 := b.2 (by omega)
  unfold waS
  exact ⟨b.1, by omega⟩
theorem xwS_c {A S : List (Nat → Int)} {pl : Int} (h : agrR A S) (hn : 1 ≤ A.getD 0 zQ 0) : xwS A pl = xwS S pl := by
  have b := waS_B (A := A) pl hn
  unfold xwS
  rw [← waS_c h]
  obtain ⟨c0, c1, c2, h1, h2, h3, h4, h6, h7, h8, h9, h10, h11, h12, h13, h14⟩ := h
  rw [psum_c (F := A.getD 1 zQ) (G := S.getD 1 zQ) _ (fun j hj => h1 j (by omega))]
theorem foS_c {A S : List (Nat → Int)} {pl : Int} (h : agrR A S) (hn : 1 ≤ A.getD 0 zQ 0) : foS A pl = foS S pl := by
  unfold foS
  rw [← waS_c h, ← xwS_c h hn]
  obtain ⟨c0, c1, c2, h1, h2, h3, h4, h6, h7, h8, h9, h10, h11, h12, h13, h14⟩ := h
  rw [← c1]
  exact fOq_c _ (fun j hj => ⟨h6 j (by omega), h7 j (by omega), h8 j (by omega)⟩)
theorem aoS_c {A S : List (Nat → Int)} {pl lo up : Int} (h : agrR A S) (hn : 1 ≤ A.getD 0 zQ 0) : aoS A pl lo up = aoS S pl lo up := by
  unfold aoS
  rw [← waS_c h, ← xwS_c h hn]
  obtain ⟨c0, c1, c2, h1, h2, h3, h4, h6, h7, h8, h9, h10, h11, h12, h13, h14⟩ := h
  rw [← c1]
  exact aOq_c _ (fun j hj => ⟨h6 j (by omega), h7 j (by omega), h8 j (by omega), h9 j (by omega), h10 j (by omega)⟩)
theorem smS_c {A S : List (Nat → Int)} {st : Int} (h : agrR A S) (hn : 1 ≤ A.getD 0 zQ 0) : smS A st = smS S st := by
  have b : -1 ≤ foS A st ∧ foS A st < ((A.getD 0 zQ 1).toNat : Int) := fOq_B _
  unfold smS
  rw [hgS_c h hn, ← foS_c h hn]
  obtain ⟨c0, c1, c2, h1, h2, h3, h4, h6, h7, h8, h9, h10, h11, h12, h13, h14⟩ := h
  by_cases q : foS A st = -1
  · unfold ioq; rw [if_pos q, if_pos q, if_pos q, if_pos q]
  · unfold ioq; rw [if_neg q, if_neg q, if_neg q, if_neg q, h10 _ (by omega), h9 _ (by omega)]
theorem seS_c {A S : List (Nat → Int)} {pF : Nat → Int} {st : Int} (h : agrR A S) (hn : 1 ≤ A.getD 0 zQ 0) : seS A pF st = seS S pF st := by
  unfold seS
  rw [rdS_c h, smS_c h hn]
theorem spS_c {A S : List (Nat → Int)} {s : Nat} (h : agrR A S) (hs : (s : Int) < A.getD 0 zQ 2) (hw : A.getD 12 zQ s < A.getD 0 zQ 0) : spS A s = spS S s := by
  unfold spS
  rw [rdS_c h]
  obtain ⟨c0, c1, c2, h1, h2, h3, h4, h6, h7, h8, h9, h10, h11, h12, h13, h14⟩ := h
  rw [psum_c (F := A.getD 1 zQ) (G := S.getD 1 zQ) _ (fun j hj => h1 j (by omega)), h12 s hs, h13 s hs]
theorem fgP_c {A S : List (Nat → Int)} {pF : Nat → Int} {rp of pl y : Int} (h : agrR A S) (hn : 1 ≤ A.getD 0 zQ 0) : fgP A pF rp of pl y = fgP S pF rp of pl y := by
  unfold fgP
  rw [hgS_c h hn, aoS_c h hn, aoS_c h hn]
theorem fgS_c {A S : List (Nat → Int)} {pF : Nat → Int} {rp of : Int} {s : Nat} (h : agrR A S) (hn : 1 ≤ A.getD 0 zQ 0) (hs : (s : Int) < A.getD 0 zQ 2) (hw : A.getD 12 zQ s < A.getD 0 zQ 0) : fgS A pF rp of s = fgS S pF rp of s := by
  unfold fgS
  rw [spS_c h hs hw, fgP_c h hn]
  obtain ⟨c0, c1, c2, h1, h2, h3, h4, h6, h7, h8, h9, h10, h11, h12, h13, h14⟩ := h
  rw [h14 s hs]
theorem whS_c {A S : List (Nat → Int)} {pF : Nat → Int} {rp st ba : Int} {s : Nat} (h : agrR A S) (hn : 1 ≤ A.getD 0 zQ 0) (hs : (s : Int) < A.getD 0 zQ 2) (hw : A.getD 12 zQ s < A.getD 0 zQ 0) : whS A pF rp st ba s = whS S pF rp st ba s := by
  unfold whS faS
  rw [spS_c h hs hw, rdS_c h, fgS_c h hn hs hw]
theorem ntw_c {A S : List (Nat → Int)} {pF : Nat → Int} {rp st ba : Int} (h : agrR A S) (hn : 1 ≤ A.getD 0 zQ 0) (hw : ∀ s : Nat, (s : Int) < A.getD 0 zQ 2 → A.getD 12 zQ s < A.getD 0 zQ 0) : ∀ s : Nat, s < (A.getD 0 zQ 2).toNat → (ntf (whS A pF rp st ba) s = 1 ↔ ntf (whS S pF rp st ba) s = 1) := fun s hs => by
  rw [ntf_1, ntf_1, whS_c h hn (by omega) (hw s (by omega))]
theorem brS_c {A S : List (Nat → Int)} {pF : Nat → Int} {rp st ba : Int} (h : agrR A S) (hn : 1 ≤ A.getD 0 zQ 0) (hw : ∀ s : Nat, (s : Int) < A.getD 0 zQ 2 → A.getD 12 zQ s < A.getD 0 zQ 0) : brS A pF rp st ba = brS S pF rp st ba := by
  unfold brS
  rw [bts_c _ (ntw_c h hn hw)]
  obtain ⟨c0, c1, c2, -⟩ := h
  rw [← c2]
theorem ftS_c {A S : List (Nat → Int)} {pF : Nat → Int} {rp st ba : Int} (h : agrR A S) (hn : 1 ≤ A.getD 0 zQ 0) (hw : ∀ s : Nat, (s : Int) < A.getD 0 zQ 2 → A.getD 12 zQ s < A.getD 0 zQ 0) : ftS A pF rp st ba = ftS S pF rp st ba := by
  unfold ftS
  rw [seS_c h hn, rdS_c h, cts_c _ (ntw_c h hn hw)]
  obtain ⟨c0, c1, c2, -⟩ := h
  rw [← c2]
/-! every OPENING has a height, every stand a WALL -/
def okR (S : List (Nat → Int)) : Prop := 0 ≤ S.getD 0 zQ 0 ∧ 0 ≤ S.getD 0 zQ 1 ∧ 0 ≤ S.getD 0 zQ 2 ∧ (∀ j : Nat, (j : Int) < S.getD 0 zQ 1 → S.getD 9 zQ j < S.getD 10 zQ j) ∧ (∀ j : Nat, (j : Int) < S.getD 0 zQ 2 → 0 ≤ S.getD 12 zQ j ∧ S.getD 12 zQ j < S.getD 0 zQ 0)
theorem do_c {K V : Nat → Int} {nw : Int} {L H Q : Nat → Int} {t : Int} (ht : 0 ≤ t) (h : doC K V nw L H Q t < 0) : 50 ≤ V (t + 1 + 1 + 1 + 1).toNat := by
  unfold doC at h
  split at h
  · split at h
    · split at h
      · split at h
        · rename_i q; exact q.2.1
        · omega
      · omega
    · omega
  · omega
theorem wi_c {K V : Nat → Int} {nw : Int} {L H Q : Nat → Int} {t : Int} (ht : 0 ≤ t) (h : wiC K V nw L H Q t < 0) : V (t + 1 + 1 + 1 + 1).toNat + 1 ≤ V (t + 1 + 1 + 1 + 1 + 1).toNat := by
  unfold wiC at h
  split at h
  · split at h
    · split at h
      · split at h
        · split at h
          · rename_i q; exact q.2.1
          · omega
        · omega
      · omega
    · omega
  · omega
theorem st_c {K V : Nat → Int} {nw : Int} {L : Nat → Int} {t : Int} (ht : 0 ≤ t) (h : stC K V nw L t < 0) : 0 ≤ V (t + 1).toNat ∧ V (t + 1).toNat ≤ nw - 1 := by
  unfold stC at h
  split at h
  · rename_i q; exact q.2
  · omega
theorem ok_up {O U : Nat → Int} {n a b : Int} (h0 : 0 ≤ n) (h : ∀ j : Nat, (j : Int) < n → O j < U j) (hab : a < b) : ∀ j : Nat, (j : Int) < n + 1 → updI O n.toNat a j < updI U n.toNat b j := fun j hj => by
  by_cases q : j = n.toNat
  · rw [q, updI_s, updI_s]; exact hab
  · rw [updI_n _ _ q, updI_n _ _ q]; exact h j (by omega)
theorem ok_st {G : Nat → Int} {n a m : Int} (h0 : 0 ≤ n) (h : ∀ j : Nat, (j : Int) < n → 0 ≤ G j ∧ G j < m) (ha : 0 ≤ a ∧ a < m) : ∀ j : Nat, (j : Int) < n + 1 → 0 ≤ updI G n.toNat a j ∧ updI G n.toNat a j < m := fun j hj => by
  by_cases q : j = n.toNat
  · rw [q, updI_s]; exact ha
  · rw [updI_n _ _ q]; exact h j (by omega)
theorem okR_ln {K V : Nat → Int} {S : List (Nat → Int)} {t : Int} (ht : 0 ≤ t) (h : okR S) (hc : lnC K V S t < 0) : okR (lnS K V S t) := by
  have h' := h
  obtain ⟨a0, a1, a2, a3, a4⟩ := h'
  unfold lnS
  by_cases k0 : K t.toNat = 0
  · rw [if_pos k0]
    refine ⟨?_, a1, a2, a3, fun j hj => ?_⟩
    · show 0 ≤ S.getD 0 zQ 0 + 1
      omega
    · have q := a4 j hj
      refine ⟨q.1, ?_⟩
      show S.getD 12 zQ j < S.getD 0 zQ 0 + 1
      omega
  · rw [if_neg k0]
    by_cases k1 : K t.toNat = 1
    · rw [if_pos k1]
      by_cases h8 : S.getD 0 zQ 1 < 8
      · rw [lnC_d1 k0 k1 h8] at hc
        have v := do_c ht hc
        refine ⟨a0, ?_, a2, ?_, a4⟩
        · show 0 ≤ S.getD 0 zQ 1 + 1
          omega
        · exact ok_up a1 a3 (by omega)
      · rw [lnC_d0 k0 k1 h8] at hc; omega
    · rw [if_neg k1]
      by_cases k2 : K t.toNat = 2
      · rw [if_pos k2]
        by_cases h8 : S.getD 0 zQ 1 < 8
        · rw [lnC_i1 k0 k1 k2 h8] at hc
          have v := wi_c ht hc
          refine ⟨a0, ?_, a2, ?_, a4⟩
          · show 0 ≤ S.getD 0 zQ 1 + 1
            omega
          · exact ok_up a1 a3 (by omega)
        · rw [lnC_i0 k0 k1 k2 h8] at hc; omega
      · rw [if_neg k2]
        by_cases k3 : K t.toNat = 3
        · rw [if_pos k3]; exact h
        · rw [if_neg k3]
          by_cases k4 : K t.toNat = 4
          · by_cases h4 : S.getD 0 zQ 2 < 4
            · rw [lnC_s1 k0 k1 k2 k3 k4 h4] at hc
              have v := st_c ht hc
              refine ⟨a0, a1, ?_, a3, ?_⟩
              · show 0 ≤ S.getD 0 zQ 2 + 1
                omega
              · exact ok_st a2 a4 ⟨v.1, (show V (t + 1).toNat < S.getD 0 zQ 0 by omega)⟩
            · rw [lnC_s0 k0 k1 k2 k3 k4 h4] at hc; omega
          · rw [lnC_n k0 k1 k2 k3 k4] at hc; omega
theorem okR_prs {K V P : Nat → Int} {n : Int} : ∀ (f : Nat) (t : Int) (S : List (Nat → Int)), 0 ≤ t → okR S → okR (prs K V P n f t S).2 := by
  intro f
  induction f with
  | zero => intro t S _ h; exact h
  | succ f ih =>
    intro t S ht h
    by_cases h1 : K t.toNat = 10
    · rw [prs_over h1]; exact h
    · by_cases h2 : lnC K V S t < 0
      · rw [prs_step h1 h2]; exact ih _ _ (by omega) (okR_ln ht h h2)
      · rw [prs_fail h1 h2]; exact h
theorem okR_p (B : Nat → Int) (n : Int) : okR (pRoom B n) := okR_prs 401 0 S00 (Int.le_refl _) ⟨Int.le_refl _, Int.le_refl _, Int.le_refl _, fun j hj => absurd hj (by show ¬ (j : Int) < 0; omega), fun j hj => absurd hj (by show ¬ (j : Int) < 0; omega)⟩
theorem okR_w {A S : List (Nat → Int)} (h : agrR A S) (ho : okR S) : ∀ s : Nat, (s : Int) < A.getD 0 zQ 2 → 0 ≤ A.getD 12 zQ s ∧ A.getD 12 zQ s < A.getD 0 zQ 0 := by
  obtain ⟨c0, c1, c2, h1, h2, h3, h4, h6, h7, h8, h9, h10, h11, h12, h13, h14⟩ := h
  intro j hj
  rw [h12 j hj, c0]
  exact ho.2.2.2.2 j (by rw [← c2]; exact hj)
theorem okR_o {A S : List (Nat → Int)} (h : agrR A S) (ho : okR S) : ∀ s : Nat, (s : Int) < A.getD 0 zQ 1 → A.getD 9 zQ s < A.getD 10 zQ s := by
  obtain ⟨c0, c1, c2, h1, h2, h3, h4, h6, h7, h8, h9, h10, h11, h12, h13, h14⟩ := h
  intro j hj
  rw [h9 j hj, h10 j hj]
  exact ho.2.2.2.1 j (by rw [← c1]; exact hj)
theorem fm_p {a b : Int} (h : 0 ≤ a) : a.tmod b = a % b := Int.tmod_eq_emod_of_nonneg h
theorem fm_z {a b : Int} (h : a.tmod b = 0) : a % b = 0 := Int.emod_eq_zero_of_dvd (Int.dvd_of_tmod_eq_zero h)
theorem fm_n {a b : Int} (hb : 0 < b) (h : a < 0) (hn : ¬ a.tmod b = 0) : a.tmod b + b = a % b := by
  have t := tmod_bounds (a := a) hb
  have h4 := Int.mul_tdiv_add_tmod a b
  have hm : a.tmod b ≤ 0 := by
    have q := Int.tmod_nonneg (a := -a) b (by omega)
    rw [Int.neg_tmod] at q
    omega
  have e1 : b * (a.tdiv b - 1) = b * a.tdiv b - b := by rw [Int.mul_sub, Int.mul_one]
  have q := Int.ediv_emod_unique (a := a) (b := b) (r := a.tmod b + b) (q := a.tdiv b - 1) hb
  exact (q.mpr ⟨by omega, by omega, by omega⟩).2.symm
theorem left_q {a b : Int} : a - a / b * b = a % b := by
  have h := Int.mul_ediv_add_emod a b
  rw [Int.mul_comm] at h
  omega
theorem fv_m (e o f r : Int) : (e + o % r - f) % r = (e + o - f) % r := by
  have h := Int.mul_ediv_add_emod o r
  rw [show e + o % r - f = (e + o - f) + r * (-(o / r)) by rw [Int.mul_neg]; omega, Int.add_mul_emod_self_left]
theorem whS_0 {S : List (Nat → Int)} {pF : Nat → Int} {rp st ba : Int} {s : Nat} (h : inQ (faS S st s) (pF 0) (rdS S) = 0) : 0 = whS S pF rp st ba s := by
  unfold whS
  rw [h, if_neg (fun z => absurd z.1 (by decide))]
theorem whS_1 {S : List (Nat → Int)} {pF : Nat → Int} {rp st ba v : Int} {s : Nat} (h : inQ (faS S st s) (pF 0) (rdS S) = 1) (hv : v = 0 ∨ v = 1) (hg : fgS S pF rp (ofQ (pF 1) rp ba ((faS S st s / pF 0) % 2)) s = v) : v = whS S pF rp st ba s := by
  unfold whS
  rw [h, hg]
  rcases hv with rfl | rfl
  · rw [if_neg (fun z => absurd z.2 (by decide))]
  · rw [if_pos ⟨rfl, rfl⟩]
theorem ft_pF {S : List (Nat → Int)} {pF : Nat → Int} {pw pd pf pg rp st ba : Int} (h : pw = pF 0 ∧ pd = pF 1 ∧ pf = pF 2 ∧ pg = pF 3) : ftS S (pF4 pw pd pf pg) rp st ba = ftS S pF rp st ba := by
  obtain ⟨rfl, rfl, rfl, rfl⟩ := h
  rfl
theorem br_pF {S : List (Nat → Int)} {pF : Nat → Int} {pw pd pf pg rp st ba : Int} (h : pw = pF 0 ∧ pd = pF 1 ∧ pf = pF 2 ∧ pg = pF 3) : brS S (pF4 pw pd pf pg) rp st ba = brS S pF rp st ba := by
  obtain ⟨rfl, rfl, rfl, rfl⟩ := h
  rfl
theorem se_pF {S : List (Nat → Int)} {pF : Nat → Int} {pw pd pf pg st : Int} (h : pw = pF 0 ∧ pd = pF 1 ∧ pf = pF 2 ∧ pg = pF 3) : seS S (pF4 pw pd pf pg) st = seS S pF st := by
  obtain ⟨rfl, rfl, rfl, rfl⟩ := h
  rfl
theorem fa_m {y b1 A B C D : Int} {P : Prop} [Decidable P] (hP : P) (hy : y = if P ∧ 0 ≤ b1 ∧ b1 ≤ 3 then (if b1 = 0 then A else if b1 = 1 then B else if b1 = 2 then C else D) else -1) : y = if b1 = 0 then A else if b1 = 1 then B else if b1 = 2 then C else if b1 = 3 then D else -1 := by
  by_cases q : 0 ≤ b1 ∧ b1 ≤ 3
  · rw [if_pos ⟨hP, q⟩] at hy
    rcases (show b1 = 0 ∨ b1 = 1 ∨ b1 = 2 ∨ b1 = 3 by omega) with rfl | rfl | rfl | rfl <;> exact hy
  · rw [if_neg (fun z => q z.2)] at hy
    rw [if_neg (by omega), if_neg (by omega), if_neg (by omega), if_neg (by omega)]; exact hy
theorem iO_new {P : List (Nat → Int) → Prop} {RC : Nat → List (Nat → Int)} {v : List (Nat → Int)} {n n2 : Int} (h : ∀ r : Nat, (r : Int) < n → P (RC r)) (hv : P v) (h0 : 0 ≤ n) (hn : n2 = n + 1) : ∀ r : Nat, (r : Int) < n2 → P (va_up RC n.toNat v r) := fun r hr => by
  by_cases q : r = n.toNat
  · subst q
    rw [show va_up RC n.toNat v n.toNat = v from if_pos rfl]; exact hv
  · rw [show va_up RC n.toNat v r = RC r from if_neg q]; exact h r (by omega)
