/-! ===== the best start, as both find it ===== -/
def fbq (W : Int → Int) (s : Int) : Nat → Int × Int
  | 0 => (0, 0)
  | k + 1 => if (fbq W s k).2 < W (s * (k : Int)) then (s * (k : Int), W (s * (k : Int))) else fbq W s k
def bsq (A : Int → Int) (M : Int → Int × Int) (n s : Int) : Nat → Int × Int × Int
  | 0 => (0, 0, 1000000)
  | k + 1 => if A (s * (k : Int)) + 100 * (n - (M (s * (k : Int))).2) < (bsq A M n s k).2.2 then (s * (k : Int), (M (s * (k : Int))).1, A (s * (k : Int)) + 100 * (n - (M (s * (k : Int))).2)) else bsq A M n s k
def nst (r s : Int) : Int := (r + s - 1) / s
theorem nst_e {r s i : Int} {k : Nat} (hs : 0 < s) (hi : i = s * (k : Int)) (h1 : r ≤ i) (h2 : i < r + s) : (nst r s).toNat = k := by
  have q := Int.ediv_emod_unique (a := r + s - 1) (b := s) (r := r + s - 1 - i) (q := (k : Int)) hs
  have e : (r + s - 1) / s = (k : Int) := (q.mpr ⟨by rw [← hi]; omega, by omega, by omega⟩).1
  unfold nst
  rw [e]; omega
theorem nst_1 {r s : Int} (hs : 0 < s) (hr : 0 < r) : 1 ≤ (nst r s).toNat := by
  have h : 1 ≤ (r + s - 1) / s := (Int.le_ediv_iff_mul_le hs).mpr (by omega)
  unfold nst
  omega
theorem nst_lt {r s : Int} {k : Nat} (hs : 0 < s) (h : k < (nst r s).toNat) : s * (k : Int) < r := by
  unfold nst at h
  have h2 : (k : Int) + 1 ≤ (r + s - 1) / s := by omega
  have h3 := (Int.le_ediv_iff_mul_le hs).mp h2
  rw [Int.add_mul, Int.one_mul, Int.mul_comm] at h3
  omega
theorem mul_up (s : Int) (k : Nat) : s * ((k + 1 : Nat) : Int) = s * (k : Int) + s := by
  rw [Int.natCast_add, Int.mul_add]
  show s * (k : Int) + s * 1 = _
  rw [Int.mul_one]
theorem fbq_B {W : Int → Int} {s n : Int} (hW : ∀ b, 0 ≤ W b ∧ W b ≤ n) (hn : 0 ≤ n) : ∀ k : Nat, 0 ≤ (fbq W s k).2 ∧ (fbq W s k).2 ≤ n
  | 0 => ⟨Int.le_refl _, hn⟩
  | k + 1 => by
    have q := fbq_B (s := s) hW hn k
    unfold fbq
    split
    · exact hW _
    · exact q
theorem fbq_y {W : Int → Int} {s fo mo i : Int} {k : Nat} (h : (fo, mo) = fbq W s k) (hi : i = s * (k : Int)) (hc : mo < W i) : (i, W i) = fbq W s (k + 1) := by
  show _ = if (fbq W s k).2 < W (s * (k : Int)) then (s * (k : Int), W (s * (k : Int))) else fbq W s k
  rw [← h, ← hi, if_pos hc]
theorem fbq_n {W : Int → Int} {s fo mo i : Int} {k : Nat} (h : (fo, mo) = fbq W s k) (hi : i = s * (k : Int)) (hc : ¬ mo < W i) : (fo, mo) = fbq W s (k + 1) := by
  show _ = if (fbq W s k).2 < W (s * (k : Int)) then (s * (k : Int), W (s * (k : Int))) else fbq W s k
  rw [← h, ← hi, if_neg hc]
/-! the inner loop, in order of starts and bases -/
def inq (F : Int → Int) (s a : Int) (t : Int × Int × Int) : Nat → Int × Int × Int
  | 0 => t
  | k + 1 => if ¬ (inq F s a t k).2.2 = -1 ∧ (inq F s a t k).2.2 ≤ F (s * (k : Int)) then inq F s a t k else (a, s * (k : Int), F (s * (k : Int)))
def otq (F : Int → Int → Int) (K : Nat) (s : Int) : Nat → Int × Int × Int
  | 0 => (0, 0, -1)
  | i + 1 => inq (F (s * (i : Int))) s (s * (i : Int)) (otq F K s i) K
theorem inq_y {F : Int → Int} {s a q5 q6 q7 b : Int} {t : Int × Int × Int} {k : Nat} (h : (q5, q6, q7) = inq F s a t k) (hb : b = s * (k : Int)) (hc : ¬ (¬ q7 = -1 ∧ q7 ≤ F b)) : (a, b, F b) = inq F s a t (k + 1) := by
  show _ = if ¬ (inq F s a t k).2.2 = -1 ∧ (inq F s a t k).2.2 ≤ F (s * (k : Int)) then inq F s a t k else (a, s * (k : Int), F (s * (k : Int)))
  rw [← h, ← hb, if_neg hc]
theorem inq_n {F : Int → Int} {s a q5 q6 q7 b : Int} {t : Int × Int × Int} {k : Nat} (h : (q5, q6, q7) = inq F s a t k) (hb : b = s * (k : Int)) (hc : ¬ q7 = -1 ∧ q7 ≤ F b) : (q5, q6, q7) = inq F s a t (k + 1) := by
  show _ = if ¬ (inq F s a t k).2.2 = -1 ∧ (inq F s a t k).2.2 ≤ F (s * (k : Int)) then inq F s a t k else (a, s * (k : Int), F (s * (k : Int)))
  rw [← h, ← hb, if_pos hc]
theorem inq_fb {F W : Int → Int} {s a A n : Int} {t : Int × Int × Int} (hF : ∀ b, F b = A + 100 * (n - W b)) (hA : 0 ≤ A) (hn : 0 ≤ n) (hW : ∀ b, 0 ≤ W b ∧ W b ≤ n) : ∀ k : Nat, inq F s a t (k + 1) = if t.2.2 = -1 ∨ A + 100 * (n - (fbq W s (k + 1)).2) < t.2.2 then (a, (fbq W s (k + 1)).1, A + 100 * (n - (fbq W s (k + 1)).2)) else t
  | 0 => by
    have w := hW (s * ((0 : Nat) : Int))
    have e0 : s * ((0 : Nat) : Int) = 0 := Int.mul_zero s
    have f1 : fbq W s 1 = (s * ((0 : Nat) : Int), W (s * ((0 : Nat) : Int))) := by
      show (if (0 : Int) < W (s * ((0 : Nat) : Int)) then (s * ((0 : Nat) : Int), W (s * ((0 : Nat) : Int))) else (0, 0)) = _
      by_cases c : (0 : Int) < W (s * ((0 : Nat) : Int))
      · rw [if_pos c]
      · rw [if_neg c, show W (s * ((0 : Nat) : Int)) = 0 by omega, e0]
    rw [show (0 + 1) = 1 from rfl, f1]
    show (if ¬ t.2.2 = -1 ∧ t.2.2 ≤ F (s * ((0 : Nat) : Int)) then t else (a, s * ((0 : Nat) : Int), F (s * ((0 : Nat) : Int)))) = if t.2.2 = -1 ∨ A + 100 * (n - W (s * ((0 : Nat) : Int))) < t.2.2 then (a, s * ((0 : Nat) : Int), A + 100 * (n - W (s * ((0 : Nat) : Int)))) else t
    rw [hF]
    by_cases c : t.2.2 = -1 ∨ A + 100 * (n - W (s * ((0 : Nat) : Int))) < t.2.2
    · rw [if_pos c, if_neg (by omega)]
    · rw [if_neg c, if_pos (by omega)]
  | k + 1 => by
    have ih := inq_fb (s := s) (a := a) (t := t) hF hA hn hW k
    have bk := fbq_B (s := s) hW hn (k + 1)
    have w := hW (s * ((k + 1 : Nat) : Int))
    show (if ¬ (inq F s a t (k + 1)).2.2 = -1 ∧ (inq F s a t (k + 1)).2.2 ≤ F (s * ((k + 1 : Nat) : Int)) then inq F s a t (k + 1) else (a, s * ((k + 1 : Nat) : Int), F (s * ((k + 1 : Nat) : Int)))) = _
    have f2 : fbq W s (k + 1 + 1) = if (fbq W s (k + 1)).2 < W (s * ((k + 1 : Nat) : Int)) then (s * ((k + 1 : Nat) : Int), W (s * ((k + 1 : Nat) : Int))) else fbq W s (k + 1) := rfl
    rw [hF, ih, f2]
    by_cases c : t.2.2 = -1 ∨ A + 100 * (n - (fbq W s (k + 1)).2) < t.2.2
    · rw [if_pos c]
      by_cases d : (fbq W s (k + 1)).2 < W (s * ((k + 1 : Nat) : Int))
      · rw [if_pos d]
        rw [if_neg (show ¬ (¬ (a, (fbq W s (k + 1)).1, A + 100 * (n - (fbq W s (k + 1)).2)).2.2 = -1 ∧ (a, (fbq W s (k + 1)).1, A + 100 * (n - (fbq W s (k + 1)).2)).2.2 ≤ A + 100 * (n - W (s * ((k + 1 : Nat) : Int)))) by show ¬ (¬ A + 100 * (n - (fbq W s (k + 1)).2) = -1 ∧ A + 100 * (n - (fbq W s (k + 1)).2) ≤ A + 100 * (n - W (s * ((k + 1 : Nat) : Int)))); omega)]
        rw [if_pos (show t.2.2 = -1 ∨ A + 100 * (n - (s * ((k + 1 : Nat) : Int), W (s * ((k + 1 : Nat) : Int))).2) < t.2.2 by show t.2.2 = -1 ∨ A + 100 * (n - W (s * ((k + 1 : Nat) : Int))) < t.2.2; omega)]
      · rw [if_neg d]
        rw [if_pos (show ¬ (a, (fbq W s (k + 1)).1, A + 100 * (n - (fbq W s (k + 1)).2)).2.2 = -1 ∧ (a, (fbq W s (k + 1)).1, A + 100 * (n - (fbq W s (k + 1)).2)).2.2 ≤ A + 100 * (n - W (s * ((k + 1 : Nat) : Int))) by show ¬ A + 100 * (n - (fbq W s (k + 1)).2) = -1 ∧ A + 100 * (n - (fbq W s (k + 1)).2) ≤ A + 100 * (n - W (s * ((k + 1 : Nat) : Int))); omega), if_pos c]
    · rw [if_neg c]
      by_cases d : (fbq W s (k + 1)).2 < W (s * ((k + 1 : Nat) : Int))
      · rw [if_pos d]
        by_cases e : A + 100 * (n - W (s * ((k + 1 : Nat) : Int))) < t.2.2
        · rw [if_neg (by omega), if_pos (show t.2.2 = -1 ∨ A + 100 * (n - (s * ((k + 1 : Nat) : Int), W (s * ((k + 1 : Nat) : Int))).2) < t.2.2 from Or.inr e)]
        · rw [if_pos (by omega), if_neg (show ¬ (t.2.2 = -1 ∨ A + 100 * (n - (s * ((k + 1 : Nat) : Int), W (s * ((k + 1 : Nat) : Int))).2) < t.2.2) by show ¬ (t.2.2 = -1 ∨ A + 100 * (n - W (s * ((k + 1 : Nat) : Int))) < t.2.2); omega)]
      · rw [if_neg d, if_pos (by omega), if_neg c]
theorem bsq_B {A : Int → Int} {M : Int → Int × Int} {n s : Int} : ∀ i : Nat, (∀ k : Nat, k < i → 0 ≤ A (s * (k : Int)) ∧ A (s * (k : Int)) ≤ 900000) → (∀ a, 0 ≤ (M a).2 ∧ (M a).2 ≤ n) → (0 ≤ n ∧ n ≤ 4) → 0 ≤ (bsq A M n s i).2.2 ∧ (1 ≤ i → (bsq A M n s i).2.2 < 1000000)
  | 0, _, _, _ => ⟨by show (0 : Int) ≤ 1000000; decide, fun h => absurd h (by decide)⟩
  | i + 1, hA, hM, hn => by
    have ih := bsq_B i (fun k hk => hA k (by omega)) hM hn
    have a := hA i (by omega)
    have m := hM (s * (i : Int))
    show 0 ≤ (if A (s * (i : Int)) + 100 * (n - (M (s * (i : Int))).2) < (bsq A M n s i).2.2 then (s * (i : Int), (M (s * (i : Int))).1, A (s * (i : Int)) + 100 * (n - (M (s * (i : Int))).2)) else bsq A M n s i).2.2 ∧ (1 ≤ i + 1 → (if A (s * (i : Int)) + 100 * (n - (M (s * (i : Int))).2) < (bsq A M n s i).2.2 then (s * (i : Int), (M (s * (i : Int))).1, A (s * (i : Int)) + 100 * (n - (M (s * (i : Int))).2)) else bsq A M n s i).2.2 < 1000000)
    split
    · exact ⟨by show 0 ≤ A (s * (i : Int)) + 100 * (n - (M (s * (i : Int))).2); omega, fun _ => by show A (s * (i : Int)) + 100 * (n - (M (s * (i : Int))).2) < 1000000; omega⟩
    · exact ⟨ih.1, fun _ => by omega⟩
theorem otq_bs {F : Int → Int → Int} {A : Int → Int} {W : Int → Int → Int} {n s : Int} {K : Nat} (hF : ∀ a b, F a b = A a + 100 * (n - W a b)) (hn : 0 ≤ n ∧ n ≤ 4) (hW : ∀ a b, 0 ≤ W a b ∧ W a b ≤ n) : ∀ i : Nat, (∀ k : Nat, k < i + 1 → 0 ≤ A (s * (k : Int)) ∧ A (s * (k : Int)) ≤ 900000) → otq F (K + 1) s (i + 1) = bsq A (fun a => fbq (W a) s (K + 1)) n s (i + 1)
  | 0, hA => by
    have a := hA 0 (by omega)
    have b := fbq_B (s := s) (hW (s * ((0 : Nat) : Int))) hn.1 (K + 1)
    show inq (F (s * ((0 : Nat) : Int))) s (s * ((0 : Nat) : Int)) (0, 0, -1) (K + 1) = if A (s * ((0 : Nat) : Int)) + 100 * (n - (fbq (W (s * ((0 : Nat) : Int))) s (K + 1)).2) < 1000000 then (s * ((0 : Nat) : Int), (fbq (W (s * ((0 : Nat) : Int))) s (K + 1)).1, A (s * ((0 : Nat) : Int)) + 100 * (n - (fbq (W (s * ((0 : Nat) : Int))) s (K + 1)).2)) else (0, 0, 1000000)
    rw [inq_fb (hF _) a.1 hn.1 (hW _) K, if_pos (Or.inl rfl), if_pos (by omega)]
  | i + 1, hA => by
    have ih := otq_bs (K := K) hF hn hW i (fun k hk => hA k (by omega))
    have a := hA (i + 1) (by omega)
    have bb := bsq_B (M := fun a => fbq (W a) s (K + 1)) (i + 1) (fun k hk => hA k (by omega)) (fun a => fbq_B (hW a) hn.1 (K + 1)) hn
    show inq (F (s * ((i + 1 : Nat) : Int))) s (s * ((i + 1 : Nat) : Int)) (otq F (K + 1) s (i + 1)) (K + 1) = if A (s * ((i + 1 : Nat) : Int)) + 100 * (n - (fbq (W (s * ((i + 1 : Nat) : Int))) s (K + 1)).2) < (bsq A (fun a => fbq (W a) s (K + 1)) n s (i + 1)).2.2 then (s * ((i + 1 : Nat) : Int), (fbq (W (s * ((i + 1 : Nat) : Int))) s (K + 1)).1, A (s * ((i + 1 : Nat) : Int)) + 100 * (n - (fbq (W (s * ((i + 1 : Nat) : Int))) s (K + 1)).2)) else bsq A (fun a => fbq (W a) s (K + 1)) n s (i + 1)
    rw [inq_fb (hF _) a.1 hn.1 (hW _) K, ih]
    by_cases c : A (s * ((i + 1 : Nat) : Int)) + 100 * (n - (fbq (W (s * ((i + 1 : Nat) : Int))) s (K + 1)).2) < (bsq A (fun a => fbq (W a) s (K + 1)) n s (i + 1)).2.2
    · rw [if_pos (Or.inr c), if_pos c]
    · rw [if_neg (fun z => z.elim (fun q => by omega) c), if_neg c]
/-! of a ROOM and a PAPER -/
def woS (S : List (Nat → Int)) (pF : Nat → Int) (rp a b : Int) : Int := cts (whS S pF rp a b) (S.getD 0 zQ 2).toNat
def ahS (S : List (Nat → Int)) (pF : Nat → Int) (a : Int) : Int := seS S pF a + nwQ (rdS S) (pF 0)
def beS (S : List (Nat → Int)) (pF : Nat → Int) (rp s : Int) : Int × Int × Int := bsq (ahS S pF) (fun a => fbq (woS S pF rp a) s (nst rp s).toNat) (S.getD 0 zQ 2) s (nst (rdS S) s).toNat
def wqF (J : Nat → Int) (pd pr e o b : Int) : Int := bcn (orq (anq e (J (ofQ pd pr b 0).toNat)) (anq o (J (ofQ pd pr b 1).toNat)))
theorem fbq_w {W : Int → Int} {s : Int} (hW : ∀ b, 0 ≤ W b) : ∀ k : Nat, (fbq W s (k + 1)).2 = W (fbq W s (k + 1)).1
  | 0 => by
    show (if (0 : Int) < W (s * ((0 : Nat) : Int)) then (s * ((0 : Nat) : Int), W (s * ((0 : Nat) : Int))) else ((0, 0) : Int × Int)).2 = W (if (0 : Int) < W (s * ((0 : Nat) : Int)) then (s * ((0 : Nat) : Int), W (s * ((0 : Nat) : Int))) else ((0, 0) : Int × Int)).1
    have e0 : s * ((0 : Nat) : Int) = 0 := Int.mul_zero s
    have w := hW 0
    rw [e0]
    by_cases c : (0 : Int) < W 0
    · rw [if_pos c]
    · rw [if_neg c]
      show (0 : Int) = W 0
      omega
  | k + 1 => by
    have ih := fbq_w (s := s) hW k
    have f2 : fbq W s (k + 1 + 1) = if (fbq W s (k + 1)).2 < W (s * ((k + 1 : Nat) : Int)) then (s * ((k + 1 : Nat) : Int), W (s * ((k + 1 : Nat) : Int))) else fbq W s (k + 1) := rfl
    rw [f2]
    by_cases c : (fbq W s (k + 1)).2 < W (s * ((k + 1 : Nat) : Int))
    · rw [if_pos c]
    · rw [if_neg c]; exact ih
theorem fbq_1B {W : Int → Int} {s r : Int} (hs : 0 < s) (hr : 0 < r) : ∀ k : Nat, k ≤ (nst r s).toNat → 0 ≤ (fbq W s k).1 ∧ (fbq W s k).1 < r
  | 0, _ => ⟨Int.le_refl _, hr⟩
  | k + 1, h => by
    have ih := fbq_1B (W := W) hs hr k (by omega)
    have l := nst_lt (r := r) (s := s) (k := k) hs (by omega)
    have p : 0 ≤ s * (k : Int) := Int.mul_nonneg (by omega) (by omega)
    show 0 ≤ (if (fbq W s k).2 < W (s * (k : Int)) then (s * (k : Int), W (s * (k : Int))) else fbq W s k).1 ∧ (if (fbq W s k).2 < W (s * (k : Int)) then (s * (k : Int), W (s * (k : Int))) else fbq W s k).1 < r
    split
    · exact ⟨p, l⟩
    · exact ih
theorem wqF_wo {S : List (Nat → Int)} {pF : Nat → Int} {J : Nat → Int} {rp a : Int} {n : Nat} (hn : n ≤ 4) (hrp : 0 < rp) (hJ : ∀ f : Nat, (f : Int) < rp → J f = bts (fgS S pF rp (f : Int)) n) (b : Int) : wqF J (pF 1) rp (bts (itS S (pF 0) a 0) n) (bts (itS S (pF 0) a 1) n) b = cts (whS S pF rp a b) n := by
  have h0 := ofQ_B (dr := pF 1) (ba := b) (k := 0) hrp
  have h1 := ofQ_B (dr := pF 1) (ba := b) (k := 1) hrp
  unfold wqF
  rw [hJ _ (show (((ofQ (pF 1) rp b 0).toNat : Nat) : Int) < rp by omega), hJ _ (show (((ofQ (pF 1) rp b 1).toNat : Nat) : Int) < rp by omega), show (((ofQ (pF 1) rp b 0).toNat : Nat) : Int) = ofQ (pF 1) rp b 0 by omega, show (((ofQ (pF 1) rp b 1).toNat : Nat) : Int) = ofQ (pF 1) rp b 1 by omega, wh_bits hn]
  exact bcn_bts hn
theorem shl4 : ∀ e : Fin 16, iI ((e : Nat) : Int) <<< (iI 4 &&& 31) = iI (16 * ((e : Nat) : Int)) := by decide +kernel
theorem or4 : ∀ e o : Fin 16, iI (16 * ((e : Nat) : Int)) ||| iI ((o : Nat) : Int) = iI (16 * ((e : Nat) : Int) + ((o : Nat) : Int)) := by decide +kernel
theorem shl4E {e : Int} (h0 : 0 ≤ e) (h1 : e ≤ 15) : iI e <<< (iI 4 &&& 31) = iI (16 * e) := by
  have q := shl4 ⟨e.toNat, by omega⟩
  rw [show ((e.toNat : Nat) : Int) = e by omega] at q
  exact q
theorem or4E {e o : Int} (h0 : 0 ≤ e) (h1 : e ≤ 15) (k0 : 0 ≤ o) (k1 : o ≤ 15) : iI (16 * e) ||| iI o = iI (16 * e + o) := by
  have q := or4 ⟨e.toNat, by omega⟩ ⟨o.toNat, by omega⟩
  rw [show ((e.toNat : Nat) : Int) = e by omega, show ((o.toNat : Nat) : Int) = o by omega] at q
  exact q
/-! heights: no place is lower than an OPENING of its WALL, none higher than 400 -/
def okH (S : List (Nat → Int)) : Prop := (∀ j : Nat, (j : Int) < S.getD 0 zQ 0 → 0 ≤ S.getD 2 zQ j ∧ S.getD 2 zQ j ≤ 400 ∧ 0 ≤ S.getD 3 zQ j ∧ S.getD 3 zQ j ≤ 400) ∧ (∀ j : Nat, (j : Int) < S.getD 0 zQ 1 → 0 ≤ S.getD 6 zQ j ∧ S.getD 6 zQ j < S.getD 0 zQ 0 ∧ S.getD 10 zQ j < S.getD 2 zQ (S.getD 6 zQ j).toNat ∧ S.getD 10 zQ j < S.getD 3 zQ (S.getD 6 zQ j).toNat ∧ 0 ≤ S.getD 9 zQ j)
theorem wl_c2 {K V : Nat → Int} {t : Int} (ht : 0 ≤ t) (h : wlC K V t < 0) : (100 ≤ V (t + 1 + 1).toNat ∧ V (t + 1 + 1).toNat ≤ 400) ∧ (100 ≤ V (t + 1 + 1 + 1).toNat ∧ V (t + 1 + 1 + 1).toNat ≤ 400) := by
  unfold wlC at h
  split at h
  · split at h
    · rename_i q2
      split at h
      · rename_i q3; exact ⟨q2.2, q3.2⟩
      · omega
    · omega
  · omega
theorem do_c2 {K V : Nat → Int} {nw : Int} {L H Q : Nat → Int} {t : Int} (ht : 0 ≤ t) (h : doC K V nw L H Q t < 0) : (0 ≤ V (t + 1).toNat ∧ V (t + 1).toNat ≤ nw - 1) ∧ V (t + 1 + 1 + 1 + 1).toNat ≤ les H Q (V (t + 1).toNat) - 1 := by
  unfold doC at h
  split at h
  · rename_i q1
    split at h
    · split at h
      · split at h
        · rename_i q; exact ⟨q1.2, q.2.2⟩
        · omega
      · omega
    · omega
  · omega
theorem wi_c2 {K V : Nat → Int} {nw : Int} {L H Q : Nat → Int} {t : Int} (ht : 0 ≤ t) (h : wiC K V nw L H Q t < 0) : (0 ≤ V (t + 1).toNat ∧ V (t + 1).toNat ≤ nw - 1) ∧ V (t + 1 + 1 + 1 + 1 + 1).toNat ≤ les H Q (V (t + 1).toNat) - 1 ∧ 1 ≤ V (t + 1 + 1 + 1 + 1).toNat := by
  unfold wiC at h
  split at h
  · rename_i q1
    split at h
    · split at h
      · split at h
        · rename_i q4
          split at h
          · rename_i q; exact ⟨q1.2, q.2.2, q4.2.1⟩
          · omega
        · omega
      · omega
    · omega
  · omega
theorem les_U {H Q : Nat → Int} {w v : Int} (h : v ≤ les H Q w - 1) : v < H w.toNat ∧ v < Q w.toNat := by
  unfold les at h
  split at h <;> omega
theorem okH_op {W O U H Q : Nat → Int} {m n a b c : Int} (h0 : 0 ≤ n) (h : ∀ j : Nat, (j : Int) < n → 0 ≤ W j ∧ W j < m ∧ U j < H (W j).toNat ∧ U j < Q (W j).toNat ∧ 0 ≤ O j) (ha : 0 ≤ a ∧ a ≤ m - 1) (hc : c ≤ les H Q a - 1) (hb : 0 ≤ b) : ∀ j : Nat, (j : Int) < n + 1 → 0 ≤ updI W n.toNat a j ∧ updI W n.toNat a j < m ∧ updI U n.toNat c j < H (updI W n.toNat a j).toNat ∧ updI U n.toNat c j < Q (updI W n.toNat a j).toNat ∧ 0 ≤ updI O n.toNat b j := fun j hj => by
  by_cases q : j = n.toNat
  · have l := les_U hc
    rw [q, updI_s, updI_s, updI_s]; exact ⟨ha.1, by omega, l.1, l.2, hb⟩
  · rw [updI_n _ _ q, updI_n _ _ q, updI_n _ _ q]; exact h j (by omega)
theorem okH_ln {K V : Nat → Int} {S : List (Nat → Int)} {t : Int} (ht : 0 ≤ t) (h : okR S) (g : okH S) (hc : lnC K V S t < 0) : okH (lnS K V S t) := by
  obtain ⟨a0, a1, a2, a3, a4⟩ := h
  have g' := g
  obtain ⟨g1, g2⟩ := g'
  unfold lnS
  by_cases k0 : K t.toNat = 0
  · rw [if_pos k0]
    by_cases h8 : S.getD 0 zQ 0 < 8
    · rw [lnC_w1 k0 h8] at hc
      have v := wl_c2 ht hc
      refine ⟨fun j hj => ?_, fun j hj => ?_⟩
      · have hj2 : (j : Int) < S.getD 0 zQ 0 + 1 := hj
        show 0 ≤ updI (S.getD 2 zQ) (S.getD 0 zQ 0).toNat (V (t + 1 + 1).toNat) j ∧ updI (S.getD 2 zQ) (S.getD 0 zQ 0).toNat (V (t + 1 + 1).toNat) j ≤ 400 ∧ 0 ≤ updI (S.getD 3 zQ) (S.getD 0 zQ 0).toNat (V (t + 1 + 1 + 1).toNat) j ∧ updI (S.getD 3 zQ) (S.getD 0 zQ 0).toNat (V (t + 1 + 1 + 1).toNat) j ≤ 400
        by_cases q : j = (S.getD 0 zQ 0).toNat
        · rw [q, updI_s, updI_s]; omega
        · rw [updI_n _ _ q, updI_n _ _ q]; exact g1 j (by omega)
      · obtain ⟨b1, b2, b3, b4, b5⟩ := g2 j hj
        refine ⟨b1, ?_, ?_, ?_, b5⟩
        · show S.getD 6 zQ j < S.getD 0 zQ 0 + 1
          omega
        · show S.getD 10 zQ j < updI (S.getD 2 zQ) (S.getD 0 zQ 0).toNat (V (t + 1 + 1).toNat) (S.getD 6 zQ j).toNat
          rw [updI_n _ _ (by omega)]; exact b3
        · show S.getD 10 zQ j < updI (S.getD 3 zQ) (S.getD 0 zQ 0).toNat (V (t + 1 + 1 + 1).toNat) (S.getD 6 zQ j).toNat
          rw [updI_n _ _ (by omega)]; exact b4
    · rw [lnC_w0 k0 h8] at hc; omega
  · rw [if_neg k0]
    by_cases k1 : K t.toNat = 1
    · rw [if_pos k1]
      by_cases h8 : S.getD 0 zQ 1 < 8
      · rw [lnC_d1 k0 k1 h8] at hc
        have v := do_c2 ht hc
        exact ⟨g1, okH_op a1 g2 v.1 v.2 (Int.le_refl _)⟩
      · rw [lnC_d0 k0 k1 h8] at hc; omega
    · rw [if_neg k1]
      by_cases k2 : K t.toNat = 2
      · rw [if_pos k2]
        by_cases h8 : S.getD 0 zQ 1 < 8
        · rw [lnC_i1 k0 k1 k2 h8] at hc
          have v := wi_c2 ht hc
          exact ⟨g1, okH_op a1 g2 v.1 v.2.1 (by omega)⟩
        · rw [lnC_i0 k0 k1 k2 h8] at hc; omega
      · rw [if_neg k2]
        by_cases k3 : K t.toNat = 3
        · rw [if_pos k3]; exact g
        · rw [if_neg k3]; exact g
theorem okH_prs {K V P : Nat → Int} {n : Int} : ∀ (f : Nat) (t : Int) (S : List (Nat → Int)), 0 ≤ t → okR S → okH S → okH (prs K V P n f t S).2 := by
  intro f
  induction f with
  | zero => intro t S _ _ h; exact h
  | succ f ih =>
    intro t S ht r h
    by_cases h1 : K t.toNat = 10
    · rw [prs_over h1]; exact h
    · by_cases h2 : lnC K V S t < 0
      · rw [prs_step h1 h2]; exact ih _ _ (by omega) (okR_ln ht r h2) (okH_ln ht r h h2)
      · rw [prs_fail h1 h2]; exact h
theorem okH_p (B : Nat → Int) (n : Int) : okH (pRoom B n) := okH_prs 401 0 S00 (Int.le_refl _) ⟨Int.le_refl _, Int.le_refl _, Int.le_refl _, fun j hj => absurd hj (by show ¬ (j : Int) < 0; omega), fun j hj => absurd hj (by show ¬ (j : Int) < 0; omega)⟩ ⟨fun j hj => absurd hj (by show ¬ (j : Int) < 0; omega), fun j hj => absurd hj (by show ¬ (j : Int) < 0; omega)⟩
theorem hgq_B {L H Q : Nat → Int} {w x : Int} (hL : 0 < L w.toNat) (h0 : 0 ≤ x) (h1 : x ≤ L w.toNat) : (H w.toNat ≤ hgq L H Q w x ∨ Q w.toNat ≤ hgq L H Q w x) ∧ (hgq L H Q w x ≤ H w.toNat ∨ hgq L H Q w x ≤ Q w.toNat) := by
  unfold hgq
  by_cases c : H w.toNat ≤ Q w.toNat
  · have p : 0 ≤ (Q w.toNat - H w.toNat) * x := Int.mul_nonneg (by omega) h0
    have q : (Q w.toNat - H w.toNat) * x ≤ (Q w.toNat - H w.toNat) * L w.toNat := Int.mul_le_mul_of_nonneg_left h1 (by omega)
    have r1 := Int.ediv_nonneg p (show 0 ≤ L w.toNat by omega)
    have r2 : (Q w.toNat - H w.toNat) * x / L w.toNat ≤ Q w.toNat - H w.toNat := Int.ediv_le_of_le_mul hL q
    exact ⟨Or.inl (by omega), Or.inr (by omega)⟩
  · have p : (H w.toNat - Q w.toNat) * x ≤ (H w.toNat - Q w.toNat) * L w.toNat := Int.mul_le_mul_of_nonneg_left h1 (by omega)
    have p0 : 0 ≤ (H w.toNat - Q w.toNat) * x := Int.mul_nonneg (by omega) h0
    have e : (Q w.toNat - H w.toNat) * x = -((H w.toNat - Q w.toNat) * x) := by rw [← Int.neg_mul, show -(H w.toNat - Q w.toNat) = Q w.toNat - H w.toNat by omega]
    have e2 : (Q w.toNat - H w.toNat) * L w.toNat = -((H w.toNat - Q w.toNat) * L w.toNat) := by rw [← Int.neg_mul, show -(H w.toNat - Q w.toNat) = Q w.toNat - H w.toNat by omega]
    have r1 : Q w.toNat - H w.toNat ≤ (Q w.toNat - H w.toNat) * x / L w.toNat := (Int.le_ediv_iff_mul_le hL).mpr (by omega)
    have r2 : (Q w.toNat - H w.toNat) * x / L w.toNat ≤ 0 := by
      have := Int.ediv_le_of_le_mul hL (show (Q w.toNat - H w.toNat) * x ≤ 0 * L w.toNat by rw [Int.zero_mul]; omega)
      exact this
    exact ⟨Or.inr (by omega), Or.inl (by omega)⟩
theorem fOq_in {W F T : Nat → Int} {w x : Int} : ∀ n : Nat, ¬ fOq W F T w x n = -1 → W (fOq W F T w x n).toNat = w
  | 0, h => absurd rfl h
  | n + 1, h => by
    unfold fOq at h ⊢
    by_cases c : fOq W F T w x n = -1
    · rw [if_pos c] at h ⊢
      by_cases d : W n = w ∧ F n ≤ x ∧ x ≤ T n
      · rw [if_pos d]
        show W ((n : Int)).toNat = w
        rw [show ((n : Int)).toNat = n by omega]; exact d.1
      · rw [if_neg d] at h; exact absurd rfl h
    · rw [if_neg c]; exact fOq_in n c
theorem smS_B {S : List (Nat → Int)} {st : Int} (hR : okR S) (hH : okH S) (hL : okL S) (hn : 1 ≤ S.getD 0 zQ 0) (h0 : 0 ≤ st) (h1 : st < rdS S) : 0 ≤ smS S st ∧ smS S st ≤ 400 := by
  have wr := wq_rng (L := S.getD 1 zQ) (pl := st) (n := (S.getD 0 zQ 0).toNat) h0 (by omega) h1
  have b := waS_B (A := S) st hn
  have l5 := hL.2 (waS S st).toNat (by omega)
  have hg := hgq_B (L := S.getD 1 zQ) (H := S.getD 2 zQ) (Q := S.getD 3 zQ) (w := waS S st) (x := xwS S st) (by omega) (by unfold xwS; unfold waS; omega) (by unfold xwS; unfold waS; omega)
  have hh := hH.1 (waS S st).toNat (by omega)
  have eg : hgq (S.getD 1 zQ) (S.getD 2 zQ) (S.getD 3 zQ) (waS S st) (xwS S st) = hgS S st := rfl
  rw [eg] at hg
  have fb : -1 ≤ foS S st ∧ foS S st < ((S.getD 0 zQ 1).toNat : Int) := fOq_B _
  unfold smS
  by_cases c : foS S st = -1
  · unfold ioq
    rw [if_pos c, if_pos c]; omega
  · have fi : S.getD 6 zQ (foS S st).toNat = waS S st := fOq_in _ c
    have ho := hH.2 (foS S st).toNat (by omega)
    have hr := hR.2.2.2.1 (foS S st).toNat (by omega)
    rw [fi] at ho
    unfold ioq
    rw [if_neg c, if_neg c]; omega
theorem ahS_B {S : List (Nat → Int)} {pF : Nat → Int} {st : Int} (hR : okR S) (hH : okH S) (hL : okL S) (hn : 1 ≤ S.getD 0 zQ 0) (h0 : 0 ≤ st) (h1 : st < rdS S) : 0 ≤ ahS S pF st ∧ ahS S pF st ≤ 900000 := by
  have q := smS_B hR hH hL hn h0 h1
  have r := nwQ_B (rdS S) (pF 0)
  unfold ahS seS
  split <;> omega
theorem ft_ah {S : List (Nat → Int)} {pF : Nat → Int} {rp a b : Int} (hc : 0 ≤ S.getD 0 zQ 2) : ftS S pF rp a b = ahS S pF a + 100 * (S.getD 0 zQ 2 - woS S pF rp a b) := by
  unfold ftS ahS woS
  rw [cts_not, show (((S.getD 0 zQ 2).toNat : Nat) : Int) = S.getD 0 zQ 2 by omega]
theorem ot_be {S : List (Nat → Int)} {pF : Nat → Int} {rp s : Int} (hR : okR S) (hH : okH S) (hL : okL S) (hn : 1 ≤ S.getD 0 zQ 0) (h4 : S.getD 0 zQ 2 ≤ 4) (hs : 0 < s) (hrp : 0 < rp) (hrd : 0 < rdS S) : otq (fun a b => ftS S pF rp a b) (nst rp s).toNat s (nst (rdS S) s).toNat = beS S pF rp s := by
  have k1 := nst_1 (r := rp) hs hrp
  have i1 := nst_1 (r := rdS S) hs hrd
  have c2 := hR.2.2.1
  unfold beS
  rw [show (nst rp s).toNat = (nst rp s).toNat - 1 + 1 by omega, show (nst (rdS S) s).toNat = (nst (rdS S) s).toNat - 1 + 1 by omega]
  refine otq_bs (A := ahS S pF) (W := woS S pF rp) (fun a b => ft_ah c2) ⟨c2, h4⟩ (fun a b => ?_) _ (fun k hk => ?_)
  · have q := cts_B (whS S pF rp a b) (S.getD 0 zQ 2).toNat
    unfold woS
    omega
  · exact ahS_B hR hH hL hn (Int.mul_nonneg (by omega) (by omega)) (nst_lt hs (by omega))
theorem fbq_w' {W : Int → Int} {s : Int} {K : Nat} (hW : ∀ b, 0 ≤ W b) (hK : 1 ≤ K) : (fbq W s K).2 = W (fbq W s K).1 := by
  obtain ⟨k, rfl⟩ : ∃ k, K = k + 1 := ⟨K - 1, by omega⟩
  exact fbq_w hW k
theorem woS_B {S : List (Nat → Int)} {pF : Nat → Int} {rp a : Int} (hc : 0 ≤ S.getD 0 zQ 2) (b : Int) : 0 ≤ woS S pF rp a b ∧ woS S pF rp a b ≤ S.getD 0 zQ 2 := by
  have q := cts_B (whS S pF rp a b) (S.getD 0 zQ 2).toNat
  unfold woS
  omega
theorem hB_up {J J2 : Nat → Int} {G : Int → Int → Int} {e o y : Int} (h : ∀ p q : Nat, p < 16 → q < 16 → J (16 * p + q) = -1 ∨ J (16 * p + q) = G (p : Int) (q : Int)) (e2 : J2 = updI J (16 * e + o).toNat y) (hy : y = G e o) (he : 0 ≤ e ∧ e ≤ 15) (ho : 0 ≤ o ∧ o ≤ 15) : ∀ p q : Nat, p < 16 → q < 16 → J2 (16 * p + q) = -1 ∨ J2 (16 * p + q) = G (p : Int) (q : Int) := fun p q hp hq => by
  subst e2
  by_cases c : 16 * p + q = (16 * e + o).toNat
  · rw [c, updI_s, hy, show (p : Int) = e by omega, show (q : Int) = o by omega]
    exact Or.inr rfl
  · rw [updI_n _ _ c]; exact h p q hp hq
theorem hB_at {J : Nat → Int} {G : Int → Int → Int} {e o : Int} (h : ∀ p q : Nat, p < 16 → q < 16 → J (16 * p + q) = -1 ∨ J (16 * p + q) = G (p : Int) (q : Int)) (he : 0 ≤ e ∧ e ≤ 15) (ho : 0 ≤ o ∧ o ≤ 15) (hn : ¬ J (16 * e + o).toNat = -1) : J (16 * e + o).toNat = G e o := by
  have q := h e.toNat o.toNat (by omega) (by omega)
  rw [show 16 * e.toNat + o.toNat = (16 * e + o).toNat by omega, show ((e.toNat : Nat) : Int) = e by omega, show ((o.toNat : Nat) : Int) = o by omega] at q
  exact q.resolve_left hn
theorem bs_step {A : Int → Int} {M : Int → Int × Int} {n s js jq jf js2 jq2 jf2 i : Int} {k : Nat} (hk : i = s * (k : Int)) (hj : jf = (bsq A M n s k).2.2) (ht : 1 ≤ k → (js, jq, jf) = bsq A M n s k) (hf : (js2, jq2, jf2) = if A i + 100 * (n - (M i).2) < jf then (i, (M i).1, A i + 100 * (n - (M i).2)) else (js, jq, jf)) (h0 : k = 0 → A i + 100 * (n - (M i).2) < 1000000) : (js2, jq2, jf2) = bsq A M n s (k + 1) := by
  show _ = if A (s * (k : Int)) + 100 * (n - (M (s * (k : Int))).2) < (bsq A M n s k).2.2 then (s * (k : Int), (M (s * (k : Int))).1, A (s * (k : Int)) + 100 * (n - (M (s * (k : Int))).2)) else bsq A M n s k
  rw [← hk, ← hj, hf]
  by_cases c : A i + 100 * (n - (M i).2) < jf
  · rw [if_pos c, if_pos c]
  · rw [if_neg c, if_neg c]
    by_cases z : k = 0
    · subst z
      exact absurd (show A i + 100 * (n - (M i).2) < jf by rw [hj]; exact h0 rfl) c
    · exact ht (by omega)
theorem woS_c {A S : List (Nat → Int)} {pF : Nat → Int} {rp : Int} (h : agrR A S) (hn : 1 ≤ A.getD 0 zQ 0) (hw : ∀ s : Nat, (s : Int) < A.getD 0 zQ 2 → A.getD 12 zQ s < A.getD 0 zQ 0) (a b : Int) : woS A pF rp a b = woS S pF rp a b := by
  unfold woS
  rw [cts_c (f := whS A pF rp a b) (g := whS S pF rp a b) _ (fun s hs => by rw [whS_c h hn (by omega) (hw s (by omega))])]
  obtain ⟨c0, c1, c2, -⟩ := h
  rw [← c2]
theorem beS_c {A S : List (Nat → Int)} {pF : Nat → Int} {rp s : Int} (h : agrR A S) (hn : 1 ≤ A.getD 0 zQ 0) (hw : ∀ s : Nat, (s : Int) < A.getD 0 zQ 2 → A.getD 12 zQ s < A.getD 0 zQ 0) : beS A pF rp s = beS S pF rp s := by
  have e1 : ahS A pF = ahS S pF := funext (fun a => by unfold ahS; rw [seS_c h hn, rdS_c h])
  have e2 : (fun a => fbq (woS A pF rp a) s (nst rp s).toNat) = (fun a => fbq (woS S pF rp a) s (nst rp s).toNat) := funext (fun a => by rw [show woS A pF rp a = woS S pF rp a from funext (fun b => woS_c h hn hw a b)])
  unfold beS
  rw [e1, e2, rdS_c h]
  obtain ⟨c0, c1, c2, -⟩ := h
  rw [← c2]
theorem be_pF {S : List (Nat → Int)} {pF : Nat → Int} {pw pd pf pg rp s : Int} (h : pw = pF 0 ∧ pd = pF 1 ∧ pf = pF 2 ∧ pg = pF 3) : beS S (pF4 pw pd pf pg) rp s = beS S pF rp s := by
  obtain ⟨rfl, rfl, rfl, rfl⟩ := h
  rfl
theorem ahS_c {A S : List (Nat → Int)} {pF : Nat → Int} {a : Int} (h : agrR A S) (hn : 1 ≤ A.getD 0 zQ 0) : ahS A pF a = ahS S pF a := by
  unfold ahS
  rw [seS_c h hn, rdS_c h]
