/-! ===== worlds of many parts ===== -/
def flat (f : Nat → va_W) : Nat → va_W
  | 0 => []
  | n + 1 => flat f n ++ f n
def offW (f : Nat → va_W) (i : Nat) : Nat → va_W := fun j => if j = i then [] else f j
def putW (f : Nat → va_W) (i : Nat) (w : va_W) : Nat → va_W := fun j => if j = i then w else f j
theorem putW_s (f : Nat → va_W) (i : Nat) (w : va_W) : putW f i w i = w := if_pos rfl
theorem putW_n (f : Nat → va_W) {i j : Nat} (w : va_W) (h : j ≠ i) : putW f i w j = f j := if_neg h
theorem flat_congr {f g : Nat → va_W} : ∀ n, (∀ j, j < n → f j = g j) → flat f n = flat g n
  | 0, _ => rfl
  | n + 1, h => by rw [flat, flat, flat_congr n (fun j hj => h j (by omega)), h n (by omega)]
theorem flat_get {f : Nat → va_W} {i : Nat} : ∀ n, i < n → (flat f n).Perm (f i ++ flat (offW f i) n)
  | 0, h => absurd h (Nat.not_lt_zero _)
  | n + 1, h => by
    show (flat f n ++ f n).Perm (f i ++ (flat (offW f i) n ++ offW f i n))
    by_cases e : i = n
    · subst e
      rw [show offW f i i = [] from if_pos rfl, List.append_nil, flat_congr (f := offW f i) (g := f) i (fun j hj => if_neg (by omega))]
      exact List.perm_append_comm
    · rw [show offW f i n = f n from if_neg (fun q => e q.symm), ← List.append_assoc]
      exact (flat_get n (by omega)).append_right _
theorem flat_put {f : Nat → va_W} {i : Nat} (w : va_W) {n : Nat} (h : i < n) : (w ++ flat (offW f i) n).Perm (flat (putW f i w) n) := by
  have h1 := (flat_get (f := putW f i w) n h).symm
  rw [putW_s, flat_congr (f := offW (putW f i w) i) (g := offW f i) n (fun j _ => by
    unfold offW
    by_cases q : j = i
    · simp [q]
    · simp [q, putW])] at h1
  exact h1
theorem flat_new (f : Nat → va_W) (n : Nat) (w : va_W) : flat (putW f n w) (n + 1) = flat f n ++ w := by
  show flat (putW f n w) n ++ putW f n w n = _
  rw [putW_s, flat_congr (f := putW f n w) (g := f) n (fun j hj => putW_n _ _ (by omega))]
theorem flatP (L : List va_W) (is : List Nat) {n : Nat} (hn : L.length = n) (hp : is.Perm (List.range n)) : L.flatten.Perm (is.map (fun i => L.getD i [])).flatten := by
  have h : L = (List.range n).map (fun i => L.getD i []) := by
    subst hn
    apply List.ext_getElem?
    intro i
    rw [List.getElem?_map]
    by_cases h : i < L.length
    · rw [List.getElem?_range h]; simp [h]
    · rw [List.getElem?_eq_none (by omega), List.getElem?_eq_none (by simpa using h)]; rfl
  have h2 : (List.range n).map (fun i => L.getD i []) |>.Perm (is.map (fun i => L.getD i [])) := (hp.symm.map _)
  rw [← h] at h2
  exact h2.flatten
theorem flat_split {pre post : List va_W} {a a1 a2 : va_W} (h : a.Perm (a1 ++ a2)) : (pre ++ a :: post).flatten.Perm (pre ++ a1 :: a2 :: post).flatten := by
  simp only [List.flatten_append, List.flatten_cons]
  refine List.Perm.append_left _ ?_
  rw [← List.append_assoc]
  exact h.append_right _
/-- the callee's cells w out of explicit ones X; wr is the rest of these, O what nobody looks at -/
theorem callP {W X w wr O T : va_W} (h : W.Perm (X ++ O)) (isC isR : List Nat) (hC : isC.map (fun i => X[i]?) = w.map some) (hR : isR.map (fun i => X[i]?) = wr.map some) (n : Nat) (hn : X.length = n) (hp : (isC ++ isR).Perm (List.range n)) : (W ++ T).Perm (w ++ (wr ++ (O ++ T))) := by
  have h1 := h.append_right T
  rw [List.append_assoc] at h1
  exact h1.trans (permT (T := O ++ T) isC isR hC hR n hn hp)
theorem backP {Y X O : va_W} (is : List Nat) (hC : is.map (fun i => Y[i]?) = X.map some) (n : Nat) (hn : Y.length = n) (hp : is.Perm (List.range n)) : (Y ++ O).Perm (X ++ O) := by
  have h := permT (X := Y) (w := X) (wr := []) (T := O) is [] hC rfl n hn (by rw [List.append_nil]; exact hp)
  rwa [List.nil_append] at h
theorem flatA {a b : List va_W} : (a ++ b).flatten.Perm (a.flatten ++ b.flatten) := by rw [List.flatten_append]
theorem iP_new {Pr : Nat → Option Nat} {pA : Nat → Nat} {prr : Nat → Int} {PP : Nat → va_W} {Q : Nat → Int → va_W → Prop} {n n2 : Int} {w : va_W} {p0 : Nat} {v : Int} (h : ∀ i : Nat, (i : Int) < n → Pr i = some (pA i) ∧ Q (pA i) (prr i) (PP i)) (h0 : 0 ≤ n) (hn : n2 = n + 1) (hq : Q p0 v w) : ∀ i : Nat, (i : Int) < n2 → va_up Pr n.toNat (some p0) i = some (va_up pA n.toNat p0 i) ∧ Q (va_up pA n.toNat p0 i) (updI prr n.toNat v i) (putW PP n.toNat w i) := fun i hi => by
  by_cases q : i = n.toNat
  · subst q
    rw [putW_s, updI_s]
    simp only [va_up, if_true]
    exact ⟨trivial, hq⟩
  · rw [putW_n _ _ q, updI_n _ _ q]
    simp only [va_up, if_neg q]
    exact h i (by omega)
theorem iR_new {Rr : Nat → Option Nat} {rA : Nat → Nat} {RP : Nat → va_W} {Q : Nat → va_W → Prop} {n n2 : Int} {w : va_W} {r0 : Nat} (h : ∀ i : Nat, (i : Int) < n → Rr i = some (rA i) ∧ Q (rA i) (RP i)) (h0 : 0 ≤ n) (hn : n2 = n + 1) (hq : Q r0 w) : ∀ i : Nat, (i : Int) < n2 → va_up Rr n.toNat (some r0) i = some (va_up rA n.toNat r0 i) ∧ Q (va_up rA n.toNat r0 i) (putW RP n.toNat w i) := fun i hi => by
  by_cases q : i = n.toNat
  · subst q
    rw [putW_s]
    simp only [va_up, if_true]
    exact ⟨trivial, hq⟩
  · rw [putW_n _ _ q]
    simp only [va_up, if_neg q]
    exact h i (by omega)
theorem flat_new' {f : Nat → va_W} {a b : Int} (w : va_W) (h0 : 0 ≤ a) (h : b = a + 1) : flat (putW f a.toNat w) b.toNat = flat f a.toNat ++ w := by
  rw [show b.toNat = a.toNat + 1 by omega]; exact flat_new _ _ _
theorem iI_put {Ir : Nat → Option Nat} {iA : Nat → Nat} {ki ie : Nat → Int} {IP : Nat → va_W} {Q : Nat → Int → va_W → Prop} {k : Nat} {w : va_W} {d0 : Nat} {v : Int} (h : ∀ i : Nat, i < 3 → (Ir i = none ∧ IP i = [] ∧ ki i = 0) ∨ (Ir i = some (iA i) ∧ Q (iA i) (ie i) (IP i) ∧ ki i = 1)) (hq : Q d0 v w) : ∀ i : Nat, i < 3 → (va_up Ir k (some d0) i = none ∧ putW IP k w i = [] ∧ updI ki k 1 i = 0) ∨ (va_up Ir k (some d0) i = some (va_up iA k d0 i) ∧ Q (va_up iA k d0 i) (updI ie k v i) (putW IP k w i) ∧ updI ki k 1 i = 1) := fun i hi => by
  by_cases q : i = k
  · subst q
    rw [putW_s, updI_s, updI_s]
    simp only [va_up, if_true]
    exact Or.inr ⟨trivial, hq, trivial⟩
  · rw [putW_n _ _ q, updI_n _ _ q, updI_n _ _ q]
    simp only [va_up, if_neg q]
    exact h i hi
theorem iI_put' {Ir : Nat → Option Nat} {iA : Nat → Nat} {ki ie : Nat → Int} {IP : Nat → va_W} {Q : Nat → Int → va_W → Prop} {k : Nat} {w : va_W} {d0 : Nat} {v : Int} (h : ∀ i : Nat, i < 3 → (Ir i = none ∧ IP i = [] ∧ ki i = 0) ∨ (Ir i = some (iA i) ∧ Q (iA i) (ie i) (IP i) ∧ ki i = 1)) (h1 : Ir k = some d0) (h2 : d0 = iA k) (h3 : ki k = 1) (hq : Q d0 v w) : ∀ i : Nat, i < 3 → (Ir i = none ∧ putW IP k w i = [] ∧ updI ki k 1 i = 0) ∨ (Ir i = some (iA i) ∧ Q (iA i) (updI ie k v i) (putW IP k w i) ∧ updI ki k 1 i = 1) := fun i hi => by
  by_cases q : i = k
  · subst q
    rw [putW_s, updI_s, updI_s, ← h2]
    exact Or.inr ⟨h1, hq, rfl⟩
  · rw [putW_n _ _ q, updI_n _ _ q, updI_n _ _ q]
    exact h i hi
theorem flat_off {f : Nat → va_W} {i n : Nat} (h : i < n) (hf : f i = []) : (flat f n).Perm (flat (offW f i) n) := by
  have h1 := flat_get (f := f) n h
  rwa [hf, List.nil_append] at h1
theorem flat_rep {pre post : List va_W} {a b : va_W} (h : a.Perm b) : (pre ++ a :: post).flatten.Perm (pre ++ b :: post).flatten := by
  simp only [List.flatten_append, List.flatten_cons]
  exact List.Perm.append_left _ (h.append_right _)
theorem openP {X R T T1 : va_W} (h : T.Perm (R ++ T1)) : (X ++ T).Perm ((X ++ R) ++ T1) := by
  rw [List.append_assoc]; exact List.Perm.append_left _ h
theorem closeP {X R T T1 : va_W} (h : T.Perm (R ++ T1)) : ((X ++ R) ++ T1).Perm (X ++ T) := (openP h).symm
theorem offW_n (f : Nat → va_W) {i j : Nat} (h : j ≠ i) : offW f i j = f j := if_neg h
