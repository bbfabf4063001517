theorem inRb {a lo hi : Int} (h : lo ≤ a ∧ a ≤ hi) (h1 : -2147483648 ≤ lo) (h2 : hi ≤ 2147483647) : inR a := ⟨Int.le_trans h1 h.1, Int.le_trans h.2 h2⟩
