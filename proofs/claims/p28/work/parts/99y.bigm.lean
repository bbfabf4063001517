def mRow (Z : gZ) (xA : Nat → Nat) (G : Nat → Nat → Int) (w : va_W) : Prop := (∀ j, j < 8 → 0 ≤ G 0 j ∧ G 0 j ≤ 600) ∧ (∀ j, j < 8 → 0 ≤ G 1 j ∧ G 1 j ≤ 400) ∧ (∀ j, j < 8 → 0 ≤ G 2 j ∧ G 2 j ≤ 400) ∧ (∀ j, j < 8 → (-50) ≤ G 3 j ∧ G 3 j ≤ 50) ∧ (∀ j, j < 8 → 0 ≤ G 4 j ∧ G 4 j ≤ 7) ∧ (∀ j, j < 8 → 0 ≤ G 5 j ∧ G 5 j ≤ 600) ∧ (∀ j, j < 8 → 0 ≤ G 6 j ∧ G 6 j ≤ 600) ∧ (∀ j, j < 8 → 0 ≤ G 7 j ∧ G 7 j ≤ 400) ∧ (∀ j, j < 8 → 0 ≤ G 8 j ∧ G 8 j ≤ 400) ∧ (∀ j, j < 8 → 0 ≤ G 9 j ∧ G 9 j ≤ 1) ∧ (∀ j, j < 4 → 0 ≤ G 10 j ∧ G 10 j ≤ 7) ∧ (∀ j, j < 4 → 0 ≤ G 11 j ∧ G 11 j ≤ 600) ∧ (∀ j, j < 4 → 0 ≤ G 12 j ∧ G 12 j ≤ 400) ∧ w = [((xA 0), .inl (Z.2.1 0, 8, .inl (fun j => iI ((G 0) j)))), ((xA 1), .inl (Z.2.1 0, 8, .inl (fun j => iI ((G 1) j)))), ((xA 2), .inl (Z.2.1 0, 8, .inl (fun j => iI ((G 2) j)))), ((xA 3), .inl (Z.2.1 0, 8, .inl (fun j => iI ((G 3) j)))), ((xA 4), .inl (Z.2.1 0, 8, .inl (fun j => iI ((G 4) j)))), ((xA 5), .inl (Z.2.1 0, 8, .inl (fun j => iI ((G 5) j)))), ((xA 6), .inl (Z.2.1 0, 8, .inl (fun j => iI ((G 6) j)))), ((xA 7), .inl (Z.2.1 0, 8, .inl (fun j => iI ((G 7) j)))), ((xA 8), .inl (Z.2.1 0, 8, .inl (fun j => iI ((G 8) j)))), ((xA 9), .inl (Z.2.1 0, 8, .inl (fun j => iI ((G 9) j)))), ((xA 10), .inl (Z.2.1 0, 4, .inl (fun j => iI ((G 10) j)))), ((xA 11), .inl (Z.2.1 0, 4, .inl (fun j => iI ((G 11) j)))), ((xA 12), .inl (Z.2.1 0, 4, .inl (fun j => iI ((G 12) j))))]

def mKp (Z : gZ) (kr0 : Nat) (ke0 : Nat) (Kp : Nat → Int) (w : va_W) : Prop := ∃ (Ke : Nat → Int), (∀ j, j < 24 → (-1) ≤ Kp j ∧ Kp j ≤ 4799) ∧ (∀ j, j < 30 → (-2147483648) ≤ Ke j ∧ Ke j ≤ 2147483647) ∧ w = [(kr0, .inl (Z.2.1 0, 24, .inl (fun j => iI (Kp j)))), (ke0, .inl (Z.2.1 0, 30, .inl (fun j => iI (Ke j))))]

def mVK (F : Nat → Int) (np : Int) (Mr : Nat → Int) (j : Nat) : Prop := (-1 ≤ F (4 * j) ∧ F (4 * j) ≤ 3) ∧ (0 ≤ F (4 * j + 1) ∧ F (4 * j + 1) ≤ 4799) ∧ (0 ≤ F (4 * j + 2) ∧ F (4 * j + 2) ≤ 119) ∧ (0 ≤ F (4 * j + 3) ∧ F (4 * j + 3) ≤ 240) ∧ (F (4 * j) = -1 ∨ (0 ≤ F (4 * j) ∧ F (4 * j) < np ∧ F (4 * j + 1) < Mr j))

def mV (ML : Nat → Nat → Nat → Int) (np : Int) (Mw Mr Op Os : Nat → Int) (r : Nat) : Prop := (1 ≤ Mw r ∧ Mw r ≤ 8) ∧ (∀ j : Nat, (j : Int) < Mw r → 50 ≤ ML r 0 j) ∧ Mr r = psum (ML r 0) (Mw r).toNat ∧ (Op r = -1 ∨ (0 ≤ Op r ∧ Op r < np ∧ Os r < Mr r))

def mC (ML : Nat → Nat → Nat → Int) (Mw Mo Ms : Nat → Int) (RC : Nat → List (Nat → Int)) (r : Nat) : Prop := agrR [cnC (Mw r) (Mo r) (Ms r), ML r 0, ML r 1, ML r 2, ML r 3, zQ, ML r 4, ML r 5, ML r 6, ML r 7, ML r 8, ML r 9, ML r 10, ML r 11, ML r 12] (RC r)

def mBI (II : Nat → Int) (np hb se nr tn ts : Int) : Prop := (0 ≤ nr ∧ nr ≤ 6) ∧ (0 ≤ ts ∧ ts ≤ 400) ∧ (0 ≤ (II 21) ∧ (II 21) ≤ 400) ∧ (0 ≤ (II 22) ∧ (II 22) ≤ 400) ∧ ((-1) ≤ (II 23) ∧ (II 23) ≤ 400) ∧ ((-2147483648) ≤ (II 24) ∧ (II 24) ≤ 2147483647) ∧ (0 ≤ np ∧ np ≤ 4) ∧ (0 ≤ tn ∧ tn ≤ 20) ∧ (0 ≤ (II 47) ∧ (II 47) ≤ 480) ∧ (0 ≤ (II 48) ∧ (II 48) ≤ 240) ∧ ((-1) ≤ (II 49) ∧ (II 49) ≤ 3) ∧ ((-2147483648) ≤ (II 50) ∧ (II 50) ≤ 2147483647) ∧ ((-2147483648) ≤ (II 51) ∧ (II 51) ≤ 2147483647) ∧ ((-2147483648) ≤ (II 52) ∧ (II 52) ≤ 2147483647) ∧ ((-2147483648) ≤ (II 53) ∧ (II 53) ≤ 2147483647) ∧ (0 ≤ (II 55) ∧ (II 55) ≤ 2880) ∧ (0 ≤ hb ∧ hb ≤ 4) ∧ ((-2147483648) ≤ (II 65) ∧ (II 65) ≤ 2147483647) ∧ (0 ≤ se ∧ se ≤ 10)

def mBF (FF : Nat → Nat → Int) : Prop := (∀ j, j < 7 → 0 ≤ FF 13 j ∧ FF 13 j ≤ 8) ∧ (∀ j, j < 7 → 0 ≤ FF 14 j ∧ FF 14 j ≤ 8) ∧ (∀ j, j < 7 → 0 ≤ FF 15 j ∧ FF 15 j ≤ 4) ∧ (∀ j, j < 7 → (-2147483648) ≤ FF 16 j ∧ FF 16 j ≤ 2147483647) ∧ (∀ j, j < 7 → 0 ≤ FF 17 j ∧ FF 17 j ≤ 4800) ∧ (∀ j, j < 400 → (-128) ≤ FF 19 j ∧ FF 19 j ≤ 127) ∧ (∀ j, j < 4 → 0 ≤ FF 26 j ∧ FF 26 j ≤ 120) ∧ (∀ j, j < 4 → 0 ≤ FF 27 j ∧ FF 27 j ≤ 120) ∧ (∀ j, j < 4 → 0 ≤ FF 28 j ∧ FF 28 j ≤ 2) ∧ (∀ j, j < 4 → 0 ≤ FF 29 j ∧ FF 29 j ≤ 2000) ∧ (∀ j, j < 4 → 0 ≤ FF 30 j ∧ FF 30 j ≤ 119) ∧ (∀ j, j < 4 → 0 ≤ FF 31 j ∧ FF 31 j ≤ 120) ∧ (∀ j, j < 6 → (-1) ≤ FF 34 j ∧ FF 34 j ≤ 3) ∧ (∀ j, j < 6 → 0 ≤ FF 35 j ∧ FF 35 j ≤ 4799) ∧ (∀ j, j < 6 → 0 ≤ FF 36 j ∧ FF 36 j ≤ 119) ∧ (∀ j, j < 6 → 0 ≤ FF 37 j ∧ FF 37 j ≤ 240) ∧ (∀ j, j < 251 → 0 ≤ FF 38 j ∧ FF 38 j ≤ 4799) ∧ (∀ j, j < 251 → (-2147483648) ≤ FF 39 j ∧ FF 39 j ≤ 2147483647) ∧ (∀ j, j < 251 → 0 ≤ FF 40 j ∧ FF 40 j ≤ 480) ∧ (∀ j, j < 251 → 0 ≤ FF 41 j ∧ FF 41 j ≤ 2) ∧ (∀ j, j < 500 → 0 ≤ FF 42 j ∧ FF 42 j ≤ 239) ∧ (∀ j, j < 500 → (-2147483648) ≤ FF 43 j ∧ FF 43 j ≤ 2147483647) ∧ (∀ j, j < 500 → (-2147483648) ≤ FF 44 j ∧ FF 44 j ≤ 2147483647) ∧ (∀ j, j < 500 → (-2147483648) ≤ FF 45 j ∧ FF 45 j ≤ 2147483647) ∧ (∀ j, j < 500 → (-2147483648) ≤ FF 46 j ∧ FF 46 j ≤ 2147483647) ∧ (∀ j, j < 3000 → (-2147483648) ≤ FF 54 j ∧ FF 54 j ≤ 2147483647) ∧ (∀ j, j < 4096 → (-2147483648) ≤ FF 56 j ∧ FF 56 j ≤ 2147483647) ∧ (∀ j, j < 8 → (-2147483648) ≤ FF 57 j ∧ FF 57 j ≤ 2147483647) ∧ (∀ j, j < 4 → (-2147483648) ≤ FF 58 j ∧ FF 58 j ≤ 2147483647) ∧ (∀ j, j < 4 → (-2147483648) ≤ FF 59 j ∧ FF 59 j ≤ 2147483647) ∧ (∀ j, j < 8 → (-2147483648) ≤ FF 60 j ∧ FF 60 j ≤ 2147483647) ∧ (∀ j, j < 8 → (-2147483648) ≤ FF 61 j ∧ FF 61 j ≤ 2147483647) ∧ (∀ j, j < 8 → (-2147483648) ≤ FF 62 j ∧ FF 62 j ≤ 2147483647) ∧ (∀ j, j < 4 → (-2147483648) ≤ FF 63 j ∧ FF 63 j ≤ 2147483647) ∧ (∀ j, j < 10 → (-2147483648) ≤ FF 66 j ∧ FF 66 j ≤ 2147483647) ∧ (∀ j, j < 10 → (-2147483648) ≤ FF 67 j ∧ FF 67 j ≤ 2147483647) ∧ (∀ j, j < 10 → (-2147483648) ≤ FF 68 j ∧ FF 68 j ≤ 2147483647) ∧ (∀ j, j < 3 → 0 ≤ FF 72 j ∧ FF 72 j ≤ 10) ∧ (∀ j, j < 3 → 0 ≤ FF 73 j ∧ FF 73 j ≤ 6) ∧ (∀ j, j < 3 → 0 ≤ FF 74 j ∧ FF 74 j ≤ 1)

theorem hF_13 {FF : Nat → Nat → Int} (h : mBF FF) : ∀ j, j < 7 → 0 ≤ FF 13 j ∧ FF 13 j ≤ 8 := h.1

theorem hF_14 {FF : Nat → Nat → Int} (h : mBF FF) : ∀ j, j < 7 → 0 ≤ FF 14 j ∧ FF 14 j ≤ 8 := h.2.1

theorem hF_15 {FF : Nat → Nat → Int} (h : mBF FF) : ∀ j, j < 7 → 0 ≤ FF 15 j ∧ FF 15 j ≤ 4 := h.2.2.1

theorem hF_16 {FF : Nat → Nat → Int} (h : mBF FF) : ∀ j, j < 7 → (-2147483648) ≤ FF 16 j ∧ FF 16 j ≤ 2147483647 := h.2.2.2.1

theorem hF_17 {FF : Nat → Nat → Int} (h : mBF FF) : ∀ j, j < 7 → 0 ≤ FF 17 j ∧ FF 17 j ≤ 4800 := h.2.2.2.2.1

theorem hF_19 {FF : Nat → Nat → Int} (h : mBF FF) : ∀ j, j < 400 → (-128) ≤ FF 19 j ∧ FF 19 j ≤ 127 := h.2.2.2.2.2.1

theorem hF_26 {FF : Nat → Nat → Int} (h : mBF FF) : ∀ j, j < 4 → 0 ≤ FF 26 j ∧ FF 26 j ≤ 120 := h.2.2.2.2.2.2.1

theorem hF_27 {FF : Nat → Nat → Int} (h : mBF FF) : ∀ j, j < 4 → 0 ≤ FF 27 j ∧ FF 27 j ≤ 120 := h.2.2.2.2.2.2.2.1

theorem hF_28 {FF : Nat → Nat → Int} (h : mBF FF) : ∀ j, j < 4 → 0 ≤ FF 28 j ∧ FF 28 j ≤ 2 := h.2.2.2.2.2.2.2.2.1

theorem hF_29 {FF : Nat → Nat → Int} (h : mBF FF) : ∀ j, j < 4 → 0 ≤ FF 29 j ∧ FF 29 j ≤ 2000 := h.2.2.2.2.2.2.2.2.2.1

theorem hF_30 {FF : Nat → Nat → Int} (h : mBF FF) : ∀ j, j < 4 → 0 ≤ FF 30 j ∧ FF 30 j ≤ 119 := h.2.2.2.2.2.2.2.2.2.2.1

theorem hF_31 {FF : Nat → Nat → Int} (h : mBF FF) : ∀ j, j < 4 → 0 ≤ FF 31 j ∧ FF 31 j ≤ 120 := h.2.2.2.2.2.2.2.2.2.2.2.1

theorem hF_34 {FF : Nat → Nat → Int} (h : mBF FF) : ∀ j, j < 6 → (-1) ≤ FF 34 j ∧ FF 34 j ≤ 3 := h.2.2.2.2.2.2.2.2.2.2.2.2.1

theorem hF_35 {FF : Nat → Nat → Int} (h : mBF FF) : ∀ j, j < 6 → 0 ≤ FF 35 j ∧ FF 35 j ≤ 4799 := h.2.2.2.2.2.2.2.2.2.2.2.2.2.1

theorem hF_36 {FF : Nat → Nat → Int} (h : mBF FF) : ∀ j, j < 6 → 0 ≤ FF 36 j ∧ FF 36 j ≤ 119 := h.2.2.2.2.2.2.2.2.2.2.2.2.2.2.1

theorem hF_37 {FF : Nat → Nat → Int} (h : mBF FF) : ∀ j, j < 6 → 0 ≤ FF 37 j ∧ FF 37 j ≤ 240 := h.2.2.2.2.2.2.2.2.2.2.2.2.2.2.2.1

theorem hF_38 {FF : Nat → Nat → Int} (h : mBF FF) : ∀ j, j < 251 → 0 ≤ FF 38 j ∧ FF 38 j ≤ 4799 := h.2.2.2.2.2.2.2.2.2.2.2.2.2.2.2.2.1

theorem hF_39 {FF : Nat → Nat → Int} (h : mBF FF) : ∀ j, j < 251 → (-2147483648) ≤ FF 39 j ∧ FF 39 j ≤ 2147483647 := h.2.2.2.2.2.2.2.2.2.2.2.2.2.2.2.2.2.1

theorem hF_40 {FF : Nat → Nat → Int} (h : mBF FF) : ∀ j, j < 251 → 0 ≤ FF 40 j ∧ FF 40 j ≤ 480 := h.2.2.2.2.2.2.2.2.2.2.2.2.2.2.2.2.2.2.1

theorem hF_41 {FF : Nat → Nat → Int} (h : mBF FF) : ∀ j, j < 251 → 0 ≤ FF 41 j ∧ FF 41 j ≤ 2 := h.2.2.2.2.2.2.2.2.2.2.2.2.2.2.2.2.2.2.2.1

theorem hF_42 {FF : Nat → Nat → Int} (h : mBF FF) : ∀ j, j < 500 → 0 ≤ FF 42 j ∧ FF 42 j ≤ 239 := h.2.2.2.2.2.2.2.2.2.2.2.2.2.2.2.2.2.2.2.2.1

theorem hF_43 {FF : Nat → Nat → Int} (h : mBF FF) : ∀ j, j < 500 → (-2147483648) ≤ FF 43 j ∧ FF 43 j ≤ 2147483647 := h.2.2.2.2.2.2.2.2.2.2.2.2.2.2.2.2.2.2.2.2.2.1

theorem hF_44 {FF : Nat → Nat → Int} (h : mBF FF) : ∀ j, j < 500 → (-2147483648) ≤ FF 44 j ∧ FF 44 j ≤ 2147483647 := h.2.2.2.2.2.2.2.2.2.2.2.2.2.2.2.2.2.2.2.2.2.2.1

theorem hF_45 {FF : Nat → Nat → Int} (h : mBF FF) : ∀ j, j < 500 → (-2147483648) ≤ FF 45 j ∧ FF 45 j ≤ 2147483647 := h.2.2.2.2.2.2.2.2.2.2.2.2.2.2.2.2.2.2.2.2.2.2.2.1

theorem hF_46 {FF : Nat → Nat → Int} (h : mBF FF) : ∀ j, j < 500 → (-2147483648) ≤ FF 46 j ∧ FF 46 j ≤ 2147483647 := h.2.2.2.2.2.2.2.2.2.2.2.2.2.2.2.2.2.2.2.2.2.2.2.2.1

theorem hF_54 {FF : Nat → Nat → Int} (h : mBF FF) : ∀ j, j < 3000 → (-2147483648) ≤ FF 54 j ∧ FF 54 j ≤ 2147483647 := h.2.2.2.2.2.2.2.2.2.2.2.2.2.2.2.2.2.2.2.2.2.2.2.2.2.1

theorem hF_56 {FF : Nat → Nat → Int} (h : mBF FF) : ∀ j, j < 4096 → (-2147483648) ≤ FF 56 j ∧ FF 56 j ≤ 2147483647 := h.2.2.2.2.2.2.2.2.2.2.2.2.2.2.2.2.2.2.2.2.2.2.2.2.2.2.1

theorem hF_57 {FF : Nat → Nat → Int} (h : mBF FF) : ∀ j, j < 8 → (-2147483648) ≤ FF 57 j ∧ FF 57 j ≤ 2147483647 := h.2.2.2.2.2.2.2.2.2.2.2.2.2.2.2.2.2.2.2.2.2.2.2.2.2.2.2.1

theorem hF_58 {FF : Nat → Nat → Int} (h : mBF FF) : ∀ j, j < 4 → (-2147483648) ≤ FF 58 j ∧ FF 58 j ≤ 2147483647 := h.2.2.2.2.2.2.2.2.2.2.2.2.2.2.2.2.2.2.2.2.2.2.2.2.2.2.2.2.1

theorem hF_59 {FF : Nat → Nat → Int} (h : mBF FF) : ∀ j, j < 4 → (-2147483648) ≤ FF 59 j ∧ FF 59 j ≤ 2147483647 := h.2.2.2.2.2.2.2.2.2.2.2.2.2.2.2.2.2.2.2.2.2.2.2.2.2.2.2.2.2.1

theorem hF_60 {FF : Nat → Nat → Int} (h : mBF FF) : ∀ j, j < 8 → (-2147483648) ≤ FF 60 j ∧ FF 60 j ≤ 2147483647 := h.2.2.2.2.2.2.2.2.2.2.2.2.2.2.2.2.2.2.2.2.2.2.2.2.2.2.2.2.2.2.1

theorem hF_61 {FF : Nat → Nat → Int} (h : mBF FF) : ∀ j, j < 8 → (-2147483648) ≤ FF 61 j ∧ FF 61 j ≤ 2147483647 := h.2.2.2.2.2.2.2.2.2.2.2.2.2.2.2.2.2.2.2.2.2.2.2.2.2.2.2.2.2.2.2.1

theorem hF_62 {FF : Nat → Nat → Int} (h : mBF FF) : ∀ j, j < 8 → (-2147483648) ≤ FF 62 j ∧ FF 62 j ≤ 2147483647 := h.2.2.2.2.2.2.2.2.2.2.2.2.2.2.2.2.2.2.2.2.2.2.2.2.2.2.2.2.2.2.2.2.1

theorem hF_63 {FF : Nat → Nat → Int} (h : mBF FF) : ∀ j, j < 4 → (-2147483648) ≤ FF 63 j ∧ FF 63 j ≤ 2147483647 := h.2.2.2.2.2.2.2.2.2.2.2.2.2.2.2.2.2.2.2.2.2.2.2.2.2.2.2.2.2.2.2.2.2.1

theorem hF_66 {FF : Nat → Nat → Int} (h : mBF FF) : ∀ j, j < 10 → (-2147483648) ≤ FF 66 j ∧ FF 66 j ≤ 2147483647 := h.2.2.2.2.2.2.2.2.2.2.2.2.2.2.2.2.2.2.2.2.2.2.2.2.2.2.2.2.2.2.2.2.2.2.1

theorem hF_67 {FF : Nat → Nat → Int} (h : mBF FF) : ∀ j, j < 10 → (-2147483648) ≤ FF 67 j ∧ FF 67 j ≤ 2147483647 := h.2.2.2.2.2.2.2.2.2.2.2.2.2.2.2.2.2.2.2.2.2.2.2.2.2.2.2.2.2.2.2.2.2.2.2.1

theorem hF_68 {FF : Nat → Nat → Int} (h : mBF FF) : ∀ j, j < 10 → (-2147483648) ≤ FF 68 j ∧ FF 68 j ≤ 2147483647 := h.2.2.2.2.2.2.2.2.2.2.2.2.2.2.2.2.2.2.2.2.2.2.2.2.2.2.2.2.2.2.2.2.2.2.2.2.1

theorem hF_72 {FF : Nat → Nat → Int} (h : mBF FF) : ∀ j, j < 3 → 0 ≤ FF 72 j ∧ FF 72 j ≤ 10 := h.2.2.2.2.2.2.2.2.2.2.2.2.2.2.2.2.2.2.2.2.2.2.2.2.2.2.2.2.2.2.2.2.2.2.2.2.2.1

theorem hF_73 {FF : Nat → Nat → Int} (h : mBF FF) : ∀ j, j < 3 → 0 ≤ FF 73 j ∧ FF 73 j ≤ 6 := h.2.2.2.2.2.2.2.2.2.2.2.2.2.2.2.2.2.2.2.2.2.2.2.2.2.2.2.2.2.2.2.2.2.2.2.2.2.2.1

theorem hF_74 {FF : Nat → Nat → Int} (h : mBF FF) : ∀ j, j < 3 → 0 ≤ FF 74 j ∧ FF 74 j ≤ 1 := h.2.2.2.2.2.2.2.2.2.2.2.2.2.2.2.2.2.2.2.2.2.2.2.2.2.2.2.2.2.2.2.2.2.2.2.2.2.2.2

def mI (Z : gZ) (g0 : Nat) (np hb se nr tn ts : Int) (prr ki ie Tb : Nat → Int) (RC : Nat → List (Nat → Int)) (PF : Nat → Nat → Int) (dd : Nat → Nat → Int) (ii : Nat → Nat → Nat → Int) (W : va_W) : Prop := ∃ (gA : Nat → Nat) (gG : Nat → Nat → Option Nat) (FF : Nat → Nat → Int) (II : Nat → Int) (Ws : Nat → Option Nat) (K0 : Nat → Option Nat) (K1 : Nat → Option Nat) (xAA : Nat → Nat → Nat) (ML : Nat → Nat → Nat → Int) (MP : Nat → va_W) (KP : Nat → va_W) (kA : Nat → Nat) (kE : Nat → Nat) (KF : Nat → Nat → Int) (wM0 : va_W), (mBI II np hb se nr tn ts) ∧ (mBF FF) ∧ (∀ j, j < 5 → Ws j = some (Z.2.2.1 j)) ∧ (∀ r : Nat, r ≤ 6 → (∀ k, gG k r = some (xAA r k)) ∧ mRow Z (xAA r) (ML r) (MP r)) ∧ (∀ r : Nat, (r : Int) < nr → mV ML np (FF 13) (FF 17) (FF 34) (FF 35) r) ∧ (∀ j : Nat, (j : Int) < np → ((20 ≤ (FF 26) j ∧ (FF 26) j ≤ 120) ∧ (10 ≤ (FF 27) j ∧ (FF 27) j ≤ 120) ∧ (300 ≤ (FF 29) j ∧ (FF 29) j ≤ 2000)) ∧ (FF 27) j = prr j) ∧ (∀ k : Nat, k < 3 → K0 k = some (kA k) ∧ K1 k = some (kE k) ∧ mKp Z (kA k) (kE k) (KF k) (KP k) ∧ (FF 74) k = ki k ∧ ((FF 74) k = 0 ∨ ((FF 74) k = 1 ∧ (FF 72) k = ie k ∧ (FF 73) k ≤ nr ∧ ∀ j : Nat, (j : Int) < (FF 73) k → mVK (KF k) np (FF 17) j))) ∧ (txR (FF 19) Tb ts) ∧ (∀ r : Nat, (r : Int) < nr → mC ML (FF 13) (FF 14) (FF 15) RC r) ∧ (∀ j : Nat, (j : Int) < np → (FF 26) j = PF j 0 ∧ (FF 28) j = PF j 1 ∧ (FF 30) j = PF j 2 ∧ (FF 31) j = PF j 3) ∧ (mD (FF 34) (FF 35) (FF 36) (FF 37) dd nr) ∧ (∀ k : Nat, k < 3 → (FF 74) k = 1 → mDK (KF k) (ii k) ((FF 73) k)) ∧ (∀ r : Nat, (r : Int) < nr → okR (RC r)) ∧ (∀ r : Nat, (r : Int) < nr → okH (RC r) ∧ okL (RC r)) ∧ (wM0 = [(g0, .inr (12, mO gA nr ts (II 21) (II 22) (II 23) (II 24) np tn (II 47) (II 48) (II 49) (II 50) (II 51) (II 52) (II 53) (II 55) hb (II 65) se)), ((gA 13), .inl (Z.2.1 0, 7, .inl (fun j => iI ((FF 13) j)))), ((gA 14), .inl (Z.2.1 0, 7, .inl (fun j => iI ((FF 14) j)))), ((gA 15), .inl (Z.2.1 0, 7, .inl (fun j => iI ((FF 15) j)))), ((gA 16), .inl (Z.2.1 0, 7, .inl (fun j => iI ((FF 16) j)))), ((gA 17), .inl (Z.2.1 0, 7, .inl (fun j => iI ((FF 17) j)))), ((gA 19), .inl (Z.2.1 1, 400, .inl (fun j => iI ((FF 19) j)))), ((gA 25), .inl (Z.2.1 7, 5, .inr (.inr (.inr (.inr Ws))))), ((gA 26), .inl (Z.2.1 0, 4, .inl (fun j => iI ((FF 26) j)))), ((gA 27), .inl (Z.2.1 0, 4, .inl (fun j => iI ((FF 27) j)))), ((gA 28), .inl (Z.2.1 0, 4, .inl (fun j => iI ((FF 28) j)))), ((gA 29), .inl (Z.2.1 0, 4, .inl (fun j => iI ((FF 29) j)))), ((gA 30), .inl (Z.2.1 0, 4, .inl (fun j => iI ((FF 30) j)))), ((gA 31), .inl (Z.2.1 0, 4, .inl (fun j => iI ((FF 31) j)))), ((gA 34), .inl (Z.2.1 0, 6, .inl (fun j => iI ((FF 34) j)))), ((gA 35), .inl (Z.2.1 0, 6, .inl (fun j => iI ((FF 35) j)))), ((gA 36), .inl (Z.2.1 0, 6, .inl (fun j => iI ((FF 36) j)))), ((gA 37), .inl (Z.2.1 0, 6, .inl (fun j => iI ((FF 37) j)))), ((gA 38), .inl (Z.2.1 0, 251, .inl (fun j => iI ((FF 38) j)))), ((gA 39), .inl (Z.2.1 0, 251, .inl (fun j => iI ((FF 39) j)))), ((gA 40), .inl (Z.2.1 0, 251, .inl (fun j => iI ((FF 40) j)))), ((gA 41), .inl (Z.2.1 0, 251, .inl (fun j => iI ((FF 41) j)))), ((gA 42), .inl (Z.2.1 0, 500, .inl (fun j => iI ((FF 42) j)))), ((gA 43), .inl (Z.2.1 0, 500, .inl (fun j => iI ((FF 43) j)))), ((gA 44), .inl (Z.2.1 0, 500, .inl (fun j => iI ((FF 44) j)))), ((gA 45), .inl (Z.2.1 0, 500, .inl (fun j => iI ((FF 45) j)))), ((gA 46), .inl (Z.2.1 0, 500, .inl (fun j => iI ((FF 46) j)))), ((gA 54), .inl (Z.2.1 0, 3000, .inl (fun j => iI ((FF 54) j)))), ((gA 56), .inl (Z.2.1 0, 4096, .inl (fun j => iI ((FF 56) j)))), ((gA 57), .inl (Z.2.1 0, 8, .inl (fun j => iI ((FF 57) j)))), ((gA 58), .inl (Z.2.1 0, 4, .inl (fun j => iI ((FF 58) j)))), ((gA 59), .inl (Z.2.1 0, 4, .inl (fun j => iI ((FF 59) j)))), ((gA 60), .inl (Z.2.1 0, 8, .inl (fun j => iI ((FF 60) j)))), ((gA 61), .inl (Z.2.1 0, 8, .inl (fun j => iI ((FF 61) j)))), ((gA 62), .inl (Z.2.1 0, 8, .inl (fun j => iI ((FF 62) j)))), ((gA 63), .inl (Z.2.1 0, 4, .inl (fun j => iI ((FF 63) j)))), ((gA 66), .inl (Z.2.1 0, 10, .inl (fun j => iI ((FF 66) j)))), ((gA 67), .inl (Z.2.1 0, 10, .inl (fun j => iI ((FF 67) j)))), ((gA 68), .inl (Z.2.1 0, 10, .inl (fun j => iI ((FF 68) j)))), ((gA 70), .inl (Z.2.1 6, 3, .inr (.inr (.inr (.inr K0))))), ((gA 71), .inl (Z.2.1 6, 3, .inr (.inr (.inr (.inr K1))))), ((gA 72), .inl (Z.2.1 0, 3, .inl (fun j => iI ((FF 72) j)))), ((gA 73), .inl (Z.2.1 0, 3, .inl (fun j => iI ((FF 73) j)))), ((gA 74), .inl (Z.2.1 2, 3, .inl (fun j => iI ((FF 74) j)))), ((gA 0), .inl (Z.2.1 6, 7, .inr (.inr (.inr (.inr (gG 0)))))), ((gA 1), .inl (Z.2.1 6, 7, .inr (.inr (.inr (.inr (gG 1)))))), ((gA 2), .inl (Z.2.1 6, 7, .inr (.inr (.inr (.inr (gG 2)))))), ((gA 3), .inl (Z.2.1 6, 7, .inr (.inr (.inr (.inr (gG 3)))))), ((gA 4), .inl (Z.2.1 6, 7, .inr (.inr (.inr (.inr (gG 4)))))), ((gA 5), .inl (Z.2.1 6, 7, .inr (.inr (.inr (.inr (gG 5)))))), ((gA 6), .inl (Z.2.1 6, 7, .inr (.inr (.inr (.inr (gG 6)))))), ((gA 7), .inl (Z.2.1 6, 7, .inr (.inr (.inr (.inr (gG 7)))))), ((gA 8), .inl (Z.2.1 6, 7, .inr (.inr (.inr (.inr (gG 8)))))), ((gA 9), .inl (Z.2.1 6, 7, .inr (.inr (.inr (.inr (gG 9)))))), ((gA 10), .inl (Z.2.1 6, 7, .inr (.inr (.inr (.inr (gG 10)))))), ((gA 11), .inl (Z.2.1 6, 7, .inr (.inr (.inr (.inr (gG 11)))))), ((gA 12), .inl (Z.2.1 6, 7, .inr (.inr (.inr (.inr (gG 12))))))]) ∧ W.Perm ([wM0, flat MP 7, flat KP 3] : List va_W).flatten
