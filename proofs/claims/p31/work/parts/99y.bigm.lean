def mRow (Z : gZ) (xA : Nat → Nat) (G : Nat → Nat → Int) (w : va_W) : Prop := (∀ j, j < 8 → 0 ≤ G 0 j ∧ G 0 j ≤ 600) ∧ (∀ j, j < 8 → 0 ≤ G 1 j ∧ G 1 j ≤ 400) ∧ (∀ j, j < 8 → 0 ≤ G 2 j ∧ G 2 j ≤ 400) ∧ (∀ j, j < 8 → (-50) ≤ G 3 j ∧ G 3 j ≤ 50) ∧ (∀ j, j < 8 → 0 ≤ G 4 j ∧ G 4 j ≤ 7) ∧ (∀ j, j < 8 → 0 ≤ G 5 j ∧ G 5 j ≤ 600) ∧ (∀ j, j < 8 → 0 ≤ G 6 j ∧ G 6 j ≤ 600) ∧ (∀ j, j < 8 → 0 ≤ G 7 j ∧ G 7 j ≤ 400) ∧ (∀ j, j < 8 → 0 ≤ G 8 j ∧ G 8 j ≤ 400) ∧ (∀ j, j < 8 → 0 ≤ G 9 j ∧ G 9 j ≤ 1) ∧ (∀ j, j < 4 → 0 ≤ G 10 j ∧ G 10 j ≤ 7) ∧ (∀ j, j < 4 → 0 ≤ G 11 j ∧ G 11 j ≤ 600) ∧ (∀ j, j < 4 → 0 ≤ G 12 j ∧ G 12 j ≤ 400) ∧ w = [cA Z (xA 0) 0 8 (G 0), cA Z (xA 1) 0 8 (G 1), cA Z (xA 2) 0 8 (G 2), cA Z (xA 3) 0 8 (G 3), cA Z (xA 4) 0 8 (G 4), cA Z (xA 5) 0 8 (G 5), cA Z (xA 6) 0 8 (G 6), cA Z (xA 7) 0 8 (G 7), cA Z (xA 8) 0 8 (G 8), cA Z (xA 9) 0 8 (G 9), cA Z (xA 10) 0 4 (G 10), cA Z (xA 11) 0 4 (G 11), cA Z (xA 12) 0 4 (G 12)]

def mKp (Z : gZ) (kr0 : Nat) (ke0 : Nat) (Kp : Nat → Int) (w : va_W) : Prop := ∃ (Ke : Nat → Int), (∀ j, j < 24 → (-1) ≤ Kp j ∧ Kp j ≤ 4799) ∧ (∀ j, j < 30 → (-2147483648) ≤ Ke j ∧ Ke j ≤ 2147483647) ∧ w = [cA Z kr0 0 24 Kp, cA Z ke0 0 30 Ke]

def mVK (F : Nat → Int) (np : Int) (Mr : Nat → Int) (j : Nat) : Prop := (-1 ≤ F (4 * j) ∧ F (4 * j) ≤ 3) ∧ (0 ≤ F (4 * j + 1) ∧ F (4 * j + 1) ≤ 4799) ∧ (0 ≤ F (4 * j + 2) ∧ F (4 * j + 2) ≤ 119) ∧ (0 ≤ F (4 * j + 3) ∧ F (4 * j + 3) ≤ 240) ∧ (F (4 * j) = -1 ∨ (0 ≤ F (4 * j) ∧ F (4 * j) < np ∧ F (4 * j + 1) < Mr j))

def mV (ML : Nat → Nat → Nat → Int) (np : Int) (Mw Mr Op Os : Nat → Int) (r : Nat) : Prop := (1 ≤ Mw r ∧ Mw r ≤ 8) ∧ (∀ j : Nat, (j : Int) < Mw r → 50 ≤ ML r 0 j) ∧ Mr r = psum (ML r 0) (Mw r).toNat ∧ (Op r = -1 ∨ (0 ≤ Op r ∧ Op r < np ∧ Os r < Mr r))

def mC (ML : Nat → Nat → Nat → Int) (Mw Mo Ms : Nat → Int) (RC : Nat → List (Nat → Int)) (r : Nat) : Prop := agrR [cnC (Mw r) (Mo r) (Ms r), ML r 0, ML r 1, ML r 2, ML r 3, zQ, ML r 4, ML r 5, ML r 6, ML r 7, ML r 8, ML r 9, ML r 10, ML r 11, ML r 12] (RC r)

def mBI (II : Nat → Int) (np hb se nr tn ts : Int) : Prop := (0 ≤ nr ∧ nr ≤ 6) ∧ (0 ≤ ts ∧ ts ≤ 400) ∧ (0 ≤ (II 21) ∧ (II 21) ≤ 400) ∧ (0 ≤ (II 22) ∧ (II 22) ≤ 400) ∧ ((-1) ≤ (II 23) ∧ (II 23) ≤ 400) ∧ ((-2147483648) ≤ (II 24) ∧ (II 24) ≤ 2147483647) ∧ (0 ≤ np ∧ np ≤ 4) ∧ (0 ≤ tn ∧ tn ≤ 20) ∧ (0 ≤ (II 47) ∧ (II 47) ≤ 480) ∧ (0 ≤ (II 48) ∧ (II 48) ≤ 240) ∧ ((-1) ≤ (II 49) ∧ (II 49) ≤ 3) ∧ ((-2147483648) ≤ (II 50) ∧ (II 50) ≤ 2147483647) ∧ ((-2147483648) ≤ (II 51) ∧ (II 51) ≤ 2147483647) ∧ ((-2147483648) ≤ (II 52) ∧ (II 52) ≤ 2147483647) ∧ ((-2147483648) ≤ (II 53) ∧ (II 53) ≤ 2147483647) ∧ (0 ≤ (II 55) ∧ (II 55) ≤ 2880) ∧ (0 ≤ hb ∧ hb ≤ 4) ∧ ((-2147483648) ≤ (II 65) ∧ (II 65) ≤ 2147483647) ∧ (0 ≤ se ∧ se ≤ 10)

def mBF (FF : Nat → Nat → Int) : Prop := (∀ j, j < 7 → 0 ≤ FF 13 j ∧ FF 13 j ≤ 8) ∧ (∀ j, j < 7 → 0 ≤ FF 14 j ∧ FF 14 j ≤ 8) ∧ (∀ j, j < 7 → 0 ≤ FF 15 j ∧ FF 15 j ≤ 4) ∧ (∀ j, j < 7 → (-2147483648) ≤ FF 16 j ∧ FF 16 j ≤ 2147483647) ∧ (∀ j, j < 7 → 0 ≤ FF 17 j ∧ FF 17 j ≤ 4800) ∧ (∀ j, j < 400 → (-128) ≤ FF 19 j ∧ FF 19 j ≤ 127) ∧ (∀ j, j < 4 → 0 ≤ FF 26 j ∧ FF 26 j ≤ 120) ∧ (∀ j, j < 4 → 0 ≤ FF 27 j ∧ FF 27 j ≤ 120) ∧ (∀ j, j < 4 → 0 ≤ FF 28 j ∧ FF 28 j ≤ 2) ∧ (∀ j, j < 4 → 0 ≤ FF 29 j ∧ FF 29 j ≤ 2000) ∧ (∀ j, j < 4 → 0 ≤ FF 30 j ∧ FF 30 j ≤ 119) ∧ (∀ j, j < 4 → 0 ≤ FF 31 j ∧ FF 31 j ≤ 120) ∧ (∀ j, j < 6 → (-1) ≤ FF 34 j ∧ FF 34 j ≤ 3) ∧ (∀ j, j < 6 → 0 ≤ FF 35 j ∧ FF 35 j ≤ 4799) ∧ (∀ j, j < 6 → 0 ≤ FF 36 j ∧ FF 36 j ≤ 119) ∧ (∀ j, j < 6 → 0 ≤ FF 37 j ∧ FF 37 j ≤ 240) ∧ (∀ j, j < 251 → 0 ≤ FF 38 j ∧ FF 38 j ≤ 4799) ∧ (∀ j, j < 251 → (-2147483648) ≤ FF 39 j ∧ FF 39 j ≤ 2147483647) ∧ (∀ j, j < 251 → 0 ≤ FF 40 j ∧ FF 40 j ≤ 480) ∧ (∀ j, j < 251 → 0 ≤ FF 41 j ∧ FF 41 j ≤ 2) ∧ (∀ j, j < 500 → 0 ≤ FF 42 j ∧ FF 42 j ≤ 239) ∧ (∀ j, j < 500 → (-2147483648) ≤ FF 43 j ∧ FF 43 j ≤ 2147483647) ∧ (∀ j, j < 500 → (-2147483648) ≤ FF 44 j ∧ FF 44 j ≤ 2147483647) ∧ (∀ j, j < 500 → (-2147483648) ≤ FF 45 j ∧ FF 45 j ≤ 2147483647) ∧ (∀ j, j < 500 → (-2147483648) ≤ FF 46 j ∧ FF 46 j ≤ 2147483647) ∧ (∀ j, j < 3000 → (-2147483648) ≤ FF 54 j ∧ FF 54 j ≤ 2147483647) ∧ (∀ j, j < 4096 → (-2147483648) ≤ FF 56 j ∧ FF 56 j ≤ 2147483647) ∧ (∀ j, j < 8 → (-2147483648) ≤ FF 57 j ∧ FF 57 j ≤ 2147483647) ∧ (∀ j, j < 4 → (-2147483648) ≤ FF 58 j ∧ FF 58 j ≤ 2147483647) ∧ (∀ j, j < 4 → (-2147483648) ≤ FF 59 j ∧ FF 59 j ≤ 2147483647) ∧ (∀ j, j < 8 → (-2147483648) ≤ FF 60 j ∧ FF 60 j ≤ 2147483647) ∧ (∀ j, j < 8 → (-2147483648) ≤ FF 61 j ∧ FF 61 j ≤ 2147483647) ∧ (∀ j, j < 8 → (-2147483648) ≤ FF 62 j ∧ FF 62 j ≤ 2147483647) ∧ (∀ j, j < 4 → (-2147483648) ≤ FF 63 j ∧ FF 63 j ≤ 2147483647) ∧ (∀ j, j < 10 → (-2147483648) ≤ FF 66 j ∧ FF 66 j ≤ 2147483647) ∧ (∀ j, j < 10 → (-2147483648) ≤ FF 67 j ∧ FF 67 j ≤ 2147483647) ∧ (∀ j, j < 10 → (-2147483648) ≤ FF 68 j ∧ FF 68 j ≤ 2147483647) ∧ (∀ j, j < 3 → 0 ≤ FF 72 j ∧ FF 72 j ≤ 10) ∧ (∀ j, j < 3 → 0 ≤ FF 73 j ∧ FF 73 j ≤ 6) ∧ (∀ j, j < 3 → 0 ≤ FF 74 j ∧ FF 74 j ≤ 1)

theorem hF_13 {FF : Nat → Nat → Int} (h : mBF FF) : ∀ j, j < 7 → 0 ≤ FF 13 j ∧ FF 13 j ≤ 8 := h.1

theorem hF_14 {FF : Nat → Nat → Int} (h : mBF FF) : ∀ j, j < 7 → 0 ≤ FF 14 j ∧ FF 14 j ≤ 8 := h.2.1

theorem hF_15 {FF : Nat → Nat → Int} (h : mBF FF) : ∀ j, j < 7 → 0 ≤ FF 15 j ∧ FF 15 j ≤ 4 := h.2.2.1

theorem hF_16 {FF : Nat → Nat → Int} (h : mBF FF) : ∀ j, j < 7 → (-2147483648) ≤ FF 16 j ∧ FF 16 j ≤ 2147483647 := h.2.2.2.1

theorem hF_17 {FF : Nat → Nat → Int} (h : mBF FF) : ∀ j, j < 7 → 0 ≤ FF 17 j ∧ FF 17 j ≤ 4800 := h.2.2.2.2.1

theorem hF_19 {FF : Nat → Nat → Int} (h : mBF FF) : ∀ j, j < 400 → (-128) ≤ FF 19 j ∧ FF 19 j ≤ 127 := h.2.2.2.2.2.1

theorem hF_26 {FF : Nat → Nat → Int} (h : mBF FF) : ∀ j, j < 4 → 0 ≤ FF 26 j ∧ FF 26 j ≤ 120 := h.2.2.2.2.2.2.1

theorem hF_27 {FF : Nat → Nat → Int} (h : mBF FF) : ∀ j, j < 4 → 0 ≤ FF 27 j ∧ FF 27 j ≤ 120 := h.2.2.2.2.2.2.2.1

theorem hF_28 {FF : Nat → Nat → Int} (h : mBF FF) : ∀ j, j < 4 → 0 ≤ FF 28 j ∧ FF 28 j ≤ 2 := h.2.2.2.2.2.2.2.2.1

theorem hF_29 {FF : Nat → Nat → Int} (h : mBF FF) : ∀ j, j < 4 → 0 ≤ FF 29 j ∧ FF 29 j ≤ 2000 := h.2.2.2.2.2.2.2.2.2.1

theorem hF_30 {FF : Nat → Nat → Int} (h : mBF FF) : ∀ j, j < 4 → 0 ≤ FF 30 j ∧ FF 30 j ≤ 119 := h.2.2.2.2.2.2.2.2.2.2.1

theorem hF_31 {FF : Nat → Nat → Int} (h : mBF FF) : ∀ j, j < 4 → 0 ≤ FF 31 j ∧ FF 31 j ≤ 120 := h.2.2.2.2.2.2.2.2.2.2.2.1

theorem hF_34 {FF : Nat → Nat → Int} (h : mBF FF) : ∀ j, j < 6 → (-1) ≤ FF 34 j ∧ FF 34 j ≤ 3 := h.2.2.2.2.2.2.2.2.2.2.2.2.1

theorem hF_35 {FF : Nat → Nat → Int} (h : mBF FF) : ∀ j, j < 6 → 0 ≤ FF 35 j ∧ FF 35 j ≤ 4799 := h.2.2.2.2.2.2.2.2.2.2.2.2.2.1

theorem hF_36 {FF : Nat → Nat → Int} (h : mBF FF) : ∀ j, j < 6 → 0 ≤ FF 36 j ∧ FF 36 j ≤ 119 := h.2.2.2.2.2.2.2.2.2.2.2.2.2.2.1

theorem hF_37 {FF : Nat → Nat → Int} (h : mBF FF) : ∀ j, j < 6 → 0 ≤ FF 37 j ∧ FF 37 j ≤ 240 := h.2.2.2.2.2.2.2.2.2.2.2.2.2.2.2.1

theorem hF_38 {FF : Nat → Nat → Int} (h : mBF FF) : ∀ j, j < 251 → 0 ≤ FF 38 j ∧ FF 38 j ≤ 4799 := h.2.2.2.2.2.2.2.2.2.2.2.2.2.2.2.2.1

theorem hF_39 {FF : Nat → Nat → Int} (h : mBF FF) : ∀ j, j < 251 → (-2147483648) ≤ FF 39 j ∧ FF 39 j ≤ 2147483647 := h.2.2.2.2.2.2.2.2.2.2.2.2.2.2.2.2.2.1

theorem hF_40 {FF : Nat → Nat → Int} (h : mBF FF) : ∀ j, j < 251 → 0 ≤ FF 40 j ∧ FF 40 j ≤ 480 := h.2.2.2.2.2.2.2.2.2.2.2.2.2.2.2.2.2.2.1

theorem hF_41 {FF : Nat → Nat → Int} (h : mBF FF) : ∀ j, j < 251 → 0 ≤ FF 41 j ∧ FF 41 j ≤ 2 := h.2.2.2.2.2.2.2.2.2.2.2.2.2.2.2.2.2.2.2.1

theorem hF_42 {FF : Nat → Nat → Int} (h : mBF FF) : ∀ j, j < 500 → 0 ≤ FF 42 j ∧ FF 42 j ≤ 239 := h.2.2.2.2.2.2.2.2.2.2.2.2.2.2.2.2.2.2.2.2.1

theorem hF_43 {FF : Nat → Nat → Int} (h : mBF FF) : ∀ j, j < 500 → (-2147483648) ≤ FF 43 j ∧ FF 43 j ≤ 2147483647 := h.2.2.2.2.2.2.2.2.2.2.2.2.2.2.2.2.2.2.2.2.2.1

theorem hF_44 {FF : Nat → Nat → Int} (h : mBF FF) : ∀ j, j < 500 → (-2147483648) ≤ FF 44 j ∧ FF 44 j ≤ 2147483647 := h.2.2.2.2.2.2.2.2.2.2.2.2.2.2.2.2.2.2.2.2.2.2.1

theorem hF_45 {FF : Nat → Nat → Int} (h : mBF FF) : ∀ j, j < 500 → (-2147483648) ≤ FF 45 j ∧ FF 45 j ≤ 2147483647 := h.2.2.2.2.2.2.2.2.2.2.2.2.2.2.2.2.2.2.2.2.2.2.2.1

theorem hF_46 {FF : Nat → Nat → Int} (h : mBF FF) : ∀ j, j < 500 → (-2147483648) ≤ FF 46 j ∧ FF 46 j ≤ 2147483647 := h.2.2.2.2.2.2.2.2.2.2.2.2.2.2.2.2.2.2.2.2.2.2.2.2.1

theorem hF_54 {FF : Nat → Nat → Int} (h : mBF FF) : ∀ j, j < 3000 → (-2147483648) ≤ FF 54 j ∧ FF 54 j ≤ 2147483647 := h.2.2.2.2.2.2.2.2.2.2.2.2.2.2.2.2.2.2.2.2.2.2.2.2.2.1

theorem hF_56 {FF : Nat → Nat → Int} (h : mBF FF) : ∀ j, j < 4096 → (-2147483648) ≤ FF 56 j ∧ FF 56 j ≤ 2147483647 := h.2.2.2.2.2.2.2.2.2.2.2.2.2.2.2.2.2.2.2.2.2.2.2.2.2.2.1

theorem hF_57 {FF : Nat → Nat → Int} (h : mBF FF) : ∀ j, j < 8 → (-2147483648) ≤ FF 57 j ∧ FF 57 j ≤ 2147483647 := h.2.2.2.2.2.2.2.2.2.2.2.2.2.2.2.2.2.2.2.2.2.2.2.2.2.2.2.1

theorem hF_58 {FF : Nat → Nat → Int} (h : mBF FF) : ∀ j, j < 4 → (-2147483648) ≤ FF 58 j ∧ FF 58 j ≤ 2147483647 := h.2.2.2.2.2.2.2.2.2.2.2.2.2.2.2.2.2.2.2.2.2.2.2.2.2.2.2.2.1

theorem hF_59 {FF : Nat → Nat → Int} (h : mBF FF) : ∀ j, j < 4 → (-2147483648) ≤ FF 59 j ∧ FF 59 j ≤ 2147483647 := h.2.2.2.2.2.2.2.2.2.2.2.2.2.2.2.2.2.2.2.2.2.2.2.2.2.2.2.2.2.1

theorem hF_60 {FF : Nat → Nat → Int} (h : mBF FF) : ∀ j, j < 8 → (-2147483648) ≤ FF 60 j ∧ FF 60 j ≤ 2147483647 := h.2.2.2.2.2.2.2.2.2.2.2.2.2.2.2.2.2.2.2.2.2.2.2.2.2.2.2.2.2.2.1

theorem hF_61 {FF : Nat → Nat → Int} (h : mBF FF) : ∀ j, j < 8 → (-2147483648) ≤ FF 61 j ∧ FF 61 j ≤ 2147483647 := h.2.2.2.2.2.2.2.2.2.2.2.2.2.2.2.2.2.2.2.2.2.2.2.2.2.2.2.2.2.2.2.1

theorem hF_62 {FF : Nat → Nat → Int} (h : mBF FF) : ∀ j, j < 8 → (-2147483648) ≤ FF 62 j ∧ FF 62 j ≤ 2147483647 := h.2.2.2.2.2.2.2.2.2.2.2.2.2.2.2.2.2.2.2.2.2.2.2.2.2.2.2.2.2.2.2.2.1

theorem hF_63 {FF : Nat → Nat → Int} (h : mBF FF) : ∀ j, j < 4 → (-2147483648) ≤ FF 63 j ∧ FF 63 j ≤ 2147483647 := h.2.2.2.2.2.2.2.2.2.2.2.2.2.2.2.2.2.2.2.2.2.2.2.2.2.2.2.2.2.2.2.2.2.1

theorem hF_66 {FF : Nat → Nat → Int} (h : mBF FF) : ∀ j, j < 10 → (-2147483648) ≤ FF 66 j ∧ FF 66 j ≤ 2147483647 := h.2.2.2.2.2.2.2.2.2.2.2.2.2.2.2.2.2.2.2.2.2.2.2.2.2.2.2.2.2.2.2.2.2.2.1

theorem hF_67 {FF : Nat → Nat → Int} (h : mBF FF) : ∀ j, j < 10 → (-2147483648) ≤ FF 67 j ∧ FF 67 j ≤ 2147483647 := h.2.2.2.2.2.2.2.2.2.2.2.2.2.2.2.2.2.2.2.2.2.2.2.2.2.2.2.2.2.2.2.2.2.2.2.1

theorem hF_68 {FF : Nat → Nat → Int} (h : mBF FF) : ∀ j, j < 10 → (-2147483648) ≤ FF 68 j ∧ FF 68 j ≤ 2147483647 := h.2.2.2.2.2.2.2.2.2.2.2.2.2.2.2.2.2.2.2.2.2.2.2.2.2.2.2.2.2.2.2.2.2.2.2.2.1

theorem hF_72 {FF : Nat → Nat → Int} (h : mBF FF) : ∀ j, j < 3 → 0 ≤ FF 72 j ∧ FF 72 j ≤ 10 := h.2.2.2.2.2.2.2.2.2.2.2.2.2.2.2.2.2.2.2.2.2.2.2.2.2.2.2.2.2.2.2.2.2.2.2.2.2.1

theorem hF_73 {FF : Nat → Nat → Int} (h : mBF FF) : ∀ j, j < 3 → 0 ≤ FF 73 j ∧ FF 73 j ≤ 6 := h.2.2.2.2.2.2.2.2.2.2.2.2.2.2.2.2.2.2.2.2.2.2.2.2.2.2.2.2.2.2.2.2.2.2.2.2.2.2.1

theorem hF_74 {FF : Nat → Nat → Int} (h : mBF FF) : ∀ j, j < 3 → 0 ≤ FF 74 j ∧ FF 74 j ≤ 1 := h.2.2.2.2.2.2.2.2.2.2.2.2.2.2.2.2.2.2.2.2.2.2.2.2.2.2.2.2.2.2.2.2.2.2.2.2.2.2.2

def mI (Z : gZ) (g0 : Nat) (np hb se nr tn ts : Int) (prr ki ie Tb : Nat → Int) (RC : Nat → List (Nat → Int)) (W : va_W) : Prop := ∃ (gA : Nat → Nat) (gG : Nat → Nat → Option Nat) (FF : Nat → Nat → Int) (II : Nat → Int) (Ws : Nat → Option Nat) (K0 : Nat → Option Nat) (K1 : Nat → Option Nat) (xAA : Nat → Nat → Nat) (ML : Nat → Nat → Nat → Int) (MP : Nat → va_W) (KP : Nat → va_W) (kA : Nat → Nat) (kE : Nat → Nat) (KF : Nat → Nat → Int) (wM0 : va_W), (mBI II np hb se nr tn ts) ∧ (mBF FF) ∧ (∀ j, j < 5 → Ws j = some (Z.2.2.1 j)) ∧ (∀ r : Nat, r ≤ 6 → (∀ k, gG k r = some (xAA r k)) ∧ mRow Z (xAA r) (ML r) (MP r)) ∧ (∀ r : Nat, (r : Int) < nr → mV ML np (FF 13) (FF 17) (FF 34) (FF 35) r) ∧ (∀ j : Nat, (j : Int) < np → ((20 ≤ (FF 26) j ∧ (FF 26) j ≤ 120) ∧ (10 ≤ (FF 27) j ∧ (FF 27) j ≤ 120) ∧ (300 ≤ (FF 29) j ∧ (FF 29) j ≤ 2000)) ∧ (FF 27) j = prr j) ∧ (∀ k : Nat, k < 3 → K0 k = some (kA k) ∧ K1 k = some (kE k) ∧ mKp Z (kA k) (kE k) (KF k) (KP k) ∧ (FF 74) k = ki k ∧ ((FF 74) k = 0 ∨ ((FF 74) k = 1 ∧ (FF 72) k = ie k ∧ (FF 73) k ≤ nr ∧ ∀ j : Nat, (j : Int) < (FF 73) k → mVK (KF k) np (FF 17) j))) ∧ (txR (FF 19) Tb ts) ∧ (∀ r : Nat, (r : Int) < nr → mC ML (FF 13) (FF 14) (FF 15) RC r) ∧ (wM0 = [(g0, .inr (12, mO gA nr ts (II 21) (II 22) (II 23) (II 24) np tn (II 47) (II 48) (II 49) (II 50) (II 51) (II 52) (II 53) (II 55) hb (II 65) se)), cA Z (gA 13) 0 7 (FF 13), cA Z (gA 14) 0 7 (FF 14), cA Z (gA 15) 0 7 (FF 15), cA Z (gA 16) 0 7 (FF 16), cA Z (gA 17) 0 7 (FF 17), cA Z (gA 19) 1 400 (FF 19), cR Z (gA 25) 7 5 Ws, cA Z (gA 26) 0 4 (FF 26), cA Z (gA 27) 0 4 (FF 27), cA Z (gA 28) 0 4 (FF 28), cA Z (gA 29) 0 4 (FF 29), cA Z (gA 30) 0 4 (FF 30), cA Z (gA 31) 0 4 (FF 31), cA Z (gA 34) 0 6 (FF 34), cA Z (gA 35) 0 6 (FF 35), cA Z (gA 36) 0 6 (FF 36), cA Z (gA 37) 0 6 (FF 37), cA Z (gA 38) 0 251 (FF 38), cA Z (gA 39) 0 251 (FF 39), cA Z (gA 40) 0 251 (FF 40), cA Z (gA 41) 0 251 (FF 41), cA Z (gA 42) 0 500 (FF 42), cA Z (gA 43) 0 500 (FF 43), cA Z (gA 44) 0 500 (FF 44), cA Z (gA 45) 0 500 (FF 45), cA Z (gA 46) 0 500 (FF 46), cA Z (gA 54) 0 3000 (FF 54), cA Z (gA 56) 0 4096 (FF 56), cA Z (gA 57) 0 8 (FF 57), cA Z (gA 58) 0 4 (FF 58), cA Z (gA 59) 0 4 (FF 59), cA Z (gA 60) 0 8 (FF 60), cA Z (gA 61) 0 8 (FF 61), cA Z (gA 62) 0 8 (FF 62), cA Z (gA 63) 0 4 (FF 63), cA Z (gA 66) 0 10 (FF 66), cA Z (gA 67) 0 10 (FF 67), cA Z (gA 68) 0 10 (FF 68), cR Z (gA 70) 6 3 K0, cR Z (gA 71) 6 3 K1, cA Z (gA 72) 0 3 (FF 72), cA Z (gA 73) 0 3 (FF 73), cA Z (gA 74) 2 3 (FF 74), cR Z (gA 0) 6 7 (gG 0), cR Z (gA 1) 6 7 (gG 1), cR Z (gA 2) 6 7 (gG 2), cR Z (gA 3) 6 7 (gG 3), cR Z (gA 4) 6 7 (gG 4), cR Z (gA 5) 6 7 (gG 5), cR Z (gA 6) 6 7 (gG 6), cR Z (gA 7) 6 7 (gG 7), cR Z (gA 8) 6 7 (gG 8), cR Z (gA 9) 6 7 (gG 9), cR Z (gA 10) 6 7 (gG 10), cR Z (gA 11) 6 7 (gG 11), cR Z (gA 12) 6 7 (gG 12)]) ∧ W.Perm ([wM0, flat MP 7, flat KP 3] : List va_W).flatten
