set_option maxHeartbeats 4000000 in
set_option maxRecDepth 100000 in
theorem kx_floorDiv (l : Launch) (Z : gZ) (v : Int) (d : Int) (b_v : (-1000000) ≤ v ∧ v ≤ 1000000) (b_d : 1 ≤ d ∧ d ≤ 600) : Con l Z yJ9_floorDiv_7cf53 cJ9_floorDiv_7cf53 3 (some .int) 0 0 0 0 [.int (iI v), .int (iI d)] [] (fun r w' => ∃ (y : Int), (r = some (.int (iI y))) ∧ (w' = []) ∧ ((-2000000) ≤ y ∧ y ≤ 2000000) ∧ (y = v / d)) := by
  refine enterF (by decide +kernel) (Nat.le_of_ble_eq_true rfl) ?_
  intro p e s m args below meth c A X hnm hA
  have X : Cx p s m args meth c cJ9_floorDiv_7cf53 3 (some .int) RJ9 Z A := X
  refine g_as (pc' := 0) (lv' := [(0, .int (iI v)), (1, .int (iI d))]) (st' := []) (ws' := []) rfl rfl rfl rfl ?_
  refine g_iload_n (pc := 0) X 0 rfl dJ9_floorDiv_7cf53_0 ?_
  refine g_iload_n (pc := 1) X 1 rfl dJ9_floorDiv_7cf53_1 ?_
  refine g_idivI (pc := 2) X (inRb b_v (by decide) (by decide)) (inRb b_d (by decide) (by decide)) (by omega) (by omega) dJ9_floorDiv_7cf53_2 ?_
  refine g_nameI (fun y1 ey1 => ?_)
  have by1 : (-1000000) ≤ y1 ∧ y1 ≤ 1000000 := by rw [ey1]; exact tdivB (by omega) (by omega)
  refine g_istore_n (pc := 3) X (i := 2) rfl (by decide) (lv' := [(2, .int (iI y1)), (0, .int (iI v)), (1, .int (iI d))]) rfl dJ9_floorDiv_7cf53_3 ?_
  refine g_iload_n (pc := 4) X 1 rfl dJ9_floorDiv_7cf53_4 ?_
  refine g_iload_n (pc := 5) X 2 rfl dJ9_floorDiv_7cf53_5 ?_
  refine g_ixor (pc := 6) X dJ9_floorDiv_7cf53_6 ?_
  refine g_lit (y := iI (xrq v d)) (xrq_e _ _) ?_
  have xq := xor_neg (a := v) (d := d) ⟨by omega, by omega⟩ ⟨by omega, by omega⟩
  have xb : -2147483648 ≤ xrq v d ∧ xrq v d ≤ 2147483647 := inR_of _
  have xc : xrq v d < 0 ↔ v < 0 := xq
  refine g_if_geI (pc := 7) X 21 (by decide) ⟨by omega, by omega⟩ dJ9_floorDiv_7cf53_7 (fun c7 => ?_) (fun c7 => ?_)
  · refine g_iload_n (pc := 21) X 0 rfl dJ9_floorDiv_7cf53_21 ?_
    exact g_iret (pc := 22) X hA (⟨y1, rfl, rfl, (by omega), (by rw [ey1]; exact floor_p (by omega) (Or.inl (by omega)))⟩) (by decide) (by decide) dJ9_floorDiv_7cf53_22
  · refine g_iload_n (pc := 10) X 0 rfl dJ9_floorDiv_7cf53_10 ?_
    refine g_iload_n (pc := 11) X 2 rfl dJ9_floorDiv_7cf53_11 ?_
    refine g_imulI (pc := 12) X dJ9_floorDiv_7cf53_12 ?_
    refine g_nameI (fun y2 ey2 => ?_)
    have by2 : (-600000000) ≤ y2 ∧ y2 ≤ 600000000 := by rw [ey2]; exact mulB (show (-1000000) ≤ y1 ∧ y1 ≤ 1000000 by omega) (show (-600) ≤ d ∧ d ≤ 600 by omega) (by decide)
    refine g_iload_n (pc := 13) X 1 rfl dJ9_floorDiv_7cf53_13 ?_
    refine g_icmp_eqI (pc := 14) X 21 (by decide) ⟨by omega, by omega⟩ (inRb b_v (by decide) (by decide)) dJ9_floorDiv_7cf53_14 (fun c14 => ?_) (fun c14 => ?_)
    · refine g_iload_n (pc := 21) X 0 rfl dJ9_floorDiv_7cf53_21 ?_
      exact g_iret (pc := 22) X hA (⟨y1, rfl, rfl, (by omega), (by rw [ey1]; exact floor_p (by omega) (Or.inr (by rw [← ey1, ← ey2]; exact c14)))⟩) (by decide) (by decide) dJ9_floorDiv_7cf53_22
    · refine g_iload_n (pc := 17) X 0 rfl dJ9_floorDiv_7cf53_17 ?_
      refine g_iconst (pc := 18) X (iI 1) (by rfl) dJ9_floorDiv_7cf53_18 ?_
      refine g_isubI (pc := 19) X dJ9_floorDiv_7cf53_19 ?_
      exact g_iret (pc := 20) X hA (⟨(y1 - 1), rfl, rfl, (by omega), (by rw [ey1]; exact floor_n (by omega) (by omega) (by rw [← ey1, ← ey2]; exact c14))⟩) (by decide) (by decide) dJ9_floorDiv_7cf53_20

set_option maxHeartbeats 4000000 in
set_option maxRecDepth 100000 in
theorem kx_bitCount (l : Launch) (Z : gZ) (v : Int) (b_v : (-2147483648) ≤ v ∧ v ≤ 2147483647) : Con l Z yJ6_bitCount_0f7a4 cJ6_bitCount_0f7a4 1 (some .int) 0 0 0 0 [.int (iI v)] [] (fun r w' => ∃ (y : Int), (r = some (.int (iI y))) ∧ (w' = []) ∧ (0 ≤ y ∧ y ≤ 63) ∧ (y = bcn v)) := by
  refine enterF (by decide +kernel) (Nat.le_of_ble_eq_true rfl) ?_
  intro p e s m args below meth c A X hnm hA
  have X : Cx p s m args meth c cJ6_bitCount_0f7a4 1 (some .int) RJ6 Z A := X
  refine g_as (pc' := 0) (lv' := [(0, .int (iI v))]) (st' := []) (ws' := []) rfl rfl rfl rfl ?_
  refine g_iload_n (pc := 0) X 0 rfl dJ6_bitCount_0f7a4_0 ?_
  refine g_iload_n (pc := 1) X 0 rfl dJ6_bitCount_0f7a4_1 ?_
  refine g_iconst (pc := 2) X (iI 1) (by rfl) dJ6_bitCount_0f7a4_2 ?_
  refine g_iushr (pc := 3) X dJ6_bitCount_0f7a4_3 ?_
  refine g_lit (y := iI (us8 v 1)) (us8_e _ _) ?_
  refine g_ldcw (pc := 4) X mw_41_20 dJ6_bitCount_0f7a4_4 ?_
  refine g_lit (y := iI 1431655765) (by decide) ?_
  refine g_iand (pc := 7) X dJ6_bitCount_0f7a4_7 ?_
  refine g_lit (y := iI (anq (us8 v 1) 1431655765)) (anq_e _ _) ?_
  refine g_isubI (pc := 8) X dJ6_bitCount_0f7a4_8 ?_
  refine g_nameI (fun y1 ey1 => ?_)
  refine g_istore_n (pc := 9) X (i := 0) rfl (by decide) (lv' := [(0, .int (iI y1))]) rfl dJ6_bitCount_0f7a4_9 ?_
  refine g_iload_n (pc := 10) X 0 rfl dJ6_bitCount_0f7a4_10 ?_
  refine g_ldcw (pc := 11) X mw_41_21 dJ6_bitCount_0f7a4_11 ?_
  refine g_lit (y := iI 858993459) (by decide) ?_
  refine g_iand (pc := 14) X dJ6_bitCount_0f7a4_14 ?_
  refine g_lit (y := iI (anq y1 858993459)) (anq_e _ _) ?_
  refine g_iload_n (pc := 15) X 0 rfl dJ6_bitCount_0f7a4_15 ?_
  refine g_iconst (pc := 16) X (iI 2) (by rfl) dJ6_bitCount_0f7a4_16 ?_
  refine g_iushr (pc := 17) X dJ6_bitCount_0f7a4_17 ?_
  refine g_lit (y := iI (us8 y1 2)) (us8_e _ _) ?_
  refine g_ldcw (pc := 18) X mw_41_21 dJ6_bitCount_0f7a4_18 ?_
  refine g_lit (y := iI 858993459) (by decide) ?_
  refine g_iand (pc := 21) X dJ6_bitCount_0f7a4_21 ?_
  refine g_lit (y := iI (anq (us8 y1 2) 858993459)) (anq_e _ _) ?_
  refine g_iaddI (pc := 22) X dJ6_bitCount_0f7a4_22 ?_
  refine g_nameI (fun y2 ey2 => ?_)
  refine g_istore_n (pc := 23) X (i := 0) rfl (by decide) (lv' := [(0, .int (iI y2))]) rfl dJ6_bitCount_0f7a4_23 ?_
  refine g_iload_n (pc := 24) X 0 rfl dJ6_bitCount_0f7a4_24 ?_
  refine g_iload_n (pc := 25) X 0 rfl dJ6_bitCount_0f7a4_25 ?_
  refine g_iconst (pc := 26) X (iI 4) (by rfl) dJ6_bitCount_0f7a4_26 ?_
  refine g_iushr (pc := 27) X dJ6_bitCount_0f7a4_27 ?_
  refine g_lit (y := iI (us8 y2 4)) (us8_e _ _) ?_
  refine g_iaddI (pc := 28) X dJ6_bitCount_0f7a4_28 ?_
  refine g_ldcw (pc := 29) X mw_41_22 dJ6_bitCount_0f7a4_29 ?_
  refine g_lit (y := iI 252645135) (by decide) ?_
  refine g_iand (pc := 32) X dJ6_bitCount_0f7a4_32 ?_
  refine g_lit (y := iI (anq (y2 + (us8 y2 4)) 252645135)) (anq_e _ _) ?_
  refine g_nameI (fun y3 ey3 => ?_)
  refine g_istore_n (pc := 33) X (i := 0) rfl (by decide) (lv' := [(0, .int (iI y3))]) rfl dJ6_bitCount_0f7a4_33 ?_
  refine g_iload_n (pc := 34) X 0 rfl dJ6_bitCount_0f7a4_34 ?_
  refine g_iload_n (pc := 35) X 0 rfl dJ6_bitCount_0f7a4_35 ?_
  refine g_bipush (pc := 36) X (iI 8) (by decide) dJ6_bitCount_0f7a4_36 ?_
  refine g_iushr (pc := 38) X dJ6_bitCount_0f7a4_38 ?_
  refine g_lit (y := iI (us8 y3 8)) (us8_e _ _) ?_
  refine g_iaddI (pc := 39) X dJ6_bitCount_0f7a4_39 ?_
  refine g_nameI (fun y4 ey4 => ?_)
  refine g_istore_n (pc := 40) X (i := 0) rfl (by decide) (lv' := [(0, .int (iI y4))]) rfl dJ6_bitCount_0f7a4_40 ?_
  refine g_iload_n (pc := 41) X 0 rfl dJ6_bitCount_0f7a4_41 ?_
  refine g_iload_n (pc := 42) X 0 rfl dJ6_bitCount_0f7a4_42 ?_
  refine g_bipush (pc := 43) X (iI 16) (by decide) dJ6_bitCount_0f7a4_43 ?_
  refine g_iushr (pc := 45) X dJ6_bitCount_0f7a4_45 ?_
  refine g_lit (y := iI (us8 y4 16)) (us8_e _ _) ?_
  refine g_iaddI (pc := 46) X dJ6_bitCount_0f7a4_46 ?_
  refine g_nameI (fun y5 ey5 => ?_)
  refine g_istore_n (pc := 47) X (i := 0) rfl (by decide) (lv' := [(0, .int (iI y5))]) rfl dJ6_bitCount_0f7a4_47 ?_
  refine g_iload_n (pc := 48) X 0 rfl dJ6_bitCount_0f7a4_48 ?_
  refine g_bipush (pc := 49) X (iI 63) (by decide) dJ6_bitCount_0f7a4_49 ?_
  refine g_iand (pc := 51) X dJ6_bitCount_0f7a4_51 ?_
  refine g_lit (y := iI (anq y5 63)) (anq_e _ _) ?_
  exact g_iret (pc := 52) X hA (⟨(anq y5 63), rfl, rfl, (anq63 _), (by rw [ey5, ey4, ey3, ey2, ey1]; rfl)⟩) (by decide) (by decide) dJ6_bitCount_0f7a4_52

set_option maxHeartbeats 4000000 in
set_option maxRecDepth 100000 in
theorem kx_wallAt (l : Launch) (Z : gZ) (w0 : Nat) (w_begins : Nat) (w_lengths : Nat) (w_lefts : Nat) (w_rights : Nat) (w_leans : Nat) (w_leaning : Nat) (Wl : Nat → Int) (Wb : Nat → Int) (pl : Int) (wn : Int) (wr : Int) (b_pl : (-2147483648) ≤ pl ∧ pl ≤ 2147483647) (b_wn : 0 ≤ wn ∧ wn ≤ 8) (b_wr : 0 ≤ wr ∧ wr ≤ 4800) (hpB : ∀ j : Nat, (j : Int) < wn → Wb j = psum Wl j) (hw1 : 1 ≤ wn) (h_Wb : ∀ j, j < 8 → 0 ≤ Wb j ∧ Wb j ≤ 4800) : Con l Z yX10_wallAt cX10_wallAt 4 (some .int) 0 0 0 0 [.ref w0, .int (iI pl)] [cO_rrrrrrii w0 10 w_begins w_lengths w_lefts w_rights w_leans w_leaning wn wr, cA Z w_begins 0 8 Wb] (fun r w' => (r = some (.int (iI (wq Wl pl wn.toNat)))) ∧ (w' = [cO_rrrrrrii w0 10 w_begins w_lengths w_lefts w_rights w_leans w_leaning wn wr, cA Z w_begins 0 8 Wb]) ∧ (0 ≤ wq Wl pl wn.toNat ∧ wq Wl pl wn.toNat ≤ 7) ∧ (wq Wl pl wn.toNat < wn)) := by
  refine enter (by decide) (Nat.le_of_ble_eq_true rfl) ?_
  intro p e s m args below meth c A X hnm hA
  have X : Cx p s m args meth c cX10_wallAt 4 (some .int) RX10 Z A := X
  refine g_as (pc' := 0) (lv' := [(0, .ref w0), (1, .int (iI pl))]) (st' := []) (ws' := [cO_rrrrrrii w0 10 w_begins w_lengths w_lefts w_rights w_leans w_leaning wn wr, cA Z w_begins 0 8 Wb]) rfl rfl rfl rfl ?_
  refine g_iconst (pc := 0) X (iI 0) (by rfl) dX10_wallAt_0 ?_
  refine g_istore_n (pc := 1) X (i := 2) rfl (by decide) (lv' := [(2, .int (iI 0)), (0, .ref w0), (1, .int (iI pl))]) rfl dX10_wallAt_1 ?_
  refine g_iconst (pc := 2) X (iI 1) (by rfl) dX10_wallAt_2 ?_
  refine g_istore_n (pc := 3) X (i := 3) rfl (by decide) (lv' := [(3, .int (iI 1)), (2, .int (iI 0)), (0, .ref w0), (1, .int (iI pl))]) rfl dX10_wallAt_3 ?_
  have loop4 : ∀ (fuel : Nat) (w : Int) (i : Int), (0 ≤ w ∧ w ≤ 7) → (1 ≤ i ∧ i ≤ 9) → (w = wq Wl pl i.toNat) → (i ≤ wn) → (w < i) → (9 - i).toNat < fuel → Gs p l e ({ frames := 0, cells := 0, slots := 0, locals := 0 } : Room) s m args below meth c (MQ below (gPost Z [cO_rrrrrrii w0 10 w_begins w_lengths w_lefts w_rights w_leans w_leaning wn wr, cA Z w_begins 0 8 Wb] s.heap.size (fun r w' => (r = some (.int (iI (wq Wl pl wn.toNat)))) ∧ (w' = [cO_rrrrrrii w0 10 w_begins w_lengths w_lefts w_rights w_leans w_leaning wn wr, cA Z w_begins 0 8 Wb]) ∧ (0 ≤ wq Wl pl wn.toNat ∧ wq Wl pl wn.toNat ≤ 7) ∧ (wq Wl pl wn.toNat < wn))) args s 0 0 (va_A [cO_rrrrrrii w0 10 w_begins w_lengths w_lefts w_rights w_leans w_leaning wn wr, cA Z w_begins 0 8 Wb] s.heap.size)) Z A 4 0 0 4 [(3, .int (iI i)), (2, .int (iI w)), (0, .ref w0), (1, .int (iI pl))] [] [cO_rrrrrrii w0 10 w_begins w_lengths w_lefts w_rights w_leans w_leaning wn wr, cA Z w_begins 0 8 Wb] := by
    intro fuel
    induction fuel with
    | zero => intro w i _ _ _ _ _ hm; exact absurd hm (Nat.not_lt_zero _)
    | succ fuel ih =>
      intro w i b_w b_i ivw ivi ivn hm
      refine g_iload_n (pc := 4) X 0 rfl dX10_wallAt_4 ?_
      refine g_aload_n (pc := 5) X 2 rfl dX10_wallAt_5 ?_
      refine g_get (pc := 6) X inlX10 0 rfl rfl 6 (by decide) mw_16_4 rfl dX10_wallAt_6 ?_
      refine g_icmp_geI (pc := 9) X 30 (by decide) (inRb b_i (by decide) (by decide)) (inRb b_wn (by decide) (by decide)) dX10_wallAt_9 (fun c9 => ?_) (fun c9 => ?_)
      · refine g_iload_n (pc := 30) X 1 rfl dX10_wallAt_30 ?_
        exact g_iret (pc := 31) X hA (⟨congrArg (fun z => some (Value.int (iI z))) (by rw [show wn.toNat = i.toNat by omega]; exact ivw), rfl, (by rw [show wn.toNat = i.toNat by omega, ← ivw]; omega), (by rw [show wn.toNat = i.toNat by omega, ← ivw]; omega)⟩) (by decide) (by decide) dX10_wallAt_31
      · refine g_aload_n (pc := 12) X 2 rfl dX10_wallAt_12 ?_
        refine g_get (pc := 13) X inlX10 0 rfl rfl 0 (by decide) mw_7_1 rfl dX10_wallAt_13 ?_
        refine g_iload_n (pc := 16) X 0 rfl dX10_wallAt_16 ?_
        refine g_ialdI (pc := 17) X 1 rfl (Int.le_trans (by decide) b_i.1) (by omega) (Int.le_trans b_i.2 (by decide)) dX10_wallAt_17 ?_
        refine g_nameI (fun y1 ey1 => ?_)
        have by1 : 0 ≤ y1 ∧ y1 ≤ 4800 := by rw [ey1]; exact h_Wb _ (by omega)
        refine g_iload_n (pc := 18) X 3 rfl dX10_wallAt_18 ?_
        refine g_icmp_gtI (pc := 19) X 24 (by decide) (inRb by1 (by decide) (by decide)) b_pl dX10_wallAt_19 (fun c19 => ?_) (fun c19 => ?_)
        · refine g_iincI (pc := 24) X 0 rfl (by decide) (lv' := [(3, .int (iI (i + 1))), (2, .int (iI w)), (0, .ref w0), (1, .int (iI pl))]) rfl dX10_wallAt_24 ?_
          refine g_goto (pc := 27) X 4 (by decide) dX10_wallAt_27 ?_
          exact ih w (i + 1) (b_w) (by omega) (by rw [wq_s (by omega), if_neg (by rw [← hpB i.toNat (by omega), ← ey1]; omega)]; exact ivw) (by omega) (by omega) (by omega)
        · refine g_iload_n (pc := 22) X 0 rfl dX10_wallAt_22 ?_
          refine g_istore_n (pc := 23) X (i := 2) rfl (by decide) (lv' := [(2, .int (iI i)), (3, .int (iI i)), (0, .ref w0), (1, .int (iI pl))]) rfl dX10_wallAt_23 ?_
          refine g_iincI (pc := 24) X 1 rfl (by decide) (lv' := [(3, .int (iI (i + 1))), (2, .int (iI i)), (0, .ref w0), (1, .int (iI pl))]) rfl dX10_wallAt_24 ?_
          refine g_goto (pc := 27) X 4 (by decide) dX10_wallAt_27 ?_
          exact ih i (i + 1) (by omega) (by omega) (by rw [wq_s (by omega), if_pos (by rw [← hpB i.toNat (by omega), ← ey1]; omega)]) (by omega) (by omega) (by omega)
  exact loop4 _ 0 1 (by omega) (by omega) (wq_1.symm) (by omega) (by omega) (Nat.lt_succ_self _)

set_option maxHeartbeats 4000000 in
set_option maxRecDepth 100000 in
theorem kx_beginOf (l : Launch) (Z : gZ) (w0 : Nat) (w_begins : Nat) (w_lengths : Nat) (w_lefts : Nat) (w_rights : Nat) (w_leans : Nat) (w_leaning : Nat) (Wb : Nat → Int) (w : Int) (wn : Int) (wr : Int) (b_w : (-2147483648) ≤ w ∧ w ≤ 2147483647) (b_wn : 0 ≤ wn ∧ wn ≤ 8) (b_wr : 0 ≤ wr ∧ wr ≤ 4800) (hw : 0 ≤ w ∧ w < wn) (h_Wb : ∀ j, j < 8 → 0 ≤ Wb j ∧ Wb j ≤ 4800) : Con l Z yX10_beginOf cX10_beginOf 2 (some .int) 1 21 0 0 [.ref w0, .int (iI w)] [cO_rrrrrrii w0 10 w_begins w_lengths w_lefts w_rights w_leans w_leaning wn wr, cA Z w_begins 0 8 Wb] (fun r w' => (r = some (.int (iI (Wb w.toNat)))) ∧ (w' = [cO_rrrrrrii w0 10 w_begins w_lengths w_lefts w_rights w_leans w_leaning wn wr, cA Z w_begins 0 8 Wb]) ∧ (0 ≤ Wb w.toNat ∧ Wb w.toNat ≤ 4800)) := by
  refine enter (by decide) (Nat.le_of_ble_eq_true rfl) ?_
  intro p e s m args below meth c A X hnm hA
  have X : Cx p s m args meth c cX10_beginOf 2 (some .int) RX10 Z A := X
  refine g_as (pc' := 0) (lv' := [(0, .ref w0), (1, .int (iI w))]) (st' := []) (ws' := [cO_rrrrrrii w0 10 w_begins w_lengths w_lefts w_rights w_leans w_leaning wn wr, cA Z w_begins 0 8 Wb]) rfl rfl rfl rfl ?_
  have qb := h_Wb w.toNat (by omega)
  refine g_aload_n (pc := 0) X 0 rfl dX10_beginOf_0 ?_
  refine g_iload_n (pc := 1) X 1 rfl dX10_beginOf_1 ?_
  refine g_callV (pc := 2) X (k_X10_has l Z w0 w_begins w_lengths w_lefts w_rights w_leans w_leaning w wn wr b_w b_wn b_wr) iM_X10_has mw_17_19 mw_17_20 mw_17_21 0 rfl rfl [0] [1] rfl (wr := [cA Z w_begins 0 8 Wb]) rfl (by decide) rfl rfl (Nat.le_of_ble_eq_true rfl) (by decide) dX10_beginOf_2 (fun r w' hpo => ?_)
  obtain ⟨rfl, rfl⟩ := hpo
  refine g_as (pc' := 5) (lv' := [(0, .ref w0), (1, .int (iI w))]) (st' := [.int (iI (bI (0 ≤ w ∧ w < wn)))]) (ws' := [cA Z w_begins 0 8 Wb, cO_rrrrrrii w0 10 w_begins w_lengths w_lefts w_rights w_leans w_leaning wn wr]) rfl rfl rfl rfl ?_
  refine g_if_eqB (pc := 5) X 17 (by decide) dX10_beginOf_5 (fun c5 => ?_) (fun c5 => ?_)
  · refine g_iconst (pc := 17) X (iI 0) (by rfl) dX10_beginOf_17 ?_
    refine g_ws (ws' := [cO_rrrrrrii w0 10 w_begins w_lengths w_lefts w_rights w_leans w_leaning wn wr, cA Z w_begins 0 8 Wb]) [1, 0] (by decide) rfl ?_
    exact g_iret (pc := 18) X hA (⟨congrArg (fun z => some (Value.int (iI z))) (by omega), rfl, (by omega)⟩) (by decide) (by decide) dX10_beginOf_18
  · refine g_aload_n (pc := 8) X 0 rfl dX10_beginOf_8 ?_
    refine g_get (pc := 9) X inlX10 1 rfl rfl 0 (by decide) mw_7_1 rfl dX10_beginOf_9 ?_
    refine g_iload_n (pc := 12) X 1 rfl dX10_beginOf_12 ?_
    refine g_ialdI (pc := 13) X 0 rfl (by omega) (by omega) (Int.le_trans b_w.2 (by decide)) dX10_beginOf_13 ?_
    refine g_nameI (fun y2 ey2 => ?_)
    have by2 : 0 ≤ y2 ∧ y2 ≤ 4800 := by rw [ey2]; exact h_Wb _ (by omega)
    refine g_goto (pc := 14) X 18 (by decide) dX10_beginOf_14 ?_
    refine g_ws (ws' := [cO_rrrrrrii w0 10 w_begins w_lengths w_lefts w_rights w_leans w_leaning wn wr, cA Z w_begins 0 8 Wb]) [1, 0] (by decide) rfl ?_
    exact g_iret (pc := 18) X hA (⟨congrArg (fun z => some (Value.int (iI z))) (by omega), rfl, (by omega)⟩) (by decide) (by decide) dX10_beginOf_18

set_option maxHeartbeats 4000000 in
set_option maxRecDepth 100000 in
theorem kx_heightOn (l : Launch) (Z : gZ) (w0 : Nat) (w_begins : Nat) (w_lengths : Nat) (w_lefts : Nat) (w_rights : Nat) (w_leans : Nat) (w_leaning : Nat) (Wl : Nat → Int) (Wh : Nat → Int) (Wk : Nat → Int) (w : Int) (px : Int) (wn : Int) (wr : Int) (b_w : (-2147483648) ≤ w ∧ w ≤ 2147483647) (b_px : 0 ≤ px ∧ px ≤ 600) (b_wn : 0 ≤ wn ∧ wn ≤ 8) (b_wr : 0 ≤ wr ∧ wr ≤ 4800) (hw : 0 ≤ w ∧ w < wn) (h50 : 50 ≤ Wl w.toNat) (h_Wl : ∀ j, j < 8 → 0 ≤ Wl j ∧ Wl j ≤ 600) (h_Wh : ∀ j, j < 8 → 0 ≤ Wh j ∧ Wh j ≤ 400) (h_Wk : ∀ j, j < 8 → 0 ≤ Wk j ∧ Wk j ≤ 400) : Con l Z yX10_heightOn cX10_heightOn 3 (some .int) 1 22 0 0 [.ref w0, .int (iI w), .int (iI px)] [cO_rrrrrrii w0 10 w_begins w_lengths w_lefts w_rights w_leans w_leaning wn wr, cA Z w_lengths 0 8 Wl, cA Z w_lefts 0 8 Wh, cA Z w_rights 0 8 Wk] (fun r w' => ∃ (y : Int), (r = some (.int (iI y))) ∧ (w' = [cO_rrrrrrii w0 10 w_begins w_lengths w_lefts w_rights w_leans w_leaning wn wr, cA Z w_lengths 0 8 Wl, cA Z w_lefts 0 8 Wh, cA Z w_rights 0 8 Wk]) ∧ ((-3000000) ≤ y ∧ y ≤ 3000000) ∧ (y = hgq Wl Wh Wk w px)) := by
  refine enter (by decide) (Nat.le_of_ble_eq_true rfl) ?_
  intro p e s m args below meth c A X hnm hA
  have X : Cx p s m args meth c cX10_heightOn 3 (some .int) RX10 Z A := X
  refine g_as (pc' := 0) (lv' := [(0, .ref w0), (1, .int (iI w)), (2, .int (iI px))]) (st' := []) (ws' := [cO_rrrrrrii w0 10 w_begins w_lengths w_lefts w_rights w_leans w_leaning wn wr, cA Z w_lengths 0 8 Wl, cA Z w_lefts 0 8 Wh, cA Z w_rights 0 8 Wk]) rfl rfl rfl rfl ?_
  refine g_aload_n (pc := 0) X 0 rfl dX10_heightOn_0 ?_
  refine g_iload_n (pc := 1) X 1 rfl dX10_heightOn_1 ?_
  refine g_callV (pc := 2) X (k_X10_has l Z w0 w_begins w_lengths w_lefts w_rights w_leans w_leaning w wn wr b_w b_wn b_wr) iM_X10_has mw_17_19 mw_17_20 mw_17_21 0 rfl rfl [0] [1, 2, 3] rfl (wr := [cA Z w_lengths 0 8 Wl, cA Z w_lefts 0 8 Wh, cA Z w_rights 0 8 Wk]) rfl (by decide) rfl rfl (Nat.le_of_ble_eq_true rfl) (by decide) dX10_heightOn_2 (fun r w' hpo => ?_)
  obtain ⟨rfl, rfl⟩ := hpo
  refine g_as (pc' := 5) (lv' := [(0, .ref w0), (1, .int (iI w)), (2, .int (iI px))]) (st' := [.int (iI (bI (0 ≤ w ∧ w < wn)))]) (ws' := [cA Z w_lengths 0 8 Wl, cA Z w_lefts 0 8 Wh, cA Z w_rights 0 8 Wk, cO_rrrrrrii w0 10 w_begins w_lengths w_lefts w_rights w_leans w_leaning wn wr]) rfl rfl rfl rfl ?_
  refine g_if_eqB (pc := 5) X 17 (by decide) dX10_heightOn_5 (fun h => absurd h (by omega)) (fun c5 => ?_)
  refine g_aload_n (pc := 8) X 0 rfl dX10_heightOn_8 ?_
  refine g_get (pc := 9) X inlX10 3 rfl rfl 1 (by decide) mw_7_2 rfl dX10_heightOn_9 ?_
  refine g_iload_n (pc := 12) X 1 rfl dX10_heightOn_12 ?_
  refine g_ialdI (pc := 13) X 0 rfl (by omega) (by omega) (Int.le_trans b_w.2 (by decide)) dX10_heightOn_13 ?_
  refine g_nameI (fun y2 ey2 => ?_)
  have by2 : 0 ≤ y2 ∧ y2 ≤ 600 := by rw [ey2]; exact h_Wl _ (by omega)
  refine g_if_gtI (pc := 14) X 19 (by decide) (inRb by2 (by decide) (by decide)) dX10_heightOn_14 (fun c14 => ?_) (fun h => absurd h (by omega))
  refine g_aload_n (pc := 19) X 0 rfl dX10_heightOn_19 ?_
  refine g_get (pc := 20) X inlX10 3 rfl rfl 2 (by decide) mw_7_3 rfl dX10_heightOn_20 ?_
  refine g_iload_n (pc := 23) X 1 rfl dX10_heightOn_23 ?_
  refine g_ialdI (pc := 24) X 1 rfl (by omega) (by omega) (Int.le_trans b_w.2 (by decide)) dX10_heightOn_24 ?_
  refine g_nameI (fun y3 ey3 => ?_)
  have by3 : 0 ≤ y3 ∧ y3 ≤ 400 := by rw [ey3]; exact h_Wh _ (by omega)
  refine g_aload_n (pc := 25) X 0 rfl dX10_heightOn_25 ?_
  refine g_get (pc := 26) X inlX10 3 rfl rfl 3 (by decide) mw_7_4 rfl dX10_heightOn_26 ?_
  refine g_iload_n (pc := 29) X 1 rfl dX10_heightOn_29 ?_
  refine g_ialdI (pc := 30) X 2 rfl (by omega) (by omega) (Int.le_trans b_w.2 (by decide)) dX10_heightOn_30 ?_
  refine g_nameI (fun y4 ey4 => ?_)
  have by4 : 0 ≤ y4 ∧ y4 ≤ 400 := by rw [ey4]; exact h_Wk _ (by omega)
  refine g_aload_n (pc := 31) X 0 rfl dX10_heightOn_31 ?_
  refine g_get (pc := 32) X inlX10 3 rfl rfl 2 (by decide) mw_7_3 rfl dX10_heightOn_32 ?_
  refine g_iload_n (pc := 35) X 1 rfl dX10_heightOn_35 ?_
  refine g_ialdI (pc := 36) X 1 rfl (by omega) (by omega) (Int.le_trans b_w.2 (by decide)) dX10_heightOn_36 ?_
  refine g_nameI (fun y5 ey5 => ?_)
  have by5 : 0 ≤ y5 ∧ y5 ≤ 400 := by rw [ey5]; exact h_Wh _ (by omega)
  refine g_isubI (pc := 37) X dX10_heightOn_37 ?_
  refine g_iload_n (pc := 38) X 2 rfl dX10_heightOn_38 ?_
  refine g_imulI (pc := 39) X dX10_heightOn_39 ?_
  refine g_nameI (fun y6 ey6 => ?_)
  have by6 : (-240000) ≤ y6 ∧ y6 ≤ 240000 := by rw [ey6]; exact mulB (show (-400) ≤ y4 - y5 ∧ y4 - y5 ≤ 400 by omega) (show (-600) ≤ px ∧ px ≤ 600 by omega) (by decide)
  refine g_aload_n (pc := 40) X 0 rfl dX10_heightOn_40 ?_
  refine g_get (pc := 41) X inlX10 3 rfl rfl 1 (by decide) mw_7_2 rfl dX10_heightOn_41 ?_
  refine g_iload_n (pc := 44) X 1 rfl dX10_heightOn_44 ?_
  refine g_ialdI (pc := 45) X 0 rfl (by omega) (by omega) (Int.le_trans b_w.2 (by decide)) dX10_heightOn_45 ?_
  refine g_nameI (fun y7 ey7 => ?_)
  have by7 : 0 ≤ y7 ∧ y7 ≤ 600 := by rw [ey7]; exact h_Wl _ (by omega)
  have ty7 : 50 ≤ y7 ∧ y7 ≤ 600 := by rw [ey7]; exact ⟨h50, (h_Wl _ (by omega)).2⟩
  refine g_callS (pc := 46) X (kx_floorDiv l Z y6 y7 (by omega) (by omega)) iM_J9_floorDiv_7cf53 mw_25_21 mw_25_22 [] [0, 1, 2, 3] rfl (wr := [cA Z w_lengths 0 8 Wl, cA Z w_lefts 0 8 Wh, cA Z w_rights 0 8 Wk, cO_rrrrrrii w0 10 w_begins w_lengths w_lefts w_rights w_leans w_leaning wn wr]) rfl (by decide) rfl rfl (Nat.le_of_ble_eq_true rfl) (by decide) dX10_heightOn_46 (fun r w' hpo => ?_)
  refine exN_1 hpo fun y8 hz => anD_4 hz fun e_r e_w hf46_b_y hf46_f1 => ?_; clear hz hpo; subst e_r; subst e_w
  refine g_as (pc' := 49) (lv' := [(0, .ref w0), (1, .int (iI w)), (2, .int (iI px))]) (st' := [.int (iI y8), .int (iI y3)]) (ws' := [cA Z w_lengths 0 8 Wl, cA Z w_lefts 0 8 Wh, cA Z w_rights 0 8 Wk, cO_rrrrrrii w0 10 w_begins w_lengths w_lefts w_rights w_leans w_leaning wn wr]) rfl rfl rfl rfl ?_
  refine g_iaddI (pc := 49) X dX10_heightOn_49 ?_
  refine g_ws (ws' := [cO_rrrrrrii w0 10 w_begins w_lengths w_lefts w_rights w_leans w_leaning wn wr, cA Z w_lengths 0 8 Wl, cA Z w_lefts 0 8 Wh, cA Z w_rights 0 8 Wk]) [3, 0, 1, 2] (by decide) rfl ?_
  exact g_iret (pc := 50) X hA (⟨(y3 + y8), rfl, rfl, (by omega), (by rw [hf46_f1, ey6, ey4, ey5, ey7, ey3]; rfl)⟩) (by decide) (by decide) dX10_heightOn_50

set_option maxHeartbeats 4000000 in
set_option maxRecDepth 100000 in
theorem kx_heightAt (l : Launch) (Z : gZ) (w0 : Nat) (w_begins : Nat) (w_lengths : Nat) (w_lefts : Nat) (w_rights : Nat) (w_leans : Nat) (w_leaning : Nat) (Wb : Nat → Int) (Wl : Nat → Int) (Wh : Nat → Int) (Wk : Nat → Int) (pl : Int) (wn : Int) (wr : Int) (b_pl : 0 ≤ pl ∧ pl ≤ 4799) (b_wn : 0 ≤ wn ∧ wn ≤ 8) (b_wr : 0 ≤ wr ∧ wr ≤ 4800) (hpB : ∀ j : Nat, (j : Int) < wn → Wb j = psum Wl j) (hpR : wr = psum Wl wn.toNat) (hw1 : 1 ≤ wn) (hLL : ∀ j : Nat, (j : Int) < wn → 50 ≤ Wl j) (hpl : pl < wr) (h_Wb : ∀ j, j < 8 → 0 ≤ Wb j ∧ Wb j ≤ 4800) (h_Wl : ∀ j, j < 8 → 0 ≤ Wl j ∧ Wl j ≤ 600) (h_Wh : ∀ j, j < 8 → 0 ≤ Wh j ∧ Wh j ≤ 400) (h_Wk : ∀ j, j < 8 → 0 ≤ Wk j ∧ Wk j ≤ 400) : Con l Z yX10_heightAt cX10_heightAt 3 (some .int) 2 44 0 0 [.ref w0, .int (iI pl)] [cO_rrrrrrii w0 10 w_begins w_lengths w_lefts w_rights w_leans w_leaning wn wr, cA Z w_begins 0 8 Wb, cA Z w_lengths 0 8 Wl, cA Z w_lefts 0 8 Wh, cA Z w_rights 0 8 Wk] (fun r w' => ∃ (y : Int), (r = some (.int (iI y))) ∧ (w' = [cO_rrrrrrii w0 10 w_begins w_lengths w_lefts w_rights w_leans w_leaning wn wr, cA Z w_begins 0 8 Wb, cA Z w_lengths 0 8 Wl, cA Z w_lefts 0 8 Wh, cA Z w_rights 0 8 Wk]) ∧ ((-3000000) ≤ y ∧ y ≤ 3000000) ∧ (y = hgq Wl Wh Wk (wq Wl pl wn.toNat) (pl - psum Wl (wq Wl pl wn.toNat).toNat))) := by
  refine enter (by decide) (Nat.le_of_ble_eq_true rfl) ?_
  intro p e s m args below meth c A X hnm hA
  have X : Cx p s m args meth c cX10_heightAt 3 (some .int) RX10 Z A := X
  refine g_as (pc' := 0) (lv' := [(0, .ref w0), (1, .int (iI pl))]) (st' := []) (ws' := [cO_rrrrrrii w0 10 w_begins w_lengths w_lefts w_rights w_leans w_leaning wn wr, cA Z w_begins 0 8 Wb, cA Z w_lengths 0 8 Wl, cA Z w_lefts 0 8 Wh, cA Z w_rights 0 8 Wk]) rfl rfl rfl rfl ?_
  have wr1 := wq_rng (L := Wl) (pl := pl) (n := wn.toNat) (by omega) (by omega) (by rw [← hpR]; omega)
  refine g_aload_n (pc := 0) X 0 rfl dX10_heightAt_0 ?_
  refine g_iload_n (pc := 1) X 1 rfl dX10_heightAt_1 ?_
  refine g_callV (pc := 2) X (kx_wallAt l Z w0 w_begins w_lengths w_lefts w_rights w_leans w_leaning Wl Wb pl wn wr (by omega) b_wn b_wr (hpB) (by omega) (h_Wb)) iM_X10_wallAt mw_30_15 mw_25_10 mw_25_11 0 rfl rfl [0, 1] [2, 3, 4] rfl (wr := [cA Z w_lengths 0 8 Wl, cA Z w_lefts 0 8 Wh, cA Z w_rights 0 8 Wk]) rfl (by decide) rfl rfl (Nat.le_of_ble_eq_true rfl) (by decide) dX10_heightAt_2 (fun r w' hpo => ?_)
  refine anD_4 hpo fun e_r e_w hf2_fb hf2_f1 => ?_; clear hpo; subst e_r; subst e_w
  refine g_as (pc' := 5) (lv' := [(0, .ref w0), (1, .int (iI pl))]) (st' := [.int (iI (wq Wl pl wn.toNat))]) (ws' := [cA Z w_lengths 0 8 Wl, cA Z w_lefts 0 8 Wh, cA Z w_rights 0 8 Wk, cO_rrrrrrii w0 10 w_begins w_lengths w_lefts w_rights w_leans w_leaning wn wr, cA Z w_begins 0 8 Wb]) rfl rfl rfl rfl ?_
  refine g_istore_n (pc := 5) X (i := 2) rfl (by decide) (lv' := [(2, .int (iI (wq Wl pl wn.toNat))), (0, .ref w0), (1, .int (iI pl))]) rfl dX10_heightAt_5 ?_
  refine g_aload_n (pc := 6) X 1 rfl dX10_heightAt_6 ?_
  refine g_iload_n (pc := 7) X 0 rfl dX10_heightAt_7 ?_
  refine g_iload_n (pc := 8) X 2 rfl dX10_heightAt_8 ?_
  refine g_aload_n (pc := 9) X 1 rfl dX10_heightAt_9 ?_
  refine g_iload_n (pc := 10) X 0 rfl dX10_heightAt_10 ?_
  refine g_callV (pc := 11) X (kx_beginOf l Z w0 w_begins w_lengths w_lefts w_rights w_leans w_leaning Wb (wq Wl pl wn.toNat) wn wr (by omega) b_wn b_wr (by omega) (h_Wb)) iM_X10_beginOf mw_30_16 mw_25_14 mw_25_15 3 rfl rfl [3, 4] [0, 1, 2] rfl (wr := [cA Z w_lengths 0 8 Wl, cA Z w_lefts 0 8 Wh, cA Z w_rights 0 8 Wk]) rfl (by decide) rfl rfl (Nat.le_of_ble_eq_true rfl) (by decide) dX10_heightAt_11 (fun r w' hpo => ?_)
  obtain ⟨rfl, rfl, hf11_fb⟩ := hpo
  refine g_as (pc' := 14) (lv' := [(2, .int (iI (wq Wl pl wn.toNat))), (0, .ref w0), (1, .int (iI pl))]) (st' := [.int (iI (Wb (wq Wl pl wn.toNat).toNat)), .int (iI pl), .int (iI (wq Wl pl wn.toNat)), .ref w0]) (ws' := [cA Z w_lengths 0 8 Wl, cA Z w_lefts 0 8 Wh, cA Z w_rights 0 8 Wk, cO_rrrrrrii w0 10 w_begins w_lengths w_lefts w_rights w_leans w_leaning wn wr, cA Z w_begins 0 8 Wb]) rfl rfl rfl rfl ?_
  have qB := hpB (wq Wl pl wn.toNat).toNat (by omega)
  have qL := h_Wl (wq Wl pl wn.toNat).toNat (by omega)
  refine g_isubI (pc := 14) X dX10_heightAt_14 ?_
  refine g_callV (pc := 15) X (kx_heightOn l Z w0 w_begins w_lengths w_lefts w_rights w_leans w_leaning Wl Wh Wk (wq Wl pl wn.toNat) (pl - (Wb (wq Wl pl wn.toNat).toNat)) wn wr (by omega) (by omega) b_wn b_wr (by omega) (hLL _ (by omega)) (h_Wl) (h_Wh) (h_Wk)) iM_X10_heightOn mw_30_17 mw_25_18 mw_25_19 3 rfl rfl [3, 0, 1, 2] [4] rfl (wr := [cA Z w_begins 0 8 Wb]) rfl (by decide) rfl rfl (Nat.le_of_ble_eq_true rfl) (by decide) dX10_heightAt_15 (fun r w' hpo => ?_)
  refine exN_1 hpo fun y3 hz => anD_4 hz fun e_r e_w hf15_b_y hf15_fH => ?_; clear hz hpo; subst e_r; subst e_w
  refine g_as (pc' := 18) (lv' := [(2, .int (iI (wq Wl pl wn.toNat))), (0, .ref w0), (1, .int (iI pl))]) (st' := [.int (iI y3)]) (ws' := [cA Z w_begins 0 8 Wb, cO_rrrrrrii w0 10 w_begins w_lengths w_lefts w_rights w_leans w_leaning wn wr, cA Z w_lengths 0 8 Wl, cA Z w_lefts 0 8 Wh, cA Z w_rights 0 8 Wk]) rfl rfl rfl rfl ?_
  refine g_ws (ws' := [cO_rrrrrrii w0 10 w_begins w_lengths w_lefts w_rights w_leans w_leaning wn wr, cA Z w_begins 0 8 Wb, cA Z w_lengths 0 8 Wl, cA Z w_lefts 0 8 Wh, cA Z w_rights 0 8 Wk]) [1, 0, 2, 3, 4] (by decide) rfl ?_
  exact g_iret (pc := 18) X hA (⟨y3, rfl, rfl, (hf15_b_y), (by rw [← qB]; exact hf15_fH)⟩) (by decide) (by decide) dX10_heightAt_18

set_option maxHeartbeats 4000000 in
set_option maxRecDepth 100000 in
theorem kx_isCut (l : Launch) (Z : gZ) (cu : Int) (co : Int) (b_cu : (-2147483648) ≤ cu ∧ cu ≤ 2147483647) (b_co : (-2147483648) ≤ co ∧ co ≤ 2147483647) : Con l Z yX10_isCut cX10_isCut 2 (some .boolean) 0 0 0 0 [.int (iI cu), .int (iI co)] [] (fun r w' => (r = some (.int (iI (bI (bq cu co = 1))))) ∧ (w' = [])) := by
  refine enter (by decide) (Nat.le_of_ble_eq_true rfl) ?_
  intro p e s m args below meth c A X hnm hA
  have X : Cx p s m args meth c cX10_isCut 2 (some .boolean) RX10 Z A := X
  refine g_as (pc' := 0) (lv' := [(0, .int (iI cu)), (1, .int (iI co))]) (st' := []) (ws' := []) rfl rfl rfl rfl ?_
  have bb := bq_01 cu co
  refine g_iload_n (pc := 0) X 0 rfl dX10_isCut_0 ?_
  refine g_iload_n (pc := 1) X 1 rfl dX10_isCut_1 ?_
  refine g_ishr (pc := 2) X dX10_isCut_2 ?_
  refine g_lit (y := iI (srq (cu) (co))) (srq_e _ _) ?_
  refine g_iconst (pc := 3) X (iI 1) (by rfl) dX10_isCut_3 ?_
  refine g_iand (pc := 4) X dX10_isCut_4 ?_
  refine g_lit (y := iI (bq cu co)) (bq_e _ _) ?_
  refine g_iconst (pc := 5) X (iI 1) (by rfl) dX10_isCut_5 ?_
  refine g_icmp_neI (pc := 6) X 13 (by decide) ⟨by omega, by omega⟩ ⟨by decide, by decide⟩ dX10_isCut_6 (fun c6 => ?_) (fun c6 => ?_)
  · refine g_iconst (pc := 13) X (iI 0) (by rfl) dX10_isCut_13 ?_
    exact g_zret (pc := 14) X hA (rfl) (⟨congrArg (fun z => some (Value.int (iI z))) ((bI_f (by omega)).symm), rfl⟩) (by decide) (by decide) dX10_isCut_14
  · refine g_iconst (pc := 9) X (iI 1) (by rfl) dX10_isCut_9 ?_
    refine g_goto (pc := 10) X 14 (by decide) dX10_isCut_10 ?_
    exact g_zret (pc := 14) X hA (rfl) (⟨congrArg (fun z => some (Value.int (iI z))) ((bI_t (by omega)).symm), rfl⟩) (by decide) (by decide) dX10_isCut_14

set_option maxHeartbeats 4000000 in
set_option maxRecDepth 100000 in
theorem kx_runsOffAt (l : Launch) (Z : gZ) (w0 : Nat) (w_begins : Nat) (w_lengths : Nat) (w_lefts : Nat) (w_rights : Nat) (w_leans : Nat) (w_leaning : Nat) (Wk : Nat → Int) (Wm : Nat → Int) (co : Int) (wn : Int) (wr : Int) (b_co : (-2147483648) ≤ co ∧ co ≤ 2147483647) (b_wn : 0 ≤ wn ∧ wn ≤ 8) (b_wr : 0 ≤ wr ∧ wr ≤ 4800) (hw : 0 ≤ co ∧ co < wn) (h_Wk : ∀ j, j < 8 → 0 ≤ Wk j ∧ Wk j ≤ 400) (h_Wm : ∀ j, j < 8 → (-50) ≤ Wm j ∧ Wm j ≤ 50) : Con l Z yX10_runsOffAt cX10_runsOffAt 2 (some .int) 1 21 0 0 [.ref w0, .int (iI co)] [cO_rrrrrrii w0 10 w_begins w_lengths w_lefts w_rights w_leans w_leaning wn wr, cA Z w_rights 0 8 Wk, cA Z w_leans 0 8 Wm] (fun r w' => ∃ (y : Int), (r = some (.int (iI y))) ∧ (w' = [cO_rrrrrrii w0 10 w_begins w_lengths w_lefts w_rights w_leans w_leaning wn wr, cA Z w_rights 0 8 Wk, cA Z w_leans 0 8 Wm]) ∧ ((-200) ≤ y ∧ y ≤ 200) ∧ (y = ofq Wm Wk co.toNat)) := by
  refine enter (by decide) (Nat.le_of_ble_eq_true rfl) ?_
  intro p e s m args below meth c A X hnm hA
  have X : Cx p s m args meth c cX10_runsOffAt 2 (some .int) RX10 Z A := X
  refine g_as (pc' := 0) (lv' := [(0, .ref w0), (1, .int (iI co))]) (st' := []) (ws' := [cO_rrrrrrii w0 10 w_begins w_lengths w_lefts w_rights w_leans w_leaning wn wr, cA Z w_rights 0 8 Wk, cA Z w_leans 0 8 Wm]) rfl rfl rfl rfl ?_
  refine g_aload_n (pc := 0) X 0 rfl dX10_runsOffAt_0 ?_
  refine g_iload_n (pc := 1) X 1 rfl dX10_runsOffAt_1 ?_
  refine g_callV (pc := 2) X (k_X10_has l Z w0 w_begins w_lengths w_lefts w_rights w_leans w_leaning co wn wr b_co b_wn b_wr) iM_X10_has mw_17_19 mw_17_20 mw_17_21 0 rfl rfl [0] [1, 2] rfl (wr := [cA Z w_rights 0 8 Wk, cA Z w_leans 0 8 Wm]) rfl (by decide) rfl rfl (Nat.le_of_ble_eq_true rfl) (by decide) dX10_runsOffAt_2 (fun r w' hpo => ?_)
  obtain ⟨rfl, rfl⟩ := hpo
  refine g_as (pc' := 5) (lv' := [(0, .ref w0), (1, .int (iI co))]) (st' := [.int (iI (bI (0 ≤ co ∧ co < wn)))]) (ws' := [cA Z w_rights 0 8 Wk, cA Z w_leans 0 8 Wm, cO_rrrrrrii w0 10 w_begins w_lengths w_lefts w_rights w_leans w_leaning wn wr]) rfl rfl rfl rfl ?_
  refine g_if_eqB (pc := 5) X 27 (by decide) dX10_runsOffAt_5 (fun h => absurd h (by omega)) (fun c5 => ?_)
  refine g_aload_n (pc := 8) X 0 rfl dX10_runsOffAt_8 ?_
  refine g_get (pc := 9) X inlX10 2 rfl rfl 4 (by decide) mw_7_5 rfl dX10_runsOffAt_9 ?_
  refine g_iload_n (pc := 12) X 1 rfl dX10_runsOffAt_12 ?_
  refine g_ialdI (pc := 13) X 1 rfl (by omega) (by omega) (Int.le_trans b_co.2 (by decide)) dX10_runsOffAt_13 ?_
  refine g_nameI (fun y2 ey2 => ?_)
  have by2 : (-50) ≤ y2 ∧ y2 ≤ 50 := by rw [ey2]; exact h_Wm _ (by omega)
  refine g_aload_n (pc := 14) X 0 rfl dX10_runsOffAt_14 ?_
  refine g_get (pc := 15) X inlX10 2 rfl rfl 3 (by decide) mw_7_4 rfl dX10_runsOffAt_15 ?_
  refine g_iload_n (pc := 18) X 1 rfl dX10_runsOffAt_18 ?_
  refine g_ialdI (pc := 19) X 0 rfl (by omega) (by omega) (Int.le_trans b_co.2 (by decide)) dX10_runsOffAt_19 ?_
  refine g_nameI (fun y3 ey3 => ?_)
  have by3 : 0 ≤ y3 ∧ y3 ≤ 400 := by rw [ey3]; exact h_Wk _ (by omega)
  refine g_imulI (pc := 20) X dX10_runsOffAt_20 ?_
  refine g_nameI (fun y4 ey4 => ?_)
  have by4 : (-20000) ≤ y4 ∧ y4 ≤ 20000 := by rw [ey4]; exact mulB (show (-50) ≤ y2 ∧ y2 ≤ 50 by omega) (show (-400) ≤ y3 ∧ y3 ≤ 400 by omega) (by decide)
  refine g_bipush (pc := 21) X (iI 100) (by decide) dX10_runsOffAt_21 ?_
  refine g_idivI (pc := 23) X ⟨by omega, by omega⟩ ⟨by decide, by decide⟩ (by decide) (by decide) dX10_runsOffAt_23 ?_
  refine g_nameI (fun y5 ey5 => ?_)
  have by5 : (-200) ≤ y5 ∧ y5 ≤ 200 := by rw [ey5]; exact tdivB2 (by decide) (by omega)
  refine g_goto (pc := 24) X 28 (by decide) dX10_runsOffAt_24 ?_
  refine g_ws (ws' := [cO_rrrrrrii w0 10 w_begins w_lengths w_lefts w_rights w_leans w_leaning wn wr, cA Z w_rights 0 8 Wk, cA Z w_leans 0 8 Wm]) [2, 0, 1] (by decide) rfl ?_
  exact g_iret (pc := 28) X hA (⟨y5, rfl, rfl, (by omega), (by rw [ey5, ey4, ey2, ey3]; rfl)⟩) (by decide) (by decide) dX10_runsOffAt_28

set_option maxHeartbeats 4000000 in
set_option maxRecDepth 100000 in
theorem kx_runOf (l : Launch) (Z : gZ) (w0 : Nat) (w_begins : Nat) (w_lengths : Nat) (w_lefts : Nat) (w_rights : Nat) (w_leans : Nat) (w_leaning : Nat) (Wk : Nat → Int) (Wm : Nat → Int) (cu : Int) (wl : Int) (wn : Int) (wr : Int) (b_cu : (-2147483648) ≤ cu ∧ cu ≤ 2147483647) (b_wl : 0 ≤ wl ∧ wl ≤ 8) (b_wn : 0 ≤ wn ∧ wn ≤ 8) (b_wr : 0 ≤ wr ∧ wr ≤ 4800) (hwl : wl < wn) (h_Wk : ∀ j, j < 8 → 0 ≤ Wk j ∧ Wk j ≤ 400) (h_Wm : ∀ j, j < 8 → (-50) ≤ Wm j ∧ Wm j ≤ 50) : Con l Z yX10_runOf cX10_runOf 5 (some .int) 2 42 0 0 [.ref w0, .int (iI cu), .int (iI wl)] [cO_rrrrrrii w0 10 w_begins w_lengths w_lefts w_rights w_leans w_leaning wn wr, cA Z w_rights 0 8 Wk, cA Z w_leans 0 8 Wm] (fun r w' => ∃ (y : Int), (r = some (.int (iI y))) ∧ (w' = [cO_rrrrrrii w0 10 w_begins w_lengths w_lefts w_rights w_leans w_leaning wn wr, cA Z w_rights 0 8 Wk, cA Z w_leans 0 8 Wm]) ∧ ((-1600) ≤ y ∧ y ≤ 1600) ∧ (y = rnR Wm Wk cu wl.toNat)) := by
  refine enter (by decide) (Nat.le_of_ble_eq_true rfl) ?_
  intro p e s m args below meth c A X hnm hA
  have X : Cx p s m args meth c cX10_runOf 5 (some .int) RX10 Z A := X
  refine g_as (pc' := 0) (lv' := [(0, .ref w0), (1, .int (iI cu)), (2, .int (iI wl))]) (st' := []) (ws' := [cO_rrrrrrii w0 10 w_begins w_lengths w_lefts w_rights w_leans w_leaning wn wr, cA Z w_rights 0 8 Wk, cA Z w_leans 0 8 Wm]) rfl rfl rfl rfl ?_
  refine g_iconst (pc := 0) X (iI 0) (by rfl) dX10_runOf_0 ?_
  refine g_istore_n (pc := 1) X (i := 3) rfl (by decide) (lv' := [(3, .int (iI 0)), (0, .ref w0), (1, .int (iI cu)), (2, .int (iI wl))]) rfl dX10_runOf_1 ?_
  refine g_iconst (pc := 2) X (iI 0) (by rfl) dX10_runOf_2 ?_
  refine g_istore (pc := 3) X (by decide) (lv' := [(4, .int (iI 0)), (3, .int (iI 0)), (0, .ref w0), (1, .int (iI cu)), (2, .int (iI wl))]) rfl dX10_runOf_3 ?_
  have loop5 : ∀ (fuel : Nat) (t : Int) (i : Int), ((-1600) ≤ t ∧ t ≤ 1600) → (0 ≤ i ∧ i ≤ 8) → (-200 * i ≤ t ∧ t ≤ 200 * i) → (i ≤ wl) → (t = rnR Wm Wk cu i.toNat) → (9 - i).toNat < fuel → Gs p l e ({ frames := 2, cells := 0, slots := 0, locals := 42 } : Room) s m args below meth c (MQ below (gPost Z [cO_rrrrrrii w0 10 w_begins w_lengths w_lefts w_rights w_leans w_leaning wn wr, cA Z w_rights 0 8 Wk, cA Z w_leans 0 8 Wm] s.heap.size (fun r w' => ∃ (y : Int), (r = some (.int (iI y))) ∧ (w' = [cO_rrrrrrii w0 10 w_begins w_lengths w_lefts w_rights w_leans w_leaning wn wr, cA Z w_rights 0 8 Wk, cA Z w_leans 0 8 Wm]) ∧ ((-1600) ≤ y ∧ y ≤ 1600) ∧ (y = rnR Wm Wk cu wl.toNat))) args s 0 0 (va_A [cO_rrrrrrii w0 10 w_begins w_lengths w_lefts w_rights w_leans w_leaning wn wr, cA Z w_rights 0 8 Wk, cA Z w_leans 0 8 Wm] s.heap.size)) Z A 5 0 0 5 [(4, .int (iI i)), (3, .int (iI t)), (0, .ref w0), (1, .int (iI cu)), (2, .int (iI wl))] [] [cO_rrrrrrii w0 10 w_begins w_lengths w_lefts w_rights w_leans w_leaning wn wr, cA Z w_rights 0 8 Wk, cA Z w_leans 0 8 Wm] := by
    intro fuel
    induction fuel with
    | zero => intro t i _ _ _ _ _ hm; exact absurd hm (Nat.not_lt_zero _)
    | succ fuel ih =>
      intro t i b_t b_i iv ivi ivr hm
      refine g_iload (pc := 5) X 0 rfl dX10_runOf_5 ?_
      refine g_iload_n (pc := 7) X 4 rfl dX10_runOf_7 ?_
      refine g_icmp_geI (pc := 8) X 48 (by decide) (inRb b_i (by decide) (by decide)) (inRb b_wl (by decide) (by decide)) dX10_runOf_8 (fun c8 => ?_) (fun c8 => ?_)
      · refine g_iload_n (pc := 48) X 1 rfl dX10_runOf_48 ?_
        exact g_iret (pc := 49) X hA (⟨t, rfl, rfl, (b_t), (by rw [show wl.toNat = i.toNat by omega]; exact ivr)⟩) (by decide) (by decide) dX10_runOf_49
      · refine g_iload (pc := 11) X 0 rfl dX10_runOf_11 ?_
        refine g_aload_n (pc := 13) X 2 rfl dX10_runOf_13 ?_
        refine g_get (pc := 14) X inlX10 0 rfl rfl 6 (by decide) mw_16_4 rfl dX10_runOf_14 ?_
        refine g_icmp_geI (pc := 17) X 48 (by decide) (inRb b_i (by decide) (by decide)) (inRb b_wn (by decide) (by decide)) dX10_runOf_17 (fun h => absurd h (by omega)) (fun c17 => ?_)
        refine g_iload_n (pc := 20) X 3 rfl dX10_runOf_20 ?_
        refine g_iload (pc := 21) X 0 rfl dX10_runOf_21 ?_
        refine g_callS (pc := 23) X (kx_isCut l Z cu i b_cu (by omega)) iM_X10_isCut mw_45_3 mw_45_4 [] [0, 1, 2] rfl (wr := [cO_rrrrrrii w0 10 w_begins w_lengths w_lefts w_rights w_leans w_leaning wn wr, cA Z w_rights 0 8 Wk, cA Z w_leans 0 8 Wm]) rfl (by decide) rfl rfl (Nat.le_of_ble_eq_true rfl) (by decide) dX10_runOf_23 (fun r w' hpo => ?_)
        obtain ⟨rfl, rfl⟩ := hpo
        refine g_as (pc' := 26) (lv' := [(4, .int (iI i)), (3, .int (iI t)), (0, .ref w0), (1, .int (iI cu)), (2, .int (iI wl))]) (st' := [.int (iI (bI (bq cu i = 1)))]) (ws' := [cO_rrrrrrii w0 10 w_begins w_lengths w_lefts w_rights w_leans w_leaning wn wr, cA Z w_rights 0 8 Wk, cA Z w_leans 0 8 Wm]) rfl rfl rfl rfl ?_
        refine g_if_eqB (pc := 26) X 33 (by decide) dX10_runOf_26 (fun c26 => ?_) (fun c26 => ?_)
        · refine g_iload_n (pc := 33) X 1 rfl dX10_runOf_33 ?_
          refine g_aload_n (pc := 34) X 2 rfl dX10_runOf_34 ?_
          refine g_iload (pc := 35) X 0 rfl dX10_runOf_35 ?_
          refine g_callV (pc := 37) X (kx_runsOffAt l Z w0 w_begins w_lengths w_lefts w_rights w_leans w_leaning Wk Wm i wn wr (by omega) b_wn b_wr (by omega) (h_Wk) (h_Wm)) iM_X10_runsOffAt mw_44_23 mw_45_0 mw_45_1 0 rfl rfl [0, 1, 2] [] rfl (wr := []) rfl (by decide) rfl rfl (Nat.le_of_ble_eq_true rfl) (by decide) dX10_runOf_37 (fun r w' hpo => ?_)
          refine exN_1 hpo fun y2 hz => anD_4 hz fun e_r e_w hf37_b_y hf37_f1 => ?_; clear hz hpo; subst e_r; subst e_w
          refine g_as (pc' := 40) (lv' := [(4, .int (iI i)), (3, .int (iI t)), (0, .ref w0), (1, .int (iI cu)), (2, .int (iI wl))]) (st' := [.int (iI y2), .int (iI t)]) (ws' := [cO_rrrrrrii w0 10 w_begins w_lengths w_lefts w_rights w_leans w_leaning wn wr, cA Z w_rights 0 8 Wk, cA Z w_leans 0 8 Wm]) rfl rfl rfl rfl ?_
          refine g_iaddI (pc := 40) X dX10_runOf_40 ?_
          refine g_istore_n (pc := 41) X (i := 3) rfl (by decide) (lv' := [(3, .int (iI (t + y2))), (4, .int (iI i)), (0, .ref w0), (1, .int (iI cu)), (2, .int (iI wl))]) rfl dX10_runOf_41 ?_
          refine g_iincI (pc := 42) X 1 rfl (by decide) (lv' := [(4, .int (iI (i + 1))), (3, .int (iI (t + y2))), (0, .ref w0), (1, .int (iI cu)), (2, .int (iI wl))]) rfl dX10_runOf_42 ?_
          refine g_goto (pc := 45) X 5 (by decide) dX10_runOf_45 ?_
          exact ih (t + y2) (i + 1) (by omega) (by omega) (by omega) (by omega) (by rw [rnR_s (by omega), if_neg c26, ← ivr, ← hf37_f1]) (by omega)
        · refine g_iconst (pc := 29) X (iI 0) (by rfl) dX10_runOf_29 ?_
          refine g_goto (pc := 30) X 41 (by decide) dX10_runOf_30 ?_
          refine g_istore_n (pc := 41) X (i := 3) rfl (by decide) (lv' := [(3, .int (iI 0)), (4, .int (iI i)), (0, .ref w0), (1, .int (iI cu)), (2, .int (iI wl))]) rfl dX10_runOf_41 ?_
          refine g_iincI (pc := 42) X 1 rfl (by decide) (lv' := [(4, .int (iI (i + 1))), (3, .int (iI 0)), (0, .ref w0), (1, .int (iI cu)), (2, .int (iI wl))]) rfl dX10_runOf_42 ?_
          refine g_goto (pc := 45) X 5 (by decide) dX10_runOf_45 ?_
          exact ih 0 (i + 1) (by omega) (by omega) (by omega) (by omega) (by rw [rnR_s (by omega), if_pos c26]) (by omega)
  exact loop5 _ 0 0 (by omega) (by omega) (by omega) (by omega) (rfl) (Nat.lt_succ_self _)

set_option maxHeartbeats 4000000 in
set_option maxRecDepth 100000 in
theorem kx_shownWith (l : Launch) (Z : gZ) (w0 : Nat) (w_begins : Nat) (w_lengths : Nat) (w_lefts : Nat) (w_rights : Nat) (w_leans : Nat) (w_leaning : Nat) (Wk : Nat → Int) (Wm : Nat → Int) (cu : Int) (wn : Int) (wr : Int) (b_cu : (-2147483648) ≤ cu ∧ cu ≤ 2147483647) (b_wn : 0 ≤ wn ∧ wn ≤ 8) (b_wr : 0 ≤ wr ∧ wr ≤ 4800) (h_Wk : ∀ j, j < 8 → 0 ≤ Wk j ∧ Wk j ≤ 400) (h_Wm : ∀ j, j < 8 → (-50) ≤ Wm j ∧ Wm j ≤ 50) : Con l Z yX10_shownWith cX10_shownWith 5 (some .int) 2 42 0 0 [.ref w0, .int (iI cu)] [cO_rrrrrrii w0 10 w_begins w_lengths w_lefts w_rights w_leans w_leaning wn wr, cA Z w_rights 0 8 Wk, cA Z w_leans 0 8 Wm] (fun r w' => ∃ (y : Int), (r = some (.int (iI y))) ∧ (w' = [cO_rrrrrrii w0 10 w_begins w_lengths w_lefts w_rights w_leans w_leaning wn wr, cA Z w_rights 0 8 Wk, cA Z w_leans 0 8 Wm]) ∧ (0 ≤ y ∧ y ≤ 100000) ∧ (y = shF Wm Wk (wn - 1).toNat cu)) := by
  refine enter (by decide) (Nat.le_of_ble_eq_true rfl) ?_
  intro p e s m args below meth c A X hnm hA
  have X : Cx p s m args meth c cX10_shownWith 5 (some .int) RX10 Z A := X
  refine g_as (pc' := 0) (lv' := [(0, .ref w0), (1, .int (iI cu))]) (st' := []) (ws' := [cO_rrrrrrii w0 10 w_begins w_lengths w_lefts w_rights w_leans w_leaning wn wr, cA Z w_rights 0 8 Wk, cA Z w_leans 0 8 Wm]) rfl rfl rfl rfl ?_
  refine g_iconst (pc := 0) X (iI 0) (by rfl) dX10_shownWith_0 ?_
  refine g_istore_n (pc := 1) X (i := 2) rfl (by decide) (lv' := [(2, .int (iI 0)), (0, .ref w0), (1, .int (iI cu))]) rfl dX10_shownWith_1 ?_
  refine g_iconst (pc := 2) X (iI 0) (by rfl) dX10_shownWith_2 ?_
  refine g_istore_n (pc := 3) X (i := 3) rfl (by decide) (lv' := [(3, .int (iI 0)), (2, .int (iI 0)), (0, .ref w0), (1, .int (iI cu))]) rfl dX10_shownWith_3 ?_
  refine g_iconst (pc := 4) X (iI 0) (by rfl) dX10_shownWith_4 ?_
  refine g_istore (pc := 5) X (by decide) (lv' := [(4, .int (iI 0)), (3, .int (iI 0)), (2, .int (iI 0)), (0, .ref w0), (1, .int (iI cu))]) rfl dX10_shownWith_5 ?_
  have loop7 : ∀ (fuel : Nat) (t : Int) (ru : Int) (i : Int), (0 ≤ t ∧ t ≤ 40000) → ((-1600) ≤ ru ∧ ru ≤ 1600) → (0 ≤ i ∧ i ≤ 8) → (-200 * i ≤ ru ∧ ru ≤ 200 * i) → (t ≤ 4800 * i) → (i ≤ wn - 1 ∨ i = 0) → (ru = rnR Wm Wk cu i.toNat) → (t = rnN Wm Wk cu i.toNat) → (9 - i).toNat < fuel → Gs p l e ({ frames := 2, cells := 0, slots := 0, locals := 42 } : Room) s m args below meth c (MQ below (gPost Z [cO_rrrrrrii w0 10 w_begins w_lengths w_lefts w_rights w_leans w_leaning wn wr, cA Z w_rights 0 8 Wk, cA Z w_leans 0 8 Wm] s.heap.size (fun r w' => ∃ (y : Int), (r = some (.int (iI y))) ∧ (w' = [cO_rrrrrrii w0 10 w_begins w_lengths w_lefts w_rights w_leans w_leaning wn wr, cA Z w_rights 0 8 Wk, cA Z w_leans 0 8 Wm]) ∧ (0 ≤ y ∧ y ≤ 100000) ∧ (y = shF Wm Wk (wn - 1).toNat cu))) args s 0 0 (va_A [cO_rrrrrrii w0 10 w_begins w_lengths w_lefts w_rights w_leans w_leaning wn wr, cA Z w_rights 0 8 Wk, cA Z w_leans 0 8 Wm] s.heap.size)) Z A 5 0 0 7 [(4, .int (iI i)), (3, .int (iI ru)), (2, .int (iI t)), (0, .ref w0), (1, .int (iI cu))] [] [cO_rrrrrrii w0 10 w_begins w_lengths w_lefts w_rights w_leans w_leaning wn wr, cA Z w_rights 0 8 Wk, cA Z w_leans 0 8 Wm] := by
    intro fuel
    induction fuel with
    | zero => intro t ru i _ _ _ _ _ _ _ _ hm; exact absurd hm (Nat.not_lt_zero _)
    | succ fuel ih =>
      intro t ru i b_t b_ru b_i iv iv2 ivi ivr ivt hm
      refine g_iload (pc := 7) X 0 rfl dX10_shownWith_7 ?_
      refine g_aload_n (pc := 9) X 3 rfl dX10_shownWith_9 ?_
      refine g_get (pc := 10) X inlX10 0 rfl rfl 6 (by decide) mw_16_4 rfl dX10_shownWith_10 ?_
      refine g_iconst (pc := 13) X (iI 1) (by rfl) dX10_shownWith_13 ?_
      refine g_isubI (pc := 14) X dX10_shownWith_14 ?_
      refine g_icmp_geI (pc := 15) X 60 (by decide) (inRb b_i (by decide) (by decide)) ⟨by omega, by omega⟩ dX10_shownWith_15 (fun c15 => ?_) (fun c15 => ?_)
      · refine g_iload_n (pc := 60) X 2 rfl dX10_shownWith_60 ?_
        exact g_iret (pc := 61) X hA (⟨t, rfl, rfl, (by omega), (by unfold shF; rw [show (wn - 1).toNat = i.toNat by omega]; exact ivt)⟩) (by decide) (by decide) dX10_shownWith_61
      · refine g_iload_n (pc := 18) X 1 rfl dX10_shownWith_18 ?_
        refine g_aload_n (pc := 19) X 3 rfl dX10_shownWith_19 ?_
        refine g_iload (pc := 20) X 0 rfl dX10_shownWith_20 ?_
        refine g_callV (pc := 22) X (kx_runsOffAt l Z w0 w_begins w_lengths w_lefts w_rights w_leans w_leaning Wk Wm i wn wr (by omega) b_wn b_wr (by omega) (h_Wk) (h_Wm)) iM_X10_runsOffAt mw_44_23 mw_45_0 mw_45_1 0 rfl rfl [0, 1, 2] [] rfl (wr := []) rfl (by decide) rfl rfl (Nat.le_of_ble_eq_true rfl) (by decide) dX10_shownWith_22 (fun r w' hpo => ?_)
        refine exN_1 hpo fun y1 hz => anD_4 hz fun e_r e_w hf22_b_y hf22_f1 => ?_; clear hz hpo; subst e_r; subst e_w
        refine g_as (pc' := 25) (lv' := [(4, .int (iI i)), (3, .int (iI ru)), (2, .int (iI t)), (0, .ref w0), (1, .int (iI cu))]) (st' := [.int (iI y1), .int (iI ru)]) (ws' := [cO_rrrrrrii w0 10 w_begins w_lengths w_lefts w_rights w_leans w_leaning wn wr, cA Z w_rights 0 8 Wk, cA Z w_leans 0 8 Wm]) rfl rfl rfl rfl ?_
        refine g_iaddI (pc := 25) X dX10_shownWith_25 ?_
        refine g_istore_n (pc := 26) X (i := 3) rfl (by decide) (lv' := [(3, .int (iI (ru + y1))), (4, .int (iI i)), (2, .int (iI t)), (0, .ref w0), (1, .int (iI cu))]) rfl dX10_shownWith_26 ?_
        refine g_iload_n (pc := 27) X 4 rfl dX10_shownWith_27 ?_
        refine g_iload (pc := 28) X 1 rfl dX10_shownWith_28 ?_
        refine g_callS (pc := 30) X (kx_isCut l Z cu i b_cu (by omega)) iM_X10_isCut mw_45_3 mw_45_4 [] [0, 1, 2] rfl (wr := [cO_rrrrrrii w0 10 w_begins w_lengths w_lefts w_rights w_leans w_leaning wn wr, cA Z w_rights 0 8 Wk, cA Z w_leans 0 8 Wm]) rfl (by decide) rfl rfl (Nat.le_of_ble_eq_true rfl) (by decide) dX10_shownWith_30 (fun r w' hpo => ?_)
        obtain ⟨rfl, rfl⟩ := hpo
        refine g_as (pc' := 33) (lv' := [(3, .int (iI (ru + y1))), (4, .int (iI i)), (2, .int (iI t)), (0, .ref w0), (1, .int (iI cu))]) (st' := [.int (iI (bI (bq cu i = 1)))]) (ws' := [cO_rrrrrrii w0 10 w_begins w_lengths w_lefts w_rights w_leans w_leaning wn wr, cA Z w_rights 0 8 Wk, cA Z w_leans 0 8 Wm]) rfl rfl rfl rfl ?_
        refine g_if_eqB (pc := 33) X 47 (by decide) dX10_shownWith_33 (fun c33 => ?_) (fun c33 => ?_)
        · refine g_iload_n (pc := 47) X 2 rfl dX10_shownWith_47 ?_
          refine g_iload_n (pc := 48) X 0 rfl dX10_shownWith_48 ?_
          refine g_absI (pc := 49) X mw_44_20 mw_44_21 mw_25_23 mw_44_22 (by decide) (Nat.le_of_ble_eq_true rfl) (by decide) (by decide) (by omega) (by omega) dX10_shownWith_49 ?_
          refine g_nameI (fun y4 ey4 => ?_)
          have my4 : 0 ≤ y4 ∧ (y4 = ru + y1 ∨ y4 = -(ru + y1)) ∧ ru + y1 ≤ y4 ∧ -(ru + y1) ≤ y4 := by rw [ey4]; exact absF _
          clear ey4
          refine g_iaddI (pc := 52) X dX10_shownWith_52 ?_
          refine g_istore_n (pc := 53) X (i := 2) rfl (by decide) (lv' := [(2, .int (iI (t + y4))), (3, .int (iI (ru + y1))), (4, .int (iI i)), (0, .ref w0), (1, .int (iI cu))]) rfl dX10_shownWith_53 ?_
          refine g_iincI (pc := 54) X 2 rfl (by decide) (lv' := [(4, .int (iI (i + 1))), (2, .int (iI (t + y4))), (3, .int (iI (ru + y1))), (0, .ref w0), (1, .int (iI cu))]) rfl dX10_shownWith_54 ?_
          refine g_goto (pc := 57) X 7 (by decide) dX10_shownWith_57 ?_
          refine g_lv (lv' := [(4, .int (iI (i + 1))), (3, .int (iI (ru + y1))), (2, .int (iI (t + y4))), (0, .ref w0), (1, .int (iI cu))]) [0, 2, 1, 3, 4] rfl ?_
          exact ih (t + y4) (ru + y1) (i + 1) (by omega) (by omega) (by omega) (by omega) (by omega) (by omega) (by rw [rnR_s (by omega), if_neg c33, ← ivr, ← hf22_f1]) (by rw [rnN_s (by omega), if_neg c33, ← ivr, ← hf22_f1, ← ivt]; unfold abq; split <;> omega) (by omega)
        · refine g_iload_n (pc := 36) X 2 rfl dX10_shownWith_36 ?_
          refine g_iconst (pc := 37) X (iI 2) (by rfl) dX10_shownWith_37 ?_
          refine g_iload_n (pc := 38) X 0 rfl dX10_shownWith_38 ?_
          refine g_absI (pc := 39) X mw_44_20 mw_44_21 mw_25_23 mw_44_22 (by decide) (Nat.le_of_ble_eq_true rfl) (by decide) (by decide) (by omega) (by omega) dX10_shownWith_39 ?_
          refine g_nameI (fun y5 ey5 => ?_)
          have my5 : 0 ≤ y5 ∧ (y5 = ru + y1 ∨ y5 = -(ru + y1)) ∧ ru + y1 ≤ y5 ∧ -(ru + y1) ≤ y5 := by rw [ey5]; exact absF _
          clear ey5
          refine g_imulI (pc := 42) X dX10_shownWith_42 ?_
          refine g_iaddI (pc := 43) X dX10_shownWith_43 ?_
          refine g_istore_n (pc := 44) X (i := 2) rfl (by decide) (lv' := [(2, .int (iI (t + (2 * y5)))), (3, .int (iI (ru + y1))), (4, .int (iI i)), (0, .ref w0), (1, .int (iI cu))]) rfl dX10_shownWith_44 ?_
          refine g_iconst (pc := 45) X (iI 0) (by rfl) dX10_shownWith_45 ?_
          refine g_istore_n (pc := 46) X (i := 3) rfl (by decide) (lv' := [(3, .int (iI 0)), (2, .int (iI (t + (2 * y5)))), (4, .int (iI i)), (0, .ref w0), (1, .int (iI cu))]) rfl dX10_shownWith_46 ?_
          refine g_iload_n (pc := 47) X 1 rfl dX10_shownWith_47 ?_
          refine g_iload_n (pc := 48) X 0 rfl dX10_shownWith_48 ?_
          refine g_absI (pc := 49) X mw_44_20 mw_44_21 mw_25_23 mw_44_22 (by decide) (Nat.le_of_ble_eq_true rfl) (by decide) (by decide) (by omega) (by omega) dX10_shownWith_49 ?_
          refine g_nameI (fun y6 ey6 => ?_)
          have my6 : 0 ≤ y6 ∧ (y6 = 0 ∨ y6 = -0) ∧ 0 ≤ y6 ∧ -0 ≤ y6 := by rw [ey6]; exact absF _
          clear ey6
          refine g_iaddI (pc := 52) X dX10_shownWith_52 ?_
          refine g_istore_n (pc := 53) X (i := 2) rfl (by decide) (lv' := [(2, .int (iI ((t + (2 * y5)) + y6))), (3, .int (iI 0)), (4, .int (iI i)), (0, .ref w0), (1, .int (iI cu))]) rfl dX10_shownWith_53 ?_
          refine g_iincI (pc := 54) X 2 rfl (by decide) (lv' := [(4, .int (iI (i + 1))), (2, .int (iI ((t + (2 * y5)) + y6))), (3, .int (iI 0)), (0, .ref w0), (1, .int (iI cu))]) rfl dX10_shownWith_54 ?_
          refine g_goto (pc := 57) X 7 (by decide) dX10_shownWith_57 ?_
          refine g_lv (lv' := [(4, .int (iI (i + 1))), (3, .int (iI 0)), (2, .int (iI ((t + (2 * y5)) + y6))), (0, .ref w0), (1, .int (iI cu))]) [0, 2, 1, 3, 4] rfl ?_
          exact ih ((t + (2 * y5)) + y6) 0 (i + 1) (by omega) (by omega) (by omega) (by omega) (by omega) (by omega) (by rw [rnR_s (by omega), if_pos c33]) (by rw [rnN_s (by omega), if_pos c33, ← ivr, ← hf22_f1, ← ivt]; unfold abq; split <;> omega) (by omega)
  exact loop7 _ 0 0 0 (by omega) (by omega) (by omega) (by omega) (by omega) (by omega) (rfl) (rfl) (Nat.lt_succ_self _)

set_option maxHeartbeats 4000000 in
set_option maxRecDepth 100000 in
theorem kx_canBeCutAt (l : Launch) (Z : gZ) (w0 : Nat) (w_begins : Nat) (w_lengths : Nat) (w_lefts : Nat) (w_rights : Nat) (w_leans : Nat) (w_leaning : Nat) (cu : Int) (wn : Int) (wr : Int) (b_cu : (-2147483648) ≤ cu ∧ cu ≤ 2147483647) (b_wn : 0 ≤ wn ∧ wn ≤ 8) (b_wr : 0 ≤ wr ∧ wr ≤ 4800) : Con l Z yX10_canBeCutAt cX10_canBeCutAt 2 (some .boolean) 1 22 0 0 [.ref w0, .int (iI cu)] [cO_rrrrrrii w0 10 w_begins w_lengths w_lefts w_rights w_leans w_leaning wn wr] (fun r w' => ((r = some (.int (iI 0))) ∧ (w' = [cO_rrrrrrii w0 10 w_begins w_lengths w_lefts w_rights w_leans w_leaning wn wr]) ∧ (¬ (0 < wn ∧ 0 ≤ cu ∧ cu ≤ pw2 (wn - 1).toNat - 1))) ∨ ((r = some (.int (iI 1))) ∧ (w' = [cO_rrrrrrii w0 10 w_begins w_lengths w_lefts w_rights w_leans w_leaning wn wr]) ∧ (0 < wn ∧ 0 ≤ cu ∧ cu ≤ pw2 (wn - 1).toNat - 1) ∧ (cu ≤ 127))) := by
  refine enter (by decide) (Nat.le_of_ble_eq_true rfl) ?_
  intro p e s m args below meth c A X hnm hA
  have X : Cx p s m args meth c cX10_canBeCutAt 2 (some .boolean) RX10 Z A := X
  refine g_as (pc' := 0) (lv' := [(0, .ref w0), (1, .int (iI cu))]) (st' := []) (ws' := [cO_rrrrrrii w0 10 w_begins w_lengths w_lefts w_rights w_leans w_leaning wn wr]) rfl rfl rfl rfl ?_
  refine g_aload_n (pc := 0) X 0 rfl dX10_canBeCutAt_0 ?_
  refine g_get (pc := 1) X inlX10 0 rfl rfl 6 (by decide) mw_16_4 rfl dX10_canBeCutAt_1 ?_
  refine g_if_leI (pc := 4) X 29 (by decide) (inRb b_wn (by decide) (by decide)) dX10_canBeCutAt_4 (fun c4 => ?_) (fun c4 => ?_)
  · refine g_iconst (pc := 29) X (iI 0) (by rfl) dX10_canBeCutAt_29 ?_
    exact g_zret (pc := 30) X hA (rfl) (Or.inl (⟨rfl, rfl, (by omega)⟩)) (by decide) (by decide) dX10_canBeCutAt_30
  · refine g_iconst (pc := 7) X (iI 0) (by rfl) dX10_canBeCutAt_7 ?_
    refine g_iload_n (pc := 8) X 1 rfl dX10_canBeCutAt_8 ?_
    refine g_iconst (pc := 9) X (iI 1) (by rfl) dX10_canBeCutAt_9 ?_
    refine g_aload_n (pc := 10) X 0 rfl dX10_canBeCutAt_10 ?_
    refine g_get (pc := 11) X inlX10 0 rfl rfl 6 (by decide) mw_16_4 rfl dX10_canBeCutAt_11 ?_
    refine g_iconst (pc := 14) X (iI 1) (by rfl) dX10_canBeCutAt_14 ?_
    refine g_isubI (pc := 15) X dX10_canBeCutAt_15 ?_
    refine g_shl1 (pc := 16) X (by omega) (by omega) dX10_canBeCutAt_16 (fun y1 ey1 => ?_)
    have by1 : 1 ≤ y1 ∧ y1 ≤ 128 := pow2B 7 (by decide) (by omega) (by omega) ey1
    have pw_y1 : y1 = pw2 (wn - 1).toNat := ey1
    refine g_iconst (pc := 17) X (iI 1) (by rfl) dX10_canBeCutAt_17 ?_
    refine g_isubI (pc := 18) X dX10_canBeCutAt_18 ?_
    refine g_callSN (pc := 19) X (k_X11_isFrom l Z 0 cu (y1 - 1) (by decide) b_cu (by omega)) iM_X11_isFrom (by decide) mw_11_7 [] [0] rfl (wr := [cO_rrrrrrii w0 10 w_begins w_lengths w_lefts w_rights w_leans w_leaning wn wr]) rfl (by decide) rfl rfl (Nat.le_of_ble_eq_true rfl) (by decide) dX10_canBeCutAt_19 (fun r w' hpo => ?_)
    obtain ⟨rfl, rfl⟩ := hpo
    refine g_as (pc' := 22) (lv' := [(0, .ref w0), (1, .int (iI cu))]) (st' := [.int (iI (bI (0 ≤ cu ∧ cu ≤ (y1 - 1))))]) (ws' := [cO_rrrrrrii w0 10 w_begins w_lengths w_lefts w_rights w_leans w_leaning wn wr]) rfl rfl rfl rfl ?_
    refine g_if_eqB (pc := 22) X 29 (by decide) dX10_canBeCutAt_22 (fun c22 => ?_) (fun c22 => ?_)
    · refine g_iconst (pc := 29) X (iI 0) (by rfl) dX10_canBeCutAt_29 ?_
      exact g_zret (pc := 30) X hA (rfl) (Or.inl (⟨rfl, rfl, (by omega)⟩)) (by decide) (by decide) dX10_canBeCutAt_30
    · refine g_iconst (pc := 25) X (iI 1) (by rfl) dX10_canBeCutAt_25 ?_
      refine g_goto (pc := 26) X 30 (by decide) dX10_canBeCutAt_26 ?_
      exact g_zret (pc := 30) X hA (rfl) (Or.inr (⟨rfl, rfl, (by omega), (by omega)⟩)) (by decide) (by decide) dX10_canBeCutAt_30

set_option maxHeartbeats 4000000 in
set_option maxRecDepth 100000 in
theorem kx_leastCuts (l : Launch) (Z : gZ) (w0 : Nat) (w_begins : Nat) (w_lengths : Nat) (w_lefts : Nat) (w_rights : Nat) (w_leans : Nat) (w_leaning : Nat) (Wk : Nat → Int) (Wm : Nat → Int) (wn : Int) (wr : Int) (b_wn : 0 ≤ wn ∧ wn ≤ 8) (b_wr : 0 ≤ wr ∧ wr ≤ 4800) (hw1 : 1 ≤ wn) (h_Wk : ∀ j, j < 8 → 0 ≤ Wk j ∧ Wk j ≤ 400) (h_Wm : ∀ j, j < 8 → (-50) ≤ Wm j ∧ Wm j ≤ 50) : Con l Z yX10_leastCuts cX10_leastCuts 7 (some .int) 3 66 0 0 [.ref w0] [cO_rrrrrrii w0 10 w_begins w_lengths w_lefts w_rights w_leans w_leaning wn wr, cA Z w_rights 0 8 Wk, cA Z w_leans 0 8 Wm] (fun r w' => ∃ (y : Int), (r = some (.int (iI y))) ∧ (w' = [cO_rrrrrrii w0 10 w_begins w_lengths w_lefts w_rights w_leans w_leaning wn wr, cA Z w_rights 0 8 Wk, cA Z w_leans 0 8 Wm]) ∧ (0 ≤ y ∧ y ≤ 128) ∧ (y = lcq (shF Wm Wk (wn - 1).toNat) bcn (pw2 (wn - 1).toNat).toNat)) := by
  refine enter (by decide) (Nat.le_of_ble_eq_true rfl) ?_
  intro p e s m args below meth c A X hnm hA
  have X : Cx p s m args meth c cX10_leastCuts 7 (some .int) RX10 Z A := X
  refine g_as (pc' := 0) (lv' := [(0, .ref w0)]) (st' := []) (ws' := [cO_rrrrrrii w0 10 w_begins w_lengths w_lefts w_rights w_leans w_leaning wn wr, cA Z w_rights 0 8 Wk, cA Z w_leans 0 8 Wm]) rfl rfl rfl rfl ?_
  refine g_iconst (pc := 0) X (iI 0) (by rfl) dX10_leastCuts_0 ?_
  refine g_istore_n (pc := 1) X (i := 1) rfl (by decide) (lv' := [(1, .int (iI 0)), (0, .ref w0)]) rfl dX10_leastCuts_1 ?_
  refine g_aload_n (pc := 2) X 1 rfl dX10_leastCuts_2 ?_
  refine g_iconst (pc := 3) X (iI 0) (by rfl) dX10_leastCuts_3 ?_
  refine g_callV (pc := 4) X (kx_shownWith l Z w0 w_begins w_lengths w_lefts w_rights w_leans w_leaning Wk Wm 0 wn wr (by decide) b_wn b_wr (h_Wk) (h_Wm)) iM_X10_shownWith mw_46_17 mw_44_17 mw_44_18 0 rfl rfl [0, 1, 2] [] rfl (wr := []) rfl (by decide) rfl rfl (Nat.le_of_ble_eq_true rfl) (by decide) dX10_leastCuts_4 (fun r w' hpo => ?_)
  refine exN_1 hpo fun y1 hz => anD_4 hz fun e_r e_w hf4_b_y hf4_f1 => ?_; clear hz hpo; subst e_r; subst e_w
  refine g_as (pc' := 7) (lv' := [(1, .int (iI 0)), (0, .ref w0)]) (st' := [.int (iI y1)]) (ws' := [cO_rrrrrrii w0 10 w_begins w_lengths w_lefts w_rights w_leans w_leaning wn wr, cA Z w_rights 0 8 Wk, cA Z w_leans 0 8 Wm]) rfl rfl rfl rfl ?_
  refine g_istore_n (pc := 7) X (i := 2) rfl (by decide) (lv' := [(2, .int (iI y1)), (1, .int (iI 0)), (0, .ref w0)]) rfl dX10_leastCuts_7 ?_
  refine g_aload_n (pc := 8) X 2 rfl dX10_leastCuts_8 ?_
  refine g_get (pc := 9) X inlX10 0 rfl rfl 6 (by decide) mw_16_4 rfl dX10_leastCuts_9 ?_
  refine g_if_leI (pc := 12) X 26 (by decide) (inRb b_wn (by decide) (by decide)) dX10_leastCuts_12 (fun h => absurd h (by omega)) (fun c12 => ?_)
  refine g_iconst (pc := 15) X (iI 1) (by rfl) dX10_leastCuts_15 ?_
  refine g_aload_n (pc := 16) X 2 rfl dX10_leastCuts_16 ?_
  refine g_get (pc := 17) X inlX10 0 rfl rfl 6 (by decide) mw_16_4 rfl dX10_leastCuts_17 ?_
  refine g_iconst (pc := 20) X (iI 1) (by rfl) dX10_leastCuts_20 ?_
  refine g_isubI (pc := 21) X dX10_leastCuts_21 ?_
  refine g_shl1 (pc := 22) X (by omega) (by omega) dX10_leastCuts_22 (fun y3 ey3 => ?_)
  have by3 : 1 ≤ y3 ∧ y3 ≤ 128 := pow2B 7 (by decide) (by omega) (by omega) ey3
  have pw_y3 : y3 = pw2 (wn - 1).toNat := ey3
  refine g_goto (pc := 23) X 27 (by decide) dX10_leastCuts_23 ?_
  refine g_istore_n (pc := 27) X (i := 3) rfl (by decide) (lv' := [(3, .int (iI y3)), (2, .int (iI y1)), (1, .int (iI 0)), (0, .ref w0)]) rfl dX10_leastCuts_27 ?_
  refine g_iconst (pc := 28) X (iI 1) (by rfl) dX10_leastCuts_28 ?_
  refine g_istore (pc := 29) X (by decide) (lv' := [(4, .int (iI 1)), (3, .int (iI y3)), (2, .int (iI y1)), (1, .int (iI 0)), (0, .ref w0)]) rfl dX10_leastCuts_29 ?_
  have loop31 : ∀ (fuel : Nat) (le : Int) (ls : Int) (cu : Int), (0 ≤ le ∧ le ≤ 128) → (0 ≤ ls ∧ ls ≤ 100000) → (1 ≤ cu ∧ cu ≤ 128) → (cu ≤ y3) → (le = lcq (shF Wm Wk (wn - 1).toNat) bcn cu.toNat) → (ls = shF Wm Wk (wn - 1).toNat le) → (129 - cu).toNat < fuel → Gs p l e ({ frames := 3, cells := 0, slots := 0, locals := 66 } : Room) s m args below meth c (MQ below (gPost Z [cO_rrrrrrii w0 10 w_begins w_lengths w_lefts w_rights w_leans w_leaning wn wr, cA Z w_rights 0 8 Wk, cA Z w_leans 0 8 Wm] s.heap.size (fun r w' => ∃ (y : Int), (r = some (.int (iI y))) ∧ (w' = [cO_rrrrrrii w0 10 w_begins w_lengths w_lefts w_rights w_leans w_leaning wn wr, cA Z w_rights 0 8 Wk, cA Z w_leans 0 8 Wm]) ∧ (0 ≤ y ∧ y ≤ 128) ∧ (y = lcq (shF Wm Wk (wn - 1).toNat) bcn (pw2 (wn - 1).toNat).toNat))) args s 0 0 (va_A [cO_rrrrrrii w0 10 w_begins w_lengths w_lefts w_rights w_leans w_leaning wn wr, cA Z w_rights 0 8 Wk, cA Z w_leans 0 8 Wm] s.heap.size)) Z A 7 0 0 31 [(4, .int (iI cu)), (3, .int (iI y3)), (2, .int (iI ls)), (1, .int (iI le)), (0, .ref w0)] [] [cO_rrrrrrii w0 10 w_begins w_lengths w_lefts w_rights w_leans w_leaning wn wr, cA Z w_rights 0 8 Wk, cA Z w_leans 0 8 Wm] := by
    intro fuel
    induction fuel with
    | zero => intro le ls cu _ _ _ _ _ _ hm; exact absurd hm (Nat.not_lt_zero _)
    | succ fuel ih =>
      intro le ls cu b_le b_ls b_cu ivc ivl ivs hm
      refine g_iload (pc := 31) X 0 rfl dX10_leastCuts_31 ?_
      refine g_iload_n (pc := 33) X 1 rfl dX10_leastCuts_33 ?_
      refine g_icmp_geI (pc := 34) X 93 (by decide) (inRb b_cu (by decide) (by decide)) ⟨by omega, by omega⟩ dX10_leastCuts_34 (fun c34 => ?_) (fun c34 => ?_)
      · refine g_iload_n (pc := 93) X 3 rfl dX10_leastCuts_93 ?_
        exact g_iret (pc := 94) X hA (⟨le, rfl, rfl, (b_le), (by rw [← pw_y3, show (y3).toNat = cu.toNat by omega]; exact ivl)⟩) (by decide) (by decide) dX10_leastCuts_94
      · refine g_aload_n (pc := 37) X 4 rfl dX10_leastCuts_37 ?_
        refine g_iload (pc := 38) X 0 rfl dX10_leastCuts_38 ?_
        refine g_callV (pc := 40) X (kx_shownWith l Z w0 w_begins w_lengths w_lefts w_rights w_leans w_leaning Wk Wm cu wn wr (by omega) b_wn b_wr (h_Wk) (h_Wm)) iM_X10_shownWith mw_46_17 mw_44_17 mw_44_18 0 rfl rfl [0, 1, 2] [] rfl (wr := []) rfl (by decide) rfl rfl (Nat.le_of_ble_eq_true rfl) (by decide) dX10_leastCuts_40 (fun r w' hpo => ?_)
        refine exN_1 hpo fun y4 hz => anD_4 hz fun e_r e_w hf40_b_y hf40_f1 => ?_; clear hz hpo; subst e_r; subst e_w
        refine g_as (pc' := 43) (lv' := [(4, .int (iI cu)), (3, .int (iI y3)), (2, .int (iI ls)), (1, .int (iI le)), (0, .ref w0)]) (st' := [.int (iI y4)]) (ws' := [cO_rrrrrrii w0 10 w_begins w_lengths w_lefts w_rights w_leans w_leaning wn wr, cA Z w_rights 0 8 Wk, cA Z w_leans 0 8 Wm]) rfl rfl rfl rfl ?_
        refine g_istore (pc := 43) X (by decide) (lv' := [(5, .int (iI y4)), (4, .int (iI cu)), (3, .int (iI y3)), (2, .int (iI ls)), (1, .int (iI le)), (0, .ref w0)]) rfl dX10_leastCuts_43 ?_
        refine g_iload (pc := 45) X 1 rfl dX10_leastCuts_45 ?_
        refine g_callS (pc := 47) X (kx_bitCount l Z cu (by omega)) iM_J6_bitCount_0f7a4 mw_46_18 mw_41_17 [] [0, 1, 2] rfl (wr := [cO_rrrrrrii w0 10 w_begins w_lengths w_lefts w_rights w_leans w_leaning wn wr, cA Z w_rights 0 8 Wk, cA Z w_leans 0 8 Wm]) rfl (by decide) rfl rfl (Nat.le_of_ble_eq_true rfl) (by decide) dX10_leastCuts_47 (fun r w' hpo => ?_)
        refine exN_1 hpo fun y6 hz => anD_4 hz fun e_r e_w hf47_b_y hf47_f1 => ?_; clear hz hpo; subst e_r; subst e_w
        refine g_as (pc' := 50) (lv' := [(5, .int (iI y4)), (4, .int (iI cu)), (3, .int (iI y3)), (2, .int (iI ls)), (1, .int (iI le)), (0, .ref w0)]) (st' := [.int (iI y6)]) (ws' := [cO_rrrrrrii w0 10 w_begins w_lengths w_lefts w_rights w_leans w_leaning wn wr, cA Z w_rights 0 8 Wk, cA Z w_leans 0 8 Wm]) rfl rfl rfl rfl ?_
        refine g_iload_n (pc := 50) X 4 rfl dX10_leastCuts_50 ?_
        refine g_callS (pc := 51) X (kx_bitCount l Z le (by omega)) iM_J6_bitCount_0f7a4 mw_46_18 mw_41_17 [] [0, 1, 2] rfl (wr := [cO_rrrrrrii w0 10 w_begins w_lengths w_lefts w_rights w_leans w_leaning wn wr, cA Z w_rights 0 8 Wk, cA Z w_leans 0 8 Wm]) rfl (by decide) rfl rfl (Nat.le_of_ble_eq_true rfl) (by decide) dX10_leastCuts_51 (fun r w' hpo => ?_)
        refine exN_1 hpo fun y8 hz => anD_4 hz fun e_r e_w hf51_b_y hf51_f1 => ?_; clear hz hpo; subst e_r; subst e_w
        refine g_as (pc' := 54) (lv' := [(5, .int (iI y4)), (4, .int (iI cu)), (3, .int (iI y3)), (2, .int (iI ls)), (1, .int (iI le)), (0, .ref w0)]) (st' := [.int (iI y8), .int (iI y6)]) (ws' := [cO_rrrrrrii w0 10 w_begins w_lengths w_lefts w_rights w_leans w_leaning wn wr, cA Z w_rights 0 8 Wk, cA Z w_leans 0 8 Wm]) rfl rfl rfl rfl ?_
        refine g_icmp_geI (pc := 54) X 61 (by decide) (inRb hf47_b_y (by decide) (by decide)) (inRb hf51_b_y (by decide) (by decide)) dX10_leastCuts_54 (fun c54 => ?_) (fun c54 => ?_)
        · refine g_iconst (pc := 61) X (iI 0) (by rfl) dX10_leastCuts_61 ?_
          refine g_istore (pc := 62) X (by decide) (lv' := [(6, .int (iI 0)), (5, .int (iI y4)), (4, .int (iI cu)), (3, .int (iI y3)), (2, .int (iI ls)), (1, .int (iI le)), (0, .ref w0)]) rfl dX10_leastCuts_62 ?_
          refine g_iload (pc := 64) X 1 rfl dX10_leastCuts_64 ?_
          refine g_iload_n (pc := 66) X 4 rfl dX10_leastCuts_66 ?_
          refine g_icmp_ltI (pc := 67) X 81 (by decide) (inRb hf40_b_y (by decide) (by decide)) (inRb b_ls (by decide) (by decide)) dX10_leastCuts_67 (fun c67 => ?_) (fun c67 => ?_)
          · refine g_iload (pc := 81) X 2 rfl dX10_leastCuts_81 ?_
            refine g_istore_n (pc := 83) X (i := 1) rfl (by decide) (lv' := [(1, .int (iI cu)), (6, .int (iI 0)), (5, .int (iI y4)), (4, .int (iI cu)), (3, .int (iI y3)), (2, .int (iI ls)), (0, .ref w0)]) rfl dX10_leastCuts_83 ?_
            refine g_iload (pc := 84) X 2 rfl dX10_leastCuts_84 ?_
            refine g_istore_n (pc := 86) X (i := 2) rfl (by decide) (lv' := [(2, .int (iI y4)), (1, .int (iI cu)), (6, .int (iI 0)), (5, .int (iI y4)), (4, .int (iI cu)), (3, .int (iI y3)), (0, .ref w0)]) rfl dX10_leastCuts_86 ?_
            refine g_iincI (pc := 87) X 4 rfl (by decide) (lv' := [(4, .int (iI (cu + 1))), (2, .int (iI y4)), (1, .int (iI cu)), (6, .int (iI 0)), (5, .int (iI y4)), (3, .int (iI y3)), (0, .ref w0)]) rfl dX10_leastCuts_87 ?_
            refine g_goto (pc := 90) X 31 (by decide) dX10_leastCuts_90 ?_
            refine g_lv (lv' := [(4, .int (iI (cu + 1))), (3, .int (iI y3)), (2, .int (iI y4)), (1, .int (iI cu)), (0, .ref w0)]) [0, 5, 1, 2, 6] rfl ?_
            exact ih cu y4 (cu + 1) (by omega) (hf40_b_y) (by omega) (by omega) (by rw [lcq_s (by omega), ← ivl, if_pos (by omega)]) (hf40_f1) (by omega)
          · refine g_iload (pc := 70) X 1 rfl dX10_leastCuts_70 ?_
            refine g_iload_n (pc := 72) X 4 rfl dX10_leastCuts_72 ?_
            refine g_icmp_neI (pc := 73) X 87 (by decide) (inRb hf40_b_y (by decide) (by decide)) (inRb b_ls (by decide) (by decide)) dX10_leastCuts_73 (fun c73 => ?_) (fun c73 => ?_)
            · refine g_iincI (pc := 87) X 2 rfl (by decide) (lv' := [(4, .int (iI (cu + 1))), (6, .int (iI 0)), (5, .int (iI y4)), (3, .int (iI y3)), (2, .int (iI ls)), (1, .int (iI le)), (0, .ref w0)]) rfl dX10_leastCuts_87 ?_
              refine g_goto (pc := 90) X 31 (by decide) dX10_leastCuts_90 ?_
              refine g_lv (lv' := [(4, .int (iI (cu + 1))), (3, .int (iI y3)), (2, .int (iI ls)), (1, .int (iI le)), (0, .ref w0)]) [0, 3, 4, 5, 6] rfl ?_
              exact ih le ls (cu + 1) (b_le) (b_ls) (by omega) (by omega) (by rw [lcq_s (by omega), ← ivl, if_neg (by omega)]) (ivs) (by omega)
            · refine g_iload (pc := 76) X 0 rfl dX10_leastCuts_76 ?_
              refine g_if_eqI (pc := 78) X 87 (by decide) ⟨by decide, by decide⟩ dX10_leastCuts_78 (fun _ => ?_) (fun h => absurd h (by decide))
              refine g_iincI (pc := 87) X 2 rfl (by decide) (lv' := [(4, .int (iI (cu + 1))), (6, .int (iI 0)), (5, .int (iI y4)), (3, .int (iI y3)), (2, .int (iI ls)), (1, .int (iI le)), (0, .ref w0)]) rfl dX10_leastCuts_87 ?_
              refine g_goto (pc := 90) X 31 (by decide) dX10_leastCuts_90 ?_
              refine g_lv (lv' := [(4, .int (iI (cu + 1))), (3, .int (iI y3)), (2, .int (iI ls)), (1, .int (iI le)), (0, .ref w0)]) [0, 3, 4, 5, 6] rfl ?_
              exact ih le ls (cu + 1) (b_le) (b_ls) (by omega) (by omega) (by rw [lcq_s (by omega), ← ivl, if_neg (by omega)]) (ivs) (by omega)
        · refine g_iconst (pc := 57) X (iI 1) (by rfl) dX10_leastCuts_57 ?_
          refine g_goto (pc := 58) X 62 (by decide) dX10_leastCuts_58 ?_
          refine g_istore (pc := 62) X (by decide) (lv' := [(6, .int (iI 1)), (5, .int (iI y4)), (4, .int (iI cu)), (3, .int (iI y3)), (2, .int (iI ls)), (1, .int (iI le)), (0, .ref w0)]) rfl dX10_leastCuts_62 ?_
          refine g_iload (pc := 64) X 1 rfl dX10_leastCuts_64 ?_
          refine g_iload_n (pc := 66) X 4 rfl dX10_leastCuts_66 ?_
          refine g_icmp_ltI (pc := 67) X 81 (by decide) (inRb hf40_b_y (by decide) (by decide)) (inRb b_ls (by decide) (by decide)) dX10_leastCuts_67 (fun c67 => ?_) (fun c67 => ?_)
          · refine g_iload (pc := 81) X 2 rfl dX10_leastCuts_81 ?_
            refine g_istore_n (pc := 83) X (i := 1) rfl (by decide) (lv' := [(1, .int (iI cu)), (6, .int (iI 1)), (5, .int (iI y4)), (4, .int (iI cu)), (3, .int (iI y3)), (2, .int (iI ls)), (0, .ref w0)]) rfl dX10_leastCuts_83 ?_
            refine g_iload (pc := 84) X 2 rfl dX10_leastCuts_84 ?_
            refine g_istore_n (pc := 86) X (i := 2) rfl (by decide) (lv' := [(2, .int (iI y4)), (1, .int (iI cu)), (6, .int (iI 1)), (5, .int (iI y4)), (4, .int (iI cu)), (3, .int (iI y3)), (0, .ref w0)]) rfl dX10_leastCuts_86 ?_
            refine g_iincI (pc := 87) X 4 rfl (by decide) (lv' := [(4, .int (iI (cu + 1))), (2, .int (iI y4)), (1, .int (iI cu)), (6, .int (iI 1)), (5, .int (iI y4)), (3, .int (iI y3)), (0, .ref w0)]) rfl dX10_leastCuts_87 ?_
            refine g_goto (pc := 90) X 31 (by decide) dX10_leastCuts_90 ?_
            refine g_lv (lv' := [(4, .int (iI (cu + 1))), (3, .int (iI y3)), (2, .int (iI y4)), (1, .int (iI cu)), (0, .ref w0)]) [0, 5, 1, 2, 6] rfl ?_
            exact ih cu y4 (cu + 1) (by omega) (hf40_b_y) (by omega) (by omega) (by rw [lcq_s (by omega), ← ivl, if_pos (by omega)]) (hf40_f1) (by omega)
          · refine g_iload (pc := 70) X 1 rfl dX10_leastCuts_70 ?_
            refine g_iload_n (pc := 72) X 4 rfl dX10_leastCuts_72 ?_
            refine g_icmp_neI (pc := 73) X 87 (by decide) (inRb hf40_b_y (by decide) (by decide)) (inRb b_ls (by decide) (by decide)) dX10_leastCuts_73 (fun c73 => ?_) (fun c73 => ?_)
            · refine g_iincI (pc := 87) X 2 rfl (by decide) (lv' := [(4, .int (iI (cu + 1))), (6, .int (iI 1)), (5, .int (iI y4)), (3, .int (iI y3)), (2, .int (iI ls)), (1, .int (iI le)), (0, .ref w0)]) rfl dX10_leastCuts_87 ?_
              refine g_goto (pc := 90) X 31 (by decide) dX10_leastCuts_90 ?_
              refine g_lv (lv' := [(4, .int (iI (cu + 1))), (3, .int (iI y3)), (2, .int (iI ls)), (1, .int (iI le)), (0, .ref w0)]) [0, 3, 4, 5, 6] rfl ?_
              exact ih le ls (cu + 1) (b_le) (b_ls) (by omega) (by omega) (by rw [lcq_s (by omega), ← ivl, if_neg (by omega)]) (ivs) (by omega)
            · refine g_iload (pc := 76) X 0 rfl dX10_leastCuts_76 ?_
              refine g_if_eqI (pc := 78) X 87 (by decide) ⟨by decide, by decide⟩ dX10_leastCuts_78 (fun h => absurd h (by decide)) (fun _ => ?_)
              refine g_iload (pc := 81) X 2 rfl dX10_leastCuts_81 ?_
              refine g_istore_n (pc := 83) X (i := 1) rfl (by decide) (lv' := [(1, .int (iI cu)), (6, .int (iI 1)), (5, .int (iI y4)), (4, .int (iI cu)), (3, .int (iI y3)), (2, .int (iI ls)), (0, .ref w0)]) rfl dX10_leastCuts_83 ?_
              refine g_iload (pc := 84) X 2 rfl dX10_leastCuts_84 ?_
              refine g_istore_n (pc := 86) X (i := 2) rfl (by decide) (lv' := [(2, .int (iI y4)), (1, .int (iI cu)), (6, .int (iI 1)), (5, .int (iI y4)), (4, .int (iI cu)), (3, .int (iI y3)), (0, .ref w0)]) rfl dX10_leastCuts_86 ?_
              refine g_iincI (pc := 87) X 4 rfl (by decide) (lv' := [(4, .int (iI (cu + 1))), (2, .int (iI y4)), (1, .int (iI cu)), (6, .int (iI 1)), (5, .int (iI y4)), (3, .int (iI y3)), (0, .ref w0)]) rfl dX10_leastCuts_87 ?_
              refine g_goto (pc := 90) X 31 (by decide) dX10_leastCuts_90 ?_
              refine g_lv (lv' := [(4, .int (iI (cu + 1))), (3, .int (iI y3)), (2, .int (iI y4)), (1, .int (iI cu)), (0, .ref w0)]) [0, 5, 1, 2, 6] rfl ?_
              exact ih cu y4 (cu + 1) (by omega) (hf40_b_y) (by omega) (by omega) (by rw [lcq_s (by omega), ← ivl, if_pos (by omega)]) (hf40_f1) (by omega)
  exact loop31 _ 0 y1 1 (by omega) (hf4_b_y) (by omega) (by omega) (lcq_1.symm) (hf4_f1) (Nat.lt_succ_self _)

set_option maxHeartbeats 4000000 in
set_option maxRecDepth 100000 in
theorem kx_doorsAbove (l : Launch) (Z : gZ) (r0 : Nat) (w0 : Nat) (r_doors : Nat) (r_openingWalls : Nat) (r_froms : Nat) (r_tos : Nat) (r_lowers : Nat) (r_uppers : Nat) (r_standWalls : Nat) (r_standXs : Nat) (r_standYs : Nat) (Rd : Nat → Int) (Rf : Nat → Int) (Rt : Nat → Int) (Ru : Nat → Int) (he : Int) (ro : Int) (rs : Int) (b_he : (-2147483648) ≤ he ∧ he ≤ 2147483647) (b_ro : 0 ≤ ro ∧ ro ≤ 8) (b_rs : 0 ≤ rs ∧ rs ≤ 4) (h_Rd : ∀ j, j < 8 → 0 ≤ Rd j ∧ Rd j ≤ 1) (h_Rf : ∀ j, j < 8 → 0 ≤ Rf j ∧ Rf j ≤ 600) (h_Rt : ∀ j, j < 8 → 0 ≤ Rt j ∧ Rt j ≤ 600) (h_Ru : ∀ j, j < 8 → 0 ≤ Ru j ∧ Ru j ≤ 400) : Con l Z yX6_doorsAbove cX6_doorsAbove 4 (some .int) 0 0 0 0 [.ref r0, .int (iI he)] [cO_rirrrrrrirrr r0 6 w0 ro r_doors r_openingWalls r_froms r_tos r_lowers r_uppers rs r_standWalls r_standXs r_standYs, cA Z r_doors 2 8 Rd, cA Z r_froms 0 8 Rf, cA Z r_tos 0 8 Rt, cA Z r_uppers 0 8 Ru] (fun r w' => ∃ (y : Int), (r = some (.int (iI y))) ∧ (w' = [cO_rirrrrrrirrr r0 6 w0 ro r_doors r_openingWalls r_froms r_tos r_lowers r_uppers rs r_standWalls r_standXs r_standYs, cA Z r_doors 2 8 Rd, cA Z r_froms 0 8 Rf, cA Z r_tos 0 8 Rt, cA Z r_uppers 0 8 Ru]) ∧ ((-4800) ≤ y ∧ y ≤ 4800) ∧ (y = dsm Rf Rt Ru Rd he ro.toNat)) := by
  refine enter (by decide) (Nat.le_of_ble_eq_true rfl) ?_
  intro p e s m args below meth c A X hnm hA
  have X : Cx p s m args meth c cX6_doorsAbove 4 (some .int) RX6 Z A := X
  refine g_as (pc' := 0) (lv' := [(0, .ref r0), (1, .int (iI he))]) (st' := []) (ws' := [cO_rirrrrrrirrr r0 6 w0 ro r_doors r_openingWalls r_froms r_tos r_lowers r_uppers rs r_standWalls r_standXs r_standYs, cA Z r_doors 2 8 Rd, cA Z r_froms 0 8 Rf, cA Z r_tos 0 8 Rt, cA Z r_uppers 0 8 Ru]) rfl rfl rfl rfl ?_
  refine g_iconst (pc := 0) X (iI 0) (by rfl) dX6_doorsAbove_0 ?_
  refine g_istore_n (pc := 1) X (i := 2) rfl (by decide) (lv' := [(2, .int (iI 0)), (0, .ref r0), (1, .int (iI he))]) rfl dX6_doorsAbove_1 ?_
  refine g_iconst (pc := 2) X (iI 0) (by rfl) dX6_doorsAbove_2 ?_
  refine g_istore_n (pc := 3) X (i := 3) rfl (by decide) (lv' := [(3, .int (iI 0)), (2, .int (iI 0)), (0, .ref r0), (1, .int (iI he))]) rfl dX6_doorsAbove_3 ?_
  have loop4 : ∀ (fuel : Nat) (t : Int) (i : Int), ((-4800) ≤ t ∧ t ≤ 4800) → (0 ≤ i ∧ i ≤ 8) → (-600 * i ≤ t ∧ t ≤ 600 * i) → (i ≤ ro) → (t = dsm Rf Rt Ru Rd he i.toNat) → (9 - i).toNat < fuel → Gs p l e ({ frames := 0, cells := 0, slots := 0, locals := 0 } : Room) s m args below meth c (MQ below (gPost Z [cO_rirrrrrrirrr r0 6 w0 ro r_doors r_openingWalls r_froms r_tos r_lowers r_uppers rs r_standWalls r_standXs r_standYs, cA Z r_doors 2 8 Rd, cA Z r_froms 0 8 Rf, cA Z r_tos 0 8 Rt, cA Z r_uppers 0 8 Ru] s.heap.size (fun r w' => ∃ (y : Int), (r = some (.int (iI y))) ∧ (w' = [cO_rirrrrrrirrr r0 6 w0 ro r_doors r_openingWalls r_froms r_tos r_lowers r_uppers rs r_standWalls r_standXs r_standYs, cA Z r_doors 2 8 Rd, cA Z r_froms 0 8 Rf, cA Z r_tos 0 8 Rt, cA Z r_uppers 0 8 Ru]) ∧ ((-4800) ≤ y ∧ y ≤ 4800) ∧ (y = dsm Rf Rt Ru Rd he ro.toNat))) args s 0 0 (va_A [cO_rirrrrrrirrr r0 6 w0 ro r_doors r_openingWalls r_froms r_tos r_lowers r_uppers rs r_standWalls r_standXs r_standYs, cA Z r_doors 2 8 Rd, cA Z r_froms 0 8 Rf, cA Z r_tos 0 8 Rt, cA Z r_uppers 0 8 Ru] s.heap.size)) Z A 4 0 0 4 [(3, .int (iI i)), (2, .int (iI t)), (0, .ref r0), (1, .int (iI he))] [] [cO_rirrrrrrirrr r0 6 w0 ro r_doors r_openingWalls r_froms r_tos r_lowers r_uppers rs r_standWalls r_standXs r_standYs, cA Z r_doors 2 8 Rd, cA Z r_froms 0 8 Rf, cA Z r_tos 0 8 Rt, cA Z r_uppers 0 8 Ru] := by
    intro fuel
    induction fuel with
    | zero => intro t i _ _ _ _ _ hm; exact absurd hm (Nat.not_lt_zero _)
    | succ fuel ih =>
      intro t i b_t b_i iv ivi ivd hm
      refine g_iload_n (pc := 4) X 0 rfl dX6_doorsAbove_4 ?_
      refine g_aload_n (pc := 5) X 2 rfl dX6_doorsAbove_5 ?_
      refine g_get (pc := 6) X inlX6 0 rfl rfl 1 (by decide) mw_15_22 rfl dX6_doorsAbove_6 ?_
      refine g_icmp_geI (pc := 9) X 53 (by decide) (inRb b_i (by decide) (by decide)) (inRb b_ro (by decide) (by decide)) dX6_doorsAbove_9 (fun c9 => ?_) (fun c9 => ?_)
      · refine g_iload_n (pc := 53) X 1 rfl dX6_doorsAbove_53 ?_
        exact g_iret (pc := 54) X hA (⟨t, rfl, rfl, (b_t), (by rw [show ro.toNat = i.toNat by omega]; exact ivd)⟩) (by decide) (by decide) dX6_doorsAbove_54
      · refine g_aload_n (pc := 12) X 2 rfl dX6_doorsAbove_12 ?_
        refine g_get (pc := 13) X inlX6 0 rfl rfl 2 (by decide) mw_6_12 rfl dX6_doorsAbove_13 ?_
        refine g_iload_n (pc := 16) X 0 rfl dX6_doorsAbove_16 ?_
        refine g_zaldI (pc := 17) X 1 rfl (b_i.1) (by omega) (Int.le_trans b_i.2 (by decide)) dX6_doorsAbove_17 ?_
        refine g_nameI (fun y1 ey1 => ?_)
        have by1 : 0 ≤ y1 ∧ y1 ≤ 1 := by rw [ey1]; exact h_Rd _ (by omega)
        refine g_if_eqI (pc := 18) X 47 (by decide) (inRb by1 (by decide) (by decide)) dX6_doorsAbove_18 (fun c18 => ?_) (fun c18 => ?_)
        · refine g_iincI (pc := 47) X 0 rfl (by decide) (lv' := [(3, .int (iI (i + 1))), (2, .int (iI t)), (0, .ref r0), (1, .int (iI he))]) rfl dX6_doorsAbove_47 ?_
          refine g_goto (pc := 50) X 4 (by decide) dX6_doorsAbove_50 ?_
          exact ih t (i + 1) (b_t) (by omega) (by omega) (by omega) (by rw [dsm_s (by omega), if_neg (by omega)]; omega) (by omega)
        · refine g_aload_n (pc := 21) X 2 rfl dX6_doorsAbove_21 ?_
          refine g_get (pc := 22) X inlX6 0 rfl rfl 7 (by decide) mw_6_17 rfl dX6_doorsAbove_22 ?_
          refine g_iload_n (pc := 25) X 0 rfl dX6_doorsAbove_25 ?_
          refine g_ialdI (pc := 26) X 4 rfl (b_i.1) (by omega) (Int.le_trans b_i.2 (by decide)) dX6_doorsAbove_26 ?_
          refine g_nameI (fun y2 ey2 => ?_)
          have by2 : 0 ≤ y2 ∧ y2 ≤ 400 := by rw [ey2]; exact h_Ru _ (by omega)
          refine g_iload_n (pc := 27) X 3 rfl dX6_doorsAbove_27 ?_
          refine g_icmp_leI (pc := 28) X 47 (by decide) (inRb by2 (by decide) (by decide)) b_he dX6_doorsAbove_28 (fun c28 => ?_) (fun c28 => ?_)
          · refine g_iincI (pc := 47) X 0 rfl (by decide) (lv' := [(3, .int (iI (i + 1))), (2, .int (iI t)), (0, .ref r0), (1, .int (iI he))]) rfl dX6_doorsAbove_47 ?_
            refine g_goto (pc := 50) X 4 (by decide) dX6_doorsAbove_50 ?_
            exact ih t (i + 1) (b_t) (by omega) (by omega) (by omega) (by rw [dsm_s (by omega), if_neg (by omega)]; omega) (by omega)
          · refine g_iload_n (pc := 31) X 1 rfl dX6_doorsAbove_31 ?_
            refine g_aload_n (pc := 32) X 2 rfl dX6_doorsAbove_32 ?_
            refine g_get (pc := 33) X inlX6 0 rfl rfl 5 (by decide) mw_6_15 rfl dX6_doorsAbove_33 ?_
            refine g_iload_n (pc := 36) X 0 rfl dX6_doorsAbove_36 ?_
            refine g_ialdI (pc := 37) X 3 rfl (b_i.1) (by omega) (Int.le_trans b_i.2 (by decide)) dX6_doorsAbove_37 ?_
            refine g_nameI (fun y3 ey3 => ?_)
            have by3 : 0 ≤ y3 ∧ y3 ≤ 600 := by rw [ey3]; exact h_Rt _ (by omega)
            refine g_aload_n (pc := 38) X 2 rfl dX6_doorsAbove_38 ?_
            refine g_get (pc := 39) X inlX6 0 rfl rfl 4 (by decide) mw_6_14 rfl dX6_doorsAbove_39 ?_
            refine g_iload_n (pc := 42) X 0 rfl dX6_doorsAbove_42 ?_
            refine g_ialdI (pc := 43) X 2 rfl (b_i.1) (by omega) (Int.le_trans b_i.2 (by decide)) dX6_doorsAbove_43 ?_
            refine g_nameI (fun y4 ey4 => ?_)
            have by4 : 0 ≤ y4 ∧ y4 ≤ 600 := by rw [ey4]; exact h_Rf _ (by omega)
            refine g_isubI (pc := 44) X dX6_doorsAbove_44 ?_
            refine g_iaddI (pc := 45) X dX6_doorsAbove_45 ?_
            refine g_istore_n (pc := 46) X (i := 2) rfl (by decide) (lv' := [(2, .int (iI (t + (y3 - y4)))), (3, .int (iI i)), (0, .ref r0), (1, .int (iI he))]) rfl dX6_doorsAbove_46 ?_
            refine g_iincI (pc := 47) X 1 rfl (by decide) (lv' := [(3, .int (iI (i + 1))), (2, .int (iI (t + (y3 - y4)))), (0, .ref r0), (1, .int (iI he))]) rfl dX6_doorsAbove_47 ?_
            refine g_goto (pc := 50) X 4 (by decide) dX6_doorsAbove_50 ?_
            exact ih (t + (y3 - y4)) (i + 1) (by omega) (by omega) (by omega) (by omega) (by rw [dsm_s (by omega), if_pos (by omega)]; omega) (by omega)
  exact loop4 _ 0 0 (by omega) (by omega) (by omega) (by omega) (rfl) (Nat.lt_succ_self _)
