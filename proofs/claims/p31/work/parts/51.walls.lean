set_option maxHeartbeats 4000000 in
set_option maxRecDepth 100000 in
theorem k_X10_clear (l : Launch) (Z : gZ) (w0 : Nat) (w_begins : Nat) (w_lengths : Nat) (w_lefts : Nat) (w_rights : Nat) (w_leans : Nat) (w_leaning : Nat) (wn : Int) (wr : Int) (b_wn : 0 ≤ wn ∧ wn ≤ 8) (b_wr : 0 ≤ wr ∧ wr ≤ 4800) : Con l Z yX10_clear cX10_clear 1 none 0 0 0 0 [.ref w0] [cO_rrrrrrii w0 10 w_begins w_lengths w_lefts w_rights w_leans w_leaning wn wr] (fun r w' => (r = none) ∧ (w' = [cO_rrrrrrii w0 10 w_begins w_lengths w_lefts w_rights w_leans w_leaning 0 0])) := by
  refine enter (by decide) (Nat.le_of_ble_eq_true rfl) ?_
  intro p e s m args below meth c A X hnm hA
  have X : Cx p s m args meth c cX10_clear 1 none RX10 Z A := X
  refine g_as (pc' := 0) (lv' := [(0, .ref w0)]) (st' := []) (ws' := [cO_rrrrrrii w0 10 w_begins w_lengths w_lefts w_rights w_leans w_leaning wn wr]) rfl rfl rfl rfl ?_
  refine g_aload_n (pc := 0) X 0 rfl dX10_clear_0 ?_
  refine g_iconst (pc := 1) X (iI 0) (by rfl) dX10_clear_1 ?_
  refine g_put (pc := 2) X inlX10 tyX10_ok nmX10 0 rfl rfl 6 (by decide) mw_16_4 rfl rfl rfl (Nat.le_of_ble_eq_true rfl) (ws' := [cO_rrrrrrii w0 10 w_begins w_lengths w_lefts w_rights w_leans w_leaning 0 wr]) rfl dX10_clear_2 ?_
  refine g_aload_n (pc := 5) X 0 rfl dX10_clear_5 ?_
  refine g_iconst (pc := 6) X (iI 0) (by rfl) dX10_clear_6 ?_
  refine g_put (pc := 7) X inlX10 tyX10_ok nmX10 0 rfl rfl 7 (by decide) mw_16_5 rfl rfl rfl (Nat.le_of_ble_eq_true rfl) (ws' := [cO_rrrrrrii w0 10 w_begins w_lengths w_lefts w_rights w_leans w_leaning 0 0]) rfl dX10_clear_7 ?_
  exact g_vret (pc := 10) X hA (⟨rfl, rfl⟩) (by decide) (by decide) dX10_clear_10

set_option maxHeartbeats 4000000 in
set_option maxRecDepth 100000 in
theorem k_X10_has (l : Launch) (Z : gZ) (w0 : Nat) (w_begins : Nat) (w_lengths : Nat) (w_lefts : Nat) (w_rights : Nat) (w_leans : Nat) (w_leaning : Nat) (w : Int) (wn : Int) (wr : Int) (b_w : (-2147483648) ≤ w ∧ w ≤ 2147483647) (b_wn : 0 ≤ wn ∧ wn ≤ 8) (b_wr : 0 ≤ wr ∧ wr ≤ 4800) : Con l Z yX10_has cX10_has 2 (some .boolean) 0 0 0 0 [.ref w0, .int (iI w)] [cO_rrrrrrii w0 10 w_begins w_lengths w_lefts w_rights w_leans w_leaning wn wr] (fun r w' => (r = some (.int (iI (bI (0 ≤ w ∧ w < wn))))) ∧ (w' = [cO_rrrrrrii w0 10 w_begins w_lengths w_lefts w_rights w_leans w_leaning wn wr])) := by
  refine enter (by decide) (Nat.le_of_ble_eq_true rfl) ?_
  intro p e s m args below meth c A X hnm hA
  have X : Cx p s m args meth c cX10_has 2 (some .boolean) RX10 Z A := X
  refine g_as (pc' := 0) (lv' := [(0, .ref w0), (1, .int (iI w))]) (st' := []) (ws' := [cO_rrrrrrii w0 10 w_begins w_lengths w_lefts w_rights w_leans w_leaning wn wr]) rfl rfl rfl rfl ?_
  refine g_iload_n (pc := 0) X 1 rfl dX10_has_0 ?_
  refine g_if_ltI (pc := 1) X 16 (by decide) b_w dX10_has_1 (fun c1 => ?_) (fun c1 => ?_)
  · refine g_iconst (pc := 16) X (iI 0) (by rfl) dX10_has_16 ?_
    exact g_zret (pc := 17) X hA (rfl) (⟨congrArg (fun z => some (Value.int (iI z))) ((bI_f (by omega)).symm), rfl⟩) (by decide) (by decide) dX10_has_17
  · refine g_iload_n (pc := 4) X 1 rfl dX10_has_4 ?_
    refine g_aload_n (pc := 5) X 0 rfl dX10_has_5 ?_
    refine g_get (pc := 6) X inlX10 0 rfl rfl 6 (by decide) mw_16_4 rfl dX10_has_6 ?_
    refine g_icmp_geI (pc := 9) X 16 (by decide) b_w (inRb b_wn (by decide) (by decide)) dX10_has_9 (fun c9 => ?_) (fun c9 => ?_)
    · refine g_iconst (pc := 16) X (iI 0) (by rfl) dX10_has_16 ?_
      exact g_zret (pc := 17) X hA (rfl) (⟨congrArg (fun z => some (Value.int (iI z))) ((bI_f (by omega)).symm), rfl⟩) (by decide) (by decide) dX10_has_17
    · refine g_iconst (pc := 12) X (iI 1) (by rfl) dX10_has_12 ?_
      refine g_goto (pc := 13) X 17 (by decide) dX10_has_13 ?_
      exact g_zret (pc := 17) X hA (rfl) (⟨congrArg (fun z => some (Value.int (iI z))) ((bI_t (by omega)).symm), rfl⟩) (by decide) (by decide) dX10_has_17

set_option maxHeartbeats 4000000 in
set_option maxRecDepth 100000 in
theorem k_X10_beginOf (l : Launch) (Z : gZ) (w0 : Nat) (w_begins : Nat) (w_lengths : Nat) (w_lefts : Nat) (w_rights : Nat) (w_leans : Nat) (w_leaning : Nat) (Wb : Nat → Int) (w : Int) (wn : Int) (wr : Int) (b_w : (-2147483648) ≤ w ∧ w ≤ 2147483647) (b_wn : 0 ≤ wn ∧ wn ≤ 8) (b_wr : 0 ≤ wr ∧ wr ≤ 4800) (h_Wb : ∀ j, j < 8 → 0 ≤ Wb j ∧ Wb j ≤ 4800) : Con l Z yX10_beginOf cX10_beginOf 2 (some .int) 1 21 0 0 [.ref w0, .int (iI w)] [cO_rrrrrrii w0 10 w_begins w_lengths w_lefts w_rights w_leans w_leaning wn wr, cA Z w_begins 0 8 Wb] (fun r w' => ∃ (y : Int), (r = some (.int (iI y))) ∧ (w' = [cO_rrrrrrii w0 10 w_begins w_lengths w_lefts w_rights w_leans w_leaning wn wr, cA Z w_begins 0 8 Wb]) ∧ (0 ≤ y ∧ y ≤ 4800) ∧ (0 ≤ w ∧ w < wn → y = Wb w.toNat)) := by
  refine enter (by decide) (Nat.le_of_ble_eq_true rfl) ?_
  intro p e s m args below meth c A X hnm hA
  have X : Cx p s m args meth c cX10_beginOf 2 (some .int) RX10 Z A := X
  refine g_as (pc' := 0) (lv' := [(0, .ref w0), (1, .int (iI w))]) (st' := []) (ws' := [cO_rrrrrrii w0 10 w_begins w_lengths w_lefts w_rights w_leans w_leaning wn wr, cA Z w_begins 0 8 Wb]) rfl rfl rfl rfl ?_
  refine g_aload_n (pc := 0) X 0 rfl dX10_beginOf_0 ?_
  refine g_iload_n (pc := 1) X 1 rfl dX10_beginOf_1 ?_
  refine g_callV (pc := 2) X (k_X10_has l Z w0 w_begins w_lengths w_lefts w_rights w_leans w_leaning w wn wr b_w b_wn b_wr) iM_X10_has mw_17_19 mw_17_20 mw_17_21 0 rfl rfl [0] [1] rfl (wr := [cA Z w_begins 0 8 Wb]) rfl (by decide) rfl rfl (Nat.le_of_ble_eq_true rfl) (by decide) dX10_beginOf_2 (fun r w' hpo => ?_)
  obtain ⟨rfl, rfl⟩ := hpo
  refine g_as (pc' := 5) (lv' := [(0, .ref w0), (1, .int (iI w))]) (st' := [.int (iI (bI (0 ≤ w ∧ w < wn)))]) (ws' := [cA Z w_begins 0 8 Wb, cO_rrrrrrii w0 10 w_begins w_lengths w_lefts w_rights w_leans w_leaning wn wr]) rfl rfl rfl rfl ?_
  refine g_if_eqB (pc := 5) X 17 (by decide) dX10_beginOf_5 (fun c5 => ?_) (fun c5 => ?_)
  · refine g_iconst (pc := 17) X (iI 0) (by rfl) dX10_beginOf_17 ?_
    refine g_ws (ws' := [cO_rrrrrrii w0 10 w_begins w_lengths w_lefts w_rights w_leans w_leaning wn wr, cA Z w_begins 0 8 Wb]) [1, 0] (by decide) rfl ?_
    exact g_iret (pc := 18) X hA (⟨0, rfl, rfl, (by omega), (by omega)⟩) (by decide) (by decide) dX10_beginOf_18
  · refine g_aload_n (pc := 8) X 0 rfl dX10_beginOf_8 ?_
    refine g_get (pc := 9) X inlX10 1 rfl rfl 0 (by decide) mw_7_1 rfl dX10_beginOf_9 ?_
    refine g_iload_n (pc := 12) X 1 rfl dX10_beginOf_12 ?_
    refine g_ialdI (pc := 13) X 0 rfl (by omega) (by omega) (Int.le_trans b_w.2 (by decide)) dX10_beginOf_13 ?_
    refine g_nameI (fun y2 ey2 => ?_)
    have by2 : 0 ≤ y2 ∧ y2 ≤ 4800 := by rw [ey2]; exact h_Wb _ (by omega)
    refine g_goto (pc := 14) X 18 (by decide) dX10_beginOf_14 ?_
    refine g_ws (ws' := [cO_rrrrrrii w0 10 w_begins w_lengths w_lefts w_rights w_leans w_leaning wn wr, cA Z w_begins 0 8 Wb]) [1, 0] (by decide) rfl ?_
    exact g_iret (pc := 18) X hA (⟨y2, rfl, rfl, (by2), (by omega)⟩) (by decide) (by decide) dX10_beginOf_18

set_option maxHeartbeats 4000000 in
set_option maxRecDepth 100000 in
theorem k_X10_lengthOf (l : Launch) (Z : gZ) (w0 : Nat) (w_begins : Nat) (w_lengths : Nat) (w_lefts : Nat) (w_rights : Nat) (w_leans : Nat) (w_leaning : Nat) (Wl : Nat → Int) (w : Int) (wn : Int) (wr : Int) (b_w : (-2147483648) ≤ w ∧ w ≤ 2147483647) (b_wn : 0 ≤ wn ∧ wn ≤ 8) (b_wr : 0 ≤ wr ∧ wr ≤ 4800) (h_Wl : ∀ j, j < 8 → 0 ≤ Wl j ∧ Wl j ≤ 600) : Con l Z yX10_lengthOf cX10_lengthOf 2 (some .int) 1 21 0 0 [.ref w0, .int (iI w)] [cO_rrrrrrii w0 10 w_begins w_lengths w_lefts w_rights w_leans w_leaning wn wr, cA Z w_lengths 0 8 Wl] (fun r w' => ∃ (y : Int), (r = some (.int (iI y))) ∧ (w' = [cO_rrrrrrii w0 10 w_begins w_lengths w_lefts w_rights w_leans w_leaning wn wr, cA Z w_lengths 0 8 Wl]) ∧ (0 ≤ y ∧ y ≤ 600)) := by
  refine enter (by decide) (Nat.le_of_ble_eq_true rfl) ?_
  intro p e s m args below meth c A X hnm hA
  have X : Cx p s m args meth c cX10_lengthOf 2 (some .int) RX10 Z A := X
  refine g_as (pc' := 0) (lv' := [(0, .ref w0), (1, .int (iI w))]) (st' := []) (ws' := [cO_rrrrrrii w0 10 w_begins w_lengths w_lefts w_rights w_leans w_leaning wn wr, cA Z w_lengths 0 8 Wl]) rfl rfl rfl rfl ?_
  refine g_aload_n (pc := 0) X 0 rfl dX10_lengthOf_0 ?_
  refine g_iload_n (pc := 1) X 1 rfl dX10_lengthOf_1 ?_
  refine g_callV (pc := 2) X (k_X10_has l Z w0 w_begins w_lengths w_lefts w_rights w_leans w_leaning w wn wr b_w b_wn b_wr) iM_X10_has mw_17_19 mw_17_20 mw_17_21 0 rfl rfl [0] [1] rfl (wr := [cA Z w_lengths 0 8 Wl]) rfl (by decide) rfl rfl (Nat.le_of_ble_eq_true rfl) (by decide) dX10_lengthOf_2 (fun r w' hpo => ?_)
  obtain ⟨rfl, rfl⟩ := hpo
  refine g_as (pc' := 5) (lv' := [(0, .ref w0), (1, .int (iI w))]) (st' := [.int (iI (bI (0 ≤ w ∧ w < wn)))]) (ws' := [cA Z w_lengths 0 8 Wl, cO_rrrrrrii w0 10 w_begins w_lengths w_lefts w_rights w_leans w_leaning wn wr]) rfl rfl rfl rfl ?_
  refine g_if_eqB (pc := 5) X 17 (by decide) dX10_lengthOf_5 (fun c5 => ?_) (fun c5 => ?_)
  · refine g_iconst (pc := 17) X (iI 0) (by rfl) dX10_lengthOf_17 ?_
    refine g_ws (ws' := [cO_rrrrrrii w0 10 w_begins w_lengths w_lefts w_rights w_leans w_leaning wn wr, cA Z w_lengths 0 8 Wl]) [1, 0] (by decide) rfl ?_
    exact g_iret (pc := 18) X hA (⟨0, rfl, rfl, (by omega)⟩) (by decide) (by decide) dX10_lengthOf_18
  · refine g_aload_n (pc := 8) X 0 rfl dX10_lengthOf_8 ?_
    refine g_get (pc := 9) X inlX10 1 rfl rfl 1 (by decide) mw_7_2 rfl dX10_lengthOf_9 ?_
    refine g_iload_n (pc := 12) X 1 rfl dX10_lengthOf_12 ?_
    refine g_ialdI (pc := 13) X 0 rfl (by omega) (by omega) (Int.le_trans b_w.2 (by decide)) dX10_lengthOf_13 ?_
    refine g_nameI (fun y2 ey2 => ?_)
    have by2 : 0 ≤ y2 ∧ y2 ≤ 600 := by rw [ey2]; exact h_Wl _ (by omega)
    refine g_goto (pc := 14) X 18 (by decide) dX10_lengthOf_14 ?_
    refine g_ws (ws' := [cO_rrrrrrii w0 10 w_begins w_lengths w_lefts w_rights w_leans w_leaning wn wr, cA Z w_lengths 0 8 Wl]) [1, 0] (by decide) rfl ?_
    exact g_iret (pc := 18) X hA (⟨y2, rfl, rfl, (by2)⟩) (by decide) (by decide) dX10_lengthOf_18

set_option maxHeartbeats 4000000 in
set_option maxRecDepth 100000 in
theorem k_X10_rightOf (l : Launch) (Z : gZ) (w0 : Nat) (w_begins : Nat) (w_lengths : Nat) (w_lefts : Nat) (w_rights : Nat) (w_leans : Nat) (w_leaning : Nat) (w : Int) (wn : Int) (wr : Int) (b_w : 0 ≤ w ∧ w ≤ 8) (b_wn : 0 ≤ wn ∧ wn ≤ 8) (b_wr : 0 ≤ wr ∧ wr ≤ 4800) : Con l Z yX10_rightOf cX10_rightOf 2 (some .int) 0 0 0 0 [.ref w0, .int (iI w)] [cO_rrrrrrii w0 10 w_begins w_lengths w_lefts w_rights w_leans w_leaning wn wr] (fun r w' => ∃ (y : Int), (r = some (.int (iI y))) ∧ (w' = [cO_rrrrrrii w0 10 w_begins w_lengths w_lefts w_rights w_leans w_leaning wn wr]) ∧ (0 ≤ y ∧ y ≤ 9)) := by
  refine enter (by decide) (Nat.le_of_ble_eq_true rfl) ?_
  intro p e s m args below meth c A X hnm hA
  have X : Cx p s m args meth c cX10_rightOf 2 (some .int) RX10 Z A := X
  refine g_as (pc' := 0) (lv' := [(0, .ref w0), (1, .int (iI w))]) (st' := []) (ws' := [cO_rrrrrrii w0 10 w_begins w_lengths w_lefts w_rights w_leans w_leaning wn wr]) rfl rfl rfl rfl ?_
  refine g_iload_n (pc := 0) X 1 rfl dX10_rightOf_0 ?_
  refine g_iconst (pc := 1) X (iI 1) (by rfl) dX10_rightOf_1 ?_
  refine g_iaddI (pc := 2) X dX10_rightOf_2 ?_
  refine g_aload_n (pc := 3) X 0 rfl dX10_rightOf_3 ?_
  refine g_get (pc := 4) X inlX10 0 rfl rfl 6 (by decide) mw_16_4 rfl dX10_rightOf_4 ?_
  refine g_icmp_geI (pc := 7) X 16 (by decide) ⟨by omega, by omega⟩ (inRb b_wn (by decide) (by decide)) dX10_rightOf_7 (fun c7 => ?_) (fun c7 => ?_)
  · refine g_iconst (pc := 16) X (iI 0) (by rfl) dX10_rightOf_16 ?_
    exact g_iret (pc := 17) X hA (⟨0, rfl, rfl, (by omega)⟩) (by decide) (by decide) dX10_rightOf_17
  · refine g_iload_n (pc := 10) X 1 rfl dX10_rightOf_10 ?_
    refine g_iconst (pc := 11) X (iI 1) (by rfl) dX10_rightOf_11 ?_
    refine g_iaddI (pc := 12) X dX10_rightOf_12 ?_
    refine g_goto (pc := 13) X 17 (by decide) dX10_rightOf_13 ?_
    exact g_iret (pc := 17) X hA (⟨(w + 1), rfl, rfl, (by omega)⟩) (by decide) (by decide) dX10_rightOf_17

set_option maxHeartbeats 4000000 in
set_option maxRecDepth 100000 in
theorem k_X10_wallAt (l : Launch) (Z : gZ) (w0 : Nat) (w_begins : Nat) (w_lengths : Nat) (w_lefts : Nat) (w_rights : Nat) (w_leans : Nat) (w_leaning : Nat) (Wb : Nat → Int) (pl : Int) (wn : Int) (wr : Int) (b_pl : (-2147483648) ≤ pl ∧ pl ≤ 2147483647) (b_wn : 0 ≤ wn ∧ wn ≤ 8) (b_wr : 0 ≤ wr ∧ wr ≤ 4800) (h_Wb : ∀ j, j < 8 → 0 ≤ Wb j ∧ Wb j ≤ 4800) : Con l Z yX10_wallAt cX10_wallAt 4 (some .int) 0 0 0 0 [.ref w0, .int (iI pl)] [cO_rrrrrrii w0 10 w_begins w_lengths w_lefts w_rights w_leans w_leaning wn wr, cA Z w_begins 0 8 Wb] (fun r w' => ∃ (y : Int), (r = some (.int (iI y))) ∧ (w' = [cO_rrrrrrii w0 10 w_begins w_lengths w_lefts w_rights w_leans w_leaning wn wr, cA Z w_begins 0 8 Wb]) ∧ (0 ≤ y ∧ y ≤ 7) ∧ (y < wn ∨ y = 0)) := by
  refine enter (by decide) (Nat.le_of_ble_eq_true rfl) ?_
  intro p e s m args below meth c A X hnm hA
  have X : Cx p s m args meth c cX10_wallAt 4 (some .int) RX10 Z A := X
  refine g_as (pc' := 0) (lv' := [(0, .ref w0), (1, .int (iI pl))]) (st' := []) (ws' := [cO_rrrrrrii w0 10 w_begins w_lengths w_lefts w_rights w_leans w_leaning wn wr, cA Z w_begins 0 8 Wb]) rfl rfl rfl rfl ?_
  refine g_iconst (pc := 0) X (iI 0) (by rfl) dX10_wallAt_0 ?_
  refine g_istore_n (pc := 1) X (i := 2) rfl (by decide) (lv' := [(2, .int (iI 0)), (0, .ref w0), (1, .int (iI pl))]) rfl dX10_wallAt_1 ?_
  refine g_iconst (pc := 2) X (iI 1) (by rfl) dX10_wallAt_2 ?_
  refine g_istore_n (pc := 3) X (i := 3) rfl (by decide) (lv' := [(3, .int (iI 1)), (2, .int (iI 0)), (0, .ref w0), (1, .int (iI pl))]) rfl dX10_wallAt_3 ?_
  have loop4 : ∀ (fuel : Nat) (w : Int) (i : Int), (0 ≤ w ∧ w ≤ 7) → (1 ≤ i ∧ i ≤ 9) → (w < wn ∨ w = 0) → (9 - i).toNat < fuel → Gs p l e ({ frames := 0, cells := 0, slots := 0, locals := 0 } : Room) s m args below meth c (MQ below (gPost Z [cO_rrrrrrii w0 10 w_begins w_lengths w_lefts w_rights w_leans w_leaning wn wr, cA Z w_begins 0 8 Wb] s.heap.size (fun r w' => ∃ (y : Int), (r = some (.int (iI y))) ∧ (w' = [cO_rrrrrrii w0 10 w_begins w_lengths w_lefts w_rights w_leans w_leaning wn wr, cA Z w_begins 0 8 Wb]) ∧ (0 ≤ y ∧ y ≤ 7) ∧ (y < wn ∨ y = 0))) args s 0 0 (va_A [cO_rrrrrrii w0 10 w_begins w_lengths w_lefts w_rights w_leans w_leaning wn wr, cA Z w_begins 0 8 Wb] s.heap.size)) Z A 4 0 0 4 [(3, .int (iI i)), (2, .int (iI w)), (0, .ref w0), (1, .int (iI pl))] [] [cO_rrrrrrii w0 10 w_begins w_lengths w_lefts w_rights w_leans w_leaning wn wr, cA Z w_begins 0 8 Wb] := by
    intro fuel
    induction fuel with
    | zero => intro w i _ _ _ hm; exact absurd hm (Nat.not_lt_zero _)
    | succ fuel ih =>
      intro w i b_w b_i iv hm
      refine g_iload_n (pc := 4) X 0 rfl dX10_wallAt_4 ?_
      refine g_aload_n (pc := 5) X 2 rfl dX10_wallAt_5 ?_
      refine g_get (pc := 6) X inlX10 0 rfl rfl 6 (by decide) mw_16_4 rfl dX10_wallAt_6 ?_
      refine g_icmp_geI (pc := 9) X 30 (by decide) (inRb b_i (by decide) (by decide)) (inRb b_wn (by decide) (by decide)) dX10_wallAt_9 (fun c9 => ?_) (fun c9 => ?_)
      · refine g_iload_n (pc := 30) X 1 rfl dX10_wallAt_30 ?_
        exact g_iret (pc := 31) X hA (⟨w, rfl, rfl, (b_w), (by omega)⟩) (by decide) (by decide) dX10_wallAt_31
      · refine g_aload_n (pc := 12) X 2 rfl dX10_wallAt_12 ?_
        refine g_get (pc := 13) X inlX10 0 rfl rfl 0 (by decide) mw_7_1 rfl dX10_wallAt_13 ?_
        refine g_iload_n (pc := 16) X 0 rfl dX10_wallAt_16 ?_
        refine g_ialdI (pc := 17) X 1 rfl (Int.le_trans (by decide) b_i.1) (by omega) (Int.le_trans b_i.2 (by decide)) dX10_wallAt_17 ?_
        refine g_nameI (fun y1 ey1 => ?_)
        have by1 : 0 ≤ y1 ∧ y1 ≤ 4800 := by rw [ey1]; exact h_Wb _ (by omega)
        refine g_iload_n (pc := 18) X 3 rfl dX10_wallAt_18 ?_
        refine g_icmp_gtI (pc := 19) X 24 (by decide) (inRb by1 (by decide) (by decide)) b_pl dX10_wallAt_19 (fun c19 => ?_) (fun c19 => ?_)
        · refine g_iincI (pc := 24) X 0 rfl (by decide) (lv' := [(3, .int (iI (i + 1))), (2, .int (iI w)), (0, .ref w0), (1, .int (iI pl))]) rfl dX10_wallAt_24 ?_
          refine g_goto (pc := 27) X 4 (by decide) dX10_wallAt_27 ?_
          exact ih w (i + 1) (b_w) (by omega) (by omega) (by omega)
        · refine g_iload_n (pc := 22) X 0 rfl dX10_wallAt_22 ?_
          refine g_istore_n (pc := 23) X (i := 2) rfl (by decide) (lv' := [(2, .int (iI i)), (3, .int (iI i)), (0, .ref w0), (1, .int (iI pl))]) rfl dX10_wallAt_23 ?_
          refine g_iincI (pc := 24) X 1 rfl (by decide) (lv' := [(3, .int (iI (i + 1))), (2, .int (iI i)), (0, .ref w0), (1, .int (iI pl))]) rfl dX10_wallAt_24 ?_
          refine g_goto (pc := 27) X 4 (by decide) dX10_wallAt_27 ?_
          exact ih i (i + 1) (by omega) (by omega) (by omega) (by omega)
  exact loop4 _ 0 1 (by omega) (by omega) (by omega) (Nat.lt_succ_self _)

set_option maxHeartbeats 4000000 in
set_option maxRecDepth 100000 in
theorem k_X10_tallestEndBetween (l : Launch) (Z : gZ) (w0 : Nat) (w_begins : Nat) (w_lengths : Nat) (w_lefts : Nat) (w_rights : Nat) (w_leans : Nat) (w_leaning : Nat) (Wb : Nat → Int) (Wh : Nat → Int) (Wk : Nat → Int) (fr : Int) (to : Int) (wn : Int) (wr : Int) (b_fr : (-100000) ≤ fr ∧ fr ≤ 100000) (b_to : (-100000) ≤ to ∧ to ≤ 100000) (b_wn : 0 ≤ wn ∧ wn ≤ 8) (b_wr : 0 ≤ wr ∧ wr ≤ 4800) (h_Wb : ∀ j, j < 8 → 0 ≤ Wb j ∧ Wb j ≤ 4800) (h_Wh : ∀ j, j < 8 → 0 ≤ Wh j ∧ Wh j ≤ 400) (h_Wk : ∀ j, j < 8 → 0 ≤ Wk j ∧ Wk j ≤ 400) : Con l Z yX10_tallestEndBetween cX10_tallestEndBetween 7 (some .int) 1 24 0 0 [.ref w0, .int (iI fr), .int (iI to)] [cO_rrrrrrii w0 10 w_begins w_lengths w_lefts w_rights w_leans w_leaning wn wr, cA Z w_begins 0 8 Wb, cA Z w_lefts 0 8 Wh, cA Z w_rights 0 8 Wk] (fun r w' => ∃ (y : Int), (r = some (.int (iI y))) ∧ (w' = [cO_rrrrrrii w0 10 w_begins w_lengths w_lefts w_rights w_leans w_leaning wn wr, cA Z w_begins 0 8 Wb, cA Z w_lefts 0 8 Wh, cA Z w_rights 0 8 Wk]) ∧ (0 ≤ y ∧ y ≤ 400)) := by
  refine enter (by decide) (Nat.le_of_ble_eq_true rfl) ?_
  intro p e s m args below meth c A X hnm hA
  have X : Cx p s m args meth c cX10_tallestEndBetween 7 (some .int) RX10 Z A := X
  refine g_as (pc' := 0) (lv' := [(0, .ref w0), (1, .int (iI fr)), (2, .int (iI to))]) (st' := []) (ws' := [cO_rrrrrrii w0 10 w_begins w_lengths w_lefts w_rights w_leans w_leaning wn wr, cA Z w_begins 0 8 Wb, cA Z w_lefts 0 8 Wh, cA Z w_rights 0 8 Wk]) rfl rfl rfl rfl ?_
  refine g_iconst (pc := 0) X (iI 0) (by rfl) dX10_tallestEndBetween_0 ?_
  refine g_istore_n (pc := 1) X (i := 3) rfl (by decide) (lv' := [(3, .int (iI 0)), (0, .ref w0), (1, .int (iI fr)), (2, .int (iI to))]) rfl dX10_tallestEndBetween_1 ?_
  refine g_aload_n (pc := 2) X 1 rfl dX10_tallestEndBetween_2 ?_
  refine g_get (pc := 3) X inlX10 0 rfl rfl 6 (by decide) mw_16_4 rfl dX10_tallestEndBetween_3 ?_
  refine g_iconst (pc := 6) X (iI 1) (by rfl) dX10_tallestEndBetween_6 ?_
  refine g_isubI (pc := 7) X dX10_tallestEndBetween_7 ?_
  refine g_istore (pc := 8) X (by decide) (lv' := [(4, .int (iI (wn - 1))), (3, .int (iI 0)), (0, .ref w0), (1, .int (iI fr)), (2, .int (iI to))]) rfl dX10_tallestEndBetween_8 ?_
  refine g_iconst (pc := 10) X (iI 0) (by rfl) dX10_tallestEndBetween_10 ?_
  refine g_istore (pc := 11) X (by decide) (lv' := [(5, .int (iI 0)), (4, .int (iI (wn - 1))), (3, .int (iI 0)), (0, .ref w0), (1, .int (iI fr)), (2, .int (iI to))]) rfl dX10_tallestEndBetween_11 ?_
  have loop13 : ∀ (fuel : Nat) (t : Int) (ah : Int) (i : Int), (0 ≤ t ∧ t ≤ 400) → ((-1) ≤ ah ∧ ah ≤ 8) → (0 ≤ i ∧ i ≤ 9) → (ah < wn) → (0 < wn → 0 ≤ ah) → (9 - i).toNat < fuel → Gs p l e ({ frames := 1, cells := 0, slots := 0, locals := 24 } : Room) s m args below meth c (MQ below (gPost Z [cO_rrrrrrii w0 10 w_begins w_lengths w_lefts w_rights w_leans w_leaning wn wr, cA Z w_begins 0 8 Wb, cA Z w_lefts 0 8 Wh, cA Z w_rights 0 8 Wk] s.heap.size (fun r w' => ∃ (y : Int), (r = some (.int (iI y))) ∧ (w' = [cO_rrrrrrii w0 10 w_begins w_lengths w_lefts w_rights w_leans w_leaning wn wr, cA Z w_begins 0 8 Wb, cA Z w_lefts 0 8 Wh, cA Z w_rights 0 8 Wk]) ∧ (0 ≤ y ∧ y ≤ 400))) args s 0 0 (va_A [cO_rrrrrrii w0 10 w_begins w_lengths w_lefts w_rights w_leans w_leaning wn wr, cA Z w_begins 0 8 Wb, cA Z w_lefts 0 8 Wh, cA Z w_rights 0 8 Wk] s.heap.size)) Z A 7 0 0 13 [(5, .int (iI i)), (4, .int (iI ah)), (3, .int (iI t)), (0, .ref w0), (1, .int (iI fr)), (2, .int (iI to))] [] [cO_rrrrrrii w0 10 w_begins w_lengths w_lefts w_rights w_leans w_leaning wn wr, cA Z w_begins 0 8 Wb, cA Z w_lefts 0 8 Wh, cA Z w_rights 0 8 Wk] := by
    intro fuel
    induction fuel with
    | zero => intro t ah i _ _ _ _ _ hm; exact absurd hm (Nat.not_lt_zero _)
    | succ fuel ih =>
      intro t ah i b_t b_ah b_i iv iv2 hm
      refine g_iload (pc := 13) X 0 rfl dX10_tallestEndBetween_13 ?_
      refine g_aload_n (pc := 15) X 3 rfl dX10_tallestEndBetween_15 ?_
      refine g_get (pc := 16) X inlX10 0 rfl rfl 6 (by decide) mw_16_4 rfl dX10_tallestEndBetween_16 ?_
      refine g_icmp_geI (pc := 19) X 97 (by decide) (inRb b_i (by decide) (by decide)) (inRb b_wn (by decide) (by decide)) dX10_tallestEndBetween_19 (fun c19 => ?_) (fun c19 => ?_)
      · refine g_iload_n (pc := 97) X 2 rfl dX10_tallestEndBetween_97 ?_
        exact g_iret (pc := 98) X hA (⟨t, rfl, rfl, (b_t)⟩) (by decide) (by decide) dX10_tallestEndBetween_98
      · refine g_aload_n (pc := 22) X 3 rfl dX10_tallestEndBetween_22 ?_
        refine g_get (pc := 23) X inlX10 0 rfl rfl 0 (by decide) mw_7_1 rfl dX10_tallestEndBetween_23 ?_
        refine g_iload (pc := 26) X 0 rfl dX10_tallestEndBetween_26 ?_
        refine g_ialdI (pc := 28) X 1 rfl (b_i.1) (by omega) (Int.le_trans b_i.2 (by decide)) dX10_tallestEndBetween_28 ?_
        refine g_nameI (fun y1 ey1 => ?_)
        have by1 : 0 ≤ y1 ∧ y1 ≤ 4800 := by rw [ey1]; exact h_Wb _ (by omega)
        refine g_istore (pc := 29) X (by decide) (lv' := [(6, .int (iI y1)), (5, .int (iI i)), (4, .int (iI ah)), (3, .int (iI t)), (0, .ref w0), (1, .int (iI fr)), (2, .int (iI to))]) rfl dX10_tallestEndBetween_29 ?_
        refine g_iload (pc := 31) X 0 rfl dX10_tallestEndBetween_31 ?_
        refine g_iload_n (pc := 33) X 5 rfl dX10_tallestEndBetween_33 ?_
        refine g_icmp_leI (pc := 34) X 43 (by decide) (inRb by1 (by decide) (by decide)) (inRb b_fr (by decide) (by decide)) dX10_tallestEndBetween_34 (fun c34 => ?_) (fun c34 => ?_)
        · refine g_iload (pc := 43) X 0 rfl dX10_tallestEndBetween_43 ?_
          refine g_aload_n (pc := 45) X 4 rfl dX10_tallestEndBetween_45 ?_
          refine g_get (pc := 46) X inlX10 0 rfl rfl 7 (by decide) mw_16_5 rfl dX10_tallestEndBetween_46 ?_
          refine g_iaddI (pc := 49) X dX10_tallestEndBetween_49 ?_
          refine g_iload_n (pc := 50) X 5 rfl dX10_tallestEndBetween_50 ?_
          refine g_icmp_leI (pc := 51) X 87 (by decide) ⟨by omega, by omega⟩ (inRb b_fr (by decide) (by decide)) dX10_tallestEndBetween_51 (fun c51 => ?_) (fun c51 => ?_)
          · refine g_iload (pc := 87) X 1 rfl dX10_tallestEndBetween_87 ?_
            refine g_istore (pc := 89) X (by decide) (lv' := [(4, .int (iI i)), (6, .int (iI y1)), (5, .int (iI i)), (3, .int (iI t)), (0, .ref w0), (1, .int (iI fr)), (2, .int (iI to))]) rfl dX10_tallestEndBetween_89 ?_
            refine g_iincI (pc := 91) X 2 rfl (by decide) (lv' := [(5, .int (iI (i + 1))), (4, .int (iI i)), (6, .int (iI y1)), (3, .int (iI t)), (0, .ref w0), (1, .int (iI fr)), (2, .int (iI to))]) rfl dX10_tallestEndBetween_91 ?_
            refine g_goto (pc := 94) X 13 (by decide) dX10_tallestEndBetween_94 ?_
            refine g_lv (lv' := [(5, .int (iI (i + 1))), (4, .int (iI i)), (3, .int (iI t)), (0, .ref w0), (1, .int (iI fr)), (2, .int (iI to))]) [0, 1, 3, 4, 5, 6] rfl ?_
            exact ih t i (i + 1) (b_t) (by omega) (by omega) (by omega) (by omega) (by omega)
          · refine g_iload (pc := 54) X 0 rfl dX10_tallestEndBetween_54 ?_
            refine g_aload_n (pc := 56) X 4 rfl dX10_tallestEndBetween_56 ?_
            refine g_get (pc := 57) X inlX10 0 rfl rfl 7 (by decide) mw_16_5 rfl dX10_tallestEndBetween_57 ?_
            refine g_iaddI (pc := 60) X dX10_tallestEndBetween_60 ?_
            refine g_iload_n (pc := 61) X 6 rfl dX10_tallestEndBetween_61 ?_
            refine g_icmp_geI (pc := 62) X 87 (by decide) ⟨by omega, by omega⟩ (inRb b_to (by decide) (by decide)) dX10_tallestEndBetween_62 (fun c62 => ?_) (fun c62 => ?_)
            · refine g_iload (pc := 87) X 1 rfl dX10_tallestEndBetween_87 ?_
              refine g_istore (pc := 89) X (by decide) (lv' := [(4, .int (iI i)), (6, .int (iI y1)), (5, .int (iI i)), (3, .int (iI t)), (0, .ref w0), (1, .int (iI fr)), (2, .int (iI to))]) rfl dX10_tallestEndBetween_89 ?_
              refine g_iincI (pc := 91) X 2 rfl (by decide) (lv' := [(5, .int (iI (i + 1))), (4, .int (iI i)), (6, .int (iI y1)), (3, .int (iI t)), (0, .ref w0), (1, .int (iI fr)), (2, .int (iI to))]) rfl dX10_tallestEndBetween_91 ?_
              refine g_goto (pc := 94) X 13 (by decide) dX10_tallestEndBetween_94 ?_
              refine g_lv (lv' := [(5, .int (iI (i + 1))), (4, .int (iI i)), (3, .int (iI t)), (0, .ref w0), (1, .int (iI fr)), (2, .int (iI to))]) [0, 1, 3, 4, 5, 6] rfl ?_
              exact ih t i (i + 1) (b_t) (by omega) (by omega) (by omega) (by omega) (by omega)
            · refine g_iload_n (pc := 65) X 3 rfl dX10_tallestEndBetween_65 ?_
              refine g_aload_n (pc := 66) X 4 rfl dX10_tallestEndBetween_66 ?_
              refine g_get (pc := 67) X inlX10 0 rfl rfl 3 (by decide) mw_7_4 rfl dX10_tallestEndBetween_67 ?_
              refine g_iload (pc := 70) X 2 rfl dX10_tallestEndBetween_70 ?_
              refine g_ialdI (pc := 72) X 3 rfl (by omega) (by omega) (Int.le_trans b_ah.2 (by decide)) dX10_tallestEndBetween_72 ?_
              refine g_nameI (fun y2 ey2 => ?_)
              have by2 : 0 ≤ y2 ∧ y2 ≤ 400 := by rw [ey2]; exact h_Wk _ (by omega)
              refine g_aload_n (pc := 73) X 4 rfl dX10_tallestEndBetween_73 ?_
              refine g_get (pc := 74) X inlX10 0 rfl rfl 2 (by decide) mw_7_3 rfl dX10_tallestEndBetween_74 ?_
              refine g_iload (pc := 77) X 1 rfl dX10_tallestEndBetween_77 ?_
              refine g_ialdI (pc := 79) X 2 rfl (b_i.1) (by omega) (Int.le_trans b_i.2 (by decide)) dX10_tallestEndBetween_79 ?_
              refine g_nameI (fun y3 ey3 => ?_)
              have by3 : 0 ≤ y3 ∧ y3 ≤ 400 := by rw [ey3]; exact h_Wh _ (by omega)
              refine g_maxI (pc := 80) X mw_26_5 mw_12_11 mw_25_23 mw_12_13 (by decide) (Nat.le_of_ble_eq_true rfl) (by decide) (by decide) (inRb by2 (by decide) (by decide)) (inRb by3 (by decide) (by decide)) dX10_tallestEndBetween_80 ?_
              refine g_nameI (fun y4 ey4 => ?_)
              have my4 : y2 ≤ y4 ∧ y3 ≤ y4 ∧ (y4 = y2 ∨ y4 = y3) := by rw [ey4]; exact maxF _ _
              clear ey4
              refine g_maxI (pc := 83) X mw_26_5 mw_12_11 mw_25_23 mw_12_13 (by decide) (Nat.le_of_ble_eq_true rfl) (by decide) (by decide) (inRb b_t (by decide) (by decide)) ⟨by omega, by omega⟩ dX10_tallestEndBetween_83 ?_
              refine g_nameI (fun y5 ey5 => ?_)
              have my5 : t ≤ y5 ∧ y4 ≤ y5 ∧ (y5 = t ∨ y5 = y4) := by rw [ey5]; exact maxF _ _
              clear ey5
              refine g_istore_n (pc := 86) X (i := 3) rfl (by decide) (lv' := [(3, .int (iI y5)), (6, .int (iI y1)), (5, .int (iI i)), (4, .int (iI ah)), (0, .ref w0), (1, .int (iI fr)), (2, .int (iI to))]) rfl dX10_tallestEndBetween_86 ?_
              refine g_iload (pc := 87) X 2 rfl dX10_tallestEndBetween_87 ?_
              refine g_istore (pc := 89) X (by decide) (lv' := [(4, .int (iI i)), (3, .int (iI y5)), (6, .int (iI y1)), (5, .int (iI i)), (0, .ref w0), (1, .int (iI fr)), (2, .int (iI to))]) rfl dX10_tallestEndBetween_89 ?_
              refine g_iincI (pc := 91) X 3 rfl (by decide) (lv' := [(5, .int (iI (i + 1))), (4, .int (iI i)), (3, .int (iI y5)), (6, .int (iI y1)), (0, .ref w0), (1, .int (iI fr)), (2, .int (iI to))]) rfl dX10_tallestEndBetween_91 ?_
              refine g_goto (pc := 94) X 13 (by decide) dX10_tallestEndBetween_94 ?_
              refine g_lv (lv' := [(5, .int (iI (i + 1))), (4, .int (iI i)), (3, .int (iI y5)), (0, .ref w0), (1, .int (iI fr)), (2, .int (iI to))]) [0, 1, 2, 4, 5, 6] rfl ?_
              exact ih y5 i (i + 1) (by omega) (by omega) (by omega) (by omega) (by omega) (by omega)
        · refine g_iload (pc := 37) X 0 rfl dX10_tallestEndBetween_37 ?_
          refine g_iload_n (pc := 39) X 6 rfl dX10_tallestEndBetween_39 ?_
          refine g_icmp_ltI (pc := 40) X 65 (by decide) (inRb by1 (by decide) (by decide)) (inRb b_to (by decide) (by decide)) dX10_tallestEndBetween_40 (fun c40 => ?_) (fun c40 => ?_)
          · refine g_iload_n (pc := 65) X 3 rfl dX10_tallestEndBetween_65 ?_
            refine g_aload_n (pc := 66) X 4 rfl dX10_tallestEndBetween_66 ?_
            refine g_get (pc := 67) X inlX10 0 rfl rfl 3 (by decide) mw_7_4 rfl dX10_tallestEndBetween_67 ?_
            refine g_iload (pc := 70) X 2 rfl dX10_tallestEndBetween_70 ?_
            refine g_ialdI (pc := 72) X 3 rfl (by omega) (by omega) (Int.le_trans b_ah.2 (by decide)) dX10_tallestEndBetween_72 ?_
            refine g_nameI (fun y6 ey6 => ?_)
            have by6 : 0 ≤ y6 ∧ y6 ≤ 400 := by rw [ey6]; exact h_Wk _ (by omega)
            refine g_aload_n (pc := 73) X 4 rfl dX10_tallestEndBetween_73 ?_
            refine g_get (pc := 74) X inlX10 0 rfl rfl 2 (by decide) mw_7_3 rfl dX10_tallestEndBetween_74 ?_
            refine g_iload (pc := 77) X 1 rfl dX10_tallestEndBetween_77 ?_
            refine g_ialdI (pc := 79) X 2 rfl (b_i.1) (by omega) (Int.le_trans b_i.2 (by decide)) dX10_tallestEndBetween_79 ?_
            refine g_nameI (fun y7 ey7 => ?_)
            have by7 : 0 ≤ y7 ∧ y7 ≤ 400 := by rw [ey7]; exact h_Wh _ (by omega)
            refine g_maxI (pc := 80) X mw_26_5 mw_12_11 mw_25_23 mw_12_13 (by decide) (Nat.le_of_ble_eq_true rfl) (by decide) (by decide) (inRb by6 (by decide) (by decide)) (inRb by7 (by decide) (by decide)) dX10_tallestEndBetween_80 ?_
            refine g_nameI (fun y8 ey8 => ?_)
            have my8 : y6 ≤ y8 ∧ y7 ≤ y8 ∧ (y8 = y6 ∨ y8 = y7) := by rw [ey8]; exact maxF _ _
            clear ey8
            refine g_maxI (pc := 83) X mw_26_5 mw_12_11 mw_25_23 mw_12_13 (by decide) (Nat.le_of_ble_eq_true rfl) (by decide) (by decide) (inRb b_t (by decide) (by decide)) ⟨by omega, by omega⟩ dX10_tallestEndBetween_83 ?_
            refine g_nameI (fun y9 ey9 => ?_)
            have my9 : t ≤ y9 ∧ y8 ≤ y9 ∧ (y9 = t ∨ y9 = y8) := by rw [ey9]; exact maxF _ _
            clear ey9
            refine g_istore_n (pc := 86) X (i := 3) rfl (by decide) (lv' := [(3, .int (iI y9)), (6, .int (iI y1)), (5, .int (iI i)), (4, .int (iI ah)), (0, .ref w0), (1, .int (iI fr)), (2, .int (iI to))]) rfl dX10_tallestEndBetween_86 ?_
            refine g_iload (pc := 87) X 2 rfl dX10_tallestEndBetween_87 ?_
            refine g_istore (pc := 89) X (by decide) (lv' := [(4, .int (iI i)), (3, .int (iI y9)), (6, .int (iI y1)), (5, .int (iI i)), (0, .ref w0), (1, .int (iI fr)), (2, .int (iI to))]) rfl dX10_tallestEndBetween_89 ?_
            refine g_iincI (pc := 91) X 3 rfl (by decide) (lv' := [(5, .int (iI (i + 1))), (4, .int (iI i)), (3, .int (iI y9)), (6, .int (iI y1)), (0, .ref w0), (1, .int (iI fr)), (2, .int (iI to))]) rfl dX10_tallestEndBetween_91 ?_
            refine g_goto (pc := 94) X 13 (by decide) dX10_tallestEndBetween_94 ?_
            refine g_lv (lv' := [(5, .int (iI (i + 1))), (4, .int (iI i)), (3, .int (iI y9)), (0, .ref w0), (1, .int (iI fr)), (2, .int (iI to))]) [0, 1, 2, 4, 5, 6] rfl ?_
            exact ih y9 i (i + 1) (by omega) (by omega) (by omega) (by omega) (by omega) (by omega)
          · refine g_iload (pc := 43) X 0 rfl dX10_tallestEndBetween_43 ?_
            refine g_aload_n (pc := 45) X 4 rfl dX10_tallestEndBetween_45 ?_
            refine g_get (pc := 46) X inlX10 0 rfl rfl 7 (by decide) mw_16_5 rfl dX10_tallestEndBetween_46 ?_
            refine g_iaddI (pc := 49) X dX10_tallestEndBetween_49 ?_
            refine g_iload_n (pc := 50) X 5 rfl dX10_tallestEndBetween_50 ?_
            refine g_icmp_leI (pc := 51) X 87 (by decide) ⟨by omega, by omega⟩ (inRb b_fr (by decide) (by decide)) dX10_tallestEndBetween_51 (fun c51 => ?_) (fun c51 => ?_)
            · refine g_iload (pc := 87) X 1 rfl dX10_tallestEndBetween_87 ?_
              refine g_istore (pc := 89) X (by decide) (lv' := [(4, .int (iI i)), (6, .int (iI y1)), (5, .int (iI i)), (3, .int (iI t)), (0, .ref w0), (1, .int (iI fr)), (2, .int (iI to))]) rfl dX10_tallestEndBetween_89 ?_
              refine g_iincI (pc := 91) X 2 rfl (by decide) (lv' := [(5, .int (iI (i + 1))), (4, .int (iI i)), (6, .int (iI y1)), (3, .int (iI t)), (0, .ref w0), (1, .int (iI fr)), (2, .int (iI to))]) rfl dX10_tallestEndBetween_91 ?_
              refine g_goto (pc := 94) X 13 (by decide) dX10_tallestEndBetween_94 ?_
              refine g_lv (lv' := [(5, .int (iI (i + 1))), (4, .int (iI i)), (3, .int (iI t)), (0, .ref w0), (1, .int (iI fr)), (2, .int (iI to))]) [0, 1, 3, 4, 5, 6] rfl ?_
              exact ih t i (i + 1) (b_t) (by omega) (by omega) (by omega) (by omega) (by omega)
            · refine g_iload (pc := 54) X 0 rfl dX10_tallestEndBetween_54 ?_
              refine g_aload_n (pc := 56) X 4 rfl dX10_tallestEndBetween_56 ?_
              refine g_get (pc := 57) X inlX10 0 rfl rfl 7 (by decide) mw_16_5 rfl dX10_tallestEndBetween_57 ?_
              refine g_iaddI (pc := 60) X dX10_tallestEndBetween_60 ?_
              refine g_iload_n (pc := 61) X 6 rfl dX10_tallestEndBetween_61 ?_
              refine g_icmp_geI (pc := 62) X 87 (by decide) ⟨by omega, by omega⟩ (inRb b_to (by decide) (by decide)) dX10_tallestEndBetween_62 (fun c62 => ?_) (fun c62 => ?_)
              · refine g_iload (pc := 87) X 1 rfl dX10_tallestEndBetween_87 ?_
                refine g_istore (pc := 89) X (by decide) (lv' := [(4, .int (iI i)), (6, .int (iI y1)), (5, .int (iI i)), (3, .int (iI t)), (0, .ref w0), (1, .int (iI fr)), (2, .int (iI to))]) rfl dX10_tallestEndBetween_89 ?_
                refine g_iincI (pc := 91) X 2 rfl (by decide) (lv' := [(5, .int (iI (i + 1))), (4, .int (iI i)), (6, .int (iI y1)), (3, .int (iI t)), (0, .ref w0), (1, .int (iI fr)), (2, .int (iI to))]) rfl dX10_tallestEndBetween_91 ?_
                refine g_goto (pc := 94) X 13 (by decide) dX10_tallestEndBetween_94 ?_
                refine g_lv (lv' := [(5, .int (iI (i + 1))), (4, .int (iI i)), (3, .int (iI t)), (0, .ref w0), (1, .int (iI fr)), (2, .int (iI to))]) [0, 1, 3, 4, 5, 6] rfl ?_
                exact ih t i (i + 1) (b_t) (by omega) (by omega) (by omega) (by omega) (by omega)
              · refine g_iload_n (pc := 65) X 3 rfl dX10_tallestEndBetween_65 ?_
                refine g_aload_n (pc := 66) X 4 rfl dX10_tallestEndBetween_66 ?_
                refine g_get (pc := 67) X inlX10 0 rfl rfl 3 (by decide) mw_7_4 rfl dX10_tallestEndBetween_67 ?_
                refine g_iload (pc := 70) X 2 rfl dX10_tallestEndBetween_70 ?_
                refine g_ialdI (pc := 72) X 3 rfl (by omega) (by omega) (Int.le_trans b_ah.2 (by decide)) dX10_tallestEndBetween_72 ?_
                refine g_nameI (fun y10 ey10 => ?_)
                have by10 : 0 ≤ y10 ∧ y10 ≤ 400 := by rw [ey10]; exact h_Wk _ (by omega)
                refine g_aload_n (pc := 73) X 4 rfl dX10_tallestEndBetween_73 ?_
                refine g_get (pc := 74) X inlX10 0 rfl rfl 2 (by decide) mw_7_3 rfl dX10_tallestEndBetween_74 ?_
                refine g_iload (pc := 77) X 1 rfl dX10_tallestEndBetween_77 ?_
                refine g_ialdI (pc := 79) X 2 rfl (b_i.1) (by omega) (Int.le_trans b_i.2 (by decide)) dX10_tallestEndBetween_79 ?_
                refine g_nameI (fun y11 ey11 => ?_)
                have by11 : 0 ≤ y11 ∧ y11 ≤ 400 := by rw [ey11]; exact h_Wh _ (by omega)
                refine g_maxI (pc := 80) X mw_26_5 mw_12_11 mw_25_23 mw_12_13 (by decide) (Nat.le_of_ble_eq_true rfl) (by decide) (by decide) (inRb by10 (by decide) (by decide)) (inRb by11 (by decide) (by decide)) dX10_tallestEndBetween_80 ?_
                refine g_nameI (fun y12 ey12 => ?_)
                have my12 : y10 ≤ y12 ∧ y11 ≤ y12 ∧ (y12 = y10 ∨ y12 = y11) := by rw [ey12]; exact maxF _ _
                clear ey12
                refine g_maxI (pc := 83) X mw_26_5 mw_12_11 mw_25_23 mw_12_13 (by decide) (Nat.le_of_ble_eq_true rfl) (by decide) (by decide) (inRb b_t (by decide) (by decide)) ⟨by omega, by omega⟩ dX10_tallestEndBetween_83 ?_
                refine g_nameI (fun y13 ey13 => ?_)
                have my13 : t ≤ y13 ∧ y12 ≤ y13 ∧ (y13 = t ∨ y13 = y12) := by rw [ey13]; exact maxF _ _
                clear ey13
                refine g_istore_n (pc := 86) X (i := 3) rfl (by decide) (lv' := [(3, .int (iI y13)), (6, .int (iI y1)), (5, .int (iI i)), (4, .int (iI ah)), (0, .ref w0), (1, .int (iI fr)), (2, .int (iI to))]) rfl dX10_tallestEndBetween_86 ?_
                refine g_iload (pc := 87) X 2 rfl dX10_tallestEndBetween_87 ?_
                refine g_istore (pc := 89) X (by decide) (lv' := [(4, .int (iI i)), (3, .int (iI y13)), (6, .int (iI y1)), (5, .int (iI i)), (0, .ref w0), (1, .int (iI fr)), (2, .int (iI to))]) rfl dX10_tallestEndBetween_89 ?_
                refine g_iincI (pc := 91) X 3 rfl (by decide) (lv' := [(5, .int (iI (i + 1))), (4, .int (iI i)), (3, .int (iI y13)), (6, .int (iI y1)), (0, .ref w0), (1, .int (iI fr)), (2, .int (iI to))]) rfl dX10_tallestEndBetween_91 ?_
                refine g_goto (pc := 94) X 13 (by decide) dX10_tallestEndBetween_94 ?_
                refine g_lv (lv' := [(5, .int (iI (i + 1))), (4, .int (iI i)), (3, .int (iI y13)), (0, .ref w0), (1, .int (iI fr)), (2, .int (iI to))]) [0, 1, 2, 4, 5, 6] rfl ?_
                exact ih y13 i (i + 1) (by omega) (by omega) (by omega) (by omega) (by omega) (by omega)
  exact loop13 _ 0 (wn - 1) 0 (by omega) (by omega) (by omega) (by omega) (by omega) (Nat.lt_succ_self _)
