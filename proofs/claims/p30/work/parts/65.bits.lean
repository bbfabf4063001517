set_option maxHeartbeats 4000000 in
set_option maxRecDepth 100000 in
theorem k_J6_bitCount_0f7a4 (l : Launch) (Z : gZ) (v : Int) (b_v : (-2147483648) ≤ v ∧ v ≤ 2147483647) : Con l Z yJ6_bitCount_0f7a4 cJ6_bitCount_0f7a4 1 (some .int) 0 0 0 0 [.int (iI v)] [] (fun r w' => ∃ (y : Int), (r = some (.int (iI y))) ∧ (w' = []) ∧ (0 ≤ y ∧ y ≤ 63)) := by
  refine enterF (by decide +kernel) (Nat.le_of_ble_eq_true rfl) ?_
  intro p e s m args below meth c A X hnm hA
  have X : Cx p s m args meth c cJ6_bitCount_0f7a4 1 (some .int) RJ6 Z A := X
  refine g_as (pc' := 0) (lv' := [(0, .int (iI v))]) (st' := []) (ws' := []) rfl rfl rfl rfl ?_
  refine g_iload_n (pc := 0) X 0 rfl dJ6_bitCount_0f7a4_0 ?_
  refine g_iload_n (pc := 1) X 0 rfl dJ6_bitCount_0f7a4_1 ?_
  refine g_iconst (pc := 2) X (iI 1) (by rfl) dJ6_bitCount_0f7a4_2 ?_
  refine g_iushr (pc := 3) X dJ6_bitCount_0f7a4_3 ?_
  refine g_any (fun y1 by1 => ?_)
  refine g_ldcw (pc := 4) X mw_41_20 dJ6_bitCount_0f7a4_4 ?_
  refine g_lit (y := iI 1431655765) (by decide) ?_
  refine g_iand (pc := 7) X dJ6_bitCount_0f7a4_7 ?_
  refine g_any (fun y2 by2 => ?_)
  refine g_isubI (pc := 8) X dJ6_bitCount_0f7a4_8 ?_
  refine g_any (fun y3 by3 => ?_)
  refine g_istore_n (pc := 9) X (i := 0) rfl (by decide) (lv' := [(0, .int (iI y3))]) rfl dJ6_bitCount_0f7a4_9 ?_
  refine g_iload_n (pc := 10) X 0 rfl dJ6_bitCount_0f7a4_10 ?_
  refine g_ldcw (pc := 11) X mw_41_21 dJ6_bitCount_0f7a4_11 ?_
  refine g_lit (y := iI 858993459) (by decide) ?_
  refine g_iand (pc := 14) X dJ6_bitCount_0f7a4_14 ?_
  refine g_any (fun y4 by4 => ?_)
  refine g_iload_n (pc := 15) X 0 rfl dJ6_bitCount_0f7a4_15 ?_
  refine g_iconst (pc := 16) X (iI 2) (by rfl) dJ6_bitCount_0f7a4_16 ?_
  refine g_iushr (pc := 17) X dJ6_bitCount_0f7a4_17 ?_
  refine g_any (fun y5 by5 => ?_)
  refine g_ldcw (pc := 18) X mw_41_21 dJ6_bitCount_0f7a4_18 ?_
  refine g_lit (y := iI 858993459) (by decide) ?_
  refine g_iand (pc := 21) X dJ6_bitCount_0f7a4_21 ?_
  refine g_any (fun y6 by6 => ?_)
  refine g_iaddI (pc := 22) X dJ6_bitCount_0f7a4_22 ?_
  refine g_any (fun y7 by7 => ?_)
  refine g_istore_n (pc := 23) X (i := 0) rfl (by decide) (lv' := [(0, .int (iI y7))]) rfl dJ6_bitCount_0f7a4_23 ?_
  refine g_iload_n (pc := 24) X 0 rfl dJ6_bitCount_0f7a4_24 ?_
  refine g_iload_n (pc := 25) X 0 rfl dJ6_bitCount_0f7a4_25 ?_
  refine g_iconst (pc := 26) X (iI 4) (by rfl) dJ6_bitCount_0f7a4_26 ?_
  refine g_iushr (pc := 27) X dJ6_bitCount_0f7a4_27 ?_
  refine g_any (fun y8 by8 => ?_)
  refine g_iaddI (pc := 28) X dJ6_bitCount_0f7a4_28 ?_
  refine g_any (fun y9 by9 => ?_)
  refine g_ldcw (pc := 29) X mw_41_22 dJ6_bitCount_0f7a4_29 ?_
  refine g_lit (y := iI 252645135) (by decide) ?_
  refine g_iand (pc := 32) X dJ6_bitCount_0f7a4_32 ?_
  refine g_any (fun y10 by10 => ?_)
  refine g_istore_n (pc := 33) X (i := 0) rfl (by decide) (lv' := [(0, .int (iI y10))]) rfl dJ6_bitCount_0f7a4_33 ?_
  refine g_iload_n (pc := 34) X 0 rfl dJ6_bitCount_0f7a4_34 ?_
  refine g_iload_n (pc := 35) X 0 rfl dJ6_bitCount_0f7a4_35 ?_
  refine g_bipush (pc := 36) X (iI 8) (by decide) dJ6_bitCount_0f7a4_36 ?_
  refine g_iushr (pc := 38) X dJ6_bitCount_0f7a4_38 ?_
  refine g_any (fun y11 by11 => ?_)
  refine g_iaddI (pc := 39) X dJ6_bitCount_0f7a4_39 ?_
  refine g_any (fun y12 by12 => ?_)
  refine g_istore_n (pc := 40) X (i := 0) rfl (by decide) (lv' := [(0, .int (iI y12))]) rfl dJ6_bitCount_0f7a4_40 ?_
  refine g_iload_n (pc := 41) X 0 rfl dJ6_bitCount_0f7a4_41 ?_
  refine g_iload_n (pc := 42) X 0 rfl dJ6_bitCount_0f7a4_42 ?_
  refine g_bipush (pc := 43) X (iI 16) (by decide) dJ6_bitCount_0f7a4_43 ?_
  refine g_iushr (pc := 45) X dJ6_bitCount_0f7a4_45 ?_
  refine g_any (fun y13 by13 => ?_)
  refine g_iaddI (pc := 46) X dJ6_bitCount_0f7a4_46 ?_
  refine g_any (fun y14 by14 => ?_)
  refine g_istore_n (pc := 47) X (i := 0) rfl (by decide) (lv' := [(0, .int (iI y14))]) rfl dJ6_bitCount_0f7a4_47 ?_
  refine g_iload_n (pc := 48) X 0 rfl dJ6_bitCount_0f7a4_48 ?_
  refine g_bipush (pc := 49) X (iI 63) (by decide) dJ6_bitCount_0f7a4_49 ?_
  refine g_iandM (pc := 51) X 6 (by decide) (by decide) (by decide) dJ6_bitCount_0f7a4_51 (fun y15 by15 => ?_)
  exact g_iret (pc := 52) X hA (⟨y15, rfl, rfl, (by15)⟩) (by decide) (by decide) dJ6_bitCount_0f7a4_52

set_option maxHeartbeats 4000000 in
set_option maxRecDepth 100000 in
theorem k_J9_floorMod_7cf53 (l : Launch) (Z : gZ) (v : Int) (d : Int) (b_v : (-2147483648) ≤ v ∧ v ≤ 2147483647) (b_d : 1 ≤ d ∧ d ≤ 2147483647) : Con l Z yJ9_floorMod_7cf53 cJ9_floorMod_7cf53 3 (some .int) 0 0 0 0 [.int (iI v), .int (iI d)] [] (fun r w' => ∃ (y : Int), (r = some (.int (iI y))) ∧ (w' = []) ∧ ((-2147483648) ≤ y ∧ y ≤ 2147483647)) := by
  refine enterF (by decide +kernel) (Nat.le_of_ble_eq_true rfl) ?_
  intro p e s m args below meth c A X hnm hA
  have X : Cx p s m args meth c cJ9_floorMod_7cf53 3 (some .int) RJ9 Z A := X
  refine g_as (pc' := 0) (lv' := [(0, .int (iI v)), (1, .int (iI d))]) (st' := []) (ws' := []) rfl rfl rfl rfl ?_
  refine g_iload_n (pc := 0) X 0 rfl dJ9_floorMod_7cf53_0 ?_
  refine g_iload_n (pc := 1) X 1 rfl dJ9_floorMod_7cf53_1 ?_
  refine g_iremI (pc := 2) X b_v (inRb b_d (by decide) (by decide)) (by omega) (by omega) dJ9_floorMod_7cf53_2 ?_
  refine g_any (fun y1 by1 => ?_)
  refine g_istore_n (pc := 3) X (i := 2) rfl (by decide) (lv' := [(2, .int (iI y1)), (0, .int (iI v)), (1, .int (iI d))]) rfl dJ9_floorMod_7cf53_3 ?_
  refine g_iload_n (pc := 4) X 1 rfl dJ9_floorMod_7cf53_4 ?_
  refine g_iload_n (pc := 5) X 2 rfl dJ9_floorMod_7cf53_5 ?_
  refine g_ixor (pc := 6) X dJ9_floorMod_7cf53_6 ?_
  refine g_any (fun y2 by2 => ?_)
  refine g_if_geI (pc := 7) X 18 (by decide) by2 dJ9_floorMod_7cf53_7 (fun c7 => ?_) (fun c7 => ?_)
  · refine g_iload_n (pc := 18) X 0 rfl dJ9_floorMod_7cf53_18 ?_
    exact g_iret (pc := 19) X hA (⟨y1, rfl, rfl, (by1)⟩) (by decide) (by decide) dJ9_floorMod_7cf53_19
  · refine g_iload_n (pc := 10) X 0 rfl dJ9_floorMod_7cf53_10 ?_
    refine g_if_eqI (pc := 11) X 18 (by decide) by1 dJ9_floorMod_7cf53_11 (fun c11 => ?_) (fun c11 => ?_)
    · refine g_iload_n (pc := 18) X 0 rfl dJ9_floorMod_7cf53_18 ?_
      exact g_iret (pc := 19) X hA (⟨y1, rfl, rfl, (by1)⟩) (by decide) (by decide) dJ9_floorMod_7cf53_19
    · refine g_iload_n (pc := 14) X 0 rfl dJ9_floorMod_7cf53_14 ?_
      refine g_iload_n (pc := 15) X 2 rfl dJ9_floorMod_7cf53_15 ?_
      refine g_iaddI (pc := 16) X dJ9_floorMod_7cf53_16 ?_
      refine g_any (fun y3 by3 => ?_)
      exact g_iret (pc := 17) X hA (⟨y3, rfl, rfl, (by3)⟩) (by decide) (by decide) dJ9_floorMod_7cf53_17

set_option maxHeartbeats 4000000 in
set_option maxRecDepth 100000 in
theorem k_X10_canBeCutAt (l : Launch) (Z : gZ) (w0 : Nat) (w_begins : Nat) (w_lengths : Nat) (w_lefts : Nat) (w_rights : Nat) (w_leans : Nat) (w_leaning : Nat) (cu : Int) (wn : Int) (wr : Int) (b_cu : (-2147483648) ≤ cu ∧ cu ≤ 2147483647) (b_wn : 0 ≤ wn ∧ wn ≤ 8) (b_wr : 0 ≤ wr ∧ wr ≤ 4800) : Con l Z yX10_canBeCutAt cX10_canBeCutAt 2 (some .boolean) 1 22 0 0 [.ref w0, .int (iI cu)] [cO_rrrrrrii w0 10 w_begins w_lengths w_lefts w_rights w_leans w_leaning wn wr] (fun r w' => ((r = some (.int (iI 0))) ∧ (w' = [cO_rrrrrrii w0 10 w_begins w_lengths w_lefts w_rights w_leans w_leaning wn wr])) ∨ ((r = some (.int (iI 1))) ∧ (w' = [cO_rrrrrrii w0 10 w_begins w_lengths w_lefts w_rights w_leans w_leaning wn wr]) ∧ (0 < wn) ∧ (0 ≤ cu ∧ cu ≤ 127))) := by
  refine enter (by decide) (Nat.le_of_ble_eq_true rfl) ?_
  intro p e s m args below meth c A X hnm hA
  have X : Cx p s m args meth c cX10_canBeCutAt 2 (some .boolean) RX10 Z A := X
  refine g_as (pc' := 0) (lv' := [(0, .ref w0), (1, .int (iI cu))]) (st' := []) (ws' := [cO_rrrrrrii w0 10 w_begins w_lengths w_lefts w_rights w_leans w_leaning wn wr]) rfl rfl rfl rfl ?_
  refine g_aload_n (pc := 0) X 0 rfl dX10_canBeCutAt_0 ?_
  refine g_get (pc := 1) X inlX10 0 rfl rfl 6 (by decide) mw_16_4 rfl dX10_canBeCutAt_1 ?_
  refine g_if_leI (pc := 4) X 29 (by decide) (inRb b_wn (by decide) (by decide)) dX10_canBeCutAt_4 (fun c4 => ?_) (fun c4 => ?_)
  · refine g_iconst (pc := 29) X (iI 0) (by rfl) dX10_canBeCutAt_29 ?_
    exact g_zret (pc := 30) X hA (rfl) (Or.inl (⟨rfl, rfl⟩)) (by decide) (by decide) dX10_canBeCutAt_30
  · refine g_iconst (pc := 7) X (iI 0) (by rfl) dX10_canBeCutAt_7 ?_
    refine g_iload_n (pc := 8) X 1 rfl dX10_canBeCutAt_8 ?_
    refine g_iconst (pc := 9) X (iI 1) (by rfl) dX10_canBeCutAt_9 ?_
    refine g_aload_n (pc := 10) X 0 rfl dX10_canBeCutAt_10 ?_
    refine g_get (pc := 11) X inlX10 0 rfl rfl 6 (by decide) mw_16_4 rfl dX10_canBeCutAt_11 ?_
    refine g_iconst (pc := 14) X (iI 1) (by rfl) dX10_canBeCutAt_14 ?_
    refine g_isubI (pc := 15) X dX10_canBeCutAt_15 ?_
    refine g_shl1 (pc := 16) X (by omega) (by omega) dX10_canBeCutAt_16 (fun y1 ey1 => ?_)
    have by1 : 1 ≤ y1 ∧ y1 ≤ 128 := pow2B 7 (by decide) (by omega) (by omega) ey1
    refine g_iconst (pc := 17) X (iI 1) (by rfl) dX10_canBeCutAt_17 ?_
    refine g_isubI (pc := 18) X dX10_canBeCutAt_18 ?_
    refine g_callSN (pc := 19) X (k_X11_isFrom l Z 0 cu (y1 - 1) (by decide) b_cu (by omega)) iM_X11_isFrom (by decide) mw_11_7 [] [0] rfl (wr := [cO_rrrrrrii w0 10 w_begins w_lengths w_lefts w_rights w_leans w_leaning wn wr]) rfl (by decide) rfl rfl (Nat.le_of_ble_eq_true rfl) (by decide) dX10_canBeCutAt_19 (fun r w' hpo => ?_)
    obtain ⟨rfl, rfl⟩ := hpo
    refine g_as (pc' := 22) (lv' := [(0, .ref w0), (1, .int (iI cu))]) (st' := [.int (iI (bI (0 ≤ cu ∧ cu ≤ (y1 - 1))))]) (ws' := [cO_rrrrrrii w0 10 w_begins w_lengths w_lefts w_rights w_leans w_leaning wn wr]) rfl rfl rfl rfl ?_
    refine g_if_eqB (pc := 22) X 29 (by decide) dX10_canBeCutAt_22 (fun c22 => ?_) (fun c22 => ?_)
    · refine g_iconst (pc := 29) X (iI 0) (by rfl) dX10_canBeCutAt_29 ?_
      exact g_zret (pc := 30) X hA (rfl) (Or.inl (⟨rfl, rfl⟩)) (by decide) (by decide) dX10_canBeCutAt_30
    · refine g_iconst (pc := 25) X (iI 1) (by rfl) dX10_canBeCutAt_25 ?_
      refine g_goto (pc := 26) X 30 (by decide) dX10_canBeCutAt_26 ?_
      exact g_zret (pc := 30) X hA (rfl) (Or.inr (⟨rfl, rfl, (by omega), (by omega)⟩)) (by decide) (by decide) dX10_canBeCutAt_30

set_option maxHeartbeats 4000000 in
set_option maxRecDepth 100000 in
theorem k_X10_leastCuts (l : Launch) (Z : gZ) (w0 : Nat) (w_begins : Nat) (w_lengths : Nat) (w_lefts : Nat) (w_rights : Nat) (w_leans : Nat) (w_leaning : Nat) (Wk : Nat → Int) (Wm : Nat → Int) (wn : Int) (wr : Int) (b_wn : 0 ≤ wn ∧ wn ≤ 8) (b_wr : 0 ≤ wr ∧ wr ≤ 4800) (h_Wk : ∀ j, j < 8 → 0 ≤ Wk j ∧ Wk j ≤ 400) (h_Wm : ∀ j, j < 8 → (-50) ≤ Wm j ∧ Wm j ≤ 50) : Con l Z yX10_leastCuts cX10_leastCuts 7 (some .int) 3 66 0 0 [.ref w0] [cO_rrrrrrii w0 10 w_begins w_lengths w_lefts w_rights w_leans w_leaning wn wr, cA Z w_rights 0 8 Wk, cA Z w_leans 0 8 Wm] (fun r w' => ∃ (y : Int), (r = some (.int (iI y))) ∧ (w' = [cO_rrrrrrii w0 10 w_begins w_lengths w_lefts w_rights w_leans w_leaning wn wr, cA Z w_rights 0 8 Wk, cA Z w_leans 0 8 Wm]) ∧ (0 ≤ y ∧ y ≤ 128)) := by
  refine enter (by decide) (Nat.le_of_ble_eq_true rfl) ?_
  intro p e s m args below meth c A X hnm hA
  have X : Cx p s m args meth c cX10_leastCuts 7 (some .int) RX10 Z A := X
  refine g_as (pc' := 0) (lv' := [(0, .ref w0)]) (st' := []) (ws' := [cO_rrrrrrii w0 10 w_begins w_lengths w_lefts w_rights w_leans w_leaning wn wr, cA Z w_rights 0 8 Wk, cA Z w_leans 0 8 Wm]) rfl rfl rfl rfl ?_
  refine g_iconst (pc := 0) X (iI 0) (by rfl) dX10_leastCuts_0 ?_
  refine g_istore_n (pc := 1) X (i := 1) rfl (by decide) (lv' := [(1, .int (iI 0)), (0, .ref w0)]) rfl dX10_leastCuts_1 ?_
  refine g_aload_n (pc := 2) X 1 rfl dX10_leastCuts_2 ?_
  refine g_iconst (pc := 3) X (iI 0) (by rfl) dX10_leastCuts_3 ?_
  refine g_callV (pc := 4) X (k_X10_shownWith l Z w0 w_begins w_lengths w_lefts w_rights w_leans w_leaning Wk Wm 0 wn wr (by decide) b_wn b_wr (h_Wk) (h_Wm)) iM_X10_shownWith mw_46_17 mw_44_17 mw_44_18 0 rfl rfl [0, 1, 2] [] rfl (wr := []) rfl (by decide) rfl rfl (Nat.le_of_ble_eq_true rfl) (by decide) dX10_leastCuts_4 (fun r w' hpo => ?_)
  refine exN_1 hpo fun y1 hz => anD_3 hz fun e_r e_w hf4_b_y => ?_; clear hz hpo; subst e_r; subst e_w
  refine g_as (pc' := 7) (lv' := [(1, .int (iI 0)), (0, .ref w0)]) (st' := [.int (iI y1)]) (ws' := [cO_rrrrrrii w0 10 w_begins w_lengths w_lefts w_rights w_leans w_leaning wn wr, cA Z w_rights 0 8 Wk, cA Z w_leans 0 8 Wm]) rfl rfl rfl rfl ?_
  refine g_istore_n (pc := 7) X (i := 2) rfl (by decide) (lv' := [(2, .int (iI y1)), (1, .int (iI 0)), (0, .ref w0)]) rfl dX10_leastCuts_7 ?_
  refine g_aload_n (pc := 8) X 2 rfl dX10_leastCuts_8 ?_
  refine g_get (pc := 9) X inlX10 0 rfl rfl 6 (by decide) mw_16_4 rfl dX10_leastCuts_9 ?_
  refine g_if_leI (pc := 12) X 26 (by decide) (inRb b_wn (by decide) (by decide)) dX10_leastCuts_12 (fun c12 => ?_) (fun c12 => ?_)
  · refine g_iconst (pc := 26) X (iI 0) (by rfl) dX10_leastCuts_26 ?_
    refine g_istore_n (pc := 27) X (i := 3) rfl (by decide) (lv' := [(3, .int (iI 0)), (2, .int (iI y1)), (1, .int (iI 0)), (0, .ref w0)]) rfl dX10_leastCuts_27 ?_
    refine g_iconst (pc := 28) X (iI 1) (by rfl) dX10_leastCuts_28 ?_
    refine g_istore (pc := 29) X (by decide) (lv' := [(4, .int (iI 1)), (3, .int (iI 0)), (2, .int (iI y1)), (1, .int (iI 0)), (0, .ref w0)]) rfl dX10_leastCuts_29 ?_
    have loop31 : ∀ (fuel : Nat) (le : Int) (ls : Int) (cu : Int), (0 ≤ le ∧ le ≤ 128) → (0 ≤ ls ∧ ls ≤ 100000) → (1 ≤ cu ∧ cu ≤ 128) → (129 - cu).toNat < fuel → Gs p l e ({ frames := 3, cells := 0, slots := 0, locals := 66 } : Room) s m args below meth c (MQ below (gPost Z [cO_rrrrrrii w0 10 w_begins w_lengths w_lefts w_rights w_leans w_leaning wn wr, cA Z w_rights 0 8 Wk, cA Z w_leans 0 8 Wm] s.heap.size (fun r w' => ∃ (y : Int), (r = some (.int (iI y))) ∧ (w' = [cO_rrrrrrii w0 10 w_begins w_lengths w_lefts w_rights w_leans w_leaning wn wr, cA Z w_rights 0 8 Wk, cA Z w_leans 0 8 Wm]) ∧ (0 ≤ y ∧ y ≤ 128))) args s 0 0 (va_A [cO_rrrrrrii w0 10 w_begins w_lengths w_lefts w_rights w_leans w_leaning wn wr, cA Z w_rights 0 8 Wk, cA Z w_leans 0 8 Wm] s.heap.size)) Z A 7 0 0 31 [(4, .int (iI cu)), (3, .int (iI 0)), (2, .int (iI ls)), (1, .int (iI le)), (0, .ref w0)] [] [cO_rrrrrrii w0 10 w_begins w_lengths w_lefts w_rights w_leans w_leaning wn wr, cA Z w_rights 0 8 Wk, cA Z w_leans 0 8 Wm] := by
      intro fuel
      induction fuel with
      | zero => intro le ls cu _ _ _ hm; exact absurd hm (Nat.not_lt_zero _)
      | succ fuel ih =>
        intro le ls cu b_le b_ls b_cu hm
        refine g_iload (pc := 31) X 0 rfl dX10_leastCuts_31 ?_
        refine g_iload_n (pc := 33) X 1 rfl dX10_leastCuts_33 ?_
        refine g_icmp_geI (pc := 34) X 93 (by decide) (inRb b_cu (by decide) (by decide)) ⟨by decide, by decide⟩ dX10_leastCuts_34 (fun c34 => ?_) (fun c34 => ?_)
        · refine g_iload_n (pc := 93) X 3 rfl dX10_leastCuts_93 ?_
          exact g_iret (pc := 94) X hA (⟨le, rfl, rfl, (b_le)⟩) (by decide) (by decide) dX10_leastCuts_94
        · refine g_aload_n (pc := 37) X 4 rfl dX10_leastCuts_37 ?_
          refine g_iload (pc := 38) X 0 rfl dX10_leastCuts_38 ?_
          refine g_callV (pc := 40) X (k_X10_shownWith l Z w0 w_begins w_lengths w_lefts w_rights w_leans w_leaning Wk Wm cu wn wr (by omega) b_wn b_wr (h_Wk) (h_Wm)) iM_X10_shownWith mw_46_17 mw_44_17 mw_44_18 0 rfl rfl [0, 1, 2] [] rfl (wr := []) rfl (by decide) rfl rfl (Nat.le_of_ble_eq_true rfl) (by decide) dX10_leastCuts_40 (fun r w' hpo => ?_)
          refine exN_1 hpo fun y3 hz => anD_3 hz fun e_r e_w hf40_b_y => ?_; clear hz hpo; subst e_r; subst e_w
          refine g_as (pc' := 43) (lv' := [(4, .int (iI cu)), (3, .int (iI 0)), (2, .int (iI ls)), (1, .int (iI le)), (0, .ref w0)]) (st' := [.int (iI y3)]) (ws' := [cO_rrrrrrii w0 10 w_begins w_lengths w_lefts w_rights w_leans w_leaning wn wr, cA Z w_rights 0 8 Wk, cA Z w_leans 0 8 Wm]) rfl rfl rfl rfl ?_
          refine g_istore (pc := 43) X (by decide) (lv' := [(5, .int (iI y3)), (4, .int (iI cu)), (3, .int (iI 0)), (2, .int (iI ls)), (1, .int (iI le)), (0, .ref w0)]) rfl dX10_leastCuts_43 ?_
          refine g_iload (pc := 45) X 1 rfl dX10_leastCuts_45 ?_
          refine g_callS (pc := 47) X (k_J6_bitCount_0f7a4 l Z cu (by omega)) iM_J6_bitCount_0f7a4 mw_46_18 mw_41_17 [] [0, 1, 2] rfl (wr := [cO_rrrrrrii w0 10 w_begins w_lengths w_lefts w_rights w_leans w_leaning wn wr, cA Z w_rights 0 8 Wk, cA Z w_leans 0 8 Wm]) rfl (by decide) rfl rfl (Nat.le_of_ble_eq_true rfl) (by decide) dX10_leastCuts_47 (fun r w' hpo => ?_)
          refine exN_1 hpo fun y5 hz => anD_3 hz fun e_r e_w hf47_b_y => ?_; clear hz hpo; subst e_r; subst e_w
          refine g_as (pc' := 50) (lv' := [(5, .int (iI y3)), (4, .int (iI cu)), (3, .int (iI 0)), (2, .int (iI ls)), (1, .int (iI le)), (0, .ref w0)]) (st' := [.int (iI y5)]) (ws' := [cO_rrrrrrii w0 10 w_begins w_lengths w_lefts w_rights w_leans w_leaning wn wr, cA Z w_rights 0 8 Wk, cA Z w_leans 0 8 Wm]) rfl rfl rfl rfl ?_
          refine g_iload_n (pc := 50) X 4 rfl dX10_leastCuts_50 ?_
          refine g_callS (pc := 51) X (k_J6_bitCount_0f7a4 l Z le (by omega)) iM_J6_bitCount_0f7a4 mw_46_18 mw_41_17 [] [0, 1, 2] rfl (wr := [cO_rrrrrrii w0 10 w_begins w_lengths w_lefts w_rights w_leans w_leaning wn wr, cA Z w_rights 0 8 Wk, cA Z w_leans 0 8 Wm]) rfl (by decide) rfl rfl (Nat.le_of_ble_eq_true rfl) (by decide) dX10_leastCuts_51 (fun r w' hpo => ?_)
          refine exN_1 hpo fun y7 hz => anD_3 hz fun e_r e_w hf51_b_y => ?_; clear hz hpo; subst e_r; subst e_w
          refine g_as (pc' := 54) (lv' := [(5, .int (iI y3)), (4, .int (iI cu)), (3, .int (iI 0)), (2, .int (iI ls)), (1, .int (iI le)), (0, .ref w0)]) (st' := [.int (iI y7), .int (iI y5)]) (ws' := [cO_rrrrrrii w0 10 w_begins w_lengths w_lefts w_rights w_leans w_leaning wn wr, cA Z w_rights 0 8 Wk, cA Z w_leans 0 8 Wm]) rfl rfl rfl rfl ?_
          refine g_icmp_geI (pc := 54) X 61 (by decide) (inRb hf47_b_y (by decide) (by decide)) (inRb hf51_b_y (by decide) (by decide)) dX10_leastCuts_54 (fun c54 => ?_) (fun c54 => ?_)
          · refine g_iconst (pc := 61) X (iI 0) (by rfl) dX10_leastCuts_61 ?_
            refine g_istore (pc := 62) X (by decide) (lv' := [(6, .int (iI 0)), (5, .int (iI y3)), (4, .int (iI cu)), (3, .int (iI 0)), (2, .int (iI ls)), (1, .int (iI le)), (0, .ref w0)]) rfl dX10_leastCuts_62 ?_
            refine g_iload (pc := 64) X 1 rfl dX10_leastCuts_64 ?_
            refine g_iload_n (pc := 66) X 4 rfl dX10_leastCuts_66 ?_
            refine g_icmp_ltI (pc := 67) X 81 (by decide) (inRb hf40_b_y (by decide) (by decide)) (inRb b_ls (by decide) (by decide)) dX10_leastCuts_67 (fun c67 => ?_) (fun c67 => ?_)
            · refine g_iload (pc := 81) X 2 rfl dX10_leastCuts_81 ?_
              refine g_istore_n (pc := 83) X (i := 1) rfl (by decide) (lv' := [(1, .int (iI cu)), (6, .int (iI 0)), (5, .int (iI y3)), (4, .int (iI cu)), (3, .int (iI 0)), (2, .int (iI ls)), (0, .ref w0)]) rfl dX10_leastCuts_83 ?_
              refine g_iload (pc := 84) X 2 rfl dX10_leastCuts_84 ?_
              refine g_istore_n (pc := 86) X (i := 2) rfl (by decide) (lv' := [(2, .int (iI y3)), (1, .int (iI cu)), (6, .int (iI 0)), (5, .int (iI y3)), (4, .int (iI cu)), (3, .int (iI 0)), (0, .ref w0)]) rfl dX10_leastCuts_86 ?_
              refine g_iincI (pc := 87) X 4 rfl (by decide) (lv' := [(4, .int (iI (cu + 1))), (2, .int (iI y3)), (1, .int (iI cu)), (6, .int (iI 0)), (5, .int (iI y3)), (3, .int (iI 0)), (0, .ref w0)]) rfl dX10_leastCuts_87 ?_
              refine g_goto (pc := 90) X 31 (by decide) dX10_leastCuts_90 ?_
              refine g_lv (lv' := [(4, .int (iI (cu + 1))), (3, .int (iI 0)), (2, .int (iI y3)), (1, .int (iI cu)), (0, .ref w0)]) [0, 5, 1, 2, 6] rfl ?_
              exact ih cu y3 (cu + 1) (by omega) (hf40_b_y) (by omega) (by omega)
            · refine g_iload (pc := 70) X 1 rfl dX10_leastCuts_70 ?_
              refine g_iload_n (pc := 72) X 4 rfl dX10_leastCuts_72 ?_
              refine g_icmp_neI (pc := 73) X 87 (by decide) (inRb hf40_b_y (by decide) (by decide)) (inRb b_ls (by decide) (by decide)) dX10_leastCuts_73 (fun c73 => ?_) (fun c73 => ?_)
              · refine g_iincI (pc := 87) X 2 rfl (by decide) (lv' := [(4, .int (iI (cu + 1))), (6, .int (iI 0)), (5, .int (iI y3)), (3, .int (iI 0)), (2, .int (iI ls)), (1, .int (iI le)), (0, .ref w0)]) rfl dX10_leastCuts_87 ?_
                refine g_goto (pc := 90) X 31 (by decide) dX10_leastCuts_90 ?_
                refine g_lv (lv' := [(4, .int (iI (cu + 1))), (3, .int (iI 0)), (2, .int (iI ls)), (1, .int (iI le)), (0, .ref w0)]) [0, 3, 4, 5, 6] rfl ?_
                exact ih le ls (cu + 1) (b_le) (b_ls) (by omega) (by omega)
              · refine g_iload (pc := 76) X 0 rfl dX10_leastCuts_76 ?_
                refine g_if_eqI (pc := 78) X 87 (by decide) ⟨by decide, by decide⟩ dX10_leastCuts_78 (fun _ => ?_) (fun h => absurd h (by decide))
                refine g_iincI (pc := 87) X 2 rfl (by decide) (lv' := [(4, .int (iI (cu + 1))), (6, .int (iI 0)), (5, .int (iI y3)), (3, .int (iI 0)), (2, .int (iI ls)), (1, .int (iI le)), (0, .ref w0)]) rfl dX10_leastCuts_87 ?_
                refine g_goto (pc := 90) X 31 (by decide) dX10_leastCuts_90 ?_
                refine g_lv (lv' := [(4, .int (iI (cu + 1))), (3, .int (iI 0)), (2, .int (iI ls)), (1, .int (iI le)), (0, .ref w0)]) [0, 3, 4, 5, 6] rfl ?_
                exact ih le ls (cu + 1) (b_le) (b_ls) (by omega) (by omega)
          · refine g_iconst (pc := 57) X (iI 1) (by rfl) dX10_leastCuts_57 ?_
            refine g_goto (pc := 58) X 62 (by decide) dX10_leastCuts_58 ?_
            refine g_istore (pc := 62) X (by decide) (lv' := [(6, .int (iI 1)), (5, .int (iI y3)), (4, .int (iI cu)), (3, .int (iI 0)), (2, .int (iI ls)), (1, .int (iI le)), (0, .ref w0)]) rfl dX10_leastCuts_62 ?_
            refine g_iload (pc := 64) X 1 rfl dX10_leastCuts_64 ?_
            refine g_iload_n (pc := 66) X 4 rfl dX10_leastCuts_66 ?_
            refine g_icmp_ltI (pc := 67) X 81 (by decide) (inRb hf40_b_y (by decide) (by decide)) (inRb b_ls (by decide) (by decide)) dX10_leastCuts_67 (fun c67 => ?_) (fun c67 => ?_)
            · refine g_iload (pc := 81) X 2 rfl dX10_leastCuts_81 ?_
              refine g_istore_n (pc := 83) X (i := 1) rfl (by decide) (lv' := [(1, .int (iI cu)), (6, .int (iI 1)), (5, .int (iI y3)), (4, .int (iI cu)), (3, .int (iI 0)), (2, .int (iI ls)), (0, .ref w0)]) rfl dX10_leastCuts_83 ?_
              refine g_iload (pc := 84) X 2 rfl dX10_leastCuts_84 ?_
              refine g_istore_n (pc := 86) X (i := 2) rfl (by decide) (lv' := [(2, .int (iI y3)), (1, .int (iI cu)), (6, .int (iI 1)), (5, .int (iI y3)), (4, .int (iI cu)), (3, .int (iI 0)), (0, .ref w0)]) rfl dX10_leastCuts_86 ?_
              refine g_iincI (pc := 87) X 4 rfl (by decide) (lv' := [(4, .int (iI (cu + 1))), (2, .int (iI y3)), (1, .int (iI cu)), (6, .int (iI 1)), (5, .int (iI y3)), (3, .int (iI 0)), (0, .ref w0)]) rfl dX10_leastCuts_87 ?_
              refine g_goto (pc := 90) X 31 (by decide) dX10_leastCuts_90 ?_
              refine g_lv (lv' := [(4, .int (iI (cu + 1))), (3, .int (iI 0)), (2, .int (iI y3)), (1, .int (iI cu)), (0, .ref w0)]) [0, 5, 1, 2, 6] rfl ?_
              exact ih cu y3 (cu + 1) (by omega) (hf40_b_y) (by omega) (by omega)
            · refine g_iload (pc := 70) X 1 rfl dX10_leastCuts_70 ?_
              refine g_iload_n (pc := 72) X 4 rfl dX10_leastCuts_72 ?_
              refine g_icmp_neI (pc := 73) X 87 (by decide) (inRb hf40_b_y (by decide) (by decide)) (inRb b_ls (by decide) (by decide)) dX10_leastCuts_73 (fun c73 => ?_) (fun c73 => ?_)
              · refine g_iincI (pc := 87) X 2 rfl (by decide) (lv' := [(4, .int (iI (cu + 1))), (6, .int (iI 1)), (5, .int (iI y3)), (3, .int (iI 0)), (2, .int (iI ls)), (1, .int (iI le)), (0, .ref w0)]) rfl dX10_leastCuts_87 ?_
                refine g_goto (pc := 90) X 31 (by decide) dX10_leastCuts_90 ?_
                refine g_lv (lv' := [(4, .int (iI (cu + 1))), (3, .int (iI 0)), (2, .int (iI ls)), (1, .int (iI le)), (0, .ref w0)]) [0, 3, 4, 5, 6] rfl ?_
                exact ih le ls (cu + 1) (b_le) (b_ls) (by omega) (by omega)
              · refine g_iload (pc := 76) X 0 rfl dX10_leastCuts_76 ?_
                refine g_if_eqI (pc := 78) X 87 (by decide) ⟨by decide, by decide⟩ dX10_leastCuts_78 (fun h => absurd h (by decide)) (fun _ => ?_)
                refine g_iload (pc := 81) X 2 rfl dX10_leastCuts_81 ?_
                refine g_istore_n (pc := 83) X (i := 1) rfl (by decide) (lv' := [(1, .int (iI cu)), (6, .int (iI 1)), (5, .int (iI y3)), (4, .int (iI cu)), (3, .int (iI 0)), (2, .int (iI ls)), (0, .ref w0)]) rfl dX10_leastCuts_83 ?_
                refine g_iload (pc := 84) X 2 rfl dX10_leastCuts_84 ?_
                refine g_istore_n (pc := 86) X (i := 2) rfl (by decide) (lv' := [(2, .int (iI y3)), (1, .int (iI cu)), (6, .int (iI 1)), (5, .int (iI y3)), (4, .int (iI cu)), (3, .int (iI 0)), (0, .ref w0)]) rfl dX10_leastCuts_86 ?_
                refine g_iincI (pc := 87) X 4 rfl (by decide) (lv' := [(4, .int (iI (cu + 1))), (2, .int (iI y3)), (1, .int (iI cu)), (6, .int (iI 1)), (5, .int (iI y3)), (3, .int (iI 0)), (0, .ref w0)]) rfl dX10_leastCuts_87 ?_
                refine g_goto (pc := 90) X 31 (by decide) dX10_leastCuts_90 ?_
                refine g_lv (lv' := [(4, .int (iI (cu + 1))), (3, .int (iI 0)), (2, .int (iI y3)), (1, .int (iI cu)), (0, .ref w0)]) [0, 5, 1, 2, 6] rfl ?_
                exact ih cu y3 (cu + 1) (by omega) (hf40_b_y) (by omega) (by omega)
    exact loop31 _ 0 y1 1 (by omega) (hf4_b_y) (by omega) (Nat.lt_succ_self _)
  · refine g_iconst (pc := 15) X (iI 1) (by rfl) dX10_leastCuts_15 ?_
    refine g_aload_n (pc := 16) X 2 rfl dX10_leastCuts_16 ?_
    refine g_get (pc := 17) X inlX10 0 rfl rfl 6 (by decide) mw_16_4 rfl dX10_leastCuts_17 ?_
    refine g_iconst (pc := 20) X (iI 1) (by rfl) dX10_leastCuts_20 ?_
    refine g_isubI (pc := 21) X dX10_leastCuts_21 ?_
    refine g_shl1 (pc := 22) X (by omega) (by omega) dX10_leastCuts_22 (fun y9 ey9 => ?_)
    have by9 : 1 ≤ y9 ∧ y9 ≤ 128 := pow2B 7 (by decide) (by omega) (by omega) ey9
    refine g_goto (pc := 23) X 27 (by decide) dX10_leastCuts_23 ?_
    refine g_istore_n (pc := 27) X (i := 3) rfl (by decide) (lv' := [(3, .int (iI y9)), (2, .int (iI y1)), (1, .int (iI 0)), (0, .ref w0)]) rfl dX10_leastCuts_27 ?_
    refine g_iconst (pc := 28) X (iI 1) (by rfl) dX10_leastCuts_28 ?_
    refine g_istore (pc := 29) X (by decide) (lv' := [(4, .int (iI 1)), (3, .int (iI y9)), (2, .int (iI y1)), (1, .int (iI 0)), (0, .ref w0)]) rfl dX10_leastCuts_29 ?_
    have loop31 : ∀ (fuel : Nat) (le : Int) (ls : Int) (cu : Int), (0 ≤ le ∧ le ≤ 128) → (0 ≤ ls ∧ ls ≤ 100000) → (1 ≤ cu ∧ cu ≤ 128) → (129 - cu).toNat < fuel → Gs p l e ({ frames := 3, cells := 0, slots := 0, locals := 66 } : Room) s m args below meth c (MQ below (gPost Z [cO_rrrrrrii w0 10 w_begins w_lengths w_lefts w_rights w_leans w_leaning wn wr, cA Z w_rights 0 8 Wk, cA Z w_leans 0 8 Wm] s.heap.size (fun r w' => ∃ (y : Int), (r = some (.int (iI y))) ∧ (w' = [cO_rrrrrrii w0 10 w_begins w_lengths w_lefts w_rights w_leans w_leaning wn wr, cA Z w_rights 0 8 Wk, cA Z w_leans 0 8 Wm]) ∧ (0 ≤ y ∧ y ≤ 128))) args s 0 0 (va_A [cO_rrrrrrii w0 10 w_begins w_lengths w_lefts w_rights w_leans w_leaning wn wr, cA Z w_rights 0 8 Wk, cA Z w_leans 0 8 Wm] s.heap.size)) Z A 7 0 0 31 [(4, .int (iI cu)), (3, .int (iI y9)), (2, .int (iI ls)), (1, .int (iI le)), (0, .ref w0)] [] [cO_rrrrrrii w0 10 w_begins w_lengths w_lefts w_rights w_leans w_leaning wn wr, cA Z w_rights 0 8 Wk, cA Z w_leans 0 8 Wm] := by
      intro fuel
      induction fuel with
      | zero => intro le ls cu _ _ _ hm; exact absurd hm (Nat.not_lt_zero _)
      | succ fuel ih =>
        intro le ls cu b_le b_ls b_cu hm
        refine g_iload (pc := 31) X 0 rfl dX10_leastCuts_31 ?_
        refine g_iload_n (pc := 33) X 1 rfl dX10_leastCuts_33 ?_
        refine g_icmp_geI (pc := 34) X 93 (by decide) (inRb b_cu (by decide) (by decide)) ⟨by omega, by omega⟩ dX10_leastCuts_34 (fun c34 => ?_) (fun c34 => ?_)
        · refine g_iload_n (pc := 93) X 3 rfl dX10_leastCuts_93 ?_
          exact g_iret (pc := 94) X hA (⟨le, rfl, rfl, (b_le)⟩) (by decide) (by decide) dX10_leastCuts_94
        · refine g_aload_n (pc := 37) X 4 rfl dX10_leastCuts_37 ?_
          refine g_iload (pc := 38) X 0 rfl dX10_leastCuts_38 ?_
          refine g_callV (pc := 40) X (k_X10_shownWith l Z w0 w_begins w_lengths w_lefts w_rights w_leans w_leaning Wk Wm cu wn wr (by omega) b_wn b_wr (h_Wk) (h_Wm)) iM_X10_shownWith mw_46_17 mw_44_17 mw_44_18 0 rfl rfl [0, 1, 2] [] rfl (wr := []) rfl (by decide) rfl rfl (Nat.le_of_ble_eq_true rfl) (by decide) dX10_leastCuts_40 (fun r w' hpo => ?_)
          refine exN_1 hpo fun y10 hz => anD_3 hz fun e_r e_w hf40_b_y => ?_; clear hz hpo; subst e_r; subst e_w
          refine g_as (pc' := 43) (lv' := [(4, .int (iI cu)), (3, .int (iI y9)), (2, .int (iI ls)), (1, .int (iI le)), (0, .ref w0)]) (st' := [.int (iI y10)]) (ws' := [cO_rrrrrrii w0 10 w_begins w_lengths w_lefts w_rights w_leans w_leaning wn wr, cA Z w_rights 0 8 Wk, cA Z w_leans 0 8 Wm]) rfl rfl rfl rfl ?_
          refine g_istore (pc := 43) X (by decide) (lv' := [(5, .int (iI y10)), (4, .int (iI cu)), (3, .int (iI y9)), (2, .int (iI ls)), (1, .int (iI le)), (0, .ref w0)]) rfl dX10_leastCuts_43 ?_
          refine g_iload (pc := 45) X 1 rfl dX10_leastCuts_45 ?_
          refine g_callS (pc := 47) X (k_J6_bitCount_0f7a4 l Z cu (by omega)) iM_J6_bitCount_0f7a4 mw_46_18 mw_41_17 [] [0, 1, 2] rfl (wr := [cO_rrrrrrii w0 10 w_begins w_lengths w_lefts w_rights w_leans w_leaning wn wr, cA Z w_rights 0 8 Wk, cA Z w_leans 0 8 Wm]) rfl (by decide) rfl rfl (Nat.le_of_ble_eq_true rfl) (by decide) dX10_leastCuts_47 (fun r w' hpo => ?_)
          refine exN_1 hpo fun y12 hz => anD_3 hz fun e_r e_w hf47_b_y => ?_; clear hz hpo; subst e_r; subst e_w
          refine g_as (pc' := 50) (lv' := [(5, .int (iI y10)), (4, .int (iI cu)), (3, .int (iI y9)), (2, .int (iI ls)), (1, .int (iI le)), (0, .ref w0)]) (st' := [.int (iI y12)]) (ws' := [cO_rrrrrrii w0 10 w_begins w_lengths w_lefts w_rights w_leans w_leaning wn wr, cA Z w_rights 0 8 Wk, cA Z w_leans 0 8 Wm]) rfl rfl rfl rfl ?_
          refine g_iload_n (pc := 50) X 4 rfl dX10_leastCuts_50 ?_
          refine g_callS (pc := 51) X (k_J6_bitCount_0f7a4 l Z le (by omega)) iM_J6_bitCount_0f7a4 mw_46_18 mw_41_17 [] [0, 1, 2] rfl (wr := [cO_rrrrrrii w0 10 w_begins w_lengths w_lefts w_rights w_leans w_leaning wn wr, cA Z w_rights 0 8 Wk, cA Z w_leans 0 8 Wm]) rfl (by decide) rfl rfl (Nat.le_of_ble_eq_true rfl) (by decide) dX10_leastCuts_51 (fun r w' hpo => ?_)
          refine exN_1 hpo fun y14 hz => anD_3 hz fun e_r e_w hf51_b_y => ?_; clear hz hpo; subst e_r; subst e_w
          refine g_as (pc' := 54) (lv' := [(5, .int (iI y10)), (4, .int (iI cu)), (3, .int (iI y9)), (2, .int (iI ls)), (1, .int (iI le)), (0, .ref w0)]) (st' := [.int (iI y14), .int (iI y12)]) (ws' := [cO_rrrrrrii w0 10 w_begins w_lengths w_lefts w_rights w_leans w_leaning wn wr, cA Z w_rights 0 8 Wk, cA Z w_leans 0 8 Wm]) rfl rfl rfl rfl ?_
          refine g_icmp_geI (pc := 54) X 61 (by decide) (inRb hf47_b_y (by decide) (by decide)) (inRb hf51_b_y (by decide) (by decide)) dX10_leastCuts_54 (fun c54 => ?_) (fun c54 => ?_)
          · refine g_iconst (pc := 61) X (iI 0) (by rfl) dX10_leastCuts_61 ?_
            refine g_istore (pc := 62) X (by decide) (lv' := [(6, .int (iI 0)), (5, .int (iI y10)), (4, .int (iI cu)), (3, .int (iI y9)), (2, .int (iI ls)), (1, .int (iI le)), (0, .ref w0)]) rfl dX10_leastCuts_62 ?_
            refine g_iload (pc := 64) X 1 rfl dX10_leastCuts_64 ?_
            refine g_iload_n (pc := 66) X 4 rfl dX10_leastCuts_66 ?_
            refine g_icmp_ltI (pc := 67) X 81 (by decide) (inRb hf40_b_y (by decide) (by decide)) (inRb b_ls (by decide) (by decide)) dX10_leastCuts_67 (fun c67 => ?_) (fun c67 => ?_)
            · refine g_iload (pc := 81) X 2 rfl dX10_leastCuts_81 ?_
              refine g_istore_n (pc := 83) X (i := 1) rfl (by decide) (lv' := [(1, .int (iI cu)), (6, .int (iI 0)), (5, .int (iI y10)), (4, .int (iI cu)), (3, .int (iI y9)), (2, .int (iI ls)), (0, .ref w0)]) rfl dX10_leastCuts_83 ?_
              refine g_iload (pc := 84) X 2 rfl dX10_leastCuts_84 ?_
              refine g_istore_n (pc := 86) X (i := 2) rfl (by decide) (lv' := [(2, .int (iI y10)), (1, .int (iI cu)), (6, .int (iI 0)), (5, .int (iI y10)), (4, .int (iI cu)), (3, .int (iI y9)), (0, .ref w0)]) rfl dX10_leastCuts_86 ?_
              refine g_iincI (pc := 87) X 4 rfl (by decide) (lv' := [(4, .int (iI (cu + 1))), (2, .int (iI y10)), (1, .int (iI cu)), (6, .int (iI 0)), (5, .int (iI y10)), (3, .int (iI y9)), (0, .ref w0)]) rfl dX10_leastCuts_87 ?_
              refine g_goto (pc := 90) X 31 (by decide) dX10_leastCuts_90 ?_
              refine g_lv (lv' := [(4, .int (iI (cu + 1))), (3, .int (iI y9)), (2, .int (iI y10)), (1, .int (iI cu)), (0, .ref w0)]) [0, 5, 1, 2, 6] rfl ?_
              exact ih cu y10 (cu + 1) (by omega) (hf40_b_y) (by omega) (by omega)
            · refine g_iload (pc := 70) X 1 rfl dX10_leastCuts_70 ?_
              refine g_iload_n (pc := 72) X 4 rfl dX10_leastCuts_72 ?_
              refine g_icmp_neI (pc := 73) X 87 (by decide) (inRb hf40_b_y (by decide) (by decide)) (inRb b_ls (by decide) (by decide)) dX10_leastCuts_73 (fun c73 => ?_) (fun c73 => ?_)
              · refine g_iincI (pc := 87) X 2 rfl (by decide) (lv' := [(4, .int (iI (cu + 1))), (6, .int (iI 0)), (5, .int (iI y10)), (3, .int (iI y9)), (2, .int (iI ls)), (1, .int (iI le)), (0, .ref w0)]) rfl dX10_leastCuts_87 ?_
                refine g_goto (pc := 90) X 31 (by decide) dX10_leastCuts_90 ?_
                refine g_lv (lv' := [(4, .int (iI (cu + 1))), (3, .int (iI y9)), (2, .int (iI ls)), (1, .int (iI le)), (0, .ref w0)]) [0, 3, 4, 5, 6] rfl ?_
                exact ih le ls (cu + 1) (b_le) (b_ls) (by omega) (by omega)
              · refine g_iload (pc := 76) X 0 rfl dX10_leastCuts_76 ?_
                refine g_if_eqI (pc := 78) X 87 (by decide) ⟨by decide, by decide⟩ dX10_leastCuts_78 (fun _ => ?_) (fun h => absurd h (by decide))
                refine g_iincI (pc := 87) X 2 rfl (by decide) (lv' := [(4, .int (iI (cu + 1))), (6, .int (iI 0)), (5, .int (iI y10)), (3, .int (iI y9)), (2, .int (iI ls)), (1, .int (iI le)), (0, .ref w0)]) rfl dX10_leastCuts_87 ?_
                refine g_goto (pc := 90) X 31 (by decide) dX10_leastCuts_90 ?_
                refine g_lv (lv' := [(4, .int (iI (cu + 1))), (3, .int (iI y9)), (2, .int (iI ls)), (1, .int (iI le)), (0, .ref w0)]) [0, 3, 4, 5, 6] rfl ?_
                exact ih le ls (cu + 1) (b_le) (b_ls) (by omega) (by omega)
          · refine g_iconst (pc := 57) X (iI 1) (by rfl) dX10_leastCuts_57 ?_
            refine g_goto (pc := 58) X 62 (by decide) dX10_leastCuts_58 ?_
            refine g_istore (pc := 62) X (by decide) (lv' := [(6, .int (iI 1)), (5, .int (iI y10)), (4, .int (iI cu)), (3, .int (iI y9)), (2, .int (iI ls)), (1, .int (iI le)), (0, .ref w0)]) rfl dX10_leastCuts_62 ?_
            refine g_iload (pc := 64) X 1 rfl dX10_leastCuts_64 ?_
            refine g_iload_n (pc := 66) X 4 rfl dX10_leastCuts_66 ?_
            refine g_icmp_ltI (pc := 67) X 81 (by decide) (inRb hf40_b_y (by decide) (by decide)) (inRb b_ls (by decide) (by decide)) dX10_leastCuts_67 (fun c67 => ?_) (fun c67 => ?_)
            · refine g_iload (pc := 81) X 2 rfl dX10_leastCuts_81 ?_
              refine g_istore_n (pc := 83) X (i := 1) rfl (by decide) (lv' := [(1, .int (iI cu)), (6, .int (iI 1)), (5, .int (iI y10)), (4, .int (iI cu)), (3, .int (iI y9)), (2, .int (iI ls)), (0, .ref w0)]) rfl dX10_leastCuts_83 ?_
              refine g_iload (pc := 84) X 2 rfl dX10_leastCuts_84 ?_
              refine g_istore_n (pc := 86) X (i := 2) rfl (by decide) (lv' := [(2, .int (iI y10)), (1, .int (iI cu)), (6, .int (iI 1)), (5, .int (iI y10)), (4, .int (iI cu)), (3, .int (iI y9)), (0, .ref w0)]) rfl dX10_leastCuts_86 ?_
              refine g_iincI (pc := 87) X 4 rfl (by decide) (lv' := [(4, .int (iI (cu + 1))), (2, .int (iI y10)), (1, .int (iI cu)), (6, .int (iI 1)), (5, .int (iI y10)), (3, .int (iI y9)), (0, .ref w0)]) rfl dX10_leastCuts_87 ?_
              refine g_goto (pc := 90) X 31 (by decide) dX10_leastCuts_90 ?_
              refine g_lv (lv' := [(4, .int (iI (cu + 1))), (3, .int (iI y9)), (2, .int (iI y10)), (1, .int (iI cu)), (0, .ref w0)]) [0, 5, 1, 2, 6] rfl ?_
              exact ih cu y10 (cu + 1) (by omega) (hf40_b_y) (by omega) (by omega)
            · refine g_iload (pc := 70) X 1 rfl dX10_leastCuts_70 ?_
              refine g_iload_n (pc := 72) X 4 rfl dX10_leastCuts_72 ?_
              refine g_icmp_neI (pc := 73) X 87 (by decide) (inRb hf40_b_y (by decide) (by decide)) (inRb b_ls (by decide) (by decide)) dX10_leastCuts_73 (fun c73 => ?_) (fun c73 => ?_)
              · refine g_iincI (pc := 87) X 2 rfl (by decide) (lv' := [(4, .int (iI (cu + 1))), (6, .int (iI 1)), (5, .int (iI y10)), (3, .int (iI y9)), (2, .int (iI ls)), (1, .int (iI le)), (0, .ref w0)]) rfl dX10_leastCuts_87 ?_
                refine g_goto (pc := 90) X 31 (by decide) dX10_leastCuts_90 ?_
                refine g_lv (lv' := [(4, .int (iI (cu + 1))), (3, .int (iI y9)), (2, .int (iI ls)), (1, .int (iI le)), (0, .ref w0)]) [0, 3, 4, 5, 6] rfl ?_
                exact ih le ls (cu + 1) (b_le) (b_ls) (by omega) (by omega)
              · refine g_iload (pc := 76) X 0 rfl dX10_leastCuts_76 ?_
                refine g_if_eqI (pc := 78) X 87 (by decide) ⟨by decide, by decide⟩ dX10_leastCuts_78 (fun h => absurd h (by decide)) (fun _ => ?_)
                refine g_iload (pc := 81) X 2 rfl dX10_leastCuts_81 ?_
                refine g_istore_n (pc := 83) X (i := 1) rfl (by decide) (lv' := [(1, .int (iI cu)), (6, .int (iI 1)), (5, .int (iI y10)), (4, .int (iI cu)), (3, .int (iI y9)), (2, .int (iI ls)), (0, .ref w0)]) rfl dX10_leastCuts_83 ?_
                refine g_iload (pc := 84) X 2 rfl dX10_leastCuts_84 ?_
                refine g_istore_n (pc := 86) X (i := 2) rfl (by decide) (lv' := [(2, .int (iI y10)), (1, .int (iI cu)), (6, .int (iI 1)), (5, .int (iI y10)), (4, .int (iI cu)), (3, .int (iI y9)), (0, .ref w0)]) rfl dX10_leastCuts_86 ?_
                refine g_iincI (pc := 87) X 4 rfl (by decide) (lv' := [(4, .int (iI (cu + 1))), (2, .int (iI y10)), (1, .int (iI cu)), (6, .int (iI 1)), (5, .int (iI y10)), (3, .int (iI y9)), (0, .ref w0)]) rfl dX10_leastCuts_87 ?_
                refine g_goto (pc := 90) X 31 (by decide) dX10_leastCuts_90 ?_
                refine g_lv (lv' := [(4, .int (iI (cu + 1))), (3, .int (iI y9)), (2, .int (iI y10)), (1, .int (iI cu)), (0, .ref w0)]) [0, 5, 1, 2, 6] rfl ?_
                exact ih cu y10 (cu + 1) (by omega) (hf40_b_y) (by omega) (by omega)
    exact loop31 _ 0 y1 1 (by omega) (hf4_b_y) (by omega) (Nat.lt_succ_self _)
