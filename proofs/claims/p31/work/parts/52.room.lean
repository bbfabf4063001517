set_option maxHeartbeats 4000000 in
set_option maxRecDepth 100000 in
theorem k_X6_isWindow (l : Launch) (Z : gZ) (r0 : Nat) (w0 : Nat) (r_doors : Nat) (r_openingWalls : Nat) (r_froms : Nat) (r_tos : Nat) (r_lowers : Nat) (r_uppers : Nat) (r_standWalls : Nat) (r_standXs : Nat) (r_standYs : Nat) (Rd : Nat → Int) (op : Int) (ro : Int) (rs : Int) (b_op : (-2147483648) ≤ op ∧ op ≤ 2147483647) (b_ro : 0 ≤ ro ∧ ro ≤ 8) (b_rs : 0 ≤ rs ∧ rs ≤ 4) (h_Rd : ∀ j, j < 8 → 0 ≤ Rd j ∧ Rd j ≤ 1) : Con l Z yX6_isWindow cX6_isWindow 2 (some .boolean) 1 22 0 0 [.ref r0, .int (iI op)] [cO_rirrrrrrirrr r0 6 w0 ro r_doors r_openingWalls r_froms r_tos r_lowers r_uppers rs r_standWalls r_standXs r_standYs, cA Z r_doors 2 8 Rd] (fun r w' => ∃ (y : Int), (r = some (.int (iI y))) ∧ (w' = [cO_rirrrrrrirrr r0 6 w0 ro r_doors r_openingWalls r_froms r_tos r_lowers r_uppers rs r_standWalls r_standXs r_standYs, cA Z r_doors 2 8 Rd]) ∧ (0 ≤ y ∧ y ≤ 1)) := by
  refine enter (by decide) (Nat.le_of_ble_eq_true rfl) ?_
  intro p e s m args below meth c A X hnm hA
  have X : Cx p s m args meth c cX6_isWindow 2 (some .boolean) RX6 Z A := X
  refine g_as (pc' := 0) (lv' := [(0, .ref r0), (1, .int (iI op))]) (st' := []) (ws' := [cO_rirrrrrrirrr r0 6 w0 ro r_doors r_openingWalls r_froms r_tos r_lowers r_uppers rs r_standWalls r_standXs r_standYs, cA Z r_doors 2 8 Rd]) rfl rfl rfl rfl ?_
  refine g_iconst (pc := 0) X (iI 0) (by rfl) dX6_isWindow_0 ?_
  refine g_iload_n (pc := 1) X 1 rfl dX6_isWindow_1 ?_
  refine g_aload_n (pc := 2) X 0 rfl dX6_isWindow_2 ?_
  refine g_get (pc := 3) X inlX6 0 rfl rfl 1 (by decide) mw_15_22 rfl dX6_isWindow_3 ?_
  refine g_iconst (pc := 6) X (iI 1) (by rfl) dX6_isWindow_6 ?_
  refine g_isubI (pc := 7) X dX6_isWindow_7 ?_
  refine g_callSN (pc := 8) X (k_X11_isFrom l Z 0 op (ro - 1) (by decide) b_op (by omega)) iM_X11_isFrom (by decide) mw_11_7 [] [0, 1] rfl (wr := [cO_rirrrrrrirrr r0 6 w0 ro r_doors r_openingWalls r_froms r_tos r_lowers r_uppers rs r_standWalls r_standXs r_standYs, cA Z r_doors 2 8 Rd]) rfl (by decide) rfl rfl (Nat.le_of_ble_eq_true rfl) (by decide) dX6_isWindow_8 (fun r w' hpo => ?_)
  obtain ⟨rfl, rfl⟩ := hpo
  refine g_as (pc' := 11) (lv' := [(0, .ref r0), (1, .int (iI op))]) (st' := [.int (iI (bI (0 ≤ op ∧ op ≤ (ro - 1))))]) (ws' := [cO_rirrrrrrirrr r0 6 w0 ro r_doors r_openingWalls r_froms r_tos r_lowers r_uppers rs r_standWalls r_standXs r_standYs, cA Z r_doors 2 8 Rd]) rfl rfl rfl rfl ?_
  refine g_if_eqB (pc := 11) X 27 (by decide) dX6_isWindow_11 (fun c11 => ?_) (fun c11 => ?_)
  · refine g_iconst (pc := 27) X (iI 0) (by rfl) dX6_isWindow_27 ?_
    exact g_zret (pc := 28) X hA (rfl) (⟨0, rfl, rfl, (by omega)⟩) (by decide) (by decide) dX6_isWindow_28
  · refine g_aload_n (pc := 14) X 0 rfl dX6_isWindow_14 ?_
    refine g_get (pc := 15) X inlX6 0 rfl rfl 2 (by decide) mw_6_12 rfl dX6_isWindow_15 ?_
    refine g_iload_n (pc := 18) X 1 rfl dX6_isWindow_18 ?_
    refine g_zaldI (pc := 19) X 1 rfl (by omega) (by omega) (Int.le_trans b_op.2 (by decide)) dX6_isWindow_19 ?_
    refine g_nameI (fun y2 ey2 => ?_)
    have by2 : 0 ≤ y2 ∧ y2 ≤ 1 := by rw [ey2]; exact h_Rd _ (by omega)
    refine g_if_neI (pc := 20) X 27 (by decide) (inRb by2 (by decide) (by decide)) dX6_isWindow_20 (fun c20 => ?_) (fun c20 => ?_)
    · refine g_iconst (pc := 27) X (iI 0) (by rfl) dX6_isWindow_27 ?_
      exact g_zret (pc := 28) X hA (rfl) (⟨0, rfl, rfl, (by omega)⟩) (by decide) (by decide) dX6_isWindow_28
    · refine g_iconst (pc := 23) X (iI 1) (by rfl) dX6_isWindow_23 ?_
      refine g_goto (pc := 24) X 28 (by decide) dX6_isWindow_24 ?_
      exact g_zret (pc := 28) X hA (rfl) (⟨1, rfl, rfl, (by omega)⟩) (by decide) (by decide) dX6_isWindow_28

set_option maxHeartbeats 4000000 in
set_option maxRecDepth 100000 in
theorem k_X6_lowerOf (l : Launch) (Z : gZ) (r0 : Nat) (w0 : Nat) (r_doors : Nat) (r_openingWalls : Nat) (r_froms : Nat) (r_tos : Nat) (r_lowers : Nat) (r_uppers : Nat) (r_standWalls : Nat) (r_standXs : Nat) (r_standYs : Nat) (Rl : Nat → Int) (op : Int) (ro : Int) (rs : Int) (b_op : (-2147483648) ≤ op ∧ op ≤ 2147483647) (b_ro : 0 ≤ ro ∧ ro ≤ 8) (b_rs : 0 ≤ rs ∧ rs ≤ 4) (h_Rl : ∀ j, j < 8 → 0 ≤ Rl j ∧ Rl j ≤ 400) : Con l Z yX6_lowerOf cX6_lowerOf 2 (some .int) 1 22 0 0 [.ref r0, .int (iI op)] [cO_rirrrrrrirrr r0 6 w0 ro r_doors r_openingWalls r_froms r_tos r_lowers r_uppers rs r_standWalls r_standXs r_standYs, cA Z r_lowers 0 8 Rl] (fun r w' => ∃ (y : Int), (r = some (.int (iI y))) ∧ (w' = [cO_rirrrrrrirrr r0 6 w0 ro r_doors r_openingWalls r_froms r_tos r_lowers r_uppers rs r_standWalls r_standXs r_standYs, cA Z r_lowers 0 8 Rl]) ∧ (0 ≤ y ∧ y ≤ 400)) := by
  refine enter (by decide) (Nat.le_of_ble_eq_true rfl) ?_
  intro p e s m args below meth c A X hnm hA
  have X : Cx p s m args meth c cX6_lowerOf 2 (some .int) RX6 Z A := X
  refine g_as (pc' := 0) (lv' := [(0, .ref r0), (1, .int (iI op))]) (st' := []) (ws' := [cO_rirrrrrrirrr r0 6 w0 ro r_doors r_openingWalls r_froms r_tos r_lowers r_uppers rs r_standWalls r_standXs r_standYs, cA Z r_lowers 0 8 Rl]) rfl rfl rfl rfl ?_
  refine g_iconst (pc := 0) X (iI 0) (by rfl) dX6_lowerOf_0 ?_
  refine g_iload_n (pc := 1) X 1 rfl dX6_lowerOf_1 ?_
  refine g_aload_n (pc := 2) X 0 rfl dX6_lowerOf_2 ?_
  refine g_get (pc := 3) X inlX6 0 rfl rfl 1 (by decide) mw_15_22 rfl dX6_lowerOf_3 ?_
  refine g_iconst (pc := 6) X (iI 1) (by rfl) dX6_lowerOf_6 ?_
  refine g_isubI (pc := 7) X dX6_lowerOf_7 ?_
  refine g_callSN (pc := 8) X (k_X11_isFrom l Z 0 op (ro - 1) (by decide) b_op (by omega)) iM_X11_isFrom (by decide) mw_11_7 [] [0, 1] rfl (wr := [cO_rirrrrrrirrr r0 6 w0 ro r_doors r_openingWalls r_froms r_tos r_lowers r_uppers rs r_standWalls r_standXs r_standYs, cA Z r_lowers 0 8 Rl]) rfl (by decide) rfl rfl (Nat.le_of_ble_eq_true rfl) (by decide) dX6_lowerOf_8 (fun r w' hpo => ?_)
  obtain ⟨rfl, rfl⟩ := hpo
  refine g_as (pc' := 11) (lv' := [(0, .ref r0), (1, .int (iI op))]) (st' := [.int (iI (bI (0 ≤ op ∧ op ≤ (ro - 1))))]) (ws' := [cO_rirrrrrrirrr r0 6 w0 ro r_doors r_openingWalls r_froms r_tos r_lowers r_uppers rs r_standWalls r_standXs r_standYs, cA Z r_lowers 0 8 Rl]) rfl rfl rfl rfl ?_
  refine g_if_eqB (pc := 11) X 23 (by decide) dX6_lowerOf_11 (fun c11 => ?_) (fun c11 => ?_)
  · refine g_iconst (pc := 23) X (iI 0) (by rfl) dX6_lowerOf_23 ?_
    exact g_iret (pc := 24) X hA (⟨0, rfl, rfl, (by omega)⟩) (by decide) (by decide) dX6_lowerOf_24
  · refine g_aload_n (pc := 14) X 0 rfl dX6_lowerOf_14 ?_
    refine g_get (pc := 15) X inlX6 0 rfl rfl 6 (by decide) mw_6_16 rfl dX6_lowerOf_15 ?_
    refine g_iload_n (pc := 18) X 1 rfl dX6_lowerOf_18 ?_
    refine g_ialdI (pc := 19) X 1 rfl (by omega) (by omega) (Int.le_trans b_op.2 (by decide)) dX6_lowerOf_19 ?_
    refine g_nameI (fun y2 ey2 => ?_)
    have by2 : 0 ≤ y2 ∧ y2 ≤ 400 := by rw [ey2]; exact h_Rl _ (by omega)
    refine g_goto (pc := 20) X 24 (by decide) dX6_lowerOf_20 ?_
    exact g_iret (pc := 24) X hA (⟨y2, rfl, rfl, (by2)⟩) (by decide) (by decide) dX6_lowerOf_24

set_option maxHeartbeats 4000000 in
set_option maxRecDepth 100000 in
theorem k_X6_upperOf (l : Launch) (Z : gZ) (r0 : Nat) (w0 : Nat) (r_doors : Nat) (r_openingWalls : Nat) (r_froms : Nat) (r_tos : Nat) (r_lowers : Nat) (r_uppers : Nat) (r_standWalls : Nat) (r_standXs : Nat) (r_standYs : Nat) (Ru : Nat → Int) (op : Int) (ro : Int) (rs : Int) (b_op : (-2147483648) ≤ op ∧ op ≤ 2147483647) (b_ro : 0 ≤ ro ∧ ro ≤ 8) (b_rs : 0 ≤ rs ∧ rs ≤ 4) (h_Ru : ∀ j, j < 8 → 0 ≤ Ru j ∧ Ru j ≤ 400) : Con l Z yX6_upperOf cX6_upperOf 2 (some .int) 1 22 0 0 [.ref r0, .int (iI op)] [cO_rirrrrrrirrr r0 6 w0 ro r_doors r_openingWalls r_froms r_tos r_lowers r_uppers rs r_standWalls r_standXs r_standYs, cA Z r_uppers 0 8 Ru] (fun r w' => ∃ (y : Int), (r = some (.int (iI y))) ∧ (w' = [cO_rirrrrrrirrr r0 6 w0 ro r_doors r_openingWalls r_froms r_tos r_lowers r_uppers rs r_standWalls r_standXs r_standYs, cA Z r_uppers 0 8 Ru]) ∧ (0 ≤ y ∧ y ≤ 400)) := by
  refine enter (by decide) (Nat.le_of_ble_eq_true rfl) ?_
  intro p e s m args below meth c A X hnm hA
  have X : Cx p s m args meth c cX6_upperOf 2 (some .int) RX6 Z A := X
  refine g_as (pc' := 0) (lv' := [(0, .ref r0), (1, .int (iI op))]) (st' := []) (ws' := [cO_rirrrrrrirrr r0 6 w0 ro r_doors r_openingWalls r_froms r_tos r_lowers r_uppers rs r_standWalls r_standXs r_standYs, cA Z r_uppers 0 8 Ru]) rfl rfl rfl rfl ?_
  refine g_iconst (pc := 0) X (iI 0) (by rfl) dX6_upperOf_0 ?_
  refine g_iload_n (pc := 1) X 1 rfl dX6_upperOf_1 ?_
  refine g_aload_n (pc := 2) X 0 rfl dX6_upperOf_2 ?_
  refine g_get (pc := 3) X inlX6 0 rfl rfl 1 (by decide) mw_15_22 rfl dX6_upperOf_3 ?_
  refine g_iconst (pc := 6) X (iI 1) (by rfl) dX6_upperOf_6 ?_
  refine g_isubI (pc := 7) X dX6_upperOf_7 ?_
  refine g_callSN (pc := 8) X (k_X11_isFrom l Z 0 op (ro - 1) (by decide) b_op (by omega)) iM_X11_isFrom (by decide) mw_11_7 [] [0, 1] rfl (wr := [cO_rirrrrrrirrr r0 6 w0 ro r_doors r_openingWalls r_froms r_tos r_lowers r_uppers rs r_standWalls r_standXs r_standYs, cA Z r_uppers 0 8 Ru]) rfl (by decide) rfl rfl (Nat.le_of_ble_eq_true rfl) (by decide) dX6_upperOf_8 (fun r w' hpo => ?_)
  obtain ⟨rfl, rfl⟩ := hpo
  refine g_as (pc' := 11) (lv' := [(0, .ref r0), (1, .int (iI op))]) (st' := [.int (iI (bI (0 ≤ op ∧ op ≤ (ro - 1))))]) (ws' := [cO_rirrrrrrirrr r0 6 w0 ro r_doors r_openingWalls r_froms r_tos r_lowers r_uppers rs r_standWalls r_standXs r_standYs, cA Z r_uppers 0 8 Ru]) rfl rfl rfl rfl ?_
  refine g_if_eqB (pc := 11) X 23 (by decide) dX6_upperOf_11 (fun c11 => ?_) (fun c11 => ?_)
  · refine g_iconst (pc := 23) X (iI 0) (by rfl) dX6_upperOf_23 ?_
    exact g_iret (pc := 24) X hA (⟨0, rfl, rfl, (by omega)⟩) (by decide) (by decide) dX6_upperOf_24
  · refine g_aload_n (pc := 14) X 0 rfl dX6_upperOf_14 ?_
    refine g_get (pc := 15) X inlX6 0 rfl rfl 7 (by decide) mw_6_17 rfl dX6_upperOf_15 ?_
    refine g_iload_n (pc := 18) X 1 rfl dX6_upperOf_18 ?_
    refine g_ialdI (pc := 19) X 1 rfl (by omega) (by omega) (Int.le_trans b_op.2 (by decide)) dX6_upperOf_19 ?_
    refine g_nameI (fun y2 ey2 => ?_)
    have by2 : 0 ≤ y2 ∧ y2 ≤ 400 := by rw [ey2]; exact h_Ru _ (by omega)
    refine g_goto (pc := 20) X 24 (by decide) dX6_upperOf_20 ?_
    exact g_iret (pc := 24) X hA (⟨y2, rfl, rfl, (by2)⟩) (by decide) (by decide) dX6_upperOf_24

set_option maxHeartbeats 4000000 in
set_option maxRecDepth 100000 in
theorem k_X6_lies (l : Launch) (Z : gZ) (r0 : Nat) (w0 : Nat) (r_doors : Nat) (r_openingWalls : Nat) (r_froms : Nat) (r_tos : Nat) (r_lowers : Nat) (r_uppers : Nat) (r_standWalls : Nat) (r_standXs : Nat) (r_standYs : Nat) (Rw : Nat → Int) (Rf : Nat → Int) (Rt : Nat → Int) (wl : Int) (px : Int) (op : Int) (ro : Int) (rs : Int) (b_wl : (-2147483648) ≤ wl ∧ wl ≤ 2147483647) (b_px : (-2147483648) ≤ px ∧ px ≤ 2147483647) (b_op : 0 ≤ op ∧ op ≤ 7) (b_ro : 0 ≤ ro ∧ ro ≤ 8) (b_rs : 0 ≤ rs ∧ rs ≤ 4) (h_Rw : ∀ j, j < 8 → 0 ≤ Rw j ∧ Rw j ≤ 7) (h_Rf : ∀ j, j < 8 → 0 ≤ Rf j ∧ Rf j ≤ 600) (h_Rt : ∀ j, j < 8 → 0 ≤ Rt j ∧ Rt j ≤ 600) : Con l Z yX6_lies cX6_lies 4 (some .boolean) 1 22 0 0 [.ref r0, .int (iI wl), .int (iI px), .int (iI op)] [cO_rirrrrrrirrr r0 6 w0 ro r_doors r_openingWalls r_froms r_tos r_lowers r_uppers rs r_standWalls r_standXs r_standYs, cA Z r_openingWalls 0 8 Rw, cA Z r_froms 0 8 Rf, cA Z r_tos 0 8 Rt] (fun r w' => ∃ (y : Int), (r = some (.int (iI y))) ∧ (w' = [cO_rirrrrrrirrr r0 6 w0 ro r_doors r_openingWalls r_froms r_tos r_lowers r_uppers rs r_standWalls r_standXs r_standYs, cA Z r_openingWalls 0 8 Rw, cA Z r_froms 0 8 Rf, cA Z r_tos 0 8 Rt]) ∧ (0 ≤ y ∧ y ≤ 1)) := by
  refine enter (by decide) (Nat.le_of_ble_eq_true rfl) ?_
  intro p e s m args below meth c A X hnm hA
  have X : Cx p s m args meth c cX6_lies 4 (some .boolean) RX6 Z A := X
  refine g_as (pc' := 0) (lv' := [(0, .ref r0), (1, .int (iI wl)), (2, .int (iI px)), (3, .int (iI op))]) (st' := []) (ws' := [cO_rirrrrrrirrr r0 6 w0 ro r_doors r_openingWalls r_froms r_tos r_lowers r_uppers rs r_standWalls r_standXs r_standYs, cA Z r_openingWalls 0 8 Rw, cA Z r_froms 0 8 Rf, cA Z r_tos 0 8 Rt]) rfl rfl rfl rfl ?_
  refine g_aload_n (pc := 0) X 0 rfl dX6_lies_0 ?_
  refine g_get (pc := 1) X inlX6 0 rfl rfl 3 (by decide) mw_6_13 rfl dX6_lies_1 ?_
  refine g_iload_n (pc := 4) X 3 rfl dX6_lies_4 ?_
  refine g_ialdI (pc := 5) X 1 rfl (b_op.1) (Int.lt_of_le_of_lt b_op.2 (by decide)) (Int.le_trans b_op.2 (by decide)) dX6_lies_5 ?_
  refine g_nameI (fun y1 ey1 => ?_)
  have by1 : 0 ≤ y1 ∧ y1 ≤ 7 := by rw [ey1]; exact h_Rw _ (by (first | (clear b_wl b_op b_ro b_rs; omega) | omega))
  refine g_iload_n (pc := 6) X 1 rfl dX6_lies_6 ?_
  refine g_icmp_neI (pc := 7) X 33 (by decide) (inRb by1 (by decide) (by decide)) b_wl dX6_lies_7 (fun c7 => ?_) (fun c7 => ?_)
  · refine g_iconst (pc := 33) X (iI 0) (by rfl) dX6_lies_33 ?_
    exact g_zret (pc := 34) X hA (rfl) (⟨0, rfl, rfl, (by (first | (clear b_wl b_op b_ro b_rs; omega) | omega))⟩) (by decide) (by decide) dX6_lies_34
  · refine g_aload_n (pc := 10) X 0 rfl dX6_lies_10 ?_
    refine g_get (pc := 11) X inlX6 0 rfl rfl 4 (by decide) mw_6_14 rfl dX6_lies_11 ?_
    refine g_iload_n (pc := 14) X 3 rfl dX6_lies_14 ?_
    refine g_ialdI (pc := 15) X 2 rfl (b_op.1) (Int.lt_of_le_of_lt b_op.2 (by decide)) (Int.le_trans b_op.2 (by decide)) dX6_lies_15 ?_
    refine g_nameI (fun y2 ey2 => ?_)
    have by2 : 0 ≤ y2 ∧ y2 ≤ 600 := by rw [ey2]; exact h_Rf _ (by (first | (clear b_wl b_op b_ro b_rs; omega) | omega))
    refine g_iload_n (pc := 16) X 2 rfl dX6_lies_16 ?_
    refine g_aload_n (pc := 17) X 0 rfl dX6_lies_17 ?_
    refine g_get (pc := 18) X inlX6 0 rfl rfl 5 (by decide) mw_6_15 rfl dX6_lies_18 ?_
    refine g_iload_n (pc := 21) X 3 rfl dX6_lies_21 ?_
    refine g_ialdI (pc := 22) X 3 rfl (b_op.1) (Int.lt_of_le_of_lt b_op.2 (by decide)) (Int.le_trans b_op.2 (by decide)) dX6_lies_22 ?_
    refine g_nameI (fun y3 ey3 => ?_)
    have by3 : 0 ≤ y3 ∧ y3 ≤ 600 := by rw [ey3]; exact h_Rt _ (by (first | (clear b_wl b_op b_ro b_rs; omega) | omega))
    refine g_callSN (pc := 23) X (k_X11_isFrom l Z y2 px y3 (by (first | (clear b_wl b_op b_ro b_rs; omega) | omega)) b_px (by (first | (clear b_wl b_op b_ro b_rs; omega) | omega))) iM_X11_isFrom (by decide) mw_11_7 [] [0, 1, 2, 3] rfl (wr := [cO_rirrrrrrirrr r0 6 w0 ro r_doors r_openingWalls r_froms r_tos r_lowers r_uppers rs r_standWalls r_standXs r_standYs, cA Z r_openingWalls 0 8 Rw, cA Z r_froms 0 8 Rf, cA Z r_tos 0 8 Rt]) rfl (by decide) rfl rfl (Nat.le_of_ble_eq_true rfl) (by decide) dX6_lies_23 (fun r w' hpo => ?_)
    obtain ⟨rfl, rfl⟩ := hpo
    refine g_as (pc' := 26) (lv' := [(0, .ref r0), (1, .int (iI wl)), (2, .int (iI px)), (3, .int (iI op))]) (st' := [.int (iI (bI (y2 ≤ px ∧ px ≤ y3)))]) (ws' := [cO_rirrrrrrirrr r0 6 w0 ro r_doors r_openingWalls r_froms r_tos r_lowers r_uppers rs r_standWalls r_standXs r_standYs, cA Z r_openingWalls 0 8 Rw, cA Z r_froms 0 8 Rf, cA Z r_tos 0 8 Rt]) rfl rfl rfl rfl ?_
    refine g_if_eqB (pc := 26) X 33 (by decide) dX6_lies_26 (fun c26 => ?_) (fun c26 => ?_)
    · refine g_iconst (pc := 33) X (iI 0) (by rfl) dX6_lies_33 ?_
      exact g_zret (pc := 34) X hA (rfl) (⟨0, rfl, rfl, (by (first | (clear b_wl b_op b_ro b_rs; omega) | omega))⟩) (by decide) (by decide) dX6_lies_34
    · refine g_iconst (pc := 29) X (iI 1) (by rfl) dX6_lies_29 ?_
      refine g_goto (pc := 30) X 34 (by decide) dX6_lies_30 ?_
      exact g_zret (pc := 34) X hA (rfl) (⟨1, rfl, rfl, (by (first | (clear b_wl b_op b_ro b_rs; omega) | omega))⟩) (by decide) (by decide) dX6_lies_34

set_option maxHeartbeats 4000000 in
set_option maxRecDepth 100000 in
theorem k_X6_openingWith (l : Launch) (Z : gZ) (r0 : Nat) (w0 : Nat) (r_doors : Nat) (r_openingWalls : Nat) (r_froms : Nat) (r_tos : Nat) (r_lowers : Nat) (r_uppers : Nat) (r_standWalls : Nat) (r_standXs : Nat) (r_standYs : Nat) (Rw : Nat → Int) (Rf : Nat → Int) (Rt : Nat → Int) (wl : Int) (px : Int) (qx : Int) (ro : Int) (rs : Int) (b_wl : (-2147483648) ≤ wl ∧ wl ≤ 2147483647) (b_px : (-2147483648) ≤ px ∧ px ≤ 2147483647) (b_qx : (-2147483648) ≤ qx ∧ qx ≤ 2147483647) (b_ro : 0 ≤ ro ∧ ro ≤ 8) (b_rs : 0 ≤ rs ∧ rs ≤ 4) (h_Rw : ∀ j, j < 8 → 0 ≤ Rw j ∧ Rw j ≤ 7) (h_Rf : ∀ j, j < 8 → 0 ≤ Rf j ∧ Rf j ≤ 600) (h_Rt : ∀ j, j < 8 → 0 ≤ Rt j ∧ Rt j ≤ 600) : Con l Z yX6_openingWith cX6_openingWith 5 (some .int) 2 45 0 0 [.ref r0, .int (iI wl), .int (iI px), .int (iI qx)] [cO_rirrrrrrirrr r0 6 w0 ro r_doors r_openingWalls r_froms r_tos r_lowers r_uppers rs r_standWalls r_standXs r_standYs, cA Z r_openingWalls 0 8 Rw, cA Z r_froms 0 8 Rf, cA Z r_tos 0 8 Rt] (fun r w' => ∃ (y : Int), (r = some (.int (iI y))) ∧ (w' = [cO_rirrrrrrirrr r0 6 w0 ro r_doors r_openingWalls r_froms r_tos r_lowers r_uppers rs r_standWalls r_standXs r_standYs, cA Z r_openingWalls 0 8 Rw, cA Z r_froms 0 8 Rf, cA Z r_tos 0 8 Rt]) ∧ ((-1) ≤ y ∧ y ≤ 7)) := by
  refine enter (by decide) (Nat.le_of_ble_eq_true rfl) ?_
  intro p e s m args below meth c A X hnm hA
  have X : Cx p s m args meth c cX6_openingWith 5 (some .int) RX6 Z A := X
  refine g_as (pc' := 0) (lv' := [(0, .ref r0), (1, .int (iI wl)), (2, .int (iI px)), (3, .int (iI qx))]) (st' := []) (ws' := [cO_rirrrrrrirrr r0 6 w0 ro r_doors r_openingWalls r_froms r_tos r_lowers r_uppers rs r_standWalls r_standXs r_standYs, cA Z r_openingWalls 0 8 Rw, cA Z r_froms 0 8 Rf, cA Z r_tos 0 8 Rt]) rfl rfl rfl rfl ?_
  refine g_iconst (pc := 0) X (iI 0) (by rfl) dX6_openingWith_0 ?_
  refine g_istore (pc := 1) X (by decide) (lv' := [(4, .int (iI 0)), (0, .ref r0), (1, .int (iI wl)), (2, .int (iI px)), (3, .int (iI qx))]) rfl dX6_openingWith_1 ?_
  have loop3 : ∀ (fuel : Nat) (i : Int), (0 ≤ i ∧ i ≤ 9) → (9 - i).toNat < fuel → Gs p l e ({ frames := 2, cells := 0, slots := 0, locals := 45 } : Room) s m args below meth c (MQ below (gPost Z [cO_rirrrrrrirrr r0 6 w0 ro r_doors r_openingWalls r_froms r_tos r_lowers r_uppers rs r_standWalls r_standXs r_standYs, cA Z r_openingWalls 0 8 Rw, cA Z r_froms 0 8 Rf, cA Z r_tos 0 8 Rt] s.heap.size (fun r w' => ∃ (y : Int), (r = some (.int (iI y))) ∧ (w' = [cO_rirrrrrrirrr r0 6 w0 ro r_doors r_openingWalls r_froms r_tos r_lowers r_uppers rs r_standWalls r_standXs r_standYs, cA Z r_openingWalls 0 8 Rw, cA Z r_froms 0 8 Rf, cA Z r_tos 0 8 Rt]) ∧ ((-1) ≤ y ∧ y ≤ 7))) args s 0 0 (va_A [cO_rirrrrrrirrr r0 6 w0 ro r_doors r_openingWalls r_froms r_tos r_lowers r_uppers rs r_standWalls r_standXs r_standYs, cA Z r_openingWalls 0 8 Rw, cA Z r_froms 0 8 Rf, cA Z r_tos 0 8 Rt] s.heap.size)) Z A 5 0 0 3 [(4, .int (iI i)), (0, .ref r0), (1, .int (iI wl)), (2, .int (iI px)), (3, .int (iI qx))] [] [cO_rirrrrrrirrr r0 6 w0 ro r_doors r_openingWalls r_froms r_tos r_lowers r_uppers rs r_standWalls r_standXs r_standYs, cA Z r_openingWalls 0 8 Rw, cA Z r_froms 0 8 Rf, cA Z r_tos 0 8 Rt] := by
    intro fuel
    induction fuel with
    | zero => intro i _ hm; exact absurd hm (Nat.not_lt_zero _)
    | succ fuel ih =>
      intro i b_i hm
      refine g_iload (pc := 3) X 0 rfl dX6_openingWith_3 ?_
      refine g_aload_n (pc := 5) X 1 rfl dX6_openingWith_5 ?_
      refine g_get (pc := 6) X inlX6 0 rfl rfl 1 (by decide) mw_15_22 rfl dX6_openingWith_6 ?_
      refine g_icmp_geI (pc := 9) X 43 (by decide) (inRb b_i (by decide) (by decide)) (inRb b_ro (by decide) (by decide)) dX6_openingWith_9 (fun c9 => ?_) (fun c9 => ?_)
      · refine g_iconst (pc := 43) X (iI (-1)) (by rfl) dX6_openingWith_43 ?_
        exact g_iret (pc := 44) X hA (⟨(-1), rfl, rfl, (by (first | (clear b_wl b_px b_qx b_ro b_rs; omega) | omega))⟩) (by decide) (by decide) dX6_openingWith_44
      · refine g_aload_n (pc := 12) X 1 rfl dX6_openingWith_12 ?_
        refine g_iload_n (pc := 13) X 2 rfl dX6_openingWith_13 ?_
        refine g_iload_n (pc := 14) X 3 rfl dX6_openingWith_14 ?_
        refine g_iload (pc := 15) X 0 rfl dX6_openingWith_15 ?_
        refine g_callV (pc := 17) X (k_X6_lies l Z r0 w0 r_doors r_openingWalls r_froms r_tos r_lowers r_uppers r_standWalls r_standXs r_standYs Rw Rf Rt wl px i ro rs b_wl b_px (by (first | (clear b_wl b_px b_qx b_ro b_rs; omega) | omega)) b_ro b_rs (h_Rw) (h_Rf) (h_Rt)) iM_X6_lies mw_26_10 mw_26_11 mw_26_12 0 rfl rfl [0, 1, 2, 3] [] rfl (wr := []) rfl (by decide) rfl rfl (Nat.le_of_ble_eq_true rfl) (by decide) dX6_openingWith_17 (fun r w' hpo => ?_)
        refine exN_1 hpo fun y1 hz => anD_3 hz fun e_r e_w hf17_b_y => ?_; clear hz hpo; subst e_r; subst e_w
        refine g_as (pc' := 20) (lv' := [(4, .int (iI i)), (0, .ref r0), (1, .int (iI wl)), (2, .int (iI px)), (3, .int (iI qx))]) (st' := [.int (iI y1)]) (ws' := [cO_rirrrrrrirrr r0 6 w0 ro r_doors r_openingWalls r_froms r_tos r_lowers r_uppers rs r_standWalls r_standXs r_standYs, cA Z r_openingWalls 0 8 Rw, cA Z r_froms 0 8 Rf, cA Z r_tos 0 8 Rt]) rfl rfl rfl rfl ?_
        refine g_if_eqI (pc := 20) X 37 (by decide) (inRb hf17_b_y (by decide) (by decide)) dX6_openingWith_20 (fun c20 => ?_) (fun c20 => ?_)
        · refine g_iincI (pc := 37) X 0 rfl (by decide) (lv' := [(4, .int (iI (i + 1))), (0, .ref r0), (1, .int (iI wl)), (2, .int (iI px)), (3, .int (iI qx))]) rfl dX6_openingWith_37 ?_
          refine g_goto (pc := 40) X 3 (by decide) dX6_openingWith_40 ?_
          exact ih (i + 1) (by (first | (clear b_wl b_px b_qx b_ro b_rs; omega) | omega)) (by (first | (clear b_wl b_px b_qx b_ro b_rs; omega) | omega))
        · refine g_aload_n (pc := 23) X 1 rfl dX6_openingWith_23 ?_
          refine g_iload_n (pc := 24) X 2 rfl dX6_openingWith_24 ?_
          refine g_iload_n (pc := 25) X 4 rfl dX6_openingWith_25 ?_
          refine g_iload (pc := 26) X 0 rfl dX6_openingWith_26 ?_
          refine g_callV (pc := 28) X (k_X6_lies l Z r0 w0 r_doors r_openingWalls r_froms r_tos r_lowers r_uppers r_standWalls r_standXs r_standYs Rw Rf Rt wl qx i ro rs b_wl b_qx (by (first | (clear b_wl b_px b_qx b_ro b_rs; omega) | omega)) b_ro b_rs (h_Rw) (h_Rf) (h_Rt)) iM_X6_lies mw_26_10 mw_26_11 mw_26_12 0 rfl rfl [0, 1, 2, 3] [] rfl (wr := []) rfl (by decide) rfl rfl (Nat.le_of_ble_eq_true rfl) (by decide) dX6_openingWith_28 (fun r w' hpo => ?_)
          refine exN_1 hpo fun y3 hz => anD_3 hz fun e_r e_w hf28_b_y => ?_; clear hz hpo; subst e_r; subst e_w
          refine g_as (pc' := 31) (lv' := [(4, .int (iI i)), (0, .ref r0), (1, .int (iI wl)), (2, .int (iI px)), (3, .int (iI qx))]) (st' := [.int (iI y3)]) (ws' := [cO_rirrrrrrirrr r0 6 w0 ro r_doors r_openingWalls r_froms r_tos r_lowers r_uppers rs r_standWalls r_standXs r_standYs, cA Z r_openingWalls 0 8 Rw, cA Z r_froms 0 8 Rf, cA Z r_tos 0 8 Rt]) rfl rfl rfl rfl ?_
          refine g_if_eqI (pc := 31) X 37 (by decide) (inRb hf28_b_y (by decide) (by decide)) dX6_openingWith_31 (fun c31 => ?_) (fun c31 => ?_)
          · refine g_iincI (pc := 37) X 0 rfl (by decide) (lv' := [(4, .int (iI (i + 1))), (0, .ref r0), (1, .int (iI wl)), (2, .int (iI px)), (3, .int (iI qx))]) rfl dX6_openingWith_37 ?_
            refine g_goto (pc := 40) X 3 (by decide) dX6_openingWith_40 ?_
            exact ih (i + 1) (by (first | (clear b_wl b_px b_qx b_ro b_rs; omega) | omega)) (by (first | (clear b_wl b_px b_qx b_ro b_rs; omega) | omega))
          · refine g_iload (pc := 34) X 0 rfl dX6_openingWith_34 ?_
            exact g_iret (pc := 36) X hA (⟨i, rfl, rfl, (by (first | (clear b_wl b_px b_qx b_ro b_rs; omega) | omega))⟩) (by decide) (by decide) dX6_openingWith_36
  exact loop3 _ 0 (by (first | (clear b_wl b_px b_qx b_ro b_rs; omega) | omega)) (Nat.lt_succ_self _)

set_option maxHeartbeats 4000000 in
set_option maxRecDepth 100000 in
theorem k_X6_opensAt (l : Launch) (Z : gZ) (r0 : Nat) (w0 : Nat) (r_doors : Nat) (r_openingWalls : Nat) (r_froms : Nat) (r_tos : Nat) (r_lowers : Nat) (r_uppers : Nat) (r_standWalls : Nat) (r_standXs : Nat) (r_standYs : Nat) (Rw : Nat → Int) (Rf : Nat → Int) (Rt : Nat → Int) (Rl : Nat → Int) (Ru : Nat → Int) (wl : Int) (px : Int) (lo : Int) (up : Int) (ro : Int) (rs : Int) (b_wl : (-2147483648) ≤ wl ∧ wl ≤ 2147483647) (b_px : (-2147483648) ≤ px ∧ px ≤ 2147483647) (b_lo : (-2147483648) ≤ lo ∧ lo ≤ 2147483647) (b_up : (-2147483648) ≤ up ∧ up ≤ 2147483647) (b_ro : 0 ≤ ro ∧ ro ≤ 8) (b_rs : 0 ≤ rs ∧ rs ≤ 4) (h_Rw : ∀ j, j < 8 → 0 ≤ Rw j ∧ Rw j ≤ 7) (h_Rf : ∀ j, j < 8 → 0 ≤ Rf j ∧ Rf j ≤ 600) (h_Rt : ∀ j, j < 8 → 0 ≤ Rt j ∧ Rt j ≤ 600) (h_Rl : ∀ j, j < 8 → 0 ≤ Rl j ∧ Rl j ≤ 400) (h_Ru : ∀ j, j < 8 → 0 ≤ Ru j ∧ Ru j ≤ 400) : Con l Z yX6_opensAt cX6_opensAt 6 (some .boolean) 2 45 0 0 [.ref r0, .int (iI wl), .int (iI px), .int (iI lo), .int (iI up)] [cO_rirrrrrrirrr r0 6 w0 ro r_doors r_openingWalls r_froms r_tos r_lowers r_uppers rs r_standWalls r_standXs r_standYs, cA Z r_openingWalls 0 8 Rw, cA Z r_froms 0 8 Rf, cA Z r_tos 0 8 Rt, cA Z r_lowers 0 8 Rl, cA Z r_uppers 0 8 Ru] (fun r w' => ∃ (y : Int), (r = some (.int (iI y))) ∧ (w' = [cO_rirrrrrrirrr r0 6 w0 ro r_doors r_openingWalls r_froms r_tos r_lowers r_uppers rs r_standWalls r_standXs r_standYs, cA Z r_openingWalls 0 8 Rw, cA Z r_froms 0 8 Rf, cA Z r_tos 0 8 Rt, cA Z r_lowers 0 8 Rl, cA Z r_uppers 0 8 Ru]) ∧ (0 ≤ y ∧ y ≤ 1)) := by
  refine enter (by decide) (Nat.le_of_ble_eq_true rfl) ?_
  intro p e s m args below meth c A X hnm hA
  have X : Cx p s m args meth c cX6_opensAt 6 (some .boolean) RX6 Z A := X
  refine g_as (pc' := 0) (lv' := [(0, .ref r0), (1, .int (iI wl)), (2, .int (iI px)), (3, .int (iI lo)), (4, .int (iI up))]) (st' := []) (ws' := [cO_rirrrrrrirrr r0 6 w0 ro r_doors r_openingWalls r_froms r_tos r_lowers r_uppers rs r_standWalls r_standXs r_standYs, cA Z r_openingWalls 0 8 Rw, cA Z r_froms 0 8 Rf, cA Z r_tos 0 8 Rt, cA Z r_lowers 0 8 Rl, cA Z r_uppers 0 8 Ru]) rfl rfl rfl rfl ?_
  refine g_iconst (pc := 0) X (iI 0) (by rfl) dX6_opensAt_0 ?_
  refine g_istore (pc := 1) X (by decide) (lv' := [(5, .int (iI 0)), (0, .ref r0), (1, .int (iI wl)), (2, .int (iI px)), (3, .int (iI lo)), (4, .int (iI up))]) rfl dX6_opensAt_1 ?_
  have loop3 : ∀ (fuel : Nat) (i : Int), (0 ≤ i ∧ i ≤ 9) → (9 - i).toNat < fuel → Gs p l e ({ frames := 2, cells := 0, slots := 0, locals := 45 } : Room) s m args below meth c (MQ below (gPost Z [cO_rirrrrrrirrr r0 6 w0 ro r_doors r_openingWalls r_froms r_tos r_lowers r_uppers rs r_standWalls r_standXs r_standYs, cA Z r_openingWalls 0 8 Rw, cA Z r_froms 0 8 Rf, cA Z r_tos 0 8 Rt, cA Z r_lowers 0 8 Rl, cA Z r_uppers 0 8 Ru] s.heap.size (fun r w' => ∃ (y : Int), (r = some (.int (iI y))) ∧ (w' = [cO_rirrrrrrirrr r0 6 w0 ro r_doors r_openingWalls r_froms r_tos r_lowers r_uppers rs r_standWalls r_standXs r_standYs, cA Z r_openingWalls 0 8 Rw, cA Z r_froms 0 8 Rf, cA Z r_tos 0 8 Rt, cA Z r_lowers 0 8 Rl, cA Z r_uppers 0 8 Ru]) ∧ (0 ≤ y ∧ y ≤ 1))) args s 0 0 (va_A [cO_rirrrrrrirrr r0 6 w0 ro r_doors r_openingWalls r_froms r_tos r_lowers r_uppers rs r_standWalls r_standXs r_standYs, cA Z r_openingWalls 0 8 Rw, cA Z r_froms 0 8 Rf, cA Z r_tos 0 8 Rt, cA Z r_lowers 0 8 Rl, cA Z r_uppers 0 8 Ru] s.heap.size)) Z A 6 0 0 3 [(5, .int (iI i)), (0, .ref r0), (1, .int (iI wl)), (2, .int (iI px)), (3, .int (iI lo)), (4, .int (iI up))] [] [cO_rirrrrrrirrr r0 6 w0 ro r_doors r_openingWalls r_froms r_tos r_lowers r_uppers rs r_standWalls r_standXs r_standYs, cA Z r_openingWalls 0 8 Rw, cA Z r_froms 0 8 Rf, cA Z r_tos 0 8 Rt, cA Z r_lowers 0 8 Rl, cA Z r_uppers 0 8 Ru] := by
    intro fuel
    induction fuel with
    | zero => intro i _ hm; exact absurd hm (Nat.not_lt_zero _)
    | succ fuel ih =>
      intro i b_i hm
      refine g_iload (pc := 3) X 0 rfl dX6_opensAt_3 ?_
      refine g_aload_n (pc := 5) X 1 rfl dX6_opensAt_5 ?_
      refine g_get (pc := 6) X inlX6 0 rfl rfl 1 (by decide) mw_15_22 rfl dX6_opensAt_6 ?_
      refine g_icmp_geI (pc := 9) X 54 (by decide) (inRb b_i (by decide) (by decide)) (inRb b_ro (by decide) (by decide)) dX6_opensAt_9 (fun c9 => ?_) (fun c9 => ?_)
      · refine g_iconst (pc := 54) X (iI 0) (by rfl) dX6_opensAt_54 ?_
        exact g_zret (pc := 55) X hA (rfl) (⟨0, rfl, rfl, (by (first | (clear b_wl b_px b_lo b_up b_ro b_rs; omega) | omega))⟩) (by decide) (by decide) dX6_opensAt_55
      · refine g_aload_n (pc := 12) X 1 rfl dX6_opensAt_12 ?_
        refine g_iload_n (pc := 13) X 2 rfl dX6_opensAt_13 ?_
        refine g_iload_n (pc := 14) X 3 rfl dX6_opensAt_14 ?_
        refine g_iload (pc := 15) X 0 rfl dX6_opensAt_15 ?_
        refine g_callV (pc := 17) X (k_X6_lies l Z r0 w0 r_doors r_openingWalls r_froms r_tos r_lowers r_uppers r_standWalls r_standXs r_standYs Rw Rf Rt wl px i ro rs b_wl b_px (by (first | (clear b_wl b_px b_lo b_up b_ro b_rs; omega) | omega)) b_ro b_rs (h_Rw) (h_Rf) (h_Rt)) iM_X6_lies mw_26_10 mw_26_11 mw_26_12 0 rfl rfl [0, 1, 2, 3] [4, 5] rfl (wr := [cA Z r_lowers 0 8 Rl, cA Z r_uppers 0 8 Ru]) rfl (by decide) rfl rfl (Nat.le_of_ble_eq_true rfl) (by decide) dX6_opensAt_17 (fun r w' hpo => ?_)
        refine exN_1 hpo fun y1 hz => anD_3 hz fun e_r e_w hf17_b_y => ?_; clear hz hpo; subst e_r; subst e_w
        refine g_as (pc' := 20) (lv' := [(5, .int (iI i)), (0, .ref r0), (1, .int (iI wl)), (2, .int (iI px)), (3, .int (iI lo)), (4, .int (iI up))]) (st' := [.int (iI y1)]) (ws' := [cA Z r_lowers 0 8 Rl, cA Z r_uppers 0 8 Ru, cO_rirrrrrrirrr r0 6 w0 ro r_doors r_openingWalls r_froms r_tos r_lowers r_uppers rs r_standWalls r_standXs r_standYs, cA Z r_openingWalls 0 8 Rw, cA Z r_froms 0 8 Rf, cA Z r_tos 0 8 Rt]) rfl rfl rfl rfl ?_
        refine g_if_eqI (pc := 20) X 48 (by decide) (inRb hf17_b_y (by decide) (by decide)) dX6_opensAt_20 (fun c20 => ?_) (fun c20 => ?_)
        · refine g_iincI (pc := 48) X 0 rfl (by decide) (lv' := [(5, .int (iI (i + 1))), (0, .ref r0), (1, .int (iI wl)), (2, .int (iI px)), (3, .int (iI lo)), (4, .int (iI up))]) rfl dX6_opensAt_48 ?_
          refine g_goto (pc := 51) X 3 (by decide) dX6_opensAt_51 ?_
          refine g_ws (ws' := [cO_rirrrrrrirrr r0 6 w0 ro r_doors r_openingWalls r_froms r_tos r_lowers r_uppers rs r_standWalls r_standXs r_standYs, cA Z r_openingWalls 0 8 Rw, cA Z r_froms 0 8 Rf, cA Z r_tos 0 8 Rt, cA Z r_lowers 0 8 Rl, cA Z r_uppers 0 8 Ru]) [2, 3, 4, 5, 0, 1] (by decide) rfl ?_
          exact ih (i + 1) (by (first | (clear b_wl b_px b_lo b_up b_ro b_rs; omega) | omega)) (by (first | (clear b_wl b_px b_lo b_up b_ro b_rs; omega) | omega))
        · refine g_aload_n (pc := 23) X 1 rfl dX6_opensAt_23 ?_
          refine g_get (pc := 24) X inlX6 2 rfl rfl 6 (by decide) mw_6_16 rfl dX6_opensAt_24 ?_
          refine g_iload (pc := 27) X 0 rfl dX6_opensAt_27 ?_
          refine g_ialdI (pc := 29) X 0 rfl (b_i.1) (by (first | (clear b_wl b_px b_lo b_up b_ro b_rs; omega) | omega)) (Int.le_trans b_i.2 (by decide)) dX6_opensAt_29 ?_
          refine g_nameI (fun y3 ey3 => ?_)
          have by3 : 0 ≤ y3 ∧ y3 ≤ 400 := by rw [ey3]; exact h_Rl _ (by (first | (clear b_wl b_px b_lo b_up b_ro b_rs; omega) | omega))
          refine g_iload (pc := 30) X 5 rfl dX6_opensAt_30 ?_
          refine g_icmp_geI (pc := 32) X 48 (by decide) (inRb by3 (by decide) (by decide)) b_up dX6_opensAt_32 (fun c32 => ?_) (fun c32 => ?_)
          · refine g_iincI (pc := 48) X 0 rfl (by decide) (lv' := [(5, .int (iI (i + 1))), (0, .ref r0), (1, .int (iI wl)), (2, .int (iI px)), (3, .int (iI lo)), (4, .int (iI up))]) rfl dX6_opensAt_48 ?_
            refine g_goto (pc := 51) X 3 (by decide) dX6_opensAt_51 ?_
            refine g_ws (ws' := [cO_rirrrrrrirrr r0 6 w0 ro r_doors r_openingWalls r_froms r_tos r_lowers r_uppers rs r_standWalls r_standXs r_standYs, cA Z r_openingWalls 0 8 Rw, cA Z r_froms 0 8 Rf, cA Z r_tos 0 8 Rt, cA Z r_lowers 0 8 Rl, cA Z r_uppers 0 8 Ru]) [2, 3, 4, 5, 0, 1] (by decide) rfl ?_
            exact ih (i + 1) (by (first | (clear b_wl b_px b_lo b_up b_ro b_rs; omega) | omega)) (by (first | (clear b_wl b_px b_lo b_up b_ro b_rs; omega) | omega))
          · refine g_aload_n (pc := 35) X 1 rfl dX6_opensAt_35 ?_
            refine g_get (pc := 36) X inlX6 2 rfl rfl 7 (by decide) mw_6_17 rfl dX6_opensAt_36 ?_
            refine g_iload (pc := 39) X 0 rfl dX6_opensAt_39 ?_
            refine g_ialdI (pc := 41) X 1 rfl (b_i.1) (by (first | (clear b_wl b_px b_lo b_up b_ro b_rs; omega) | omega)) (Int.le_trans b_i.2 (by decide)) dX6_opensAt_41 ?_
            refine g_nameI (fun y4 ey4 => ?_)
            have by4 : 0 ≤ y4 ∧ y4 ≤ 400 := by rw [ey4]; exact h_Ru _ (by (first | (clear b_wl b_px b_lo b_up b_ro b_rs; omega) | omega))
            refine g_iload_n (pc := 42) X 4 rfl dX6_opensAt_42 ?_
            refine g_icmp_leI (pc := 43) X 48 (by decide) (inRb by4 (by decide) (by decide)) b_lo dX6_opensAt_43 (fun c43 => ?_) (fun c43 => ?_)
            · refine g_iincI (pc := 48) X 0 rfl (by decide) (lv' := [(5, .int (iI (i + 1))), (0, .ref r0), (1, .int (iI wl)), (2, .int (iI px)), (3, .int (iI lo)), (4, .int (iI up))]) rfl dX6_opensAt_48 ?_
              refine g_goto (pc := 51) X 3 (by decide) dX6_opensAt_51 ?_
              refine g_ws (ws' := [cO_rirrrrrrirrr r0 6 w0 ro r_doors r_openingWalls r_froms r_tos r_lowers r_uppers rs r_standWalls r_standXs r_standYs, cA Z r_openingWalls 0 8 Rw, cA Z r_froms 0 8 Rf, cA Z r_tos 0 8 Rt, cA Z r_lowers 0 8 Rl, cA Z r_uppers 0 8 Ru]) [2, 3, 4, 5, 0, 1] (by decide) rfl ?_
              exact ih (i + 1) (by (first | (clear b_wl b_px b_lo b_up b_ro b_rs; omega) | omega)) (by (first | (clear b_wl b_px b_lo b_up b_ro b_rs; omega) | omega))
            · refine g_iconst (pc := 46) X (iI 1) (by rfl) dX6_opensAt_46 ?_
              refine g_ws (ws' := [cO_rirrrrrrirrr r0 6 w0 ro r_doors r_openingWalls r_froms r_tos r_lowers r_uppers rs r_standWalls r_standXs r_standYs, cA Z r_openingWalls 0 8 Rw, cA Z r_froms 0 8 Rf, cA Z r_tos 0 8 Rt, cA Z r_lowers 0 8 Rl, cA Z r_uppers 0 8 Ru]) [2, 3, 4, 5, 0, 1] (by decide) rfl ?_
              exact g_zret (pc := 47) X hA (rfl) (⟨1, rfl, rfl, (by (first | (clear b_wl b_px b_lo b_up b_ro b_rs; omega) | omega))⟩) (by decide) (by decide) dX6_opensAt_47
  exact loop3 _ 0 (by (first | (clear b_wl b_px b_lo b_up b_ro b_rs; omega) | omega)) (Nat.lt_succ_self _)

set_option maxHeartbeats 4000000 in
set_option maxRecDepth 100000 in
theorem k_X6_doorAtCorner (l : Launch) (Z : gZ) (r0 : Nat) (w0 : Nat) (r_doors : Nat) (r_openingWalls : Nat) (r_froms : Nat) (r_tos : Nat) (r_lowers : Nat) (r_uppers : Nat) (r_standWalls : Nat) (r_standXs : Nat) (r_standYs : Nat) (w_begins : Nat) (w_lengths : Nat) (w_lefts : Nat) (w_rights : Nat) (w_leans : Nat) (w_leaning : Nat) (Rd : Nat → Int) (Rw : Nat → Int) (Rf : Nat → Int) (Rt : Nat → Int) (Wl : Nat → Int) (wl : Int) (ro : Int) (rs : Int) (wn : Int) (wr : Int) (b_wl : 0 ≤ wl ∧ wl ≤ 7) (b_ro : 0 ≤ ro ∧ ro ≤ 8) (b_rs : 0 ≤ rs ∧ rs ≤ 4) (b_wn : 0 ≤ wn ∧ wn ≤ 8) (b_wr : 0 ≤ wr ∧ wr ≤ 4800) (h_Rd : ∀ j, j < 8 → 0 ≤ Rd j ∧ Rd j ≤ 1) (h_Rw : ∀ j, j < 8 → 0 ≤ Rw j ∧ Rw j ≤ 7) (h_Rf : ∀ j, j < 8 → 0 ≤ Rf j ∧ Rf j ≤ 600) (h_Rt : ∀ j, j < 8 → 0 ≤ Rt j ∧ Rt j ≤ 600) (h_Wl : ∀ j, j < 8 → 0 ≤ Wl j ∧ Wl j ≤ 600) : Con l Z yX6_doorAtCorner cX6_doorAtCorner 4 (some .boolean) 2 45 0 0 [.ref r0, .int (iI wl)] [cO_rirrrrrrirrr r0 6 w0 ro r_doors r_openingWalls r_froms r_tos r_lowers r_uppers rs r_standWalls r_standXs r_standYs, cA Z r_doors 2 8 Rd, cA Z r_openingWalls 0 8 Rw, cA Z r_froms 0 8 Rf, cA Z r_tos 0 8 Rt, cO_rrrrrrii w0 10 w_begins w_lengths w_lefts w_rights w_leans w_leaning wn wr, cA Z w_lengths 0 8 Wl] (fun r w' => ∃ (y : Int), (r = some (.int (iI y))) ∧ (w' = [cO_rirrrrrrirrr r0 6 w0 ro r_doors r_openingWalls r_froms r_tos r_lowers r_uppers rs r_standWalls r_standXs r_standYs, cA Z r_doors 2 8 Rd, cA Z r_openingWalls 0 8 Rw, cA Z r_froms 0 8 Rf, cA Z r_tos 0 8 Rt, cO_rrrrrrii w0 10 w_begins w_lengths w_lefts w_rights w_leans w_leaning wn wr, cA Z w_lengths 0 8 Wl]) ∧ (0 ≤ y ∧ y ≤ 1)) := by
  refine enter (by decide) (Nat.le_of_ble_eq_true rfl) ?_
  intro p e s m args below meth c A X hnm hA
  have X : Cx p s m args meth c cX6_doorAtCorner 4 (some .boolean) RX6 Z A := X
  refine g_as (pc' := 0) (lv' := [(0, .ref r0), (1, .int (iI wl))]) (st' := []) (ws' := [cO_rirrrrrrirrr r0 6 w0 ro r_doors r_openingWalls r_froms r_tos r_lowers r_uppers rs r_standWalls r_standXs r_standYs, cA Z r_doors 2 8 Rd, cA Z r_openingWalls 0 8 Rw, cA Z r_froms 0 8 Rf, cA Z r_tos 0 8 Rt, cO_rrrrrrii w0 10 w_begins w_lengths w_lefts w_rights w_leans w_leaning wn wr, cA Z w_lengths 0 8 Wl]) rfl rfl rfl rfl ?_
  refine g_aload_n (pc := 0) X 0 rfl dX6_doorAtCorner_0 ?_
  refine g_get (pc := 1) X inlX6 0 rfl rfl 0 (by decide) mw_6_11 rfl dX6_doorAtCorner_1 ?_
  refine g_iload_n (pc := 4) X 1 rfl dX6_doorAtCorner_4 ?_
  refine g_callV (pc := 5) X (k_X10_rightOf l Z w0 w_begins w_lengths w_lefts w_rights w_leans w_leaning wl wn wr (by (first | (clear b_wl b_ro b_rs b_wn b_wr; omega) | omega)) b_wn b_wr) iM_X10_rightOf mw_48_15 mw_48_16 mw_48_17 5 rfl rfl [5] [0, 1, 2, 3, 4, 6] rfl (wr := [cO_rirrrrrrirrr r0 6 w0 ro r_doors r_openingWalls r_froms r_tos r_lowers r_uppers rs r_standWalls r_standXs r_standYs, cA Z r_doors 2 8 Rd, cA Z r_openingWalls 0 8 Rw, cA Z r_froms 0 8 Rf, cA Z r_tos 0 8 Rt, cA Z w_lengths 0 8 Wl]) rfl (by decide) rfl rfl (Nat.le_of_ble_eq_true rfl) (by decide) dX6_doorAtCorner_5 (fun r w' hpo => ?_)
  refine exN_1 hpo fun y1 hz => anD_3 hz fun e_r e_w hf5_b_y => ?_; clear hz hpo; subst e_r; subst e_w
  refine g_as (pc' := 8) (lv' := [(0, .ref r0), (1, .int (iI wl))]) (st' := [.int (iI y1)]) (ws' := [cO_rirrrrrrirrr r0 6 w0 ro r_doors r_openingWalls r_froms r_tos r_lowers r_uppers rs r_standWalls r_standXs r_standYs, cA Z r_doors 2 8 Rd, cA Z r_openingWalls 0 8 Rw, cA Z r_froms 0 8 Rf, cA Z r_tos 0 8 Rt, cA Z w_lengths 0 8 Wl, cO_rrrrrrii w0 10 w_begins w_lengths w_lefts w_rights w_leans w_leaning wn wr]) rfl rfl rfl rfl ?_
  refine g_istore_n (pc := 8) X (i := 2) rfl (by decide) (lv' := [(2, .int (iI y1)), (0, .ref r0), (1, .int (iI wl))]) rfl dX6_doorAtCorner_8 ?_
  refine g_iconst (pc := 9) X (iI 0) (by rfl) dX6_doorAtCorner_9 ?_
  refine g_istore_n (pc := 10) X (i := 3) rfl (by decide) (lv' := [(3, .int (iI 0)), (2, .int (iI y1)), (0, .ref r0), (1, .int (iI wl))]) rfl dX6_doorAtCorner_10 ?_
  have loop11 : ∀ (fuel : Nat) (i : Int), (0 ≤ i ∧ i ≤ 9) → (9 - i).toNat < fuel → Gs p l e ({ frames := 2, cells := 0, slots := 0, locals := 45 } : Room) s m args below meth c (MQ below (gPost Z [cO_rirrrrrrirrr r0 6 w0 ro r_doors r_openingWalls r_froms r_tos r_lowers r_uppers rs r_standWalls r_standXs r_standYs, cA Z r_doors 2 8 Rd, cA Z r_openingWalls 0 8 Rw, cA Z r_froms 0 8 Rf, cA Z r_tos 0 8 Rt, cO_rrrrrrii w0 10 w_begins w_lengths w_lefts w_rights w_leans w_leaning wn wr, cA Z w_lengths 0 8 Wl] s.heap.size (fun r w' => ∃ (y : Int), (r = some (.int (iI y))) ∧ (w' = [cO_rirrrrrrirrr r0 6 w0 ro r_doors r_openingWalls r_froms r_tos r_lowers r_uppers rs r_standWalls r_standXs r_standYs, cA Z r_doors 2 8 Rd, cA Z r_openingWalls 0 8 Rw, cA Z r_froms 0 8 Rf, cA Z r_tos 0 8 Rt, cO_rrrrrrii w0 10 w_begins w_lengths w_lefts w_rights w_leans w_leaning wn wr, cA Z w_lengths 0 8 Wl]) ∧ (0 ≤ y ∧ y ≤ 1))) args s 0 0 (va_A [cO_rirrrrrrirrr r0 6 w0 ro r_doors r_openingWalls r_froms r_tos r_lowers r_uppers rs r_standWalls r_standXs r_standYs, cA Z r_doors 2 8 Rd, cA Z r_openingWalls 0 8 Rw, cA Z r_froms 0 8 Rf, cA Z r_tos 0 8 Rt, cO_rrrrrrii w0 10 w_begins w_lengths w_lefts w_rights w_leans w_leaning wn wr, cA Z w_lengths 0 8 Wl] s.heap.size)) Z A 4 0 0 11 [(3, .int (iI i)), (2, .int (iI y1)), (0, .ref r0), (1, .int (iI wl))] [] [cO_rirrrrrrirrr r0 6 w0 ro r_doors r_openingWalls r_froms r_tos r_lowers r_uppers rs r_standWalls r_standXs r_standYs, cA Z r_doors 2 8 Rd, cA Z r_openingWalls 0 8 Rw, cA Z r_froms 0 8 Rf, cA Z r_tos 0 8 Rt, cA Z w_lengths 0 8 Wl, cO_rrrrrrii w0 10 w_begins w_lengths w_lefts w_rights w_leans w_leaning wn wr] := by
    intro fuel
    induction fuel with
    | zero => intro i _ hm; exact absurd hm (Nat.not_lt_zero _)
    | succ fuel ih =>
      intro i b_i hm
      refine g_iload_n (pc := 11) X 0 rfl dX6_doorAtCorner_11 ?_
      refine g_aload_n (pc := 12) X 2 rfl dX6_doorAtCorner_12 ?_
      refine g_get (pc := 13) X inlX6 0 rfl rfl 1 (by decide) mw_15_22 rfl dX6_doorAtCorner_13 ?_
      refine g_icmp_geI (pc := 16) X 63 (by decide) (inRb b_i (by decide) (by decide)) (inRb b_ro (by decide) (by decide)) dX6_doorAtCorner_16 (fun c16 => ?_) (fun c16 => ?_)
      · refine g_iconst (pc := 63) X (iI 0) (by rfl) dX6_doorAtCorner_63 ?_
        refine g_ws (ws' := [cO_rirrrrrrirrr r0 6 w0 ro r_doors r_openingWalls r_froms r_tos r_lowers r_uppers rs r_standWalls r_standXs r_standYs, cA Z r_doors 2 8 Rd, cA Z r_openingWalls 0 8 Rw, cA Z r_froms 0 8 Rf, cA Z r_tos 0 8 Rt, cO_rrrrrrii w0 10 w_begins w_lengths w_lefts w_rights w_leans w_leaning wn wr, cA Z w_lengths 0 8 Wl]) [0, 1, 2, 3, 4, 6, 5] (by decide) rfl ?_
        exact g_zret (pc := 64) X hA (rfl) (⟨0, rfl, rfl, (by (first | (clear b_wl b_ro b_rs b_wn b_wr; omega) | omega))⟩) (by decide) (by decide) dX6_doorAtCorner_64
      · refine g_aload_n (pc := 19) X 2 rfl dX6_doorAtCorner_19 ?_
        refine g_get (pc := 20) X inlX6 0 rfl rfl 2 (by decide) mw_6_12 rfl dX6_doorAtCorner_20 ?_
        refine g_iload_n (pc := 23) X 0 rfl dX6_doorAtCorner_23 ?_
        refine g_zaldI (pc := 24) X 1 rfl (b_i.1) (by (first | (clear b_wl b_ro b_rs b_wn b_wr; omega) | omega)) (Int.le_trans b_i.2 (by decide)) dX6_doorAtCorner_24 ?_
        refine g_nameI (fun y3 ey3 => ?_)
        have by3 : 0 ≤ y3 ∧ y3 ≤ 1 := by rw [ey3]; exact h_Rd _ (by (first | (clear b_wl b_ro b_rs b_wn b_wr; omega) | omega))
        refine g_if_eqI (pc := 25) X 57 (by decide) (inRb by3 (by decide) (by decide)) dX6_doorAtCorner_25 (fun c25 => ?_) (fun c25 => ?_)
        · refine g_iincI (pc := 57) X 0 rfl (by decide) (lv' := [(3, .int (iI (i + 1))), (2, .int (iI y1)), (0, .ref r0), (1, .int (iI wl))]) rfl dX6_doorAtCorner_57 ?_
          refine g_goto (pc := 60) X 11 (by decide) dX6_doorAtCorner_60 ?_
          exact ih (i + 1) (by (first | (clear b_wl b_ro b_rs b_wn b_wr; omega) | omega)) (by (first | (clear b_wl b_ro b_rs b_wn b_wr; omega) | omega))
        · refine g_aload_n (pc := 28) X 2 rfl dX6_doorAtCorner_28 ?_
          refine g_iload_n (pc := 29) X 3 rfl dX6_doorAtCorner_29 ?_
          refine g_aload_n (pc := 30) X 2 rfl dX6_doorAtCorner_30 ?_
          refine g_get (pc := 31) X inlX6 0 rfl rfl 0 (by decide) mw_6_11 rfl dX6_doorAtCorner_31 ?_
          refine g_iload_n (pc := 34) X 3 rfl dX6_doorAtCorner_34 ?_
          refine g_callV (pc := 35) X (k_X10_lengthOf l Z w0 w_begins w_lengths w_lefts w_rights w_leans w_leaning Wl wl wn wr (by (first | (clear b_wl b_ro b_rs b_wn b_wr; omega) | omega)) b_wn b_wr (h_Wl)) iM_X10_lengthOf mw_48_19 mw_17_16 mw_17_17 6 rfl rfl [6, 5] [0, 1, 2, 3, 4] rfl (wr := [cO_rirrrrrrirrr r0 6 w0 ro r_doors r_openingWalls r_froms r_tos r_lowers r_uppers rs r_standWalls r_standXs r_standYs, cA Z r_doors 2 8 Rd, cA Z r_openingWalls 0 8 Rw, cA Z r_froms 0 8 Rf, cA Z r_tos 0 8 Rt]) rfl (by decide) rfl rfl (Nat.le_of_ble_eq_true rfl) (by decide) dX6_doorAtCorner_35 (fun r w' hpo => ?_)
          refine exN_1 hpo fun y4 hz => anD_3 hz fun e_r e_w hf35_b_y => ?_; clear hz hpo; subst e_r; subst e_w
          refine g_as (pc' := 38) (lv' := [(3, .int (iI i)), (2, .int (iI y1)), (0, .ref r0), (1, .int (iI wl))]) (st' := [.int (iI y4), .int (iI wl), .ref r0]) (ws' := [cO_rirrrrrrirrr r0 6 w0 ro r_doors r_openingWalls r_froms r_tos r_lowers r_uppers rs r_standWalls r_standXs r_standYs, cA Z r_doors 2 8 Rd, cA Z r_openingWalls 0 8 Rw, cA Z r_froms 0 8 Rf, cA Z r_tos 0 8 Rt, cO_rrrrrrii w0 10 w_begins w_lengths w_lefts w_rights w_leans w_leaning wn wr, cA Z w_lengths 0 8 Wl]) rfl rfl rfl rfl ?_
          refine g_iload_n (pc := 38) X 0 rfl dX6_doorAtCorner_38 ?_
          refine g_callV (pc := 39) X (k_X6_lies l Z r0 w0 r_doors r_openingWalls r_froms r_tos r_lowers r_uppers r_standWalls r_standXs r_standYs Rw Rf Rt wl y4 i ro rs (by (first | (clear b_wl b_ro b_rs b_wn b_wr; omega) | omega)) (by (first | (clear b_wl b_ro b_rs b_wn b_wr; omega) | omega)) (by (first | (clear b_wl b_ro b_rs b_wn b_wr; omega) | omega)) b_ro b_rs (h_Rw) (h_Rf) (h_Rt)) iM_X6_lies mw_26_10 mw_26_11 mw_26_12 0 rfl rfl [0, 2, 3, 4] [1, 5, 6] rfl (wr := [cA Z r_doors 2 8 Rd, cO_rrrrrrii w0 10 w_begins w_lengths w_lefts w_rights w_leans w_leaning wn wr, cA Z w_lengths 0 8 Wl]) rfl (by decide) rfl rfl (Nat.le_of_ble_eq_true rfl) (by decide) dX6_doorAtCorner_39 (fun r w' hpo => ?_)
          refine exN_1 hpo fun y6 hz => anD_3 hz fun e_r e_w hf39_b_y => ?_; clear hz hpo; subst e_r; subst e_w
          refine g_as (pc' := 42) (lv' := [(3, .int (iI i)), (2, .int (iI y1)), (0, .ref r0), (1, .int (iI wl))]) (st' := [.int (iI y6)]) (ws' := [cA Z r_doors 2 8 Rd, cO_rrrrrrii w0 10 w_begins w_lengths w_lefts w_rights w_leans w_leaning wn wr, cA Z w_lengths 0 8 Wl, cO_rirrrrrrirrr r0 6 w0 ro r_doors r_openingWalls r_froms r_tos r_lowers r_uppers rs r_standWalls r_standXs r_standYs, cA Z r_openingWalls 0 8 Rw, cA Z r_froms 0 8 Rf, cA Z r_tos 0 8 Rt]) rfl rfl rfl rfl ?_
          refine g_if_neI (pc := 42) X 55 (by decide) (inRb hf39_b_y (by decide) (by decide)) dX6_doorAtCorner_42 (fun c42 => ?_) (fun c42 => ?_)
          · refine g_iconst (pc := 55) X (iI 1) (by rfl) dX6_doorAtCorner_55 ?_
            refine g_ws (ws' := [cO_rirrrrrrirrr r0 6 w0 ro r_doors r_openingWalls r_froms r_tos r_lowers r_uppers rs r_standWalls r_standXs r_standYs, cA Z r_doors 2 8 Rd, cA Z r_openingWalls 0 8 Rw, cA Z r_froms 0 8 Rf, cA Z r_tos 0 8 Rt, cO_rrrrrrii w0 10 w_begins w_lengths w_lefts w_rights w_leans w_leaning wn wr, cA Z w_lengths 0 8 Wl]) [3, 0, 4, 5, 6, 1, 2] (by decide) rfl ?_
            exact g_zret (pc := 56) X hA (rfl) (⟨1, rfl, rfl, (by (first | (clear b_wl b_ro b_rs b_wn b_wr; omega) | omega))⟩) (by decide) (by decide) dX6_doorAtCorner_56
          · refine g_aload_n (pc := 45) X 2 rfl dX6_doorAtCorner_45 ?_
            refine g_iload_n (pc := 46) X 1 rfl dX6_doorAtCorner_46 ?_
            refine g_iconst (pc := 47) X (iI 0) (by rfl) dX6_doorAtCorner_47 ?_
            refine g_iload_n (pc := 48) X 0 rfl dX6_doorAtCorner_48 ?_
            refine g_callV (pc := 49) X (k_X6_lies l Z r0 w0 r_doors r_openingWalls r_froms r_tos r_lowers r_uppers r_standWalls r_standXs r_standYs Rw Rf Rt y1 0 i ro rs (by (first | (clear b_wl b_ro b_rs b_wn b_wr; omega) | omega)) (by decide) (by (first | (clear b_wl b_ro b_rs b_wn b_wr; omega) | omega)) b_ro b_rs (h_Rw) (h_Rf) (h_Rt)) iM_X6_lies mw_26_10 mw_26_11 mw_26_12 3 rfl rfl [3, 4, 5, 6] [0, 1, 2] rfl (wr := [cA Z r_doors 2 8 Rd, cO_rrrrrrii w0 10 w_begins w_lengths w_lefts w_rights w_leans w_leaning wn wr, cA Z w_lengths 0 8 Wl]) rfl (by decide) rfl rfl (Nat.le_of_ble_eq_true rfl) (by decide) dX6_doorAtCorner_49 (fun r w' hpo => ?_)
            refine exN_1 hpo fun y8 hz => anD_3 hz fun e_r e_w hf49_b_y => ?_; clear hz hpo; subst e_r; subst e_w
            refine g_as (pc' := 52) (lv' := [(3, .int (iI i)), (2, .int (iI y1)), (0, .ref r0), (1, .int (iI wl))]) (st' := [.int (iI y8)]) (ws' := [cA Z r_doors 2 8 Rd, cO_rrrrrrii w0 10 w_begins w_lengths w_lefts w_rights w_leans w_leaning wn wr, cA Z w_lengths 0 8 Wl, cO_rirrrrrrirrr r0 6 w0 ro r_doors r_openingWalls r_froms r_tos r_lowers r_uppers rs r_standWalls r_standXs r_standYs, cA Z r_openingWalls 0 8 Rw, cA Z r_froms 0 8 Rf, cA Z r_tos 0 8 Rt]) rfl rfl rfl rfl ?_
            refine g_if_eqI (pc := 52) X 57 (by decide) (inRb hf49_b_y (by decide) (by decide)) dX6_doorAtCorner_52 (fun c52 => ?_) (fun c52 => ?_)
            · refine g_iincI (pc := 57) X 0 rfl (by decide) (lv' := [(3, .int (iI (i + 1))), (2, .int (iI y1)), (0, .ref r0), (1, .int (iI wl))]) rfl dX6_doorAtCorner_57 ?_
              refine g_goto (pc := 60) X 11 (by decide) dX6_doorAtCorner_60 ?_
              refine g_ws (ws' := [cO_rirrrrrrirrr r0 6 w0 ro r_doors r_openingWalls r_froms r_tos r_lowers r_uppers rs r_standWalls r_standXs r_standYs, cA Z r_doors 2 8 Rd, cA Z r_openingWalls 0 8 Rw, cA Z r_froms 0 8 Rf, cA Z r_tos 0 8 Rt, cA Z w_lengths 0 8 Wl, cO_rrrrrrii w0 10 w_begins w_lengths w_lefts w_rights w_leans w_leaning wn wr]) [3, 0, 4, 5, 6, 2, 1] (by decide) rfl ?_
              exact ih (i + 1) (by (first | (clear b_wl b_ro b_rs b_wn b_wr; omega) | omega)) (by (first | (clear b_wl b_ro b_rs b_wn b_wr; omega) | omega))
            · refine g_iconst (pc := 55) X (iI 1) (by rfl) dX6_doorAtCorner_55 ?_
              refine g_ws (ws' := [cO_rirrrrrrirrr r0 6 w0 ro r_doors r_openingWalls r_froms r_tos r_lowers r_uppers rs r_standWalls r_standXs r_standYs, cA Z r_doors 2 8 Rd, cA Z r_openingWalls 0 8 Rw, cA Z r_froms 0 8 Rf, cA Z r_tos 0 8 Rt, cO_rrrrrrii w0 10 w_begins w_lengths w_lefts w_rights w_leans w_leaning wn wr, cA Z w_lengths 0 8 Wl]) [3, 0, 4, 5, 6, 1, 2] (by decide) rfl ?_
              exact g_zret (pc := 56) X hA (rfl) (⟨1, rfl, rfl, (by (first | (clear b_wl b_ro b_rs b_wn b_wr; omega) | omega))⟩) (by decide) (by decide) dX6_doorAtCorner_56
  exact loop11 _ 0 (by (first | (clear b_wl b_ro b_rs b_wn b_wr; omega) | omega)) (Nat.lt_succ_self _)

set_option maxHeartbeats 4000000 in
set_option maxRecDepth 100000 in
theorem k_X6_standPlace (l : Launch) (Z : gZ) (r0 : Nat) (w0 : Nat) (r_doors : Nat) (r_openingWalls : Nat) (r_froms : Nat) (r_tos : Nat) (r_lowers : Nat) (r_uppers : Nat) (r_standWalls : Nat) (r_standXs : Nat) (r_standYs : Nat) (w_begins : Nat) (w_lengths : Nat) (w_lefts : Nat) (w_rights : Nat) (w_leans : Nat) (w_leaning : Nat) (Rsw : Nat → Int) (Rsx : Nat → Int) (Wb : Nat → Int) (sd : Int) (ro : Int) (rs : Int) (wn : Int) (wr : Int) (b_sd : (-2147483648) ≤ sd ∧ sd ≤ 2147483647) (b_ro : 0 ≤ ro ∧ ro ≤ 8) (b_rs : 0 ≤ rs ∧ rs ≤ 4) (b_wn : 0 ≤ wn ∧ wn ≤ 8) (b_wr : 0 ≤ wr ∧ wr ≤ 4800) (h_Rsw : ∀ j, j < 4 → 0 ≤ Rsw j ∧ Rsw j ≤ 7) (h_Rsx : ∀ j, j < 4 → 0 ≤ Rsx j ∧ Rsx j ≤ 600) (h_Wb : ∀ j, j < 8 → 0 ≤ Wb j ∧ Wb j ≤ 4800) : Con l Z yX6_standPlace cX6_standPlace 2 (some .int) 2 42 0 0 [.ref r0, .int (iI sd)] [cO_rirrrrrrirrr r0 6 w0 ro r_doors r_openingWalls r_froms r_tos r_lowers r_uppers rs r_standWalls r_standXs r_standYs, cA Z r_standWalls 0 4 Rsw, cA Z r_standXs 0 4 Rsx, cO_rrrrrrii w0 10 w_begins w_lengths w_lefts w_rights w_leans w_leaning wn wr, cA Z w_begins 0 8 Wb] (fun r w' => ∃ (y : Int), (r = some (.int (iI y))) ∧ (w' = [cO_rirrrrrrirrr r0 6 w0 ro r_doors r_openingWalls r_froms r_tos r_lowers r_uppers rs r_standWalls r_standXs r_standYs, cA Z r_standWalls 0 4 Rsw, cA Z r_standXs 0 4 Rsx, cO_rrrrrrii w0 10 w_begins w_lengths w_lefts w_rights w_leans w_leaning wn wr, cA Z w_begins 0 8 Wb]) ∧ (0 ≤ y ∧ y ≤ 4800)) := by
  refine enter (by decide) (Nat.le_of_ble_eq_true rfl) ?_
  intro p e s m args below meth c A X hnm hA
  have X : Cx p s m args meth c cX6_standPlace 2 (some .int) RX6 Z A := X
  refine g_as (pc' := 0) (lv' := [(0, .ref r0), (1, .int (iI sd))]) (st' := []) (ws' := [cO_rirrrrrrirrr r0 6 w0 ro r_doors r_openingWalls r_froms r_tos r_lowers r_uppers rs r_standWalls r_standXs r_standYs, cA Z r_standWalls 0 4 Rsw, cA Z r_standXs 0 4 Rsx, cO_rrrrrrii w0 10 w_begins w_lengths w_lefts w_rights w_leans w_leaning wn wr, cA Z w_begins 0 8 Wb]) rfl rfl rfl rfl ?_
  refine g_iconst (pc := 0) X (iI 0) (by rfl) dX6_standPlace_0 ?_
  refine g_iload_n (pc := 1) X 1 rfl dX6_standPlace_1 ?_
  refine g_aload_n (pc := 2) X 0 rfl dX6_standPlace_2 ?_
  refine g_get (pc := 3) X inlX6 0 rfl rfl 8 (by decide) mw_15_23 rfl dX6_standPlace_3 ?_
  refine g_iconst (pc := 6) X (iI 1) (by rfl) dX6_standPlace_6 ?_
  refine g_isubI (pc := 7) X dX6_standPlace_7 ?_
  refine g_callSN (pc := 8) X (k_X11_isFrom l Z 0 sd (rs - 1) (by decide) b_sd (by omega)) iM_X11_isFrom (by decide) mw_11_7 [] [0, 1, 2, 3, 4] rfl (wr := [cO_rirrrrrrirrr r0 6 w0 ro r_doors r_openingWalls r_froms r_tos r_lowers r_uppers rs r_standWalls r_standXs r_standYs, cA Z r_standWalls 0 4 Rsw, cA Z r_standXs 0 4 Rsx, cO_rrrrrrii w0 10 w_begins w_lengths w_lefts w_rights w_leans w_leaning wn wr, cA Z w_begins 0 8 Wb]) rfl (by decide) rfl rfl (Nat.le_of_ble_eq_true rfl) (by decide) dX6_standPlace_8 (fun r w' hpo => ?_)
  obtain ⟨rfl, rfl⟩ := hpo
  refine g_as (pc' := 11) (lv' := [(0, .ref r0), (1, .int (iI sd))]) (st' := [.int (iI (bI (0 ≤ sd ∧ sd ≤ (rs - 1))))]) (ws' := [cO_rirrrrrrirrr r0 6 w0 ro r_doors r_openingWalls r_froms r_tos r_lowers r_uppers rs r_standWalls r_standXs r_standYs, cA Z r_standWalls 0 4 Rsw, cA Z r_standXs 0 4 Rsx, cO_rrrrrrii w0 10 w_begins w_lengths w_lefts w_rights w_leans w_leaning wn wr, cA Z w_begins 0 8 Wb]) rfl rfl rfl rfl ?_
  refine g_if_eqB (pc := 11) X 47 (by decide) dX6_standPlace_11 (fun c11 => ?_) (fun c11 => ?_)
  · refine g_iconst (pc := 47) X (iI 0) (by rfl) dX6_standPlace_47 ?_
    exact g_iret (pc := 48) X hA (⟨0, rfl, rfl, (by omega)⟩) (by decide) (by decide) dX6_standPlace_48
  · refine g_aload_n (pc := 14) X 0 rfl dX6_standPlace_14 ?_
    refine g_get (pc := 15) X inlX6 0 rfl rfl 0 (by decide) mw_6_11 rfl dX6_standPlace_15 ?_
    refine g_aload_n (pc := 18) X 0 rfl dX6_standPlace_18 ?_
    refine g_get (pc := 19) X inlX6 0 rfl rfl 9 (by decide) mw_6_18 rfl dX6_standPlace_19 ?_
    refine g_iload_n (pc := 22) X 1 rfl dX6_standPlace_22 ?_
    refine g_ialdI (pc := 23) X 1 rfl (by omega) (by omega) (Int.le_trans b_sd.2 (by decide)) dX6_standPlace_23 ?_
    refine g_nameI (fun y2 ey2 => ?_)
    have by2 : 0 ≤ y2 ∧ y2 ≤ 7 := by rw [ey2]; exact h_Rsw _ (by omega)
    refine g_callV (pc := 24) X (k_X10_beginOf l Z w0 w_begins w_lengths w_lefts w_rights w_leans w_leaning Wb y2 wn wr (by omega) b_wn b_wr (h_Wb)) iM_X10_beginOf mw_39_17 mw_25_14 mw_25_15 3 rfl rfl [3, 4] [0, 1, 2] rfl (wr := [cO_rirrrrrrirrr r0 6 w0 ro r_doors r_openingWalls r_froms r_tos r_lowers r_uppers rs r_standWalls r_standXs r_standYs, cA Z r_standWalls 0 4 Rsw, cA Z r_standXs 0 4 Rsx]) rfl (by decide) rfl rfl (Nat.le_of_ble_eq_true rfl) (by decide) dX6_standPlace_24 (fun r w' hpo => ?_)
    refine exN_1 hpo fun y3 hz => anD_4 hz fun e_r e_w hf24_b_y hf24_f1 => ?_; clear hz hpo; subst e_r; subst e_w
    refine g_as (pc' := 27) (lv' := [(0, .ref r0), (1, .int (iI sd))]) (st' := [.int (iI y3)]) (ws' := [cO_rirrrrrrirrr r0 6 w0 ro r_doors r_openingWalls r_froms r_tos r_lowers r_uppers rs r_standWalls r_standXs r_standYs, cA Z r_standWalls 0 4 Rsw, cA Z r_standXs 0 4 Rsx, cO_rrrrrrii w0 10 w_begins w_lengths w_lefts w_rights w_leans w_leaning wn wr, cA Z w_begins 0 8 Wb]) rfl rfl rfl rfl ?_
    refine g_aload_n (pc := 27) X 0 rfl dX6_standPlace_27 ?_
    refine g_get (pc := 28) X inlX6 0 rfl rfl 10 (by decide) mw_6_19 rfl dX6_standPlace_28 ?_
    refine g_iload_n (pc := 31) X 1 rfl dX6_standPlace_31 ?_
    refine g_ialdI (pc := 32) X 2 rfl (by omega) (by omega) (Int.le_trans b_sd.2 (by decide)) dX6_standPlace_32 ?_
    refine g_nameI (fun y5 ey5 => ?_)
    have by5 : 0 ≤ y5 ∧ y5 ≤ 600 := by rw [ey5]; exact h_Rsx _ (by omega)
    refine g_iaddI (pc := 33) X dX6_standPlace_33 ?_
    refine g_aload_n (pc := 34) X 0 rfl dX6_standPlace_34 ?_
    refine g_get (pc := 35) X inlX6 0 rfl rfl 0 (by decide) mw_6_11 rfl dX6_standPlace_35 ?_
    refine g_get (pc := 38) X inlX10 3 rfl rfl 7 (by decide) mw_39_16 rfl dX6_standPlace_38 ?_
    refine g_callSN (pc := 41) X (k_X11_rest l Z (y3 + y5) wr (by omega) (by omega)) iM_X11_rest (by decide) mw_25_3 [] [0, 1, 2, 3, 4] rfl (wr := [cO_rirrrrrrirrr r0 6 w0 ro r_doors r_openingWalls r_froms r_tos r_lowers r_uppers rs r_standWalls r_standXs r_standYs, cA Z r_standWalls 0 4 Rsw, cA Z r_standXs 0 4 Rsx, cO_rrrrrrii w0 10 w_begins w_lengths w_lefts w_rights w_leans w_leaning wn wr, cA Z w_begins 0 8 Wb]) rfl (by decide) rfl rfl (Nat.le_of_ble_eq_true rfl) (by decide) dX6_standPlace_41 (fun r w' hpo => ?_)
    refine exN_1 hpo fun y6 hz => anD_7 hz fun e_r e_w hf41_b_y hf41_f1 hf41_f2 hf41_f3 hf41_f4 => ?_; clear hz hpo; subst e_r; subst e_w
    refine g_as (pc' := 44) (lv' := [(0, .ref r0), (1, .int (iI sd))]) (st' := [.int (iI y6)]) (ws' := [cO_rirrrrrrirrr r0 6 w0 ro r_doors r_openingWalls r_froms r_tos r_lowers r_uppers rs r_standWalls r_standXs r_standYs, cA Z r_standWalls 0 4 Rsw, cA Z r_standXs 0 4 Rsx, cO_rrrrrrii w0 10 w_begins w_lengths w_lefts w_rights w_leans w_leaning wn wr, cA Z w_begins 0 8 Wb]) rfl rfl rfl rfl ?_
    refine g_goto (pc := 44) X 48 (by decide) dX6_standPlace_44 ?_
    exact g_iret (pc := 48) X hA (⟨y6, rfl, rfl, (by omega)⟩) (by decide) (by decide) dX6_standPlace_48

set_option maxHeartbeats 4000000 in
set_option maxRecDepth 100000 in
theorem k_X6_standY (l : Launch) (Z : gZ) (r0 : Nat) (w0 : Nat) (r_doors : Nat) (r_openingWalls : Nat) (r_froms : Nat) (r_tos : Nat) (r_lowers : Nat) (r_uppers : Nat) (r_standWalls : Nat) (r_standXs : Nat) (r_standYs : Nat) (Rsy : Nat → Int) (sd : Int) (ro : Int) (rs : Int) (b_sd : (-2147483648) ≤ sd ∧ sd ≤ 2147483647) (b_ro : 0 ≤ ro ∧ ro ≤ 8) (b_rs : 0 ≤ rs ∧ rs ≤ 4) (h_Rsy : ∀ j, j < 4 → 0 ≤ Rsy j ∧ Rsy j ≤ 400) : Con l Z yX6_standY cX6_standY 2 (some .int) 1 22 0 0 [.ref r0, .int (iI sd)] [cO_rirrrrrrirrr r0 6 w0 ro r_doors r_openingWalls r_froms r_tos r_lowers r_uppers rs r_standWalls r_standXs r_standYs, cA Z r_standYs 0 4 Rsy] (fun r w' => ∃ (y : Int), (r = some (.int (iI y))) ∧ (w' = [cO_rirrrrrrirrr r0 6 w0 ro r_doors r_openingWalls r_froms r_tos r_lowers r_uppers rs r_standWalls r_standXs r_standYs, cA Z r_standYs 0 4 Rsy]) ∧ (0 ≤ y ∧ y ≤ 400)) := by
  refine enter (by decide) (Nat.le_of_ble_eq_true rfl) ?_
  intro p e s m args below meth c A X hnm hA
  have X : Cx p s m args meth c cX6_standY 2 (some .int) RX6 Z A := X
  refine g_as (pc' := 0) (lv' := [(0, .ref r0), (1, .int (iI sd))]) (st' := []) (ws' := [cO_rirrrrrrirrr r0 6 w0 ro r_doors r_openingWalls r_froms r_tos r_lowers r_uppers rs r_standWalls r_standXs r_standYs, cA Z r_standYs 0 4 Rsy]) rfl rfl rfl rfl ?_
  refine g_iconst (pc := 0) X (iI 0) (by rfl) dX6_standY_0 ?_
  refine g_iload_n (pc := 1) X 1 rfl dX6_standY_1 ?_
  refine g_aload_n (pc := 2) X 0 rfl dX6_standY_2 ?_
  refine g_get (pc := 3) X inlX6 0 rfl rfl 8 (by decide) mw_15_23 rfl dX6_standY_3 ?_
  refine g_iconst (pc := 6) X (iI 1) (by rfl) dX6_standY_6 ?_
  refine g_isubI (pc := 7) X dX6_standY_7 ?_
  refine g_callSN (pc := 8) X (k_X11_isFrom l Z 0 sd (rs - 1) (by decide) b_sd (by omega)) iM_X11_isFrom (by decide) mw_11_7 [] [0, 1] rfl (wr := [cO_rirrrrrrirrr r0 6 w0 ro r_doors r_openingWalls r_froms r_tos r_lowers r_uppers rs r_standWalls r_standXs r_standYs, cA Z r_standYs 0 4 Rsy]) rfl (by decide) rfl rfl (Nat.le_of_ble_eq_true rfl) (by decide) dX6_standY_8 (fun r w' hpo => ?_)
  obtain ⟨rfl, rfl⟩ := hpo
  refine g_as (pc' := 11) (lv' := [(0, .ref r0), (1, .int (iI sd))]) (st' := [.int (iI (bI (0 ≤ sd ∧ sd ≤ (rs - 1))))]) (ws' := [cO_rirrrrrrirrr r0 6 w0 ro r_doors r_openingWalls r_froms r_tos r_lowers r_uppers rs r_standWalls r_standXs r_standYs, cA Z r_standYs 0 4 Rsy]) rfl rfl rfl rfl ?_
  refine g_if_eqB (pc := 11) X 23 (by decide) dX6_standY_11 (fun c11 => ?_) (fun c11 => ?_)
  · refine g_iconst (pc := 23) X (iI 0) (by rfl) dX6_standY_23 ?_
    exact g_iret (pc := 24) X hA (⟨0, rfl, rfl, (by omega)⟩) (by decide) (by decide) dX6_standY_24
  · refine g_aload_n (pc := 14) X 0 rfl dX6_standY_14 ?_
    refine g_get (pc := 15) X inlX6 0 rfl rfl 11 (by decide) mw_6_20 rfl dX6_standY_15 ?_
    refine g_iload_n (pc := 18) X 1 rfl dX6_standY_18 ?_
    refine g_ialdI (pc := 19) X 1 rfl (by omega) (by omega) (Int.le_trans b_sd.2 (by decide)) dX6_standY_19 ?_
    refine g_nameI (fun y2 ey2 => ?_)
    have by2 : 0 ≤ y2 ∧ y2 ≤ 400 := by rw [ey2]; exact h_Rsy _ (by omega)
    refine g_goto (pc := 20) X 24 (by decide) dX6_standY_20 ?_
    exact g_iret (pc := 24) X hA (⟨y2, rfl, rfl, (by2)⟩) (by decide) (by decide) dX6_standY_24

set_option maxHeartbeats 4000000 in
set_option maxRecDepth 100000 in
theorem k_X6_clear (l : Launch) (Z : gZ) (r0 : Nat) (w0 : Nat) (r_doors : Nat) (r_openingWalls : Nat) (r_froms : Nat) (r_tos : Nat) (r_lowers : Nat) (r_uppers : Nat) (r_standWalls : Nat) (r_standXs : Nat) (r_standYs : Nat) (w_begins : Nat) (w_lengths : Nat) (w_lefts : Nat) (w_rights : Nat) (w_leans : Nat) (w_leaning : Nat) (ro : Int) (rs : Int) (wn : Int) (wr : Int) (b_ro : 0 ≤ ro ∧ ro ≤ 8) (b_rs : 0 ≤ rs ∧ rs ≤ 4) (b_wn : 0 ≤ wn ∧ wn ≤ 8) (b_wr : 0 ≤ wr ∧ wr ≤ 4800) : Con l Z yX6_clear cX6_clear 1 none 1 20 0 0 [.ref r0] [cO_rirrrrrrirrr r0 6 w0 ro r_doors r_openingWalls r_froms r_tos r_lowers r_uppers rs r_standWalls r_standXs r_standYs, cO_rrrrrrii w0 10 w_begins w_lengths w_lefts w_rights w_leans w_leaning wn wr] (fun r w' => (r = none) ∧ (w' = [cO_rirrrrrrirrr r0 6 w0 0 r_doors r_openingWalls r_froms r_tos r_lowers r_uppers 0 r_standWalls r_standXs r_standYs, cO_rrrrrrii w0 10 w_begins w_lengths w_lefts w_rights w_leans w_leaning 0 0])) := by
  refine enter (by decide) (Nat.le_of_ble_eq_true rfl) ?_
  intro p e s m args below meth c A X hnm hA
  have X : Cx p s m args meth c cX6_clear 1 none RX6 Z A := X
  refine g_as (pc' := 0) (lv' := [(0, .ref r0)]) (st' := []) (ws' := [cO_rirrrrrrirrr r0 6 w0 ro r_doors r_openingWalls r_froms r_tos r_lowers r_uppers rs r_standWalls r_standXs r_standYs, cO_rrrrrrii w0 10 w_begins w_lengths w_lefts w_rights w_leans w_leaning wn wr]) rfl rfl rfl rfl ?_
  refine g_aload_n (pc := 0) X 0 rfl dX6_clear_0 ?_
  refine g_get (pc := 1) X inlX6 0 rfl rfl 0 (by decide) mw_6_11 rfl dX6_clear_1 ?_
  refine g_callV (pc := 4) X (k_X10_clear l Z w0 w_begins w_lengths w_lefts w_rights w_leans w_leaning wn wr b_wn b_wr) iM_X10_clear mw_16_0 mw_16_1 mw_16_2 1 rfl rfl [1] [0] rfl (wr := [cO_rirrrrrrirrr r0 6 w0 ro r_doors r_openingWalls r_froms r_tos r_lowers r_uppers rs r_standWalls r_standXs r_standYs]) rfl (by decide) rfl rfl (Nat.le_of_ble_eq_true rfl) (by decide) dX6_clear_4 (fun r w' hpo => ?_)
  obtain ⟨rfl, rfl⟩ := hpo
  refine g_as (pc' := 7) (lv' := [(0, .ref r0)]) (st' := []) (ws' := [cO_rirrrrrrirrr r0 6 w0 ro r_doors r_openingWalls r_froms r_tos r_lowers r_uppers rs r_standWalls r_standXs r_standYs, cO_rrrrrrii w0 10 w_begins w_lengths w_lefts w_rights w_leans w_leaning 0 0]) rfl rfl rfl rfl ?_
  refine g_aload_n (pc := 7) X 0 rfl dX6_clear_7 ?_
  refine g_iconst (pc := 8) X (iI 0) (by rfl) dX6_clear_8 ?_
  refine g_put (pc := 9) X inlX6 tyX6_ok nmX6 0 rfl rfl 1 (by decide) mw_15_22 rfl rfl rfl (Nat.le_of_ble_eq_true rfl) (ws' := [cO_rirrrrrrirrr r0 6 w0 0 r_doors r_openingWalls r_froms r_tos r_lowers r_uppers rs r_standWalls r_standXs r_standYs, cO_rrrrrrii w0 10 w_begins w_lengths w_lefts w_rights w_leans w_leaning 0 0]) rfl dX6_clear_9 ?_
  refine g_aload_n (pc := 12) X 0 rfl dX6_clear_12 ?_
  refine g_iconst (pc := 13) X (iI 0) (by rfl) dX6_clear_13 ?_
  refine g_put (pc := 14) X inlX6 tyX6_ok nmX6 0 rfl rfl 8 (by decide) mw_15_23 rfl rfl rfl (Nat.le_of_ble_eq_true rfl) (ws' := [cO_rirrrrrrirrr r0 6 w0 0 r_doors r_openingWalls r_froms r_tos r_lowers r_uppers 0 r_standWalls r_standXs r_standYs, cO_rrrrrrii w0 10 w_begins w_lengths w_lefts w_rights w_leans w_leaning 0 0]) rfl dX6_clear_14 ?_
  exact g_vret (pc := 17) X hA (⟨rfl, rfl⟩) (by decide) (by decide) dX6_clear_17
