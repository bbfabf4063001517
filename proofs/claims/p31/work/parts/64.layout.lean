set_option maxHeartbeats 4000000 in
set_option maxRecDepth 100000 in
theorem k_J9_floorDiv_7cf53 (l : Launch) (Z : gZ) (v : Int) (d : Int) (b_v : (-2147483648) ≤ v ∧ v ≤ 2147483647) (b_d : 1 ≤ d ∧ d ≤ 2147483647) : Con l Z yJ9_floorDiv_7cf53 cJ9_floorDiv_7cf53 3 (some .int) 0 0 0 0 [.int (iI v), .int (iI d)] [] (fun r w' => ∃ (y : Int), (r = some (.int (iI y))) ∧ (w' = []) ∧ ((-2147483648) ≤ y ∧ y ≤ 2147483647)) := by
  refine enterF (by decide +kernel) (Nat.le_of_ble_eq_true rfl) ?_
  intro p e s m args below meth c A X hnm hA
  have X : Cx p s m args meth c cJ9_floorDiv_7cf53 3 (some .int) RJ9 Z A := X
  refine g_as (pc' := 0) (lv' := [(0, .int (iI v)), (1, .int (iI d))]) (st' := []) (ws' := []) rfl rfl rfl rfl ?_
  refine g_iload_n (pc := 0) X 0 rfl dJ9_floorDiv_7cf53_0 ?_
  refine g_iload_n (pc := 1) X 1 rfl dJ9_floorDiv_7cf53_1 ?_
  refine g_idivI (pc := 2) X b_v (inRb b_d (by decide) (by decide)) (by omega) (by omega) dJ9_floorDiv_7cf53_2 ?_
  refine g_any (fun y1 by1 => ?_)
  refine g_istore_n (pc := 3) X (i := 2) rfl (by decide) (lv' := [(2, .int (iI y1)), (0, .int (iI v)), (1, .int (iI d))]) rfl dJ9_floorDiv_7cf53_3 ?_
  refine g_iload_n (pc := 4) X 1 rfl dJ9_floorDiv_7cf53_4 ?_
  refine g_iload_n (pc := 5) X 2 rfl dJ9_floorDiv_7cf53_5 ?_
  refine g_ixor (pc := 6) X dJ9_floorDiv_7cf53_6 ?_
  refine g_any (fun y2 by2 => ?_)
  refine g_if_geI (pc := 7) X 21 (by decide) by2 dJ9_floorDiv_7cf53_7 (fun c7 => ?_) (fun c7 => ?_)
  · refine g_iload_n (pc := 21) X 0 rfl dJ9_floorDiv_7cf53_21 ?_
    exact g_iret (pc := 22) X hA (⟨y1, rfl, rfl, (by1)⟩) (by decide) (by decide) dJ9_floorDiv_7cf53_22
  · refine g_iload_n (pc := 10) X 0 rfl dJ9_floorDiv_7cf53_10 ?_
    refine g_iload_n (pc := 11) X 2 rfl dJ9_floorDiv_7cf53_11 ?_
    refine g_imulI (pc := 12) X dJ9_floorDiv_7cf53_12 ?_
    refine g_any (fun y3 by3 => ?_)
    refine g_iload_n (pc := 13) X 1 rfl dJ9_floorDiv_7cf53_13 ?_
    refine g_icmp_eqI (pc := 14) X 21 (by decide) by3 b_v dJ9_floorDiv_7cf53_14 (fun c14 => ?_) (fun c14 => ?_)
    · refine g_iload_n (pc := 21) X 0 rfl dJ9_floorDiv_7cf53_21 ?_
      exact g_iret (pc := 22) X hA (⟨y1, rfl, rfl, (by1)⟩) (by decide) (by decide) dJ9_floorDiv_7cf53_22
    · refine g_iload_n (pc := 17) X 0 rfl dJ9_floorDiv_7cf53_17 ?_
      refine g_iconst (pc := 18) X (iI 1) (by rfl) dJ9_floorDiv_7cf53_18 ?_
      refine g_isubI (pc := 19) X dJ9_floorDiv_7cf53_19 ?_
      refine g_any (fun y4 by4 => ?_)
      exact g_iret (pc := 20) X hA (⟨y4, rfl, rfl, (by4)⟩) (by decide) (by decide) dJ9_floorDiv_7cf53_20

set_option maxHeartbeats 4000000 in
set_option maxRecDepth 100000 in
theorem k_X10_heightOn (l : Launch) (Z : gZ) (w0 : Nat) (w_begins : Nat) (w_lengths : Nat) (w_lefts : Nat) (w_rights : Nat) (w_leans : Nat) (w_leaning : Nat) (Wl : Nat → Int) (Wh : Nat → Int) (Wk : Nat → Int) (w : Int) (px : Int) (wn : Int) (wr : Int) (b_w : (-2147483648) ≤ w ∧ w ≤ 2147483647) (b_px : (-2147483648) ≤ px ∧ px ≤ 2147483647) (b_wn : 0 ≤ wn ∧ wn ≤ 8) (b_wr : 0 ≤ wr ∧ wr ≤ 4800) (h_Wl : ∀ j, j < 8 → 0 ≤ Wl j ∧ Wl j ≤ 600) (h_Wh : ∀ j, j < 8 → 0 ≤ Wh j ∧ Wh j ≤ 400) (h_Wk : ∀ j, j < 8 → 0 ≤ Wk j ∧ Wk j ≤ 400) : Con l Z yX10_heightOn cX10_heightOn 3 (some .int) 1 22 0 0 [.ref w0, .int (iI w), .int (iI px)] [cO_rrrrrrii w0 10 w_begins w_lengths w_lefts w_rights w_leans w_leaning wn wr, cA Z w_lengths 0 8 Wl, cA Z w_lefts 0 8 Wh, cA Z w_rights 0 8 Wk] (fun r w' => ∃ (y : Int), (r = some (.int (iI y))) ∧ (w' = [cO_rrrrrrii w0 10 w_begins w_lengths w_lefts w_rights w_leans w_leaning wn wr, cA Z w_lengths 0 8 Wl, cA Z w_lefts 0 8 Wh, cA Z w_rights 0 8 Wk]) ∧ ((-2147483648) ≤ y ∧ y ≤ 2147483647)) := by
  refine enter (by decide) (Nat.le_of_ble_eq_true rfl) ?_
  intro p e s m args below meth c A X hnm hA
  have X : Cx p s m args meth c cX10_heightOn 3 (some .int) RX10 Z A := X
  refine g_as (pc' := 0) (lv' := [(0, .ref w0), (1, .int (iI w)), (2, .int (iI px))]) (st' := []) (ws' := [cO_rrrrrrii w0 10 w_begins w_lengths w_lefts w_rights w_leans w_leaning wn wr, cA Z w_lengths 0 8 Wl, cA Z w_lefts 0 8 Wh, cA Z w_rights 0 8 Wk]) rfl rfl rfl rfl ?_
  refine g_aload_n (pc := 0) X 0 rfl dX10_heightOn_0 ?_
  refine g_iload_n (pc := 1) X 1 rfl dX10_heightOn_1 ?_
  refine g_callV (pc := 2) X (k_X10_has l Z w0 w_begins w_lengths w_lefts w_rights w_leans w_leaning w wn wr b_w b_wn b_wr) iM_X10_has mw_17_19 mw_17_20 mw_17_21 0 rfl rfl [0] [1, 2, 3] rfl (wr := [cA Z w_lengths 0 8 Wl, cA Z w_lefts 0 8 Wh, cA Z w_rights 0 8 Wk]) rfl (by decide) rfl rfl (Nat.le_of_ble_eq_true rfl) (by decide) dX10_heightOn_2 (fun r w' hpo => ?_)
  obtain ⟨rfl, rfl⟩ := hpo
  refine g_as (pc' := 5) (lv' := [(0, .ref w0), (1, .int (iI w)), (2, .int (iI px))]) (st' := [.int (iI (bI (0 ≤ w ∧ w < wn)))]) (ws' := [cA Z w_lengths 0 8 Wl, cA Z w_lefts 0 8 Wh, cA Z w_rights 0 8 Wk, cO_rrrrrrii w0 10 w_begins w_lengths w_lefts w_rights w_leans w_leaning wn wr]) rfl rfl rfl rfl ?_
  refine g_if_eqB (pc := 5) X 17 (by decide) dX10_heightOn_5 (fun c5 => ?_) (fun c5 => ?_)
  · refine g_iconst (pc := 17) X (iI 0) (by rfl) dX10_heightOn_17 ?_
    refine g_ws (ws' := [cO_rrrrrrii w0 10 w_begins w_lengths w_lefts w_rights w_leans w_leaning wn wr, cA Z w_lengths 0 8 Wl, cA Z w_lefts 0 8 Wh, cA Z w_rights 0 8 Wk]) [3, 0, 1, 2] (by decide) rfl ?_
    exact g_iret (pc := 18) X hA (⟨0, rfl, rfl, (by omega)⟩) (by decide) (by decide) dX10_heightOn_18
  · refine g_aload_n (pc := 8) X 0 rfl dX10_heightOn_8 ?_
    refine g_get (pc := 9) X inlX10 3 rfl rfl 1 (by decide) mw_7_2 rfl dX10_heightOn_9 ?_
    refine g_iload_n (pc := 12) X 1 rfl dX10_heightOn_12 ?_
    refine g_ialdI (pc := 13) X 0 rfl (by omega) (by omega) (Int.le_trans b_w.2 (by decide)) dX10_heightOn_13 ?_
    refine g_nameI (fun y2 ey2 => ?_)
    have by2 : 0 ≤ y2 ∧ y2 ≤ 600 := by rw [ey2]; exact h_Wl _ (by omega)
    refine g_if_gtI (pc := 14) X 19 (by decide) (inRb by2 (by decide) (by decide)) dX10_heightOn_14 (fun c14 => ?_) (fun c14 => ?_)
    · refine g_aload_n (pc := 19) X 0 rfl dX10_heightOn_19 ?_
      refine g_get (pc := 20) X inlX10 3 rfl rfl 2 (by decide) mw_7_3 rfl dX10_heightOn_20 ?_
      refine g_iload_n (pc := 23) X 1 rfl dX10_heightOn_23 ?_
      refine g_ialdI (pc := 24) X 1 rfl (by omega) (by omega) (Int.le_trans b_w.2 (by decide)) dX10_heightOn_24 ?_
      refine g_nameI (fun y3 ey3 => ?_)
      have by3 : 0 ≤ y3 ∧ y3 ≤ 400 := by rw [ey3]; exact h_Wh _ (by omega)
      refine g_aload_n (pc := 25) X 0 rfl dX10_heightOn_25 ?_
      refine g_get (pc := 26) X inlX10 3 rfl rfl 3 (by decide) mw_7_4 rfl dX10_heightOn_26 ?_
      refine g_iload_n (pc := 29) X 1 rfl dX10_heightOn_29 ?_
      refine g_ialdI (pc := 30) X 2 rfl (by omega) (by omega) (Int.le_trans b_w.2 (by decide)) dX10_heightOn_30 ?_
      refine g_nameI (fun y4 ey4 => ?_)
      have by4 : 0 ≤ y4 ∧ y4 ≤ 400 := by rw [ey4]; exact h_Wk _ (by omega)
      refine g_aload_n (pc := 31) X 0 rfl dX10_heightOn_31 ?_
      refine g_get (pc := 32) X inlX10 3 rfl rfl 2 (by decide) mw_7_3 rfl dX10_heightOn_32 ?_
      refine g_iload_n (pc := 35) X 1 rfl dX10_heightOn_35 ?_
      refine g_ialdI (pc := 36) X 1 rfl (by omega) (by omega) (Int.le_trans b_w.2 (by decide)) dX10_heightOn_36 ?_
      refine g_nameI (fun y5 ey5 => ?_)
      have by5 : 0 ≤ y5 ∧ y5 ≤ 400 := by rw [ey5]; exact h_Wh _ (by omega)
      refine g_isubI (pc := 37) X dX10_heightOn_37 ?_
      refine g_iload_n (pc := 38) X 2 rfl dX10_heightOn_38 ?_
      refine g_imulI (pc := 39) X dX10_heightOn_39 ?_
      refine g_any (fun y6 by6 => ?_)
      refine g_aload_n (pc := 40) X 0 rfl dX10_heightOn_40 ?_
      refine g_get (pc := 41) X inlX10 3 rfl rfl 1 (by decide) mw_7_2 rfl dX10_heightOn_41 ?_
      refine g_iload_n (pc := 44) X 1 rfl dX10_heightOn_44 ?_
      refine g_ialdI (pc := 45) X 0 rfl (by omega) (by omega) (Int.le_trans b_w.2 (by decide)) dX10_heightOn_45 ?_
      refine g_nameI (fun y7 ey7 => ?_)
      have by7 : 0 ≤ y7 ∧ y7 ≤ 600 := by rw [ey7]; exact h_Wl _ (by omega)
      refine g_callS (pc := 46) X (k_J9_floorDiv_7cf53 l Z y6 y7 by6 (by omega)) iM_J9_floorDiv_7cf53 mw_25_21 mw_25_22 [] [0, 1, 2, 3] rfl (wr := [cA Z w_lengths 0 8 Wl, cA Z w_lefts 0 8 Wh, cA Z w_rights 0 8 Wk, cO_rrrrrrii w0 10 w_begins w_lengths w_lefts w_rights w_leans w_leaning wn wr]) rfl (by decide) rfl rfl (Nat.le_of_ble_eq_true rfl) (by decide) dX10_heightOn_46 (fun r w' hpo => ?_)
      refine exN_1 hpo fun y8 hz => anD_3 hz fun e_r e_w hf46_b_y => ?_; clear hz hpo; subst e_r; subst e_w
      refine g_as (pc' := 49) (lv' := [(0, .ref w0), (1, .int (iI w)), (2, .int (iI px))]) (st' := [.int (iI y8), .int (iI y3)]) (ws' := [cA Z w_lengths 0 8 Wl, cA Z w_lefts 0 8 Wh, cA Z w_rights 0 8 Wk, cO_rrrrrrii w0 10 w_begins w_lengths w_lefts w_rights w_leans w_leaning wn wr]) rfl rfl rfl rfl ?_
      refine g_iaddI (pc := 49) X dX10_heightOn_49 ?_
      refine g_any (fun y10 by10 => ?_)
      refine g_ws (ws' := [cO_rrrrrrii w0 10 w_begins w_lengths w_lefts w_rights w_leans w_leaning wn wr, cA Z w_lengths 0 8 Wl, cA Z w_lefts 0 8 Wh, cA Z w_rights 0 8 Wk]) [3, 0, 1, 2] (by decide) rfl ?_
      exact g_iret (pc := 50) X hA (⟨y10, rfl, rfl, (by10)⟩) (by decide) (by decide) dX10_heightOn_50
    · refine g_iconst (pc := 17) X (iI 0) (by rfl) dX10_heightOn_17 ?_
      refine g_ws (ws' := [cO_rrrrrrii w0 10 w_begins w_lengths w_lefts w_rights w_leans w_leaning wn wr, cA Z w_lengths 0 8 Wl, cA Z w_lefts 0 8 Wh, cA Z w_rights 0 8 Wk]) [3, 0, 1, 2] (by decide) rfl ?_
      exact g_iret (pc := 18) X hA (⟨0, rfl, rfl, (by omega)⟩) (by decide) (by decide) dX10_heightOn_18

set_option maxHeartbeats 4000000 in
set_option maxRecDepth 100000 in
theorem k_X3_placeAny (l : Launch) (Z : gZ) (p0 : Nat) (us : Int) (ph : Int) (pw : Int) (pr : Int) (pd : Int) (pl : Int) (pf : Int) (pg : Int) (b_us : (-2147483648) ≤ us ∧ us ≤ 2147483647) (b_ph : (-2147483648) ≤ ph ∧ ph ≤ 2147483647) (b_pw : 20 ≤ pw ∧ pw ≤ 120) (b_pr : 10 ≤ pr ∧ pr ≤ 120) (b_pd : 0 ≤ pd ∧ pd ≤ 2) (b_pl : 300 ≤ pl ∧ pl ≤ 2000) (b_pf : 0 ≤ pf ∧ pf ≤ 119) (b_pg : 1 ≤ pg ∧ pg ≤ 120) : Con l Z yX3_placeBehind cX3_placeBehind 3 (some .int) 1 22 0 0 [.ref p0, .int (iI us), .int (iI ph)] [cO_iiiiii p0 3 pw pr pd pl pf pg] (fun r w' => ∃ (y : Int), (r = some (.int (iI y))) ∧ (w' = [cO_iiiiii p0 3 pw pr pd pl pf pg]) ∧ ((-2147483648) ≤ y ∧ y ≤ 2147483647)) := by
  refine enter (by decide) (Nat.le_of_ble_eq_true rfl) ?_
  intro p e s m args below meth c A X hnm hA
  have X : Cx p s m args meth c cX3_placeBehind 3 (some .int) RX3 Z A := X
  refine g_as (pc' := 0) (lv' := [(0, .ref p0), (1, .int (iI us)), (2, .int (iI ph))]) (st' := []) (ws' := [cO_iiiiii p0 3 pw pr pd pl pf pg]) rfl rfl rfl rfl ?_
  refine g_aload_n (pc := 0) X 0 rfl dX3_placeBehind_0 ?_
  refine g_get (pc := 1) X inlX3 0 rfl rfl 2 (by decide) mw_26_22 rfl dX3_placeBehind_1 ?_
  refine g_iconst (pc := 4) X (iI 2) (by rfl) dX3_placeBehind_4 ?_
  refine g_icmp_neI (pc := 5) X 12 (by decide) (inRb b_pd (by decide) (by decide)) ⟨by decide, by decide⟩ dX3_placeBehind_5 (fun c5 => ?_) (fun c5 => ?_)
  · refine g_iload_n (pc := 12) X 1 rfl dX3_placeBehind_12 ?_
    refine g_iload_n (pc := 13) X 2 rfl dX3_placeBehind_13 ?_
    refine g_iload_n (pc := 14) X 1 rfl dX3_placeBehind_14 ?_
    refine g_isubI (pc := 15) X dX3_placeBehind_15 ?_
    refine g_any (fun y1 by1 => ?_)
    refine g_aload_n (pc := 16) X 0 rfl dX3_placeBehind_16 ?_
    refine g_get (pc := 17) X inlX3 0 rfl rfl 1 (by decide) mw_26_23 rfl dX3_placeBehind_17 ?_
    refine g_callSN (pc := 20) X (k_X11_rest l Z y1 pr by1 (by (first | (clear b_us b_ph b_pw b_pr b_pd b_pl b_pf b_pg; omega) | omega))) iM_X11_rest (by decide) mw_25_3 [] [0] rfl (wr := [cO_iiiiii p0 3 pw pr pd pl pf pg]) rfl (by decide) rfl rfl (Nat.le_of_ble_eq_true rfl) (by decide) dX3_placeBehind_20 (fun r w' hpo => ?_)
    refine exN_1 hpo fun y2 hz => anD_7 hz fun e_r e_w hf20_b_y hf20_f1 hf20_f2 hf20_f3 hf20_f4 => ?_; clear hz hpo; subst e_r; subst e_w
    refine g_as (pc' := 23) (lv' := [(0, .ref p0), (1, .int (iI us)), (2, .int (iI ph))]) (st' := [.int (iI y2), .int (iI us)]) (ws' := [cO_iiiiii p0 3 pw pr pd pl pf pg]) rfl rfl rfl rfl ?_
    refine g_iaddI (pc := 23) X dX3_placeBehind_23 ?_
    refine g_any (fun y4 by4 => ?_)
    exact g_iret (pc := 24) X hA (⟨y4, rfl, rfl, (by4)⟩) (by decide) (by decide) dX3_placeBehind_24
  · refine g_iload_n (pc := 8) X 1 rfl dX3_placeBehind_8 ?_
    refine g_goto (pc := 9) X 24 (by decide) dX3_placeBehind_9 ?_
    exact g_iret (pc := 24) X hA (⟨us, rfl, rfl, (b_us)⟩) (by decide) (by decide) dX3_placeBehind_24

set_option maxHeartbeats 4000000 in
set_option maxRecDepth 100000 in
theorem k_X5_cut (l : Launch) (Z : gZ) (q0 : Nat) (p0 : Nat) (q_used : Nat) (q_leastOf : Nat) (q_longs : Nat) (q_phases : Nat) (Qu : Nat → Int) (le : Int) (ph : Int) (qo : Int) (qc : Int) (qp : Int) (pw : Int) (pr : Int) (pd : Int) (pl : Int) (pf : Int) (pg : Int) (b_le : (-2147483648) ≤ le ∧ le ≤ 2147483647) (b_ph : 0 ≤ ph ∧ ph ≤ 119) (b_qo : 0 ≤ qo ∧ qo ≤ 2880) (b_qc : (-2147483648) ≤ qc ∧ qc ≤ 2147483647) (b_qp : (-2147483648) ≤ qp ∧ qp ≤ 2147483647) (b_pw : 20 ≤ pw ∧ pw ≤ 120) (b_pr : 10 ≤ pr ∧ pr ≤ 120) (b_pd : 0 ≤ pd ∧ pd ≤ 2) (b_pl : 300 ≤ pl ∧ pl ≤ 2000) (b_pf : 0 ≤ pf ∧ pf ≤ 119) (b_pg : 1 ≤ pg ∧ pg ≤ 120) (h_Qu : ∀ j, j < 2880 → (-2147483648) ≤ Qu j ∧ Qu j ≤ 2147483647) : Con l Z yX5_cut cX5_cut 5 (some .boolean) 2 44 0 0 [.ref q0, .int (iI le), .int (iI ph)] [cO_ririirrr q0 5 p0 qo q_used qc qp q_leastOf q_longs q_phases, cA Z q_used 0 2880 Qu, cO_iiiiii p0 3 pw pr pd pl pf pg] (fun r w' => ∃ (Qu2 : Nat → Int) (qo2 : Int) (qc2 : Int) (qp2 : Int) (y : Int), (r = some (.int (iI y))) ∧ (w' = [cO_ririirrr q0 5 p0 qo2 q_used qc2 qp2 q_leastOf q_longs q_phases, cA Z q_used 0 2880 Qu2, cO_iiiiii p0 3 pw pr pd pl pf pg]) ∧ (0 ≤ qo2 ∧ qo2 ≤ 2880) ∧ ((-2147483648) ≤ qc2 ∧ qc2 ≤ 2147483647) ∧ ((-2147483648) ≤ qp2 ∧ qp2 ≤ 2147483647) ∧ (0 ≤ y ∧ y ≤ 1) ∧ (∀ j, j < 2880 → (-2147483648) ≤ Qu2 j ∧ Qu2 j ≤ 2147483647) ∧ (qo ≤ qo2)) := by
  refine enter (by decide) (Nat.le_of_ble_eq_true rfl) ?_
  intro p e s m args below meth c A X hnm hA
  have X : Cx p s m args meth c cX5_cut 5 (some .boolean) RX5 Z A := X
  refine g_as (pc' := 0) (lv' := [(0, .ref q0), (1, .int (iI le)), (2, .int (iI ph))]) (st' := []) (ws' := [cO_ririirrr q0 5 p0 qo q_used qc qp q_leastOf q_longs q_phases, cA Z q_used 0 2880 Qu, cO_iiiiii p0 3 pw pr pd pl pf pg]) rfl rfl rfl rfl ?_
  refine g_iconst (pc := 0) X (iI 0) (by rfl) dX5_cut_0 ?_
  refine g_istore_n (pc := 1) X (i := 3) rfl (by decide) (lv' := [(3, .int (iI 0)), (0, .ref q0), (1, .int (iI le)), (2, .int (iI ph))]) rfl dX5_cut_1 ?_
  have loop2 : ∀ (fuel : Nat) (i : Int), (0 ≤ i ∧ i ≤ 2880) → (2881 - i).toNat < fuel → Gs p l e ({ frames := 2, cells := 0, slots := 0, locals := 44 } : Room) s m args below meth c (MQ below (gPost Z [cO_ririirrr q0 5 p0 qo q_used qc qp q_leastOf q_longs q_phases, cA Z q_used 0 2880 Qu, cO_iiiiii p0 3 pw pr pd pl pf pg] s.heap.size (fun r w' => ∃ (Qu2 : Nat → Int) (qo2 : Int) (qc2 : Int) (qp2 : Int) (y : Int), (r = some (.int (iI y))) ∧ (w' = [cO_ririirrr q0 5 p0 qo2 q_used qc2 qp2 q_leastOf q_longs q_phases, cA Z q_used 0 2880 Qu2, cO_iiiiii p0 3 pw pr pd pl pf pg]) ∧ (0 ≤ qo2 ∧ qo2 ≤ 2880) ∧ ((-2147483648) ≤ qc2 ∧ qc2 ≤ 2147483647) ∧ ((-2147483648) ≤ qp2 ∧ qp2 ≤ 2147483647) ∧ (0 ≤ y ∧ y ≤ 1) ∧ (∀ j, j < 2880 → (-2147483648) ≤ Qu2 j ∧ Qu2 j ≤ 2147483647) ∧ (qo ≤ qo2))) args s 0 0 (va_A [cO_ririirrr q0 5 p0 qo q_used qc qp q_leastOf q_longs q_phases, cA Z q_used 0 2880 Qu, cO_iiiiii p0 3 pw pr pd pl pf pg] s.heap.size)) Z A 5 0 0 2 [(3, .int (iI i)), (0, .ref q0), (1, .int (iI le)), (2, .int (iI ph))] [] [cO_ririirrr q0 5 p0 qo q_used qc qp q_leastOf q_longs q_phases, cA Z q_used 0 2880 Qu, cO_iiiiii p0 3 pw pr pd pl pf pg] := by
    intro fuel
    induction fuel with
    | zero => intro i _ hm; exact absurd hm (Nat.not_lt_zero _)
    | succ fuel ih =>
      intro i b_i hm
      refine g_iload_n (pc := 2) X 0 rfl dX5_cut_2 ?_
      refine g_aload_n (pc := 3) X 1 rfl dX5_cut_3 ?_
      refine g_get (pc := 4) X inlX5 0 rfl rfl 1 (by decide) mw_34_12 rfl dX5_cut_4 ?_
      refine g_icmp_geI (pc := 7) X 56 (by decide) (inRb b_i (by decide) (by decide)) (inRb b_qo (by decide) (by decide)) dX5_cut_7 (fun c7 => ?_) (fun c7 => ?_)
      · refine g_aload_n (pc := 56) X 1 rfl dX5_cut_56 ?_
        refine g_get (pc := 57) X inlX5 0 rfl rfl 1 (by decide) mw_34_12 rfl dX5_cut_57 ?_
        refine g_sipush (pc := 60) X (iI 2880) (by decide) dX5_cut_60 ?_
        refine g_icmp_geI (pc := 63) X 79 (by decide) (inRb b_qo (by decide) (by decide)) ⟨by decide, by decide⟩ dX5_cut_63 (fun c63 => ?_) (fun c63 => ?_)
        · refine g_iconst (pc := 79) X (iI 0) (by rfl) dX5_cut_79 ?_
          exact g_zret (pc := 80) X hA (rfl) (⟨Qu, qo, qc, qp, 0, rfl, rfl, (b_qo), (b_qc), (b_qp), (by (first | (clear b_le b_ph b_qc b_qp b_pw b_pr b_pd b_pl b_pf b_pg; omega) | omega)), (h_Qu), (by (first | (clear b_le b_ph b_qc b_qp b_pw b_pr b_pd b_pl b_pf b_pg; omega) | omega))⟩) (by decide) (by decide) dX5_cut_80
        · refine g_iload_n (pc := 66) X 3 rfl dX5_cut_66 ?_
          refine g_iload_n (pc := 67) X 2 rfl dX5_cut_67 ?_
          refine g_iaddI (pc := 68) X dX5_cut_68 ?_
          refine g_any (fun y1 by1 => ?_)
          refine g_aload_n (pc := 69) X 1 rfl dX5_cut_69 ?_
          refine g_get (pc := 70) X inlX5 0 rfl rfl 0 (by decide) mw_34_11 rfl dX5_cut_70 ?_
          refine g_get (pc := 73) X inlX3 2 rfl rfl 3 (by decide) mw_34_23 rfl dX5_cut_73 ?_
          refine g_icmp_leI (pc := 76) X 81 (by decide) by1 (inRb b_pl (by decide) (by decide)) dX5_cut_76 (fun c76 => ?_) (fun c76 => ?_)
          · refine g_aload_n (pc := 81) X 1 rfl dX5_cut_81 ?_
            refine g_dup (pc := 82) X rfl dX5_cut_82 ?_
            refine g_get (pc := 83) X inlX5 0 rfl rfl 1 (by decide) mw_34_12 rfl dX5_cut_83 ?_
            refine g_iconst (pc := 86) X (iI 1) (by rfl) dX5_cut_86 ?_
            refine g_iaddI (pc := 87) X dX5_cut_87 ?_
            refine g_put (pc := 88) X inlX5 tyX5_ok nmX5 0 rfl rfl 1 (by decide) mw_34_12 rfl rfl rfl (Nat.le_of_ble_eq_true rfl) (ws' := [cO_ririirrr q0 5 p0 (qo + 1) q_used qc qp q_leastOf q_longs q_phases, cA Z q_used 0 2880 Qu, cO_iiiiii p0 3 pw pr pd pl pf pg]) rfl dX5_cut_88 ?_
            refine g_aload_n (pc := 91) X 1 rfl dX5_cut_91 ?_
            refine g_aload_n (pc := 92) X 1 rfl dX5_cut_92 ?_
            refine g_get (pc := 93) X inlX5 0 rfl rfl 1 (by decide) mw_34_12 rfl dX5_cut_93 ?_
            refine g_iconst (pc := 96) X (iI 1) (by rfl) dX5_cut_96 ?_
            refine g_isubI (pc := 97) X dX5_cut_97 ?_
            refine g_iload_n (pc := 98) X 3 rfl dX5_cut_98 ?_
            refine g_iload_n (pc := 99) X 2 rfl dX5_cut_99 ?_
            refine g_callV (pc := 100) X (k_X5_take l Z q0 p0 q_used q_leastOf q_longs q_phases Qu ((qo + 1) - 1) ph le (qo + 1) qc qp (by (first | (clear b_le b_ph b_qc b_qp b_pw b_pr b_pd b_pl b_pf b_pg; omega) | omega)) (by (first | (clear b_le b_ph b_qc b_qp b_pw b_pr b_pd b_pl b_pf b_pg; omega) | omega)) b_le (by (first | (clear b_le b_ph b_qc b_qp b_pw b_pr b_pd b_pl b_pf b_pg; omega) | omega)) b_qc b_qp (h_Qu)) iM_X5_take mw_35_4 mw_35_5 mw_35_6 0 rfl rfl [0, 1] [2] rfl (wr := [cO_iiiiii p0 3 pw pr pd pl pf pg]) rfl (by decide) rfl rfl (Nat.le_of_ble_eq_true rfl) (by decide) dX5_cut_100 (fun r w' hpo => ?_)
            refine exN_1 hpo fun F2 hz => anD_3 hz fun e_r e_w hf100_h_Qu2 => ?_; clear hz hpo; subst e_r; subst e_w
            refine g_as (pc' := 103) (lv' := [(3, .int (iI i)), (0, .ref q0), (1, .int (iI le)), (2, .int (iI ph))]) (st' := []) (ws' := [cO_iiiiii p0 3 pw pr pd pl pf pg, cO_ririirrr q0 5 p0 (qo + 1) q_used ((qo + 1) - 1) ph q_leastOf q_longs q_phases, cA Z q_used 0 2880 F2]) rfl rfl rfl rfl ?_
            refine g_iconst (pc := 103) X (iI 1) (by rfl) dX5_cut_103 ?_
            refine g_ws (ws' := [cO_ririirrr q0 5 p0 (qo + 1) q_used ((qo + 1) - 1) ph q_leastOf q_longs q_phases, cA Z q_used 0 2880 F2, cO_iiiiii p0 3 pw pr pd pl pf pg]) [1, 2, 0] (by decide) rfl ?_
            exact g_zret (pc := 104) X hA (rfl) (⟨F2, (qo + 1), ((qo + 1) - 1), ph, 1, rfl, rfl, (by (first | (clear b_le b_ph b_qc b_qp b_pw b_pr b_pd b_pl b_pf b_pg; omega) | omega)), (by (first | (clear b_le b_ph b_qc b_qp b_pw b_pr b_pd b_pl b_pf b_pg; omega) | omega)), (by (first | (clear b_le b_ph b_qc b_qp b_pw b_pr b_pd b_pl b_pf b_pg; omega) | omega)), (by (first | (clear b_le b_ph b_qc b_qp b_pw b_pr b_pd b_pl b_pf b_pg; omega) | omega)), (hf100_h_Qu2), (by (first | (clear b_le b_ph b_qc b_qp b_pw b_pr b_pd b_pl b_pf b_pg; omega) | omega))⟩) (by decide) (by decide) dX5_cut_104
          · refine g_iconst (pc := 79) X (iI 0) (by rfl) dX5_cut_79 ?_
            exact g_zret (pc := 80) X hA (rfl) (⟨Qu, qo, qc, qp, 0, rfl, rfl, (b_qo), (b_qc), (b_qp), (by (first | (clear b_le b_ph b_qc b_qp b_pw b_pr b_pd b_pl b_pf b_pg; omega) | omega)), (h_Qu), (by (first | (clear b_le b_ph b_qc b_qp b_pw b_pr b_pd b_pl b_pf b_pg; omega) | omega))⟩) (by decide) (by decide) dX5_cut_80
      · refine g_aload_n (pc := 10) X 1 rfl dX5_cut_10 ?_
        refine g_get (pc := 11) X inlX5 0 rfl rfl 0 (by decide) mw_34_11 rfl dX5_cut_11 ?_
        refine g_aload_n (pc := 14) X 1 rfl dX5_cut_14 ?_
        refine g_get (pc := 15) X inlX5 0 rfl rfl 2 (by decide) mw_5_1 rfl dX5_cut_15 ?_
        refine g_iload_n (pc := 18) X 0 rfl dX5_cut_18 ?_
        refine g_ialdI (pc := 19) X 1 rfl (b_i.1) (by (first | (clear b_le b_ph b_qc b_qp b_pw b_pr b_pd b_pl b_pf b_pg; omega) | omega)) (Int.le_trans b_i.2 (by decide)) dX5_cut_19 ?_
        refine g_nameI (fun y4 ey4 => ?_)
        have by4 : (-2147483648) ≤ y4 ∧ y4 ≤ 2147483647 := by rw [ey4]; exact h_Qu _ (by (first | (clear b_le b_ph b_qc b_qp b_pw b_pr b_pd b_pl b_pf b_pg; omega) | omega))
        refine g_iload_n (pc := 20) X 3 rfl dX5_cut_20 ?_
        refine g_callV (pc := 21) X (k_X3_placeAny l Z p0 y4 ph pw pr pd pl pf pg by4 (by (first | (clear b_le b_ph b_qc b_qp b_pw b_pr b_pd b_pl b_pf b_pg; omega) | omega)) b_pw b_pr b_pd b_pl b_pf b_pg) iM_X3_placeBehind mw_35_0 mw_35_1 mw_35_2 2 rfl rfl [2] [0, 1] rfl (wr := [cO_ririirrr q0 5 p0 qo q_used qc qp q_leastOf q_longs q_phases, cA Z q_used 0 2880 Qu]) rfl (by decide) rfl rfl (Nat.le_of_ble_eq_true rfl) (by decide) dX5_cut_21 (fun r w' hpo => ?_)
        refine exN_1 hpo fun y5 hz => anD_3 hz fun e_r e_w hf21_b_y => ?_; clear hz hpo; subst e_r; subst e_w
        refine g_as (pc' := 24) (lv' := [(3, .int (iI i)), (0, .ref q0), (1, .int (iI le)), (2, .int (iI ph))]) (st' := [.int (iI y5)]) (ws' := [cO_ririirrr q0 5 p0 qo q_used qc qp q_leastOf q_longs q_phases, cA Z q_used 0 2880 Qu, cO_iiiiii p0 3 pw pr pd pl pf pg]) rfl rfl rfl rfl ?_
        refine g_istore (pc := 24) X (by decide) (lv' := [(4, .int (iI y5)), (3, .int (iI i)), (0, .ref q0), (1, .int (iI le)), (2, .int (iI ph))]) rfl dX5_cut_24 ?_
        refine g_iload (pc := 26) X 0 rfl dX5_cut_26 ?_
        refine g_iload_n (pc := 28) X 3 rfl dX5_cut_28 ?_
        refine g_iaddI (pc := 29) X dX5_cut_29 ?_
        refine g_any (fun y7 by7 => ?_)
        refine g_aload_n (pc := 30) X 2 rfl dX5_cut_30 ?_
        refine g_get (pc := 31) X inlX5 0 rfl rfl 0 (by decide) mw_34_11 rfl dX5_cut_31 ?_
        refine g_get (pc := 34) X inlX3 2 rfl rfl 3 (by decide) mw_34_23 rfl dX5_cut_34 ?_
        refine g_icmp_gtI (pc := 37) X 50 (by decide) by7 (inRb b_pl (by decide) (by decide)) dX5_cut_37 (fun c37 => ?_) (fun c37 => ?_)
        · refine g_iincI (pc := 50) X 1 rfl (by decide) (lv' := [(3, .int (iI (i + 1))), (4, .int (iI y5)), (0, .ref q0), (1, .int (iI le)), (2, .int (iI ph))]) rfl dX5_cut_50 ?_
          refine g_goto (pc := 53) X 2 (by decide) dX5_cut_53 ?_
          refine g_lv (lv' := [(3, .int (iI (i + 1))), (0, .ref q0), (1, .int (iI le)), (2, .int (iI ph))]) [0, 2, 3, 4] rfl ?_
          exact ih (i + 1) (by (first | (clear b_le b_ph b_qc b_qp b_pw b_pr b_pd b_pl b_pf b_pg; omega) | omega)) (by (first | (clear b_le b_ph b_qc b_qp b_pw b_pr b_pd b_pl b_pf b_pg; omega) | omega))
        · refine g_aload_n (pc := 40) X 2 rfl dX5_cut_40 ?_
          refine g_iload_n (pc := 41) X 1 rfl dX5_cut_41 ?_
          refine g_iload (pc := 42) X 0 rfl dX5_cut_42 ?_
          refine g_iload_n (pc := 44) X 3 rfl dX5_cut_44 ?_
          refine g_callV (pc := 45) X (k_X5_take l Z q0 p0 q_used q_leastOf q_longs q_phases Qu i y5 le qo qc qp (by (first | (clear b_le b_ph b_qc b_qp b_pw b_pr b_pd b_pl b_pf b_pg; omega) | omega)) hf21_b_y b_le b_qo b_qc b_qp (h_Qu)) iM_X5_take mw_35_4 mw_35_5 mw_35_6 0 rfl rfl [0, 1] [2] rfl (wr := [cO_iiiiii p0 3 pw pr pd pl pf pg]) rfl (by decide) rfl rfl (Nat.le_of_ble_eq_true rfl) (by decide) dX5_cut_45 (fun r w' hpo => ?_)
          refine exN_1 hpo fun F8 hz => anD_3 hz fun e_r e_w hf45_h_Qu2 => ?_; clear hz hpo; subst e_r; subst e_w
          refine g_as (pc' := 48) (lv' := [(4, .int (iI y5)), (3, .int (iI i)), (0, .ref q0), (1, .int (iI le)), (2, .int (iI ph))]) (st' := []) (ws' := [cO_iiiiii p0 3 pw pr pd pl pf pg, cO_ririirrr q0 5 p0 qo q_used i y5 q_leastOf q_longs q_phases, cA Z q_used 0 2880 F8]) rfl rfl rfl rfl ?_
          refine g_iconst (pc := 48) X (iI 1) (by rfl) dX5_cut_48 ?_
          refine g_ws (ws' := [cO_ririirrr q0 5 p0 qo q_used i y5 q_leastOf q_longs q_phases, cA Z q_used 0 2880 F8, cO_iiiiii p0 3 pw pr pd pl pf pg]) [1, 2, 0] (by decide) rfl ?_
          exact g_zret (pc := 49) X hA (rfl) (⟨F8, qo, i, y5, 1, rfl, rfl, (b_qo), (by (first | (clear b_le b_ph b_qc b_qp b_pw b_pr b_pd b_pl b_pf b_pg; omega) | omega)), (hf21_b_y), (by (first | (clear b_le b_ph b_qc b_qp b_pw b_pr b_pd b_pl b_pf b_pg; omega) | omega)), (hf45_h_Qu2), (by (first | (clear b_le b_ph b_qc b_qp b_pw b_pr b_pd b_pl b_pf b_pg; omega) | omega))⟩) (by decide) (by decide) dX5_cut_49
  exact loop2 _ 0 (by (first | (clear b_le b_ph b_qc b_qp b_pw b_pr b_pd b_pl b_pf b_pg; omega) | omega)) (Nat.lt_succ_self _)

set_option maxHeartbeats 4000000 in
set_option maxRecDepth 100000 in
theorem k_X2_beginOf (l : Launch) (Z : gZ) (l0 : Nat) (r0 : Nat) (p0 : Nat) (l_talls : Nat) (l_firsts : Nat) (l_stripsOf : Nat) (l_froms : Nat) (l_tos : Nat) (l_longs : Nat) (l_phases : Nat) (l_rollsOf : Nat) (l_placesOf : Nat) (w0 : Nat) (r_doors : Nat) (r_openingWalls : Nat) (r_froms : Nat) (r_tos : Nat) (r_lowers : Nat) (r_uppers : Nat) (r_standWalls : Nat) (r_standXs : Nat) (r_standYs : Nat) (w_begins : Nat) (w_lengths : Nat) (w_lefts : Nat) (w_rights : Nat) (w_leans : Nat) (w_leaning : Nat) (sp : Int) (ls : Int) (lb : Int) (lt : Int) (lp : Int) (lc : Int) (pw : Int) (pr : Int) (pd : Int) (pl : Int) (pf : Int) (pg : Int) (ro : Int) (rs : Int) (wn : Int) (wr : Int) (b_sp : 0 ≤ sp ∧ sp ≤ 239) (b_ls : 0 ≤ ls ∧ ls ≤ 4799) (b_lb : 0 ≤ lb ∧ lb ≤ 119) (b_lt : 0 ≤ lt ∧ lt ≤ 20) (b_lp : 0 ≤ lp ∧ lp ≤ 240) (b_lc : 0 ≤ lc ∧ lc ≤ 480) (b_pw : 20 ≤ pw ∧ pw ≤ 120) (b_pr : 10 ≤ pr ∧ pr ≤ 120) (b_pd : 0 ≤ pd ∧ pd ≤ 2) (b_pl : 300 ≤ pl ∧ pl ≤ 2000) (b_pf : 0 ≤ pf ∧ pf ≤ 119) (b_pg : 1 ≤ pg ∧ pg ≤ 120) (b_ro : 0 ≤ ro ∧ ro ≤ 8) (b_rs : 0 ≤ rs ∧ rs ≤ 4) (b_wn : 0 ≤ wn ∧ wn ≤ 8) (b_wr : 0 ≤ wr ∧ wr ≤ 4800) : Con l Z yX2_beginOf cX2_beginOf 2 (some .int) 1 22 0 0 [.ref l0, .int (iI sp)] [cO_rriiiirrirrrrrrr l0 2 r0 p0 ls lb lt lp l_talls l_firsts lc l_stripsOf l_froms l_tos l_longs l_phases l_rollsOf l_placesOf, cO_iiiiii p0 3 pw pr pd pl pf pg, cO_rirrrrrrirrr r0 6 w0 ro r_doors r_openingWalls r_froms r_tos r_lowers r_uppers rs r_standWalls r_standXs r_standYs, cO_rrrrrrii w0 10 w_begins w_lengths w_lefts w_rights w_leans w_leaning wn wr] (fun r w' => ∃ (y : Int), (r = some (.int (iI y))) ∧ (w' = [cO_rriiiirrirrrrrrr l0 2 r0 p0 ls lb lt lp l_talls l_firsts lc l_stripsOf l_froms l_tos l_longs l_phases l_rollsOf l_placesOf, cO_iiiiii p0 3 pw pr pd pl pf pg, cO_rirrrrrrirrr r0 6 w0 ro r_doors r_openingWalls r_froms r_tos r_lowers r_uppers rs r_standWalls r_standXs r_standYs, cO_rrrrrrii w0 10 w_begins w_lengths w_lefts w_rights w_leans w_leaning wn wr]) ∧ (0 ≤ y ∧ y ≤ 4800)) := by
  refine enter (by decide) (Nat.le_of_ble_eq_true rfl) ?_
  intro p e s m args below meth c A X hnm hA
  have X : Cx p s m args meth c cX2_beginOf 2 (some .int) RX2 Z A := X
  refine g_as (pc' := 0) (lv' := [(0, .ref l0), (1, .int (iI sp))]) (st' := []) (ws' := [cO_rriiiirrirrrrrrr l0 2 r0 p0 ls lb lt lp l_talls l_firsts lc l_stripsOf l_froms l_tos l_longs l_phases l_rollsOf l_placesOf, cO_iiiiii p0 3 pw pr pd pl pf pg, cO_rirrrrrrirrr r0 6 w0 ro r_doors r_openingWalls r_froms r_tos r_lowers r_uppers rs r_standWalls r_standXs r_standYs, cO_rrrrrrii w0 10 w_begins w_lengths w_lefts w_rights w_leans w_leaning wn wr]) rfl rfl rfl rfl ?_
  refine g_aload_n (pc := 0) X 0 rfl dX2_beginOf_0 ?_
  refine g_get (pc := 1) X inlX2 0 rfl rfl 2 (by decide) mw_24_1 rfl dX2_beginOf_1 ?_
  refine g_iload_n (pc := 4) X 1 rfl dX2_beginOf_4 ?_
  refine g_aload_n (pc := 5) X 0 rfl dX2_beginOf_5 ?_
  refine g_get (pc := 6) X inlX2 0 rfl rfl 1 (by decide) mw_24_0 rfl dX2_beginOf_6 ?_
  refine g_get (pc := 9) X inlX3 1 rfl rfl 0 (by decide) mw_25_2 rfl dX2_beginOf_9 ?_
  refine g_imulI (pc := 12) X dX2_beginOf_12 ?_
  refine g_nameI (fun y1 ey1 => ?_)
  have by1 : (-28680) ≤ y1 ∧ y1 ≤ 28680 := by rw [ey1]; exact mulB (show (-239) ≤ sp ∧ sp ≤ 239 by (first | (clear b_lb b_lt b_lp b_lc b_pr b_pd b_pl b_pf b_pg b_ro b_rs b_wn b_wr; omega) | omega)) (show (-120) ≤ pw ∧ pw ≤ 120 by (first | (clear b_lb b_lt b_lp b_lc b_pr b_pd b_pl b_pf b_pg b_ro b_rs b_wn b_wr; omega) | omega)) (by decide)
  refine g_iaddI (pc := 13) X dX2_beginOf_13 ?_
  refine g_aload_n (pc := 14) X 0 rfl dX2_beginOf_14 ?_
  refine g_get (pc := 15) X inlX2 0 rfl rfl 0 (by decide) mw_23_23 rfl dX2_beginOf_15 ?_
  refine g_get (pc := 18) X inlX6 2 rfl rfl 0 (by decide) mw_24_4 rfl dX2_beginOf_18 ?_
  refine g_get (pc := 21) X inlX10 3 rfl rfl 7 (by decide) mw_24_5 rfl dX2_beginOf_21 ?_
  refine g_callSN (pc := 24) X (k_X11_rest l Z (ls + y1) wr (by (first | (clear b_lb b_lt b_lp b_lc b_pr b_pd b_pl b_pf b_pg b_ro b_rs b_wn b_wr; omega) | omega)) (by (first | (clear b_lb b_lt b_lp b_lc b_pr b_pd b_pl b_pf b_pg b_ro b_rs b_wn b_wr; omega) | omega))) iM_X11_rest (by decide) mw_25_3 [] [0, 1, 2, 3] rfl (wr := [cO_rriiiirrirrrrrrr l0 2 r0 p0 ls lb lt lp l_talls l_firsts lc l_stripsOf l_froms l_tos l_longs l_phases l_rollsOf l_placesOf, cO_iiiiii p0 3 pw pr pd pl pf pg, cO_rirrrrrrirrr r0 6 w0 ro r_doors r_openingWalls r_froms r_tos r_lowers r_uppers rs r_standWalls r_standXs r_standYs, cO_rrrrrrii w0 10 w_begins w_lengths w_lefts w_rights w_leans w_leaning wn wr]) rfl (by decide) rfl rfl (Nat.le_of_ble_eq_true rfl) (by decide) dX2_beginOf_24 (fun r w' hpo => ?_)
  refine exN_1 hpo fun y2 hz => anD_7 hz fun e_r e_w hf24_b_y hf24_f1 hf24_f2 hf24_f3 hf24_f4 => ?_; clear hz hpo; subst e_r; subst e_w
  refine g_as (pc' := 27) (lv' := [(0, .ref l0), (1, .int (iI sp))]) (st' := [.int (iI y2)]) (ws' := [cO_rriiiirrirrrrrrr l0 2 r0 p0 ls lb lt lp l_talls l_firsts lc l_stripsOf l_froms l_tos l_longs l_phases l_rollsOf l_placesOf, cO_iiiiii p0 3 pw pr pd pl pf pg, cO_rirrrrrrirrr r0 6 w0 ro r_doors r_openingWalls r_froms r_tos r_lowers r_uppers rs r_standWalls r_standXs r_standYs, cO_rrrrrrii w0 10 w_begins w_lengths w_lefts w_rights w_leans w_leaning wn wr]) rfl rfl rfl rfl ?_
  exact g_iret (pc := 27) X hA (⟨y2, rfl, rfl, (by (first | (clear b_lb b_lt b_lp b_lc b_pr b_pd b_pl b_pf b_pg b_ro b_rs b_wn b_wr; omega) | omega))⟩) (by decide) (by decide) dX2_beginOf_27

set_option maxHeartbeats 4000000 in
set_option maxRecDepth 100000 in
theorem k_X2_widthOf (l : Launch) (Z : gZ) (l0 : Nat) (r0 : Nat) (p0 : Nat) (l_talls : Nat) (l_firsts : Nat) (l_stripsOf : Nat) (l_froms : Nat) (l_tos : Nat) (l_longs : Nat) (l_phases : Nat) (l_rollsOf : Nat) (l_placesOf : Nat) (w0 : Nat) (r_doors : Nat) (r_openingWalls : Nat) (r_froms : Nat) (r_tos : Nat) (r_lowers : Nat) (r_uppers : Nat) (r_standWalls : Nat) (r_standXs : Nat) (r_standYs : Nat) (w_begins : Nat) (w_lengths : Nat) (w_lefts : Nat) (w_rights : Nat) (w_leans : Nat) (w_leaning : Nat) (sp : Int) (ls : Int) (lb : Int) (lt : Int) (lp : Int) (lc : Int) (pw : Int) (pr : Int) (pd : Int) (pl : Int) (pf : Int) (pg : Int) (ro : Int) (rs : Int) (wn : Int) (wr : Int) (b_sp : 0 ≤ sp ∧ sp ≤ 239) (b_ls : 0 ≤ ls ∧ ls ≤ 4799) (b_lb : 0 ≤ lb ∧ lb ≤ 119) (b_lt : 0 ≤ lt ∧ lt ≤ 20) (b_lp : 0 ≤ lp ∧ lp ≤ 240) (b_lc : 0 ≤ lc ∧ lc ≤ 480) (b_pw : 20 ≤ pw ∧ pw ≤ 120) (b_pr : 10 ≤ pr ∧ pr ≤ 120) (b_pd : 0 ≤ pd ∧ pd ≤ 2) (b_pl : 300 ≤ pl ∧ pl ≤ 2000) (b_pf : 0 ≤ pf ∧ pf ≤ 119) (b_pg : 1 ≤ pg ∧ pg ≤ 120) (b_ro : 0 ≤ ro ∧ ro ≤ 8) (b_rs : 0 ≤ rs ∧ rs ≤ 4) (b_wn : 0 ≤ wn ∧ wn ≤ 8) (b_wr : 0 ≤ wr ∧ wr ≤ 4800) : Con l Z yX2_widthOf cX2_widthOf 2 (some .int) 1 24 0 0 [.ref l0, .int (iI sp)] [cO_rriiiirrirrrrrrr l0 2 r0 p0 ls lb lt lp l_talls l_firsts lc l_stripsOf l_froms l_tos l_longs l_phases l_rollsOf l_placesOf, cO_iiiiii p0 3 pw pr pd pl pf pg, cO_rirrrrrrirrr r0 6 w0 ro r_doors r_openingWalls r_froms r_tos r_lowers r_uppers rs r_standWalls r_standXs r_standYs, cO_rrrrrrii w0 10 w_begins w_lengths w_lefts w_rights w_leans w_leaning wn wr] (fun r w' => ∃ (y : Int), (r = some (.int (iI y))) ∧ (w' = [cO_rriiiirrirrrrrrr l0 2 r0 p0 ls lb lt lp l_talls l_firsts lc l_stripsOf l_froms l_tos l_longs l_phases l_rollsOf l_placesOf, cO_iiiiii p0 3 pw pr pd pl pf pg, cO_rirrrrrrirrr r0 6 w0 ro r_doors r_openingWalls r_froms r_tos r_lowers r_uppers rs r_standWalls r_standXs r_standYs, cO_rrrrrrii w0 10 w_begins w_lengths w_lefts w_rights w_leans w_leaning wn wr]) ∧ ((-30000) ≤ y ∧ y ≤ 120)) := by
  refine enter (by decide) (Nat.le_of_ble_eq_true rfl) ?_
  intro p e s m args below meth c A X hnm hA
  have X : Cx p s m args meth c cX2_widthOf 2 (some .int) RX2 Z A := X
  refine g_as (pc' := 0) (lv' := [(0, .ref l0), (1, .int (iI sp))]) (st' := []) (ws' := [cO_rriiiirrirrrrrrr l0 2 r0 p0 ls lb lt lp l_talls l_firsts lc l_stripsOf l_froms l_tos l_longs l_phases l_rollsOf l_placesOf, cO_iiiiii p0 3 pw pr pd pl pf pg, cO_rirrrrrrirrr r0 6 w0 ro r_doors r_openingWalls r_froms r_tos r_lowers r_uppers rs r_standWalls r_standXs r_standYs, cO_rrrrrrii w0 10 w_begins w_lengths w_lefts w_rights w_leans w_leaning wn wr]) rfl rfl rfl rfl ?_
  refine g_aload_n (pc := 0) X 0 rfl dX2_widthOf_0 ?_
  refine g_get (pc := 1) X inlX2 0 rfl rfl 1 (by decide) mw_24_0 rfl dX2_widthOf_1 ?_
  refine g_get (pc := 4) X inlX3 1 rfl rfl 0 (by decide) mw_25_2 rfl dX2_widthOf_4 ?_
  refine g_aload_n (pc := 7) X 0 rfl dX2_widthOf_7 ?_
  refine g_get (pc := 8) X inlX2 0 rfl rfl 0 (by decide) mw_23_23 rfl dX2_widthOf_8 ?_
  refine g_get (pc := 11) X inlX6 2 rfl rfl 0 (by decide) mw_24_4 rfl dX2_widthOf_11 ?_
  refine g_get (pc := 14) X inlX10 3 rfl rfl 7 (by decide) mw_24_5 rfl dX2_widthOf_14 ?_
  refine g_iload_n (pc := 17) X 1 rfl dX2_widthOf_17 ?_
  refine g_aload_n (pc := 18) X 0 rfl dX2_widthOf_18 ?_
  refine g_get (pc := 19) X inlX2 0 rfl rfl 1 (by decide) mw_24_0 rfl dX2_widthOf_19 ?_
  refine g_get (pc := 22) X inlX3 1 rfl rfl 0 (by decide) mw_25_2 rfl dX2_widthOf_22 ?_
  refine g_imulI (pc := 25) X dX2_widthOf_25 ?_
  refine g_nameI (fun y1 ey1 => ?_)
  have by1 : (-28680) ≤ y1 ∧ y1 ≤ 28680 := by rw [ey1]; exact mulB (show (-239) ≤ sp ∧ sp ≤ 239 by (first | (clear b_ls b_lb b_lt b_lp b_lc b_pr b_pd b_pl b_pf b_pg b_ro b_rs b_wn; omega) | omega)) (show (-120) ≤ pw ∧ pw ≤ 120 by (first | (clear b_ls b_lb b_lt b_lp b_lc b_pr b_pd b_pl b_pf b_pg b_ro b_rs b_wn; omega) | omega)) (by decide)
  refine g_isubI (pc := 26) X dX2_widthOf_26 ?_
  refine g_minI (pc := 27) X mw_24_6 mw_15_13 mw_25_23 mw_15_14 (by decide) (Nat.le_of_ble_eq_true rfl) (by decide) (by decide) (inRb b_pw (by decide) (by decide)) ⟨by (first | (clear b_ls b_lb b_lt b_lp b_lc b_pr b_pd b_pl b_pf b_pg b_ro b_rs b_wn; omega) | omega), by (first | (clear b_ls b_lb b_lt b_lp b_lc b_pr b_pd b_pl b_pf b_pg b_ro b_rs b_wn; omega) | omega)⟩ dX2_widthOf_27 ?_
  refine g_nameI (fun y2 ey2 => ?_)
  have my2 : y2 ≤ pw ∧ y2 ≤ wr - y1 ∧ (y2 = pw ∨ y2 = wr - y1) := by rw [ey2]; exact minF _ _
  clear ey2
  exact g_iret (pc := 30) X hA (⟨y2, rfl, rfl, (by (first | (clear b_ls b_lb b_lt b_lp b_lc b_pr b_pd b_pl b_pf b_pg b_ro b_rs b_wn; omega) | omega))⟩) (by decide) (by decide) dX2_widthOf_30

set_option maxHeartbeats 4000000 in
set_option maxRecDepth 100000 in
theorem k_X2_longTogether (l : Launch) (Z : gZ) (l0 : Nat) (r0 : Nat) (p0 : Nat) (l_talls : Nat) (l_firsts : Nat) (l_stripsOf : Nat) (l_froms : Nat) (l_tos : Nat) (l_longs : Nat) (l_phases : Nat) (l_rollsOf : Nat) (l_placesOf : Nat) (Llg : Nat → Int) (fr : Int) (to : Int) (ls : Int) (lb : Int) (lt : Int) (lp : Int) (lc : Int) (b_fr : (-2147483648) ≤ fr ∧ fr ≤ 2147483647) (b_to : (-2147483648) ≤ to ∧ to ≤ 2147483647) (b_ls : 0 ≤ ls ∧ ls ≤ 4799) (b_lb : 0 ≤ lb ∧ lb ≤ 119) (b_lt : 0 ≤ lt ∧ lt ≤ 20) (b_lp : 0 ≤ lp ∧ lp ≤ 240) (b_lc : 0 ≤ lc ∧ lc ≤ 480) (h_Llg : ∀ j, j < 480 → (-2147483648) ≤ Llg j ∧ Llg j ≤ 2147483647) : Con l Z yX2_longTogether cX2_longTogether 5 (some .int) 1 24 0 0 [.ref l0, .int (iI fr), .int (iI to)] [cO_rriiiirrirrrrrrr l0 2 r0 p0 ls lb lt lp l_talls l_firsts lc l_stripsOf l_froms l_tos l_longs l_phases l_rollsOf l_placesOf, cA Z l_longs 0 480 Llg] (fun r w' => ∃ (y : Int), (r = some (.int (iI y))) ∧ (w' = [cO_rriiiirrirrrrrrr l0 2 r0 p0 ls lb lt lp l_talls l_firsts lc l_stripsOf l_froms l_tos l_longs l_phases l_rollsOf l_placesOf, cA Z l_longs 0 480 Llg]) ∧ ((-2147483648) ≤ y ∧ y ≤ 2147483647)) := by
  refine enter (by decide) (Nat.le_of_ble_eq_true rfl) ?_
  intro p e s m args below meth c A X hnm hA
  have X : Cx p s m args meth c cX2_longTogether 5 (some .int) RX2 Z A := X
  refine g_as (pc' := 0) (lv' := [(0, .ref l0), (1, .int (iI fr)), (2, .int (iI to))]) (st' := []) (ws' := [cO_rriiiirrirrrrrrr l0 2 r0 p0 ls lb lt lp l_talls l_firsts lc l_stripsOf l_froms l_tos l_longs l_phases l_rollsOf l_placesOf, cA Z l_longs 0 480 Llg]) rfl rfl rfl rfl ?_
  refine g_iconst (pc := 0) X (iI 0) (by rfl) dX2_longTogether_0 ?_
  refine g_istore_n (pc := 1) X (i := 3) rfl (by decide) (lv' := [(3, .int (iI 0)), (0, .ref l0), (1, .int (iI fr)), (2, .int (iI to))]) rfl dX2_longTogether_1 ?_
  refine g_iconst (pc := 2) X (iI 0) (by rfl) dX2_longTogether_2 ?_
  refine g_iload_n (pc := 3) X 2 rfl dX2_longTogether_3 ?_
  refine g_maxI (pc := 4) X mw_24_21 mw_12_11 mw_25_23 mw_12_13 (by decide) (Nat.le_of_ble_eq_true rfl) (by decide) (by decide) ⟨by decide, by decide⟩ b_fr dX2_longTogether_4 ?_
  refine g_nameI (fun y1 ey1 => ?_)
  have my1 : 0 ≤ y1 ∧ fr ≤ y1 ∧ (y1 = 0 ∨ y1 = fr) := by rw [ey1]; exact maxF _ _
  clear ey1
  refine g_istore (pc := 7) X (by decide) (lv' := [(4, .int (iI y1)), (3, .int (iI 0)), (0, .ref l0), (1, .int (iI fr)), (2, .int (iI to))]) rfl dX2_longTogether_7 ?_
  have loop9 : ∀ (fuel : Nat) (t : Int) (i : Int), ((-2147483648) ≤ t ∧ t ≤ 2147483647) → (0 ≤ i ∧ i ≤ 2147483647) → (481 - i).toNat < fuel → Gs p l e ({ frames := 1, cells := 0, slots := 0, locals := 24 } : Room) s m args below meth c (MQ below (gPost Z [cO_rriiiirrirrrrrrr l0 2 r0 p0 ls lb lt lp l_talls l_firsts lc l_stripsOf l_froms l_tos l_longs l_phases l_rollsOf l_placesOf, cA Z l_longs 0 480 Llg] s.heap.size (fun r w' => ∃ (y : Int), (r = some (.int (iI y))) ∧ (w' = [cO_rriiiirrirrrrrrr l0 2 r0 p0 ls lb lt lp l_talls l_firsts lc l_stripsOf l_froms l_tos l_longs l_phases l_rollsOf l_placesOf, cA Z l_longs 0 480 Llg]) ∧ ((-2147483648) ≤ y ∧ y ≤ 2147483647))) args s 0 0 (va_A [cO_rriiiirrirrrrrrr l0 2 r0 p0 ls lb lt lp l_talls l_firsts lc l_stripsOf l_froms l_tos l_longs l_phases l_rollsOf l_placesOf, cA Z l_longs 0 480 Llg] s.heap.size)) Z A 5 0 0 9 [(4, .int (iI i)), (3, .int (iI t)), (0, .ref l0), (1, .int (iI fr)), (2, .int (iI to))] [] [cO_rriiiirrirrrrrrr l0 2 r0 p0 ls lb lt lp l_talls l_firsts lc l_stripsOf l_froms l_tos l_longs l_phases l_rollsOf l_placesOf, cA Z l_longs 0 480 Llg] := by
    intro fuel
    induction fuel with
    | zero => intro t i _ _ hm; exact absurd hm (Nat.not_lt_zero _)
    | succ fuel ih =>
      intro t i b_t b_i hm
      refine g_iload (pc := 9) X 0 rfl dX2_longTogether_9 ?_
      refine g_iload_n (pc := 11) X 4 rfl dX2_longTogether_11 ?_
      refine g_icmp_geI (pc := 12) X 40 (by decide) (inRb b_i (by decide) (by decide)) b_to dX2_longTogether_12 (fun c12 => ?_) (fun c12 => ?_)
      · refine g_iload_n (pc := 40) X 1 rfl dX2_longTogether_40 ?_
        exact g_iret (pc := 41) X hA (⟨t, rfl, rfl, (b_t)⟩) (by decide) (by decide) dX2_longTogether_41
      · refine g_iload (pc := 15) X 0 rfl dX2_longTogether_15 ?_
        refine g_aload_n (pc := 17) X 2 rfl dX2_longTogether_17 ?_
        refine g_get (pc := 18) X inlX2 0 rfl rfl 8 (by decide) mw_24_8 rfl dX2_longTogether_18 ?_
        refine g_icmp_geI (pc := 21) X 40 (by decide) (inRb b_i (by decide) (by decide)) (inRb b_lc (by decide) (by decide)) dX2_longTogether_21 (fun c21 => ?_) (fun c21 => ?_)
        · refine g_iload_n (pc := 40) X 1 rfl dX2_longTogether_40 ?_
          exact g_iret (pc := 41) X hA (⟨t, rfl, rfl, (b_t)⟩) (by decide) (by decide) dX2_longTogether_41
        · refine g_iload_n (pc := 24) X 1 rfl dX2_longTogether_24 ?_
          refine g_aload_n (pc := 25) X 2 rfl dX2_longTogether_25 ?_
          refine g_get (pc := 26) X inlX2 0 rfl rfl 12 (by decide) mw_4_17 rfl dX2_longTogether_26 ?_
          refine g_iload (pc := 29) X 0 rfl dX2_longTogether_29 ?_
          refine g_ialdI (pc := 31) X 1 rfl (b_i.1) (by (first | (clear b_to b_ls b_lb b_lt b_lp b_lc; omega) | omega)) (Int.le_trans b_i.2 (by decide)) dX2_longTogether_31 ?_
          refine g_nameI (fun y2 ey2 => ?_)
          have by2 : (-2147483648) ≤ y2 ∧ y2 ≤ 2147483647 := by rw [ey2]; exact h_Llg _ (by (first | (clear b_to b_ls b_lb b_lt b_lp b_lc; omega) | omega))
          refine g_iaddI (pc := 32) X dX2_longTogether_32 ?_
          refine g_any (fun y3 by3 => ?_)
          refine g_istore_n (pc := 33) X (i := 3) rfl (by decide) (lv' := [(3, .int (iI y3)), (4, .int (iI i)), (0, .ref l0), (1, .int (iI fr)), (2, .int (iI to))]) rfl dX2_longTogether_33 ?_
          refine g_iincI (pc := 34) X 1 rfl (by decide) (lv' := [(4, .int (iI (i + 1))), (3, .int (iI y3)), (0, .ref l0), (1, .int (iI fr)), (2, .int (iI to))]) rfl dX2_longTogether_34 ?_
          refine g_goto (pc := 37) X 9 (by decide) dX2_longTogether_37 ?_
          exact ih y3 (i + 1) (by3) (by (first | (clear b_to b_ls b_lb b_lt b_lp b_lc; omega) | omega)) (by (first | (clear b_to b_ls b_lb b_lt b_lp b_lc; omega) | omega))
  exact loop9 _ 0 y1 (by (first | (clear b_to b_ls b_lb b_lt b_lp b_lc; omega) | omega)) (by (first | (clear b_to b_ls b_lb b_lt b_lp b_lc; omega) | omega)) (Nat.lt_succ_self _)

set_option maxHeartbeats 4000000 in
set_option maxRecDepth 100000 in
theorem k_X2_fitsEnd (l : Launch) (Z : gZ) (l0 : Nat) (r0 : Nat) (p0 : Nat) (l_talls : Nat) (l_firsts : Nat) (l_stripsOf : Nat) (l_froms : Nat) (l_tos : Nat) (l_longs : Nat) (l_phases : Nat) (l_rollsOf : Nat) (l_placesOf : Nat) (Lph : Nat → Int) (Llg : Nat → Int) (pi : Int) (le : Int) (ph : Int) (ls : Int) (lb : Int) (lt : Int) (lp : Int) (lc : Int) (pw : Int) (pr : Int) (pd : Int) (pl : Int) (pf : Int) (pg : Int) (b_pi : (-2147483648) ≤ pi ∧ pi ≤ 2147483647) (b_le : (-2147483648) ≤ le ∧ le ≤ 2147483647) (b_ph : (-2147483648) ≤ ph ∧ ph ≤ 2147483647) (b_ls : 0 ≤ ls ∧ ls ≤ 4799) (b_lb : 0 ≤ lb ∧ lb ≤ 119) (b_lt : 0 ≤ lt ∧ lt ≤ 20) (b_lp : 0 ≤ lp ∧ lp ≤ 240) (b_lc : 0 ≤ lc ∧ lc ≤ 480) (b_pw : 20 ≤ pw ∧ pw ≤ 120) (b_pr : 10 ≤ pr ∧ pr ≤ 120) (b_pd : 0 ≤ pd ∧ pd ≤ 2) (b_pl : 300 ≤ pl ∧ pl ≤ 2000) (b_pf : 0 ≤ pf ∧ pf ≤ 119) (b_pg : 1 ≤ pg ∧ pg ≤ 120) (h_Lph : ∀ j, j < 480 → 0 ≤ Lph j ∧ Lph j ≤ 119) (h_Llg : ∀ j, j < 480 → (-2147483648) ≤ Llg j ∧ Llg j ≤ 2147483647) : Con l Z yX2_fitsEnd cX2_fitsEnd 4 (some .boolean) 2 44 0 0 [.ref l0, .int (iI pi), .int (iI le), .int (iI ph)] [cO_rriiiirrirrrrrrr l0 2 r0 p0 ls lb lt lp l_talls l_firsts lc l_stripsOf l_froms l_tos l_longs l_phases l_rollsOf l_placesOf, cO_iiiiii p0 3 pw pr pd pl pf pg, cA Z l_phases 0 480 Lph, cA Z l_longs 0 480 Llg] (fun r w' => ∃ (y : Int), (r = some (.int (iI y))) ∧ (w' = [cO_rriiiirrirrrrrrr l0 2 r0 p0 ls lb lt lp l_talls l_firsts lc l_stripsOf l_froms l_tos l_longs l_phases l_rollsOf l_placesOf, cO_iiiiii p0 3 pw pr pd pl pf pg, cA Z l_phases 0 480 Lph, cA Z l_longs 0 480 Llg]) ∧ (0 ≤ y ∧ y ≤ 1)) := by
  refine enter (by decide) (Nat.le_of_ble_eq_true rfl) ?_
  intro p e s m args below meth c A X hnm hA
  have X : Cx p s m args meth c cX2_fitsEnd 4 (some .boolean) RX2 Z A := X
  refine g_as (pc' := 0) (lv' := [(0, .ref l0), (1, .int (iI pi)), (2, .int (iI le)), (3, .int (iI ph))]) (st' := []) (ws' := [cO_rriiiirrirrrrrrr l0 2 r0 p0 ls lb lt lp l_talls l_firsts lc l_stripsOf l_froms l_tos l_longs l_phases l_rollsOf l_placesOf, cO_iiiiii p0 3 pw pr pd pl pf pg, cA Z l_phases 0 480 Lph, cA Z l_longs 0 480 Llg]) rfl rfl rfl rfl ?_
  refine g_iconst (pc := 0) X (iI 0) (by rfl) dX2_fitsEnd_0 ?_
  refine g_iload_n (pc := 1) X 1 rfl dX2_fitsEnd_1 ?_
  refine g_aload_n (pc := 2) X 0 rfl dX2_fitsEnd_2 ?_
  refine g_get (pc := 3) X inlX2 0 rfl rfl 8 (by decide) mw_24_8 rfl dX2_fitsEnd_3 ?_
  refine g_iconst (pc := 6) X (iI 1) (by rfl) dX2_fitsEnd_6 ?_
  refine g_isubI (pc := 7) X dX2_fitsEnd_7 ?_
  refine g_callSN (pc := 8) X (k_X11_isFrom l Z 0 pi (lc - 1) (by decide) b_pi (by (first | (clear b_le b_ph b_ls b_lb b_lt b_lp b_pw b_pr b_pd b_pl b_pf b_pg; omega) | omega))) iM_X11_isFrom (by decide) mw_11_7 [] [0, 1, 2, 3] rfl (wr := [cO_rriiiirrirrrrrrr l0 2 r0 p0 ls lb lt lp l_talls l_firsts lc l_stripsOf l_froms l_tos l_longs l_phases l_rollsOf l_placesOf, cO_iiiiii p0 3 pw pr pd pl pf pg, cA Z l_phases 0 480 Lph, cA Z l_longs 0 480 Llg]) rfl (by decide) rfl rfl (Nat.le_of_ble_eq_true rfl) (by decide) dX2_fitsEnd_8 (fun r w' hpo => ?_)
  obtain ⟨rfl, rfl⟩ := hpo
  refine g_as (pc' := 11) (lv' := [(0, .ref l0), (1, .int (iI pi)), (2, .int (iI le)), (3, .int (iI ph))]) (st' := [.int (iI (bI (0 ≤ pi ∧ pi ≤ (lc - 1))))]) (ws' := [cO_rriiiirrirrrrrrr l0 2 r0 p0 ls lb lt lp l_talls l_firsts lc l_stripsOf l_froms l_tos l_longs l_phases l_rollsOf l_placesOf, cO_iiiiii p0 3 pw pr pd pl pf pg, cA Z l_phases 0 480 Lph, cA Z l_longs 0 480 Llg]) rfl rfl rfl rfl ?_
  refine g_if_neB (pc := 11) X 16 (by decide) dX2_fitsEnd_11 (fun c11 => ?_) (fun c11 => ?_)
  · refine g_aload_n (pc := 16) X 0 rfl dX2_fitsEnd_16 ?_
    refine g_get (pc := 17) X inlX2 0 rfl rfl 1 (by decide) mw_24_0 rfl dX2_fitsEnd_17 ?_
    refine g_iload_n (pc := 20) X 3 rfl dX2_fitsEnd_20 ?_
    refine g_aload_n (pc := 21) X 0 rfl dX2_fitsEnd_21 ?_
    refine g_get (pc := 22) X inlX2 0 rfl rfl 13 (by decide) mw_4_18 rfl dX2_fitsEnd_22 ?_
    refine g_iload_n (pc := 25) X 1 rfl dX2_fitsEnd_25 ?_
    refine g_ialdI (pc := 26) X 2 rfl (by (first | (clear b_le b_ph b_ls b_lb b_lt b_lp b_pw b_pr b_pd b_pl b_pf b_pg; omega) | omega)) (by (first | (clear b_le b_ph b_ls b_lb b_lt b_lp b_pw b_pr b_pd b_pl b_pf b_pg; omega) | omega)) (Int.le_trans b_pi.2 (by decide)) dX2_fitsEnd_26 ?_
    refine g_nameI (fun y2 ey2 => ?_)
    have by2 : 0 ≤ y2 ∧ y2 ≤ 119 := by rw [ey2]; exact h_Lph _ (by (first | (clear b_le b_ph b_ls b_lb b_lt b_lp b_pw b_pr b_pd b_pl b_pf b_pg; omega) | omega))
    refine g_callV (pc := 27) X (k_X3_placeAny l Z p0 ph y2 pw pr pd pl pf pg b_ph (by (first | (clear b_le b_ph b_ls b_lb b_lt b_lp b_pw b_pr b_pd b_pl b_pf b_pg; omega) | omega)) b_pw b_pr b_pd b_pl b_pf b_pg) iM_X3_placeBehind mw_52_10 mw_35_1 mw_35_2 1 rfl rfl [1] [0, 2, 3] rfl (wr := [cO_rriiiirrirrrrrrr l0 2 r0 p0 ls lb lt lp l_talls l_firsts lc l_stripsOf l_froms l_tos l_longs l_phases l_rollsOf l_placesOf, cA Z l_phases 0 480 Lph, cA Z l_longs 0 480 Llg]) rfl (by decide) rfl rfl (Nat.le_of_ble_eq_true rfl) (by decide) dX2_fitsEnd_27 (fun r w' hpo => ?_)
    refine exN_1 hpo fun y3 hz => anD_3 hz fun e_r e_w hf27_b_y => ?_; clear hz hpo; subst e_r; subst e_w
    refine g_as (pc' := 30) (lv' := [(0, .ref l0), (1, .int (iI pi)), (2, .int (iI le)), (3, .int (iI ph))]) (st' := [.int (iI y3)]) (ws' := [cO_rriiiirrirrrrrrr l0 2 r0 p0 ls lb lt lp l_talls l_firsts lc l_stripsOf l_froms l_tos l_longs l_phases l_rollsOf l_placesOf, cA Z l_phases 0 480 Lph, cA Z l_longs 0 480 Llg, cO_iiiiii p0 3 pw pr pd pl pf pg]) rfl rfl rfl rfl ?_
    refine g_aload_n (pc := 30) X 0 rfl dX2_fitsEnd_30 ?_
    refine g_get (pc := 31) X inlX2 0 rfl rfl 12 (by decide) mw_4_17 rfl dX2_fitsEnd_31 ?_
    refine g_iload_n (pc := 34) X 1 rfl dX2_fitsEnd_34 ?_
    refine g_ialdI (pc := 35) X 2 rfl (by (first | (clear b_le b_ph b_ls b_lb b_lt b_lp b_pw b_pr b_pd b_pl b_pf b_pg; omega) | omega)) (by (first | (clear b_le b_ph b_ls b_lb b_lt b_lp b_pw b_pr b_pd b_pl b_pf b_pg; omega) | omega)) (Int.le_trans b_pi.2 (by decide)) dX2_fitsEnd_35 ?_
    refine g_nameI (fun y5 ey5 => ?_)
    have by5 : (-2147483648) ≤ y5 ∧ y5 ≤ 2147483647 := by rw [ey5]; exact h_Llg _ (by (first | (clear b_le b_ph b_ls b_lb b_lt b_lp b_pw b_pr b_pd b_pl b_pf b_pg; omega) | omega))
    refine g_iaddI (pc := 36) X dX2_fitsEnd_36 ?_
    refine g_any (fun y6 by6 => ?_)
    refine g_iload_n (pc := 37) X 3 rfl dX2_fitsEnd_37 ?_
    refine g_iload_n (pc := 38) X 2 rfl dX2_fitsEnd_38 ?_
    refine g_iaddI (pc := 39) X dX2_fitsEnd_39 ?_
    refine g_any (fun y7 by7 => ?_)
    refine g_icmp_gtI (pc := 40) X 47 (by decide) by6 by7 dX2_fitsEnd_40 (fun c40 => ?_) (fun c40 => ?_)
    · refine g_iconst (pc := 47) X (iI 0) (by rfl) dX2_fitsEnd_47 ?_
      refine g_ws (ws' := [cO_rriiiirrirrrrrrr l0 2 r0 p0 ls lb lt lp l_talls l_firsts lc l_stripsOf l_froms l_tos l_longs l_phases l_rollsOf l_placesOf, cO_iiiiii p0 3 pw pr pd pl pf pg, cA Z l_phases 0 480 Lph, cA Z l_longs 0 480 Llg]) [0, 3, 1, 2] (by decide) rfl ?_
      exact g_zret (pc := 48) X hA (rfl) (⟨0, rfl, rfl, (by (first | (clear b_le b_ph b_ls b_lb b_lt b_lp b_pw b_pr b_pd b_pl b_pf b_pg; omega) | omega))⟩) (by decide) (by decide) dX2_fitsEnd_48
    · refine g_iconst (pc := 43) X (iI 1) (by rfl) dX2_fitsEnd_43 ?_
      refine g_goto (pc := 44) X 48 (by decide) dX2_fitsEnd_44 ?_
      refine g_ws (ws' := [cO_rriiiirrirrrrrrr l0 2 r0 p0 ls lb lt lp l_talls l_firsts lc l_stripsOf l_froms l_tos l_longs l_phases l_rollsOf l_placesOf, cO_iiiiii p0 3 pw pr pd pl pf pg, cA Z l_phases 0 480 Lph, cA Z l_longs 0 480 Llg]) [0, 3, 1, 2] (by decide) rfl ?_
      exact g_zret (pc := 48) X hA (rfl) (⟨1, rfl, rfl, (by (first | (clear b_le b_ph b_ls b_lb b_lt b_lp b_pw b_pr b_pd b_pl b_pf b_pg; omega) | omega))⟩) (by decide) (by decide) dX2_fitsEnd_48
  · refine g_iconst (pc := 14) X (iI 0) (by rfl) dX2_fitsEnd_14 ?_
    exact g_zret (pc := 15) X hA (rfl) (⟨0, rfl, rfl, (by (first | (clear b_le b_ph b_ls b_lb b_lt b_lp b_pw b_pr b_pd b_pl b_pf b_pg; omega) | omega))⟩) (by decide) (by decide) dX2_fitsEnd_15
