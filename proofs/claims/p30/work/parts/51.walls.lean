set_option maxHeartbeats 4000000 in
set_option maxRecDepth 100000 in
theorem k_X10_clear (l : Launch) (Z : gZ) (w0 : Nat) (w_begins : Nat) (w_lengths : Nat) (w_lefts : Nat) (w_rights : Nat) (w_leans : Nat) (w_leaning : Nat) (wn : Int) (wr : Int) (b_wn : 0 ≤ wn ∧ wn ≤ 8) (b_wr : 0 ≤ wr ∧ wr ≤ 4800) : Con l Z yX10_clear cX10_clear 1 none 0 0 0 0 [.ref w0] [cO_rrrrrrii w0 10 w_begins w_lengths w_lefts w_rights w_leans w_leaning wn wr] (fun r w' => (r = none) ∧ (w' = [cO_rrrrrrii w0 10 w_begins w_lengths w_lefts w_rights w_leans w_leaning 0 0])) := by
  refine enter (by decide) (Nat.le_of_ble_eq_true rfl) ?_
  intro p e s m args below meth c A X hnm hA
  have X : Cx p s m args meth c cX10_clear 1 none RX10 Z A := X
  refine g_as (pc' := 0) (lv' := [(0, .ref w0)]) (st' := []) (ws' := [cO_rrrrrrii w0 10 w_begins w_lengths w_lefts w_rights w_leans w_leaning wn wr]) rfl rfl rfl rfl ?_
  refine g_aload_n (pc := 0) X 0 rfl dX10_clear_0 ?_
  refine g_iconst (pc := 1) X (iI 0) (by rfl) dX10_clear_1 ?_
  refine g_put (pc := 2) X inlX10 tyX10_ok nmX10 0 rfl rfl 6 (by decide) mw_16_4 rfl rfl rfl (Nat.le_of_ble_eq_true rfl) (ws' := [cO_rrrrrrii w0 10 w_begins w_lengths w_lefts w_rights w_leans w_leaning 0 wr]) rfl dX10_clear_2 ?_
  refine g_aload_n (pc := 5) X 0 rfl dX10_clear_5 ?_
  refine g_iconst (pc := 6) X (iI 0) (by rfl) dX10_clear_6 ?_
  refine g_put (pc := 7) X inlX10 tyX10_ok nmX10 0 rfl rfl 7 (by decide) mw_16_5 rfl rfl rfl (Nat.le_of_ble_eq_true rfl) (ws' := [cO_rrrrrrii w0 10 w_begins w_lengths w_lefts w_rights w_leans w_leaning 0 0]) rfl dX10_clear_7 ?_
  exact g_vret (pc := 10) X hA (⟨rfl, rfl⟩) (by decide) (by decide) dX10_clear_10

set_option maxHeartbeats 4000000 in
set_option maxRecDepth 100000 in
theorem k_X10_has (l : Launch) (Z : gZ) (w0 : Nat) (w_begins : Nat) (w_lengths : Nat) (w_lefts : Nat) (w_rights : Nat) (w_leans : Nat) (w_leaning : Nat) (w : Int) (wn : Int) (wr : Int) (b_w : (-2147483648) ≤ w ∧ w ≤ 2147483647) (b_wn : 0 ≤ wn ∧ wn ≤ 8) (b_wr : 0 ≤ wr ∧ wr ≤ 4800) : Con l Z yX10_has cX10_has 2 (some .boolean) 0 0 0 0 [.ref w0, .int (iI w)] [cO_rrrrrrii w0 10 w_begins w_lengths w_lefts w_rights w_leans w_leaning wn wr] (fun r w' => (r = some (.int (iI (bI (0 ≤ w ∧ w < wn))))) ∧ (w' = [cO_rrrrrrii w0 10 w_begins w_lengths w_lefts w_rights w_leans w_leaning wn wr])) := by
  refine enter (by decide) (Nat.le_of_ble_eq_true rfl) ?_
  intro p e s m args below meth c A X hnm hA
  have X : Cx p s m args meth c cX10_has 2 (some .boolean) RX10 Z A := X
  refine g_as (pc' := 0) (lv' := [(0, .ref w0), (1, .int (iI w))]) (st' := []) (ws' := [cO_rrrrrrii w0 10 w_begins w_lengths w_lefts w_rights w_leans w_leaning wn wr]) rfl rfl rfl rfl ?_
  refine g_iload_n (pc := 0) X 1 rfl dX10_has_0 ?_
  refine g_if_ltI (pc := 1) X 16 (by decide) b_w dX10_has_1 (fun c1 => ?_) (fun c1 => ?_)
  · refine g_iconst (pc := 16) X (iI 0) (by rfl) dX10_has_16 ?_
    exact g_zret (pc := 17) X hA (rfl) (⟨congrArg (fun z => some (Value.int (iI z))) ((bI_f (by omega)).symm), rfl⟩) (by decide) (by decide) dX10_has_17
  · refine g_iload_n (pc := 4) X 1 rfl dX10_has_4 ?_
    refine g_aload_n (pc := 5) X 0 rfl dX10_has_5 ?_
    refine g_get (pc := 6) X inlX10 0 rfl rfl 6 (by decide) mw_16_4 rfl dX10_has_6 ?_
    refine g_icmp_geI (pc := 9) X 16 (by decide) b_w (inRb b_wn (by decide) (by decide)) dX10_has_9 (fun c9 => ?_) (fun c9 => ?_)
    · refine g_iconst (pc := 16) X (iI 0) (by rfl) dX10_has_16 ?_
      exact g_zret (pc := 17) X hA (rfl) (⟨congrArg (fun z => some (Value.int (iI z))) ((bI_f (by omega)).symm), rfl⟩) (by decide) (by decide) dX10_has_17
    · refine g_iconst (pc := 12) X (iI 1) (by rfl) dX10_has_12 ?_
      refine g_goto (pc := 13) X 17 (by decide) dX10_has_13 ?_
      exact g_zret (pc := 17) X hA (rfl) (⟨congrArg (fun z => some (Value.int (iI z))) ((bI_t (by omega)).symm), rfl⟩) (by decide) (by decide) dX10_has_17

set_option maxHeartbeats 4000000 in
set_option maxRecDepth 100000 in
theorem k_X10_add (l : Launch) (Z : gZ) (w0 : Nat) (w_begins : Nat) (w_lengths : Nat) (w_lefts : Nat) (w_rights : Nat) (w_leans : Nat) (w_leaning : Nat) (Wb : Nat → Int) (Wl : Nat → Int) (Wh : Nat → Int) (Wk : Nat → Int) (Wm : Nat → Int) (Wz : Nat → Int) (le : Int) (lf : Int) (rg : Int) (wn : Int) (wr : Int) (b_le : 50 ≤ le ∧ le ≤ 600) (b_lf : 100 ≤ lf ∧ lf ≤ 400) (b_rg : 100 ≤ rg ∧ rg ≤ 400) (b_wn : 0 ≤ wn ∧ wn ≤ 8) (b_wr : 0 ≤ wr ∧ wr ≤ 4800) (hr : wr ≤ 600 * wn) (h_Wb : ∀ j, j < 8 → 0 ≤ Wb j ∧ Wb j ≤ 4800) (h_Wl : ∀ j, j < 8 → 0 ≤ Wl j ∧ Wl j ≤ 600) (h_Wh : ∀ j, j < 8 → 0 ≤ Wh j ∧ Wh j ≤ 400) (h_Wk : ∀ j, j < 8 → 0 ≤ Wk j ∧ Wk j ≤ 400) (h_Wm : ∀ j, j < 8 → (-50) ≤ Wm j ∧ Wm j ≤ 50) (h_Wz : ∀ j, j < 8 → 0 ≤ Wz j ∧ Wz j ≤ 1) : Con l Z yX10_add cX10_add 4 none 0 0 0 0 [.ref w0, .int (iI le), .int (iI lf), .int (iI rg)] [cO_rrrrrrii w0 10 w_begins w_lengths w_lefts w_rights w_leans w_leaning wn wr, cA Z w_begins 0 8 Wb, cA Z w_lengths 0 8 Wl, cA Z w_lefts 0 8 Wh, cA Z w_rights 0 8 Wk, cA Z w_leans 0 8 Wm, cA Z w_leaning 2 8 Wz] (fun r w' => ∃ (Wb2 : Nat → Int) (Wl2 : Nat → Int) (Wh2 : Nat → Int) (Wk2 : Nat → Int) (Wm2 : Nat → Int) (Wz2 : Nat → Int) (wn2 : Int) (wr2 : Int), (r = none) ∧ (w' = [cO_rrrrrrii w0 10 w_begins w_lengths w_lefts w_rights w_leans w_leaning wn2 wr2, cA Z w_begins 0 8 Wb2, cA Z w_lengths 0 8 Wl2, cA Z w_lefts 0 8 Wh2, cA Z w_rights 0 8 Wk2, cA Z w_leans 0 8 Wm2, cA Z w_leaning 2 8 Wz2]) ∧ (0 ≤ wn2 ∧ wn2 ≤ 8) ∧ (0 ≤ wr2 ∧ wr2 ≤ 4800) ∧ (∀ j, j < 8 → 0 ≤ Wb2 j ∧ Wb2 j ≤ 4800) ∧ (∀ j, j < 8 → 0 ≤ Wl2 j ∧ Wl2 j ≤ 600) ∧ (∀ j, j < 8 → 0 ≤ Wh2 j ∧ Wh2 j ≤ 400) ∧ (∀ j, j < 8 → 0 ≤ Wk2 j ∧ Wk2 j ≤ 400) ∧ (∀ j, j < 8 → (-50) ≤ Wm2 j ∧ Wm2 j ≤ 50) ∧ (∀ j, j < 8 → 0 ≤ Wz2 j ∧ Wz2 j ≤ 1) ∧ (wr2 ≤ 600 * wn2) ∧ (wn < 8 → wn2 = wn + 1) ∧ (wn < 8 → wr2 = wr + le) ∧ (wn2 ≤ 8) ∧ (wn ≤ wn2)) := by
  refine enter (by decide) (Nat.le_of_ble_eq_true rfl) ?_
  intro p e s m args below meth c A X hnm hA
  have X : Cx p s m args meth c cX10_add 4 none RX10 Z A := X
  refine g_as (pc' := 0) (lv' := [(0, .ref w0), (1, .int (iI le)), (2, .int (iI lf)), (3, .int (iI rg))]) (st' := []) (ws' := [cO_rrrrrrii w0 10 w_begins w_lengths w_lefts w_rights w_leans w_leaning wn wr, cA Z w_begins 0 8 Wb, cA Z w_lengths 0 8 Wl, cA Z w_lefts 0 8 Wh, cA Z w_rights 0 8 Wk, cA Z w_leans 0 8 Wm, cA Z w_leaning 2 8 Wz]) rfl rfl rfl rfl ?_
  refine g_aload_n (pc := 0) X 0 rfl dX10_add_0 ?_
  refine g_get (pc := 1) X inlX10 0 rfl rfl 6 (by decide) mw_16_4 rfl dX10_add_1 ?_
  refine g_bipush (pc := 4) X (iI 8) (by decide) dX10_add_4 ?_
  refine g_icmp_ltI (pc := 6) X 10 (by decide) (inRb b_wn (by decide) (by decide)) ⟨by decide, by decide⟩ dX10_add_6 (fun c6 => ?_) (fun c6 => ?_)
  · refine g_aload_n (pc := 10) X 0 rfl dX10_add_10 ?_
    refine g_get (pc := 11) X inlX10 0 rfl rfl 0 (by decide) mw_7_1 rfl dX10_add_11 ?_
    refine g_aload_n (pc := 14) X 0 rfl dX10_add_14 ?_
    refine g_get (pc := 15) X inlX10 0 rfl rfl 6 (by decide) mw_16_4 rfl dX10_add_15 ?_
    refine g_aload_n (pc := 18) X 0 rfl dX10_add_18 ?_
    refine g_get (pc := 19) X inlX10 0 rfl rfl 7 (by decide) mw_16_5 rfl dX10_add_19 ?_
    refine g_iastG (pc := 22) X 1 rfl (b_wn.1) (by omega) (Int.le_trans b_wn.2 (by decide)) (ws' := fun F1 => [cO_rrrrrrii w0 10 w_begins w_lengths w_lefts w_rights w_leans w_leaning wn wr, cA Z w_begins 0 8 F1, cA Z w_lengths 0 8 Wl, cA Z w_lefts 0 8 Wh, cA Z w_rights 0 8 Wk, cA Z w_leans 0 8 Wm, cA Z w_leaning 2 8 Wz]) (fun _ => rfl) dX10_add_22 (fun F1 eF1 => ?_)
    have hF1 : ∀ j, j < 8 → 0 ≤ F1 j ∧ F1 j ≤ 4800 := by rw [eF1]; exact updI_B h_Wb (by omega)
    refine g_aload_n (pc := 23) X 0 rfl dX10_add_23 ?_
    refine g_get (pc := 24) X inlX10 0 rfl rfl 1 (by decide) mw_7_2 rfl dX10_add_24 ?_
    refine g_aload_n (pc := 27) X 0 rfl dX10_add_27 ?_
    refine g_get (pc := 28) X inlX10 0 rfl rfl 6 (by decide) mw_16_4 rfl dX10_add_28 ?_
    refine g_iload_n (pc := 31) X 1 rfl dX10_add_31 ?_
    refine g_iastG (pc := 32) X 2 rfl (b_wn.1) (by omega) (Int.le_trans b_wn.2 (by decide)) (ws' := fun F2 => [cO_rrrrrrii w0 10 w_begins w_lengths w_lefts w_rights w_leans w_leaning wn wr, cA Z w_begins 0 8 F1, cA Z w_lengths 0 8 F2, cA Z w_lefts 0 8 Wh, cA Z w_rights 0 8 Wk, cA Z w_leans 0 8 Wm, cA Z w_leaning 2 8 Wz]) (fun _ => rfl) dX10_add_32 (fun F2 eF2 => ?_)
    have hF2 : ∀ j, j < 8 → 0 ≤ F2 j ∧ F2 j ≤ 600 := by rw [eF2]; exact updI_B h_Wl (by omega)
    refine g_aload_n (pc := 33) X 0 rfl dX10_add_33 ?_
    refine g_get (pc := 34) X inlX10 0 rfl rfl 2 (by decide) mw_7_3 rfl dX10_add_34 ?_
    refine g_aload_n (pc := 37) X 0 rfl dX10_add_37 ?_
    refine g_get (pc := 38) X inlX10 0 rfl rfl 6 (by decide) mw_16_4 rfl dX10_add_38 ?_
    refine g_iload_n (pc := 41) X 2 rfl dX10_add_41 ?_
    refine g_iastG (pc := 42) X 3 rfl (b_wn.1) (by omega) (Int.le_trans b_wn.2 (by decide)) (ws' := fun F3 => [cO_rrrrrrii w0 10 w_begins w_lengths w_lefts w_rights w_leans w_leaning wn wr, cA Z w_begins 0 8 F1, cA Z w_lengths 0 8 F2, cA Z w_lefts 0 8 F3, cA Z w_rights 0 8 Wk, cA Z w_leans 0 8 Wm, cA Z w_leaning 2 8 Wz]) (fun _ => rfl) dX10_add_42 (fun F3 eF3 => ?_)
    have hF3 : ∀ j, j < 8 → 0 ≤ F3 j ∧ F3 j ≤ 400 := by rw [eF3]; exact updI_B h_Wh (by omega)
    refine g_aload_n (pc := 43) X 0 rfl dX10_add_43 ?_
    refine g_get (pc := 44) X inlX10 0 rfl rfl 3 (by decide) mw_7_4 rfl dX10_add_44 ?_
    refine g_aload_n (pc := 47) X 0 rfl dX10_add_47 ?_
    refine g_get (pc := 48) X inlX10 0 rfl rfl 6 (by decide) mw_16_4 rfl dX10_add_48 ?_
    refine g_iload_n (pc := 51) X 3 rfl dX10_add_51 ?_
    refine g_iastG (pc := 52) X 4 rfl (b_wn.1) (by omega) (Int.le_trans b_wn.2 (by decide)) (ws' := fun F4 => [cO_rrrrrrii w0 10 w_begins w_lengths w_lefts w_rights w_leans w_leaning wn wr, cA Z w_begins 0 8 F1, cA Z w_lengths 0 8 F2, cA Z w_lefts 0 8 F3, cA Z w_rights 0 8 F4, cA Z w_leans 0 8 Wm, cA Z w_leaning 2 8 Wz]) (fun _ => rfl) dX10_add_52 (fun F4 eF4 => ?_)
    have hF4 : ∀ j, j < 8 → 0 ≤ F4 j ∧ F4 j ≤ 400 := by rw [eF4]; exact updI_B h_Wk (by omega)
    refine g_aload_n (pc := 53) X 0 rfl dX10_add_53 ?_
    refine g_get (pc := 54) X inlX10 0 rfl rfl 4 (by decide) mw_7_5 rfl dX10_add_54 ?_
    refine g_aload_n (pc := 57) X 0 rfl dX10_add_57 ?_
    refine g_get (pc := 58) X inlX10 0 rfl rfl 6 (by decide) mw_16_4 rfl dX10_add_58 ?_
    refine g_iconst (pc := 61) X (iI 0) (by rfl) dX10_add_61 ?_
    refine g_iastG (pc := 62) X 5 rfl (b_wn.1) (by omega) (Int.le_trans b_wn.2 (by decide)) (ws' := fun F5 => [cO_rrrrrrii w0 10 w_begins w_lengths w_lefts w_rights w_leans w_leaning wn wr, cA Z w_begins 0 8 F1, cA Z w_lengths 0 8 F2, cA Z w_lefts 0 8 F3, cA Z w_rights 0 8 F4, cA Z w_leans 0 8 F5, cA Z w_leaning 2 8 Wz]) (fun _ => rfl) dX10_add_62 (fun F5 eF5 => ?_)
    have hF5 : ∀ j, j < 8 → (-50) ≤ F5 j ∧ F5 j ≤ 50 := by rw [eF5]; exact updI_B h_Wm (by omega)
    refine g_aload_n (pc := 63) X 0 rfl dX10_add_63 ?_
    refine g_get (pc := 64) X inlX10 0 rfl rfl 5 (by decide) mw_7_6 rfl dX10_add_64 ?_
    refine g_aload_n (pc := 67) X 0 rfl dX10_add_67 ?_
    refine g_get (pc := 68) X inlX10 0 rfl rfl 6 (by decide) mw_16_4 rfl dX10_add_68 ?_
    refine g_iconst (pc := 71) X (iI 0) (by rfl) dX10_add_71 ?_
    refine g_zastG (pc := 72) X 6 rfl (b_wn.1) (by omega) (Int.le_trans b_wn.2 (by decide)) (by omega) (ws' := fun F6 => [cO_rrrrrrii w0 10 w_begins w_lengths w_lefts w_rights w_leans w_leaning wn wr, cA Z w_begins 0 8 F1, cA Z w_lengths 0 8 F2, cA Z w_lefts 0 8 F3, cA Z w_rights 0 8 F4, cA Z w_leans 0 8 F5, cA Z w_leaning 2 8 F6]) (fun _ => rfl) dX10_add_72 (fun F6 eF6 => ?_)
    have hF6 : ∀ j, j < 8 → 0 ≤ F6 j ∧ F6 j ≤ 1 := by rw [eF6]; exact updI_B h_Wz (by omega)
    refine g_aload_n (pc := 73) X 0 rfl dX10_add_73 ?_
    refine g_dup (pc := 74) X rfl dX10_add_74 ?_
    refine g_get (pc := 75) X inlX10 0 rfl rfl 6 (by decide) mw_16_4 rfl dX10_add_75 ?_
    refine g_iconst (pc := 78) X (iI 1) (by rfl) dX10_add_78 ?_
    refine g_iaddI (pc := 79) X dX10_add_79 ?_
    refine g_put (pc := 80) X inlX10 tyX10_ok nmX10 0 rfl rfl 6 (by decide) mw_16_4 rfl rfl rfl (Nat.le_of_ble_eq_true rfl) (ws' := [cO_rrrrrrii w0 10 w_begins w_lengths w_lefts w_rights w_leans w_leaning (wn + 1) wr, cA Z w_begins 0 8 F1, cA Z w_lengths 0 8 F2, cA Z w_lefts 0 8 F3, cA Z w_rights 0 8 F4, cA Z w_leans 0 8 F5, cA Z w_leaning 2 8 F6]) rfl dX10_add_80 ?_
    refine g_aload_n (pc := 83) X 0 rfl dX10_add_83 ?_
    refine g_dup (pc := 84) X rfl dX10_add_84 ?_
    refine g_get (pc := 85) X inlX10 0 rfl rfl 7 (by decide) mw_16_5 rfl dX10_add_85 ?_
    refine g_iload_n (pc := 88) X 1 rfl dX10_add_88 ?_
    refine g_iaddI (pc := 89) X dX10_add_89 ?_
    refine g_put (pc := 90) X inlX10 tyX10_ok nmX10 0 rfl rfl 7 (by decide) mw_16_5 rfl rfl rfl (Nat.le_of_ble_eq_true rfl) (ws' := [cO_rrrrrrii w0 10 w_begins w_lengths w_lefts w_rights w_leans w_leaning (wn + 1) (wr + le), cA Z w_begins 0 8 F1, cA Z w_lengths 0 8 F2, cA Z w_lefts 0 8 F3, cA Z w_rights 0 8 F4, cA Z w_leans 0 8 F5, cA Z w_leaning 2 8 F6]) rfl dX10_add_90 ?_
    exact g_vret (pc := 93) X hA (⟨F1, F2, F3, F4, F5, F6, (wn + 1), (wr + le), rfl, rfl, (by omega), (by omega), (hF1), (hF2), (hF3), (hF4), (hF5), (hF6), (by omega), (by omega), (by omega), (by omega), (by omega)⟩) (by decide) (by decide) dX10_add_93
  · exact g_vret (pc := 9) X hA (⟨Wb, Wl, Wh, Wk, Wm, Wz, wn, wr, rfl, rfl, (b_wn), (b_wr), (h_Wb), (h_Wl), (h_Wh), (h_Wk), (h_Wm), (h_Wz), (by omega), (by omega), (by omega), (by omega), (by omega)⟩) (by decide) (by decide) dX10_add_9

set_option maxHeartbeats 4000000 in
set_option maxRecDepth 100000 in
theorem k_X10_lean (l : Launch) (Z : gZ) (w0 : Nat) (w_begins : Nat) (w_lengths : Nat) (w_lefts : Nat) (w_rights : Nat) (w_leans : Nat) (w_leaning : Nat) (Wm : Nat → Int) (Wz : Nat → Int) (w : Int) (of : Int) (wn : Int) (wr : Int) (b_w : (-2147483648) ≤ w ∧ w ≤ 2147483647) (b_of : (-50) ≤ of ∧ of ≤ 50) (b_wn : 0 ≤ wn ∧ wn ≤ 8) (b_wr : 0 ≤ wr ∧ wr ≤ 4800) (h_Wm : ∀ j, j < 8 → (-50) ≤ Wm j ∧ Wm j ≤ 50) (h_Wz : ∀ j, j < 8 → 0 ≤ Wz j ∧ Wz j ≤ 1) : Con l Z yX10_lean cX10_lean 3 none 1 21 0 0 [.ref w0, .int (iI w), .int (iI of)] [cO_rrrrrrii w0 10 w_begins w_lengths w_lefts w_rights w_leans w_leaning wn wr, cA Z w_leans 0 8 Wm, cA Z w_leaning 2 8 Wz] (fun r w' => ∃ (Wm2 : Nat → Int) (Wz2 : Nat → Int), (r = none) ∧ (w' = [cO_rrrrrrii w0 10 w_begins w_lengths w_lefts w_rights w_leans w_leaning wn wr, cA Z w_leans 0 8 Wm2, cA Z w_leaning 2 8 Wz2]) ∧ (∀ j, j < 8 → (-50) ≤ Wm2 j ∧ Wm2 j ≤ 50) ∧ (∀ j, j < 8 → 0 ≤ Wz2 j ∧ Wz2 j ≤ 1)) := by
  refine enter (by decide) (Nat.le_of_ble_eq_true rfl) ?_
  intro p e s m args below meth c A X hnm hA
  have X : Cx p s m args meth c cX10_lean 3 none RX10 Z A := X
  refine g_as (pc' := 0) (lv' := [(0, .ref w0), (1, .int (iI w)), (2, .int (iI of))]) (st' := []) (ws' := [cO_rrrrrrii w0 10 w_begins w_lengths w_lefts w_rights w_leans w_leaning wn wr, cA Z w_leans 0 8 Wm, cA Z w_leaning 2 8 Wz]) rfl rfl rfl rfl ?_
  refine g_aload_n (pc := 0) X 0 rfl dX10_lean_0 ?_
  refine g_iload_n (pc := 1) X 1 rfl dX10_lean_1 ?_
  refine g_callV (pc := 2) X (k_X10_has l Z w0 w_begins w_lengths w_lefts w_rights w_leans w_leaning w wn wr b_w b_wn b_wr) iM_X10_has mw_17_19 mw_17_20 mw_17_21 0 rfl rfl [0] [1, 2] rfl (wr := [cA Z w_leans 0 8 Wm, cA Z w_leaning 2 8 Wz]) rfl (by decide) rfl rfl (Nat.le_of_ble_eq_true rfl) (by decide) dX10_lean_2 (fun r w' hpo => ?_)
  obtain ⟨rfl, rfl⟩ := hpo
  refine g_as (pc' := 5) (lv' := [(0, .ref w0), (1, .int (iI w)), (2, .int (iI of))]) (st' := [.int (iI (bI (0 ≤ w ∧ w < wn)))]) (ws' := [cA Z w_leans 0 8 Wm, cA Z w_leaning 2 8 Wz, cO_rrrrrrii w0 10 w_begins w_lengths w_lefts w_rights w_leans w_leaning wn wr]) rfl rfl rfl rfl ?_
  refine g_if_eqB (pc := 5) X 22 (by decide) dX10_lean_5 (fun c5 => ?_) (fun c5 => ?_)
  · refine g_ws (ws' := [cO_rrrrrrii w0 10 w_begins w_lengths w_lefts w_rights w_leans w_leaning wn wr, cA Z w_leans 0 8 Wm, cA Z w_leaning 2 8 Wz]) [2, 0, 1] (by decide) rfl ?_
    exact g_vret (pc := 22) X hA (⟨Wm, Wz, rfl, rfl, (h_Wm), (h_Wz)⟩) (by decide) (by decide) dX10_lean_22
  · refine g_aload_n (pc := 8) X 0 rfl dX10_lean_8 ?_
    refine g_get (pc := 9) X inlX10 2 rfl rfl 4 (by decide) mw_7_5 rfl dX10_lean_9 ?_
    refine g_iload_n (pc := 12) X 1 rfl dX10_lean_12 ?_
    refine g_iload_n (pc := 13) X 2 rfl dX10_lean_13 ?_
    refine g_iastG (pc := 14) X 0 rfl (by omega) (by omega) (Int.le_trans b_w.2 (by decide)) (ws' := fun F2 => [cA Z w_leans 0 8 F2, cA Z w_leaning 2 8 Wz, cO_rrrrrrii w0 10 w_begins w_lengths w_lefts w_rights w_leans w_leaning wn wr]) (fun _ => rfl) dX10_lean_14 (fun F2 eF2 => ?_)
    have hF2 : ∀ j, j < 8 → (-50) ≤ F2 j ∧ F2 j ≤ 50 := by rw [eF2]; exact updI_B h_Wm (by omega)
    refine g_aload_n (pc := 15) X 0 rfl dX10_lean_15 ?_
    refine g_get (pc := 16) X inlX10 2 rfl rfl 5 (by decide) mw_7_6 rfl dX10_lean_16 ?_
    refine g_iload_n (pc := 19) X 1 rfl dX10_lean_19 ?_
    refine g_iconst (pc := 20) X (iI 1) (by rfl) dX10_lean_20 ?_
    refine g_zastG (pc := 21) X 1 rfl (by omega) (by omega) (Int.le_trans b_w.2 (by decide)) (by omega) (ws' := fun F3 => [cA Z w_leans 0 8 F2, cA Z w_leaning 2 8 F3, cO_rrrrrrii w0 10 w_begins w_lengths w_lefts w_rights w_leans w_leaning wn wr]) (fun _ => rfl) dX10_lean_21 (fun F3 eF3 => ?_)
    have hF3 : ∀ j, j < 8 → 0 ≤ F3 j ∧ F3 j ≤ 1 := by rw [eF3]; exact updI_B h_Wz (by omega)
    refine g_ws (ws' := [cO_rrrrrrii w0 10 w_begins w_lengths w_lefts w_rights w_leans w_leaning wn wr, cA Z w_leans 0 8 F2, cA Z w_leaning 2 8 F3]) [2, 0, 1] (by decide) rfl ?_
    exact g_vret (pc := 22) X hA (⟨F2, F3, rfl, rfl, (hF2), (hF3)⟩) (by decide) (by decide) dX10_lean_22

set_option maxHeartbeats 4000000 in
set_option maxRecDepth 100000 in
theorem k_X10_leansAt (l : Launch) (Z : gZ) (w0 : Nat) (w_begins : Nat) (w_lengths : Nat) (w_lefts : Nat) (w_rights : Nat) (w_leans : Nat) (w_leaning : Nat) (Wz : Nat → Int) (w : Int) (wn : Int) (wr : Int) (b_w : (-2147483648) ≤ w ∧ w ≤ 2147483647) (b_wn : 0 ≤ wn ∧ wn ≤ 8) (b_wr : 0 ≤ wr ∧ wr ≤ 4800) (h_Wz : ∀ j, j < 8 → 0 ≤ Wz j ∧ Wz j ≤ 1) : Con l Z yX10_leansAt cX10_leansAt 2 (some .boolean) 1 21 0 0 [.ref w0, .int (iI w)] [cO_rrrrrrii w0 10 w_begins w_lengths w_lefts w_rights w_leans w_leaning wn wr, cA Z w_leaning 2 8 Wz] (fun r w' => ∃ (y : Int), (r = some (.int (iI y))) ∧ (w' = [cO_rrrrrrii w0 10 w_begins w_lengths w_lefts w_rights w_leans w_leaning wn wr, cA Z w_leaning 2 8 Wz]) ∧ (0 ≤ y ∧ y ≤ 1)) := by
  refine enter (by decide) (Nat.le_of_ble_eq_true rfl) ?_
  intro p e s m args below meth c A X hnm hA
  have X : Cx p s m args meth c cX10_leansAt 2 (some .boolean) RX10 Z A := X
  refine g_as (pc' := 0) (lv' := [(0, .ref w0), (1, .int (iI w))]) (st' := []) (ws' := [cO_rrrrrrii w0 10 w_begins w_lengths w_lefts w_rights w_leans w_leaning wn wr, cA Z w_leaning 2 8 Wz]) rfl rfl rfl rfl ?_
  refine g_aload_n (pc := 0) X 0 rfl dX10_leansAt_0 ?_
  refine g_iload_n (pc := 1) X 1 rfl dX10_leansAt_1 ?_
  refine g_callV (pc := 2) X (k_X10_has l Z w0 w_begins w_lengths w_lefts w_rights w_leans w_leaning w wn wr b_w b_wn b_wr) iM_X10_has mw_17_19 mw_17_20 mw_17_21 0 rfl rfl [0] [1] rfl (wr := [cA Z w_leaning 2 8 Wz]) rfl (by decide) rfl rfl (Nat.le_of_ble_eq_true rfl) (by decide) dX10_leansAt_2 (fun r w' hpo => ?_)
  obtain ⟨rfl, rfl⟩ := hpo
  refine g_as (pc' := 5) (lv' := [(0, .ref w0), (1, .int (iI w))]) (st' := [.int (iI (bI (0 ≤ w ∧ w < wn)))]) (ws' := [cA Z w_leaning 2 8 Wz, cO_rrrrrrii w0 10 w_begins w_lengths w_lefts w_rights w_leans w_leaning wn wr]) rfl rfl rfl rfl ?_
  refine g_if_eqB (pc := 5) X 21 (by decide) dX10_leansAt_5 (fun c5 => ?_) (fun c5 => ?_)
  · refine g_iconst (pc := 21) X (iI 0) (by rfl) dX10_leansAt_21 ?_
    refine g_ws (ws' := [cO_rrrrrrii w0 10 w_begins w_lengths w_lefts w_rights w_leans w_leaning wn wr, cA Z w_leaning 2 8 Wz]) [1, 0] (by decide) rfl ?_
    exact g_zret (pc := 22) X hA (rfl) (⟨0, rfl, rfl, (by omega)⟩) (by decide) (by decide) dX10_leansAt_22
  · refine g_aload_n (pc := 8) X 0 rfl dX10_leansAt_8 ?_
    refine g_get (pc := 9) X inlX10 1 rfl rfl 5 (by decide) mw_7_6 rfl dX10_leansAt_9 ?_
    refine g_iload_n (pc := 12) X 1 rfl dX10_leansAt_12 ?_
    refine g_zaldI (pc := 13) X 0 rfl (by omega) (by omega) (Int.le_trans b_w.2 (by decide)) dX10_leansAt_13 ?_
    refine g_nameI (fun y2 ey2 => ?_)
    have by2 : 0 ≤ y2 ∧ y2 ≤ 1 := by rw [ey2]; exact h_Wz _ (by omega)
    refine g_if_eqI (pc := 14) X 21 (by decide) (inRb by2 (by decide) (by decide)) dX10_leansAt_14 (fun c14 => ?_) (fun c14 => ?_)
    · refine g_iconst (pc := 21) X (iI 0) (by rfl) dX10_leansAt_21 ?_
      refine g_ws (ws' := [cO_rrrrrrii w0 10 w_begins w_lengths w_lefts w_rights w_leans w_leaning wn wr, cA Z w_leaning 2 8 Wz]) [1, 0] (by decide) rfl ?_
      exact g_zret (pc := 22) X hA (rfl) (⟨0, rfl, rfl, (by omega)⟩) (by decide) (by decide) dX10_leansAt_22
    · refine g_iconst (pc := 17) X (iI 1) (by rfl) dX10_leansAt_17 ?_
      refine g_goto (pc := 18) X 22 (by decide) dX10_leansAt_18 ?_
      refine g_ws (ws' := [cO_rrrrrrii w0 10 w_begins w_lengths w_lefts w_rights w_leans w_leaning wn wr, cA Z w_leaning 2 8 Wz]) [1, 0] (by decide) rfl ?_
      exact g_zret (pc := 22) X hA (rfl) (⟨1, rfl, rfl, (by omega)⟩) (by decide) (by decide) dX10_leansAt_22

set_option maxHeartbeats 4000000 in
set_option maxRecDepth 100000 in
theorem k_X10_beginOf (l : Launch) (Z : gZ) (w0 : Nat) (w_begins : Nat) (w_lengths : Nat) (w_lefts : Nat) (w_rights : Nat) (w_leans : Nat) (w_leaning : Nat) (Wb : Nat → Int) (w : Int) (wn : Int) (wr : Int) (b_w : (-2147483648) ≤ w ∧ w ≤ 2147483647) (b_wn : 0 ≤ wn ∧ wn ≤ 8) (b_wr : 0 ≤ wr ∧ wr ≤ 4800) (h_Wb : ∀ j, j < 8 → 0 ≤ Wb j ∧ Wb j ≤ 4800) : Con l Z yX10_beginOf cX10_beginOf 2 (some .int) 1 21 0 0 [.ref w0, .int (iI w)] [cO_rrrrrrii w0 10 w_begins w_lengths w_lefts w_rights w_leans w_leaning wn wr, cA Z w_begins 0 8 Wb] (fun r w' => ∃ (y : Int), (r = some (.int (iI y))) ∧ (w' = [cO_rrrrrrii w0 10 w_begins w_lengths w_lefts w_rights w_leans w_leaning wn wr, cA Z w_begins 0 8 Wb]) ∧ (0 ≤ y ∧ y ≤ 4800) ∧ (0 ≤ w ∧ w < wn → y = Wb w.toNat)) := by
  refine enter (by decide) (Nat.le_of_ble_eq_true rfl) ?_
  intro p e s m args below meth c A X hnm hA
  have X : Cx p s m args meth c cX10_beginOf 2 (some .int) RX10 Z A := X
  refine g_as (pc' := 0) (lv' := [(0, .ref w0), (1, .int (iI w))]) (st' := []) (ws' := [cO_rrrrrrii w0 10 w_begins w_lengths w_lefts w_rights w_leans w_leaning wn wr, cA Z w_begins 0 8 Wb]) rfl rfl rfl rfl ?_
  refine g_aload_n (pc := 0) X 0 rfl dX10_beginOf_0 ?_
  refine g_iload_n (pc := 1) X 1 rfl dX10_beginOf_1 ?_
  refine g_callV (pc := 2) X (k_X10_has l Z w0 w_begins w_lengths w_lefts w_rights w_leans w_leaning w wn wr b_w b_wn b_wr) iM_X10_has mw_17_19 mw_17_20 mw_17_21 0 rfl rfl [0] [1] rfl (wr := [cA Z w_begins 0 8 Wb]) rfl (by decide) rfl rfl (Nat.le_of_ble_eq_true rfl) (by decide) dX10_beginOf_2 (fun r w' hpo => ?_)
  obtain ⟨rfl, rfl⟩ := hpo
  refine g_as (pc' := 5) (lv' := [(0, .ref w0), (1, .int (iI w))]) (st' := [.int (iI (bI (0 ≤ w ∧ w < wn)))]) (ws' := [cA Z w_begins 0 8 Wb, cO_rrrrrrii w0 10 w_begins w_lengths w_lefts w_rights w_leans w_leaning wn wr]) rfl rfl rfl rfl ?_
  refine g_if_eqB (pc := 5) X 17 (by decide) dX10_beginOf_5 (fun c5 => ?_) (fun c5 => ?_)
  · refine g_iconst (pc := 17) X (iI 0) (by rfl) dX10_beginOf_17 ?_
    refine g_ws (ws' := [cO_rrrrrrii w0 10 w_begins w_lengths w_lefts w_rights w_leans w_leaning wn wr, cA Z w_begins 0 8 Wb]) [1, 0] (by decide) rfl ?_
    exact g_iret (pc := 18) X hA (⟨0, rfl, rfl, (by omega), (by omega)⟩) (by decide) (by decide) dX10_beginOf_18
  · refine g_aload_n (pc := 8) X 0 rfl dX10_beginOf_8 ?_
    refine g_get (pc := 9) X inlX10 1 rfl rfl 0 (by decide) mw_7_1 rfl dX10_beginOf_9 ?_
    refine g_iload_n (pc := 12) X 1 rfl dX10_beginOf_12 ?_
    refine g_ialdI (pc := 13) X 0 rfl (by omega) (by omega) (Int.le_trans b_w.2 (by decide)) dX10_beginOf_13 ?_
    refine g_nameI (fun y2 ey2 => ?_)
    have by2 : 0 ≤ y2 ∧ y2 ≤ 4800 := by rw [ey2]; exact h_Wb _ (by omega)
    refine g_goto (pc := 14) X 18 (by decide) dX10_beginOf_14 ?_
    refine g_ws (ws' := [cO_rrrrrrii w0 10 w_begins w_lengths w_lefts w_rights w_leans w_leaning wn wr, cA Z w_begins 0 8 Wb]) [1, 0] (by decide) rfl ?_
    exact g_iret (pc := 18) X hA (⟨y2, rfl, rfl, (by2), (by omega)⟩) (by decide) (by decide) dX10_beginOf_18

set_option maxHeartbeats 4000000 in
set_option maxRecDepth 100000 in
theorem k_X10_lengthOf (l : Launch) (Z : gZ) (w0 : Nat) (w_begins : Nat) (w_lengths : Nat) (w_lefts : Nat) (w_rights : Nat) (w_leans : Nat) (w_leaning : Nat) (Wl : Nat → Int) (w : Int) (wn : Int) (wr : Int) (b_w : (-2147483648) ≤ w ∧ w ≤ 2147483647) (b_wn : 0 ≤ wn ∧ wn ≤ 8) (b_wr : 0 ≤ wr ∧ wr ≤ 4800) (h_Wl : ∀ j, j < 8 → 0 ≤ Wl j ∧ Wl j ≤ 600) : Con l Z yX10_lengthOf cX10_lengthOf 2 (some .int) 1 21 0 0 [.ref w0, .int (iI w)] [cO_rrrrrrii w0 10 w_begins w_lengths w_lefts w_rights w_leans w_leaning wn wr, cA Z w_lengths 0 8 Wl] (fun r w' => ∃ (y : Int), (r = some (.int (iI y))) ∧ (w' = [cO_rrrrrrii w0 10 w_begins w_lengths w_lefts w_rights w_leans w_leaning wn wr, cA Z w_lengths 0 8 Wl]) ∧ (0 ≤ y ∧ y ≤ 600)) := by
  refine enter (by decide) (Nat.le_of_ble_eq_true rfl) ?_
  intro p e s m args below meth c A X hnm hA
  have X : Cx p s m args meth c cX10_lengthOf 2 (some .int) RX10 Z A := X
  refine g_as (pc' := 0) (lv' := [(0, .ref w0), (1, .int (iI w))]) (st' := []) (ws' := [cO_rrrrrrii w0 10 w_begins w_lengths w_lefts w_rights w_leans w_leaning wn wr, cA Z w_lengths 0 8 Wl]) rfl rfl rfl rfl ?_
  refine g_aload_n (pc := 0) X 0 rfl dX10_lengthOf_0 ?_
  refine g_iload_n (pc := 1) X 1 rfl dX10_lengthOf_1 ?_
  refine g_callV (pc := 2) X (k_X10_has l Z w0 w_begins w_lengths w_lefts w_rights w_leans w_leaning w wn wr b_w b_wn b_wr) iM_X10_has mw_17_19 mw_17_20 mw_17_21 0 rfl rfl [0] [1] rfl (wr := [cA Z w_lengths 0 8 Wl]) rfl (by decide) rfl rfl (Nat.le_of_ble_eq_true rfl) (by decide) dX10_lengthOf_2 (fun r w' hpo => ?_)
  obtain ⟨rfl, rfl⟩ := hpo
  refine g_as (pc' := 5) (lv' := [(0, .ref w0), (1, .int (iI w))]) (st' := [.int (iI (bI (0 ≤ w ∧ w < wn)))]) (ws' := [cA Z w_lengths 0 8 Wl, cO_rrrrrrii w0 10 w_begins w_lengths w_lefts w_rights w_leans w_leaning wn wr]) rfl rfl rfl rfl ?_
  refine g_if_eqB (pc := 5) X 17 (by decide) dX10_lengthOf_5 (fun c5 => ?_) (fun c5 => ?_)
  · refine g_iconst (pc := 17) X (iI 0) (by rfl) dX10_lengthOf_17 ?_
    refine g_ws (ws' := [cO_rrrrrrii w0 10 w_begins w_lengths w_lefts w_rights w_leans w_leaning wn wr, cA Z w_lengths 0 8 Wl]) [1, 0] (by decide) rfl ?_
    exact g_iret (pc := 18) X hA (⟨0, rfl, rfl, (by omega)⟩) (by decide) (by decide) dX10_lengthOf_18
  · refine g_aload_n (pc := 8) X 0 rfl dX10_lengthOf_8 ?_
    refine g_get (pc := 9) X inlX10 1 rfl rfl 1 (by decide) mw_7_2 rfl dX10_lengthOf_9 ?_
    refine g_iload_n (pc := 12) X 1 rfl dX10_lengthOf_12 ?_
    refine g_ialdI (pc := 13) X 0 rfl (by omega) (by omega) (Int.le_trans b_w.2 (by decide)) dX10_lengthOf_13 ?_
    refine g_nameI (fun y2 ey2 => ?_)
    have by2 : 0 ≤ y2 ∧ y2 ≤ 600 := by rw [ey2]; exact h_Wl _ (by omega)
    refine g_goto (pc := 14) X 18 (by decide) dX10_lengthOf_14 ?_
    refine g_ws (ws' := [cO_rrrrrrii w0 10 w_begins w_lengths w_lefts w_rights w_leans w_leaning wn wr, cA Z w_lengths 0 8 Wl]) [1, 0] (by decide) rfl ?_
    exact g_iret (pc := 18) X hA (⟨y2, rfl, rfl, (by2)⟩) (by decide) (by decide) dX10_lengthOf_18

set_option maxHeartbeats 4000000 in
set_option maxRecDepth 100000 in
theorem k_X10_lesserHeightOf (l : Launch) (Z : gZ) (w0 : Nat) (w_begins : Nat) (w_lengths : Nat) (w_lefts : Nat) (w_rights : Nat) (w_leans : Nat) (w_leaning : Nat) (Wh : Nat → Int) (Wk : Nat → Int) (w : Int) (wn : Int) (wr : Int) (b_w : (-2147483648) ≤ w ∧ w ≤ 2147483647) (b_wn : 0 ≤ wn ∧ wn ≤ 8) (b_wr : 0 ≤ wr ∧ wr ≤ 4800) (h_Wh : ∀ j, j < 8 → 0 ≤ Wh j ∧ Wh j ≤ 400) (h_Wk : ∀ j, j < 8 → 0 ≤ Wk j ∧ Wk j ≤ 400) : Con l Z yX10_lesserHeightOf cX10_lesserHeightOf 2 (some .int) 1 24 0 0 [.ref w0, .int (iI w)] [cO_rrrrrrii w0 10 w_begins w_lengths w_lefts w_rights w_leans w_leaning wn wr, cA Z w_lefts 0 8 Wh, cA Z w_rights 0 8 Wk] (fun r w' => ∃ (y : Int), (r = some (.int (iI y))) ∧ (w' = [cO_rrrrrrii w0 10 w_begins w_lengths w_lefts w_rights w_leans w_leaning wn wr, cA Z w_lefts 0 8 Wh, cA Z w_rights 0 8 Wk]) ∧ (0 ≤ y ∧ y ≤ 400)) := by
  refine enter (by decide) (Nat.le_of_ble_eq_true rfl) ?_
  intro p e s m args below meth c A X hnm hA
  have X : Cx p s m args meth c cX10_lesserHeightOf 2 (some .int) RX10 Z A := X
  refine g_as (pc' := 0) (lv' := [(0, .ref w0), (1, .int (iI w))]) (st' := []) (ws' := [cO_rrrrrrii w0 10 w_begins w_lengths w_lefts w_rights w_leans w_leaning wn wr, cA Z w_lefts 0 8 Wh, cA Z w_rights 0 8 Wk]) rfl rfl rfl rfl ?_
  refine g_aload_n (pc := 0) X 0 rfl dX10_lesserHeightOf_0 ?_
  refine g_iload_n (pc := 1) X 1 rfl dX10_lesserHeightOf_1 ?_
  refine g_callV (pc := 2) X (k_X10_has l Z w0 w_begins w_lengths w_lefts w_rights w_leans w_leaning w wn wr b_w b_wn b_wr) iM_X10_has mw_17_19 mw_17_20 mw_17_21 0 rfl rfl [0] [1, 2] rfl (wr := [cA Z w_lefts 0 8 Wh, cA Z w_rights 0 8 Wk]) rfl (by decide) rfl rfl (Nat.le_of_ble_eq_true rfl) (by decide) dX10_lesserHeightOf_2 (fun r w' hpo => ?_)
  obtain ⟨rfl, rfl⟩ := hpo
  refine g_as (pc' := 5) (lv' := [(0, .ref w0), (1, .int (iI w))]) (st' := [.int (iI (bI (0 ≤ w ∧ w < wn)))]) (ws' := [cA Z w_lefts 0 8 Wh, cA Z w_rights 0 8 Wk, cO_rrrrrrii w0 10 w_begins w_lengths w_lefts w_rights w_leans w_leaning wn wr]) rfl rfl rfl rfl ?_
  refine g_if_eqB (pc := 5) X 26 (by decide) dX10_lesserHeightOf_5 (fun c5 => ?_) (fun c5 => ?_)
  · refine g_iconst (pc := 26) X (iI 0) (by rfl) dX10_lesserHeightOf_26 ?_
    refine g_ws (ws' := [cO_rrrrrrii w0 10 w_begins w_lengths w_lefts w_rights w_leans w_leaning wn wr, cA Z w_lefts 0 8 Wh, cA Z w_rights 0 8 Wk]) [2, 0, 1] (by decide) rfl ?_
    exact g_iret (pc := 27) X hA (⟨0, rfl, rfl, (by omega)⟩) (by decide) (by decide) dX10_lesserHeightOf_27
  · refine g_aload_n (pc := 8) X 0 rfl dX10_lesserHeightOf_8 ?_
    refine g_get (pc := 9) X inlX10 2 rfl rfl 2 (by decide) mw_7_3 rfl dX10_lesserHeightOf_9 ?_
    refine g_iload_n (pc := 12) X 1 rfl dX10_lesserHeightOf_12 ?_
    refine g_ialdI (pc := 13) X 0 rfl (by omega) (by omega) (Int.le_trans b_w.2 (by decide)) dX10_lesserHeightOf_13 ?_
    refine g_nameI (fun y2 ey2 => ?_)
    have by2 : 0 ≤ y2 ∧ y2 ≤ 400 := by rw [ey2]; exact h_Wh _ (by omega)
    refine g_aload_n (pc := 14) X 0 rfl dX10_lesserHeightOf_14 ?_
    refine g_get (pc := 15) X inlX10 2 rfl rfl 3 (by decide) mw_7_4 rfl dX10_lesserHeightOf_15 ?_
    refine g_iload_n (pc := 18) X 1 rfl dX10_lesserHeightOf_18 ?_
    refine g_ialdI (pc := 19) X 1 rfl (by omega) (by omega) (Int.le_trans b_w.2 (by decide)) dX10_lesserHeightOf_19 ?_
    refine g_nameI (fun y3 ey3 => ?_)
    have by3 : 0 ≤ y3 ∧ y3 ≤ 400 := by rw [ey3]; exact h_Wk _ (by omega)
    refine g_minI (pc := 20) X mw_18_3 mw_15_13 mw_25_23 mw_15_14 (by decide) (Nat.le_of_ble_eq_true rfl) (by decide) (by decide) (inRb by2 (by decide) (by decide)) (inRb by3 (by decide) (by decide)) dX10_lesserHeightOf_20 ?_
    refine g_nameI (fun y4 ey4 => ?_)
    have my4 : y4 ≤ y2 ∧ y4 ≤ y3 ∧ (y4 = y2 ∨ y4 = y3) := by rw [ey4]; exact minF _ _
    clear ey4
    refine g_goto (pc := 23) X 27 (by decide) dX10_lesserHeightOf_23 ?_
    refine g_ws (ws' := [cO_rrrrrrii w0 10 w_begins w_lengths w_lefts w_rights w_leans w_leaning wn wr, cA Z w_lefts 0 8 Wh, cA Z w_rights 0 8 Wk]) [2, 0, 1] (by decide) rfl ?_
    exact g_iret (pc := 27) X hA (⟨y4, rfl, rfl, (by omega)⟩) (by decide) (by decide) dX10_lesserHeightOf_27

set_option maxHeartbeats 4000000 in
set_option maxRecDepth 100000 in
theorem k_X10_rightOf (l : Launch) (Z : gZ) (w0 : Nat) (w_begins : Nat) (w_lengths : Nat) (w_lefts : Nat) (w_rights : Nat) (w_leans : Nat) (w_leaning : Nat) (w : Int) (wn : Int) (wr : Int) (b_w : 0 ≤ w ∧ w ≤ 8) (b_wn : 0 ≤ wn ∧ wn ≤ 8) (b_wr : 0 ≤ wr ∧ wr ≤ 4800) : Con l Z yX10_rightOf cX10_rightOf 2 (some .int) 0 0 0 0 [.ref w0, .int (iI w)] [cO_rrrrrrii w0 10 w_begins w_lengths w_lefts w_rights w_leans w_leaning wn wr] (fun r w' => ∃ (y : Int), (r = some (.int (iI y))) ∧ (w' = [cO_rrrrrrii w0 10 w_begins w_lengths w_lefts w_rights w_leans w_leaning wn wr]) ∧ (0 ≤ y ∧ y ≤ 9)) := by
  refine enter (by decide) (Nat.le_of_ble_eq_true rfl) ?_
  intro p e s m args below meth c A X hnm hA
  have X : Cx p s m args meth c cX10_rightOf 2 (some .int) RX10 Z A := X
  refine g_as (pc' := 0) (lv' := [(0, .ref w0), (1, .int (iI w))]) (st' := []) (ws' := [cO_rrrrrrii w0 10 w_begins w_lengths w_lefts w_rights w_leans w_leaning wn wr]) rfl rfl rfl rfl ?_
  refine g_iload_n (pc := 0) X 1 rfl dX10_rightOf_0 ?_
  refine g_iconst (pc := 1) X (iI 1) (by rfl) dX10_rightOf_1 ?_
  refine g_iaddI (pc := 2) X dX10_rightOf_2 ?_
  refine g_aload_n (pc := 3) X 0 rfl dX10_rightOf_3 ?_
  refine g_get (pc := 4) X inlX10 0 rfl rfl 6 (by decide) mw_16_4 rfl dX10_rightOf_4 ?_
  refine g_icmp_geI (pc := 7) X 16 (by decide) ⟨by omega, by omega⟩ (inRb b_wn (by decide) (by decide)) dX10_rightOf_7 (fun c7 => ?_) (fun c7 => ?_)
  · refine g_iconst (pc := 16) X (iI 0) (by rfl) dX10_rightOf_16 ?_
    exact g_iret (pc := 17) X hA (⟨0, rfl, rfl, (by omega)⟩) (by decide) (by decide) dX10_rightOf_17
  · refine g_iload_n (pc := 10) X 1 rfl dX10_rightOf_10 ?_
    refine g_iconst (pc := 11) X (iI 1) (by rfl) dX10_rightOf_11 ?_
    refine g_iaddI (pc := 12) X dX10_rightOf_12 ?_
    refine g_goto (pc := 13) X 17 (by decide) dX10_rightOf_13 ?_
    exact g_iret (pc := 17) X hA (⟨(w + 1), rfl, rfl, (by omega)⟩) (by decide) (by decide) dX10_rightOf_17

set_option maxHeartbeats 4000000 in
set_option maxRecDepth 100000 in
theorem k_X10_wallAt (l : Launch) (Z : gZ) (w0 : Nat) (w_begins : Nat) (w_lengths : Nat) (w_lefts : Nat) (w_rights : Nat) (w_leans : Nat) (w_leaning : Nat) (Wb : Nat → Int) (pl : Int) (wn : Int) (wr : Int) (b_pl : (-2147483648) ≤ pl ∧ pl ≤ 2147483647) (b_wn : 0 ≤ wn ∧ wn ≤ 8) (b_wr : 0 ≤ wr ∧ wr ≤ 4800) (h_Wb : ∀ j, j < 8 → 0 ≤ Wb j ∧ Wb j ≤ 4800) : Con l Z yX10_wallAt cX10_wallAt 4 (some .int) 0 0 0 0 [.ref w0, .int (iI pl)] [cO_rrrrrrii w0 10 w_begins w_lengths w_lefts w_rights w_leans w_leaning wn wr, cA Z w_begins 0 8 Wb] (fun r w' => ∃ (y : Int), (r = some (.int (iI y))) ∧ (w' = [cO_rrrrrrii w0 10 w_begins w_lengths w_lefts w_rights w_leans w_leaning wn wr, cA Z w_begins 0 8 Wb]) ∧ (0 ≤ y ∧ y ≤ 7) ∧ (y < wn ∨ y = 0)) := by
  refine enter (by decide) (Nat.le_of_ble_eq_true rfl) ?_
  intro p e s m args below meth c A X hnm hA
  have X : Cx p s m args meth c cX10_wallAt 4 (some .int) RX10 Z A := X
  refine g_as (pc' := 0) (lv' := [(0, .ref w0), (1, .int (iI pl))]) (st' := []) (ws' := [cO_rrrrrrii w0 10 w_begins w_lengths w_lefts w_rights w_leans w_leaning wn wr, cA Z w_begins 0 8 Wb]) rfl rfl rfl rfl ?_
  refine g_iconst (pc := 0) X (iI 0) (by rfl) dX10_wallAt_0 ?_
  refine g_istore_n (pc := 1) X (i := 2) rfl (by decide) (lv' := [(2, .int (iI 0)), (0, .ref w0), (1, .int (iI pl))]) rfl dX10_wallAt_1 ?_
  refine g_iconst (pc := 2) X (iI 1) (by rfl) dX10_wallAt_2 ?_
  refine g_istore_n (pc := 3) X (i := 3) rfl (by decide) (lv' := [(3, .int (iI 1)), (2, .int (iI 0)), (0, .ref w0), (1, .int (iI pl))]) rfl dX10_wallAt_3 ?_
  have loop4 : ∀ (fuel : Nat) (w : Int) (i : Int), (0 ≤ w ∧ w ≤ 7) → (1 ≤ i ∧ i ≤ 9) → (w < wn ∨ w = 0) → (9 - i).toNat < fuel → Gs p l e ({ frames := 0, cells := 0, slots := 0, locals := 0 } : Room) s m args below meth c (MQ below (gPost Z [cO_rrrrrrii w0 10 w_begins w_lengths w_lefts w_rights w_leans w_leaning wn wr, cA Z w_begins 0 8 Wb] s.heap.size (fun r w' => ∃ (y : Int), (r = some (.int (iI y))) ∧ (w' = [cO_rrrrrrii w0 10 w_begins w_lengths w_lefts w_rights w_leans w_leaning wn wr, cA Z w_begins 0 8 Wb]) ∧ (0 ≤ y ∧ y ≤ 7) ∧ (y < wn ∨ y = 0))) args s 0 0 (va_A [cO_rrrrrrii w0 10 w_begins w_lengths w_lefts w_rights w_leans w_leaning wn wr, cA Z w_begins 0 8 Wb] s.heap.size)) Z A 4 0 0 4 [(3, .int (iI i)), (2, .int (iI w)), (0, .ref w0), (1, .int (iI pl))] [] [cO_rrrrrrii w0 10 w_begins w_lengths w_lefts w_rights w_leans w_leaning wn wr, cA Z w_begins 0 8 Wb] := by
    intro fuel
    induction fuel with
    | zero => intro w i _ _ _ hm; exact absurd hm (Nat.not_lt_zero _)
    | succ fuel ih =>
      intro w i b_w b_i iv hm
      refine g_iload_n (pc := 4) X 0 rfl dX10_wallAt_4 ?_
      refine g_aload_n (pc := 5) X 2 rfl dX10_wallAt_5 ?_
      refine g_get (pc := 6) X inlX10 0 rfl rfl 6 (by decide) mw_16_4 rfl dX10_wallAt_6 ?_
      refine g_icmp_geI (pc := 9) X 30 (by decide) (inRb b_i (by decide) (by decide)) (inRb b_wn (by decide) (by decide)) dX10_wallAt_9 (fun c9 => ?_) (fun c9 => ?_)
      · refine g_iload_n (pc := 30) X 1 rfl dX10_wallAt_30 ?_
        exact g_iret (pc := 31) X hA (⟨w, rfl, rfl, (b_w), (by omega)⟩) (by decide) (by decide) dX10_wallAt_31
      · refine g_aload_n (pc := 12) X 2 rfl dX10_wallAt_12 ?_
        refine g_get (pc := 13) X inlX10 0 rfl rfl 0 (by decide) mw_7_1 rfl dX10_wallAt_13 ?_
        refine g_iload_n (pc := 16) X 0 rfl dX10_wallAt_16 ?_
        refine g_ialdI (pc := 17) X 1 rfl (Int.le_trans (by decide) b_i.1) (by omega) (Int.le_trans b_i.2 (by decide)) dX10_wallAt_17 ?_
        refine g_nameI (fun y1 ey1 => ?_)
        have by1 : 0 ≤ y1 ∧ y1 ≤ 4800 := by rw [ey1]; exact h_Wb _ (by omega)
        refine g_iload_n (pc := 18) X 3 rfl dX10_wallAt_18 ?_
        refine g_icmp_gtI (pc := 19) X 24 (by decide) (inRb by1 (by decide) (by decide)) b_pl dX10_wallAt_19 (fun c19 => ?_) (fun c19 => ?_)
        · refine g_iincI (pc := 24) X 0 rfl (by decide) (lv' := [(3, .int (iI (i + 1))), (2, .int (iI w)), (0, .ref w0), (1, .int (iI pl))]) rfl dX10_wallAt_24 ?_
          refine g_goto (pc := 27) X 4 (by decide) dX10_wallAt_27 ?_
          exact ih w (i + 1) (b_w) (by omega) (by omega) (by omega)
        · refine g_iload_n (pc := 22) X 0 rfl dX10_wallAt_22 ?_
          refine g_istore_n (pc := 23) X (i := 2) rfl (by decide) (lv' := [(2, .int (iI i)), (3, .int (iI i)), (0, .ref w0), (1, .int (iI pl))]) rfl dX10_wallAt_23 ?_
          refine g_iincI (pc := 24) X 1 rfl (by decide) (lv' := [(3, .int (iI (i + 1))), (2, .int (iI i)), (0, .ref w0), (1, .int (iI pl))]) rfl dX10_wallAt_24 ?_
          refine g_goto (pc := 27) X 4 (by decide) dX10_wallAt_27 ?_
          exact ih i (i + 1) (by omega) (by omega) (by omega) (by omega)
  exact loop4 _ 0 1 (by omega) (by omega) (by omega) (Nat.lt_succ_self _)

set_option maxHeartbeats 4000000 in
set_option maxRecDepth 100000 in
theorem k_X10_tallestEndBetween (l : Launch) (Z : gZ) (w0 : Nat) (w_begins : Nat) (w_lengths : Nat) (w_lefts : Nat) (w_rights : Nat) (w_leans : Nat) (w_leaning : Nat) (Wb : Nat → Int) (Wh : Nat → Int) (Wk : Nat → Int) (fr : Int) (to : Int) (wn : Int) (wr : Int) (b_fr : (-100000) ≤ fr ∧ fr ≤ 100000) (b_to : (-100000) ≤ to ∧ to ≤ 100000) (b_wn : 0 ≤ wn ∧ wn ≤ 8) (b_wr : 0 ≤ wr ∧ wr ≤ 4800) (h_Wb : ∀ j, j < 8 → 0 ≤ Wb j ∧ Wb j ≤ 4800) (h_Wh : ∀ j, j < 8 → 0 ≤ Wh j ∧ Wh j ≤ 400) (h_Wk : ∀ j, j < 8 → 0 ≤ Wk j ∧ Wk j ≤ 400) : Con l Z yX10_tallestEndBetween cX10_tallestEndBetween 7 (some .int) 1 24 0 0 [.ref w0, .int (iI fr), .int (iI to)] [cO_rrrrrrii w0 10 w_begins w_lengths w_lefts w_rights w_leans w_leaning wn wr, cA Z w_begins 0 8 Wb, cA Z w_lefts 0 8 Wh, cA Z w_rights 0 8 Wk] (fun r w' => ∃ (y : Int), (r = some (.int (iI y))) ∧ (w' = [cO_rrrrrrii w0 10 w_begins w_lengths w_lefts w_rights w_leans w_leaning wn wr, cA Z w_begins 0 8 Wb, cA Z w_lefts 0 8 Wh, cA Z w_rights 0 8 Wk]) ∧ (0 ≤ y ∧ y ≤ 400)) := by
  refine enter (by decide) (Nat.le_of_ble_eq_true rfl) ?_
  intro p e s m args below meth c A X hnm hA
  have X : Cx p s m args meth c cX10_tallestEndBetween 7 (some .int) RX10 Z A := X
  refine g_as (pc' := 0) (lv' := [(0, .ref w0), (1, .int (iI fr)), (2, .int (iI to))]) (st' := []) (ws' := [cO_rrrrrrii w0 10 w_begins w_lengths w_lefts w_rights w_leans w_leaning wn wr, cA Z w_begins 0 8 Wb, cA Z w_lefts 0 8 Wh, cA Z w_rights 0 8 Wk]) rfl rfl rfl rfl ?_
  refine g_iconst (pc := 0) X (iI 0) (by rfl) dX10_tallestEndBetween_0 ?_
  refine g_istore_n (pc := 1) X (i := 3) rfl (by decide) (lv' := [(3, .int (iI 0)), (0, .ref w0), (1, .int (iI fr)), (2, .int (iI to))]) rfl dX10_tallestEndBetween_1 ?_
  refine g_aload_n (pc := 2) X 1 rfl dX10_tallestEndBetween_2 ?_
  refine g_get (pc := 3) X inlX10 0 rfl rfl 6 (by decide) mw_16_4 rfl dX10_tallestEndBetween_3 ?_
  refine g_iconst (pc := 6) X (iI 1) (by rfl) dX10_tallestEndBetween_6 ?_
  refine g_isubI (pc := 7) X dX10_tallestEndBetween_7 ?_
  refine g_istore (pc := 8) X (by decide) (lv' := [(4, .int (iI (wn - 1))), (3, .int (iI 0)), (0, .ref w0), (1, .int (iI fr)), (2, .int (iI to))]) rfl dX10_tallestEndBetween_8 ?_
  refine g_iconst (pc := 10) X (iI 0) (by rfl) dX10_tallestEndBetween_10 ?_
  refine g_istore (pc := 11) X (by decide) (lv' := [(5, .int (iI 0)), (4, .int (iI (wn - 1))), (3, .int (iI 0)), (0, .ref w0), (1, .int (iI fr)), (2, .int (iI to))]) rfl dX10_tallestEndBetween_11 ?_
  have loop13 : ∀ (fuel : Nat) (t : Int) (ah : Int) (i : Int), (0 ≤ t ∧ t ≤ 400) → ((-1) ≤ ah ∧ ah ≤ 8) → (0 ≤ i ∧ i ≤ 9) → (ah < wn) → (0 < wn → 0 ≤ ah) → (9 - i).toNat < fuel → Gs p l e ({ frames := 1, cells := 0, slots := 0, locals := 24 } : Room) s m args below meth c (MQ below (gPost Z [cO_rrrrrrii w0 10 w_begins w_lengths w_lefts w_rights w_leans w_leaning wn wr, cA Z w_begins 0 8 Wb, cA Z w_lefts 0 8 Wh, cA Z w_rights 0 8 Wk] s.heap.size (fun r w' => ∃ (y : Int), (r = some (.int (iI y))) ∧ (w' = [cO_rrrrrrii w0 10 w_begins w_lengths w_lefts w_rights w_leans w_leaning wn wr, cA Z w_begins 0 8 Wb, cA Z w_lefts 0 8 Wh, cA Z w_rights 0 8 Wk]) ∧ (0 ≤ y ∧ y ≤ 400))) args s 0 0 (va_A [cO_rrrrrrii w0 10 w_begins w_lengths w_lefts w_rights w_leans w_leaning wn wr, cA Z w_begins 0 8 Wb, cA Z w_lefts 0 8 Wh, cA Z w_rights 0 8 Wk] s.heap.size)) Z A 7 0 0 13 [(5, .int (iI i)), (4, .int (iI ah)), (3, .int (iI t)), (0, .ref w0), (1, .int (iI fr)), (2, .int (iI to))] [] [cO_rrrrrrii w0 10 w_begins w_lengths w_lefts w_rights w_leans w_leaning wn wr, cA Z w_begins 0 8 Wb, cA Z w_lefts 0 8 Wh, cA Z w_rights 0 8 Wk] := by
    intro fuel
    induction fuel with
    | zero => intro t ah i _ _ _ _ _ hm; exact absurd hm (Nat.not_lt_zero _)
    | succ fuel ih =>
      intro t ah i b_t b_ah b_i iv iv2 hm
      refine g_iload (pc := 13) X 0 rfl dX10_tallestEndBetween_13 ?_
      refine g_aload_n (pc := 15) X 3 rfl dX10_tallestEndBetween_15 ?_
      refine g_get (pc := 16) X inlX10 0 rfl rfl 6 (by decide) mw_16_4 rfl dX10_tallestEndBetween_16 ?_
      refine g_icmp_geI (pc := 19) X 97 (by decide) (inRb b_i (by decide) (by decide)) (inRb b_wn (by decide) (by decide)) dX10_tallestEndBetween_19 (fun c19 => ?_) (fun c19 => ?_)
      · refine g_iload_n (pc := 97) X 2 rfl dX10_tallestEndBetween_97 ?_
        exact g_iret (pc := 98) X hA (⟨t, rfl, rfl, (b_t)⟩) (by decide) (by decide) dX10_tallestEndBetween_98
      · refine g_aload_n (pc := 22) X 3 rfl dX10_tallestEndBetween_22 ?_
        refine g_get (pc := 23) X inlX10 0 rfl rfl 0 (by decide) mw_7_1 rfl dX10_tallestEndBetween_23 ?_
        refine g_iload (pc := 26) X 0 rfl dX10_tallestEndBetween_26 ?_
        refine g_ialdI (pc := 28) X 1 rfl (b_i.1) (by omega) (Int.le_trans b_i.2 (by decide)) dX10_tallestEndBetween_28 ?_
        refine g_nameI (fun y1 ey1 => ?_)
        have by1 : 0 ≤ y1 ∧ y1 ≤ 4800 := by rw [ey1]; exact h_Wb _ (by omega)
        refine g_istore (pc := 29) X (by decide) (lv' := [(6, .int (iI y1)), (5, .int (iI i)), (4, .int (iI ah)), (3, .int (iI t)), (0, .ref w0), (1, .int (iI fr)), (2, .int (iI to))]) rfl dX10_tallestEndBetween_29 ?_
        refine g_iload (pc := 31) X 0 rfl dX10_tallestEndBetween_31 ?_
        refine g_iload_n (pc := 33) X 5 rfl dX10_tallestEndBetween_33 ?_
        refine g_icmp_leI (pc := 34) X 43 (by decide) (inRb by1 (by decide) (by decide)) (inRb b_fr (by decide) (by decide)) dX10_tallestEndBetween_34 (fun c34 => ?_) (fun c34 => ?_)
        · refine g_iload (pc := 43) X 0 rfl dX10_tallestEndBetween_43 ?_
          refine g_aload_n (pc := 45) X 4 rfl dX10_tallestEndBetween_45 ?_
          refine g_get (pc := 46) X inlX10 0 rfl rfl 7 (by decide) mw_16_5 rfl dX10_tallestEndBetween_46 ?_
          refine g_iaddI (pc := 49) X dX10_tallestEndBetween_49 ?_
          refine g_iload_n (pc := 50) X 5 rfl dX10_tallestEndBetween_50 ?_
          refine g_icmp_leI (pc := 51) X 87 (by decide) ⟨by omega, by omega⟩ (inRb b_fr (by decide) (by decide)) dX10_tallestEndBetween_51 (fun c51 => ?_) (fun c51 => ?_)
          · refine g_iload (pc := 87) X 1 rfl dX10_tallestEndBetween_87 ?_
            refine g_istore (pc := 89) X (by decide) (lv' := [(4, .int (iI i)), (6, .int (iI y1)), (5, .int (iI i)), (3, .int (iI t)), (0, .ref w0), (1, .int (iI fr)), (2, .int (iI to))]) rfl dX10_tallestEndBetween_89 ?_
            refine g_iincI (pc := 91) X 2 rfl (by decide) (lv' := [(5, .int (iI (i + 1))), (4, .int (iI i)), (6, .int (iI y1)), (3, .int (iI t)), (0, .ref w0), (1, .int (iI fr)), (2, .int (iI to))]) rfl dX10_tallestEndBetween_91 ?_
            refine g_goto (pc := 94) X 13 (by decide) dX10_tallestEndBetween_94 ?_
            refine g_lv (lv' := [(5, .int (iI (i + 1))), (4, .int (iI i)), (3, .int (iI t)), (0, .ref w0), (1, .int (iI fr)), (2, .int (iI to))]) [0, 1, 3, 4, 5, 6] rfl ?_
            exact ih t i (i + 1) (b_t) (by omega) (by omega) (by omega) (by omega) (by omega)
          · refine g_iload (pc := 54) X 0 rfl dX10_tallestEndBetween_54 ?_
            refine g_aload_n (pc := 56) X 4 rfl dX10_tallestEndBetween_56 ?_
            refine g_get (pc := 57) X inlX10 0 rfl rfl 7 (by decide) mw_16_5 rfl dX10_tallestEndBetween_57 ?_
            refine g_iaddI (pc := 60) X dX10_tallestEndBetween_60 ?_
            refine g_iload_n (pc := 61) X 6 rfl dX10_tallestEndBetween_61 ?_
            refine g_icmp_geI (pc := 62) X 87 (by decide) ⟨by omega, by omega⟩ (inRb b_to (by decide) (by decide)) dX10_tallestEndBetween_62 (fun c62 => ?_) (fun c62 => ?_)
            · refine g_iload (pc := 87) X 1 rfl dX10_tallestEndBetween_87 ?_
              refine g_istore (pc := 89) X (by decide) (lv' := [(4, .int (iI i)), (6, .int (iI y1)), (5, .int (iI i)), (3, .int (iI t)), (0, .ref w0), (1, .int (iI fr)), (2, .int (iI to))]) rfl dX10_tallestEndBetween_89 ?_
              refine g_iincI (pc := 91) X 2 rfl (by decide) (lv' := [(5, .int (iI (i + 1))), (4, .int (iI i)), (6, .int (iI y1)), (3, .int (iI t)), (0, .ref w0), (1, .int (iI fr)), (2, .int (iI to))]) rfl dX10_tallestEndBetween_91 ?_
              refine g_goto (pc := 94) X 13 (by decide) dX10_tallestEndBetween_94 ?_
              refine g_lv (lv' := [(5, .int (iI (i + 1))), (4, .int (iI i)), (3, .int (iI t)), (0, .ref w0), (1, .int (iI fr)), (2, .int (iI to))]) [0, 1, 3, 4, 5, 6] rfl ?_
              exact ih t i (i + 1) (b_t) (by omega) (by omega) (by omega) (by omega) (by omega)
            · refine g_iload_n (pc := 65) X 3 rfl dX10_tallestEndBetween_65 ?_
              refine g_aload_n (pc := 66) X 4 rfl dX10_tallestEndBetween_66 ?_
              refine g_get (pc := 67) X inlX10 0 rfl rfl 3 (by decide) mw_7_4 rfl dX10_tallestEndBetween_67 ?_
              refine g_iload (pc := 70) X 2 rfl dX10_tallestEndBetween_70 ?_
              refine g_ialdI (pc := 72) X 3 rfl (by omega) (by omega) (Int.le_trans b_ah.2 (by decide)) dX10_tallestEndBetween_72 ?_
              refine g_nameI (fun y2 ey2 => ?_)
              have by2 : 0 ≤ y2 ∧ y2 ≤ 400 := by rw [ey2]; exact h_Wk _ (by omega)
              refine g_aload_n (pc := 73) X 4 rfl dX10_tallestEndBetween_73 ?_
              refine g_get (pc := 74) X inlX10 0 rfl rfl 2 (by decide) mw_7_3 rfl dX10_tallestEndBetween_74 ?_
              refine g_iload (pc := 77) X 1 rfl dX10_tallestEndBetween_77 ?_
              refine g_ialdI (pc := 79) X 2 rfl (b_i.1) (by omega) (Int.le_trans b_i.2 (by decide)) dX10_tallestEndBetween_79 ?_
              refine g_nameI (fun y3 ey3 => ?_)
              have by3 : 0 ≤ y3 ∧ y3 ≤ 400 := by rw [ey3]; exact h_Wh _ (by omega)
              refine g_maxI (pc := 80) X mw_26_5 mw_12_11 mw_25_23 mw_12_13 (by decide) (Nat.le_of_ble_eq_true rfl) (by decide) (by decide) (inRb by2 (by decide) (by decide)) (inRb by3 (by decide) (by decide)) dX10_tallestEndBetween_80 ?_
              refine g_nameI (fun y4 ey4 => ?_)
              have my4 : y2 ≤ y4 ∧ y3 ≤ y4 ∧ (y4 = y2 ∨ y4 = y3) := by rw [ey4]; exact maxF _ _
              clear ey4
              refine g_maxI (pc := 83) X mw_26_5 mw_12_11 mw_25_23 mw_12_13 (by decide) (Nat.le_of_ble_eq_true rfl) (by decide) (by decide) (inRb b_t (by decide) (by decide)) ⟨by omega, by omega⟩ dX10_tallestEndBetween_83 ?_
              refine g_nameI (fun y5 ey5 => ?_)
              have my5 : t ≤ y5 ∧ y4 ≤ y5 ∧ (y5 = t ∨ y5 = y4) := by rw [ey5]; exact maxF _ _
              clear ey5
              refine g_istore_n (pc := 86) X (i := 3) rfl (by decide) (lv' := [(3, .int (iI y5)), (6, .int (iI y1)), (5, .int (iI i)), (4, .int (iI ah)), (0, .ref w0), (1, .int (iI fr)), (2, .int (iI to))]) rfl dX10_tallestEndBetween_86 ?_
              refine g_iload (pc := 87) X 2 rfl dX10_tallestEndBetween_87 ?_
              refine g_istore (pc := 89) X (by decide) (lv' := [(4, .int (iI i)), (3, .int (iI y5)), (6, .int (iI y1)), (5, .int (iI i)), (0, .ref w0), (1, .int (iI fr)), (2, .int (iI to))]) rfl dX10_tallestEndBetween_89 ?_
              refine g_iincI (pc := 91) X 3 rfl (by decide) (lv' := [(5, .int (iI (i + 1))), (4, .int (iI i)), (3, .int (iI y5)), (6, .int (iI y1)), (0, .ref w0), (1, .int (iI fr)), (2, .int (iI to))]) rfl dX10_tallestEndBetween_91 ?_
              refine g_goto (pc := 94) X 13 (by decide) dX10_tallestEndBetween_94 ?_
              refine g_lv (lv' := [(5, .int (iI (i + 1))), (4, .int (iI i)), (3, .int (iI y5)), (0, .ref w0), (1, .int (iI fr)), (2, .int (iI to))]) [0, 1, 2, 4, 5, 6] rfl ?_
              exact ih y5 i (i + 1) (by omega) (by omega) (by omega) (by omega) (by omega) (by omega)
        · refine g_iload (pc := 37) X 0 rfl dX10_tallestEndBetween_37 ?_
          refine g_iload_n (pc := 39) X 6 rfl dX10_tallestEndBetween_39 ?_
          refine g_icmp_ltI (pc := 40) X 65 (by decide) (inRb by1 (by decide) (by decide)) (inRb b_to (by decide) (by decide)) dX10_tallestEndBetween_40 (fun c40 => ?_) (fun c40 => ?_)
          · refine g_iload_n (pc := 65) X 3 rfl dX10_tallestEndBetween_65 ?_
            refine g_aload_n (pc := 66) X 4 rfl dX10_tallestEndBetween_66 ?_
            refine g_get (pc := 67) X inlX10 0 rfl rfl 3 (by decide) mw_7_4 rfl dX10_tallestEndBetween_67 ?_
            refine g_iload (pc := 70) X 2 rfl dX10_tallestEndBetween_70 ?_
            refine g_ialdI (pc := 72) X 3 rfl (by omega) (by omega) (Int.le_trans b_ah.2 (by decide)) dX10_tallestEndBetween_72 ?_
            refine g_nameI (fun y6 ey6 => ?_)
            have by6 : 0 ≤ y6 ∧ y6 ≤ 400 := by rw [ey6]; exact h_Wk _ (by omega)
            refine g_aload_n (pc := 73) X 4 rfl dX10_tallestEndBetween_73 ?_
            refine g_get (pc := 74) X inlX10 0 rfl rfl 2 (by decide) mw_7_3 rfl dX10_tallestEndBetween_74 ?_
            refine g_iload (pc := 77) X 1 rfl dX10_tallestEndBetween_77 ?_
            refine g_ialdI (pc := 79) X 2 rfl (b_i.1) (by omega) (Int.le_trans b_i.2 (by decide)) dX10_tallestEndBetween_79 ?_
            refine g_nameI (fun y7 ey7 => ?_)
            have by7 : 0 ≤ y7 ∧ y7 ≤ 400 := by rw [ey7]; exact h_Wh _ (by omega)
            refine g_maxI (pc := 80) X mw_26_5 mw_12_11 mw_25_23 mw_12_13 (by decide) (Nat.le_of_ble_eq_true rfl) (by decide) (by decide) (inRb by6 (by decide) (by decide)) (inRb by7 (by decide) (by decide)) dX10_tallestEndBetween_80 ?_
            refine g_nameI (fun y8 ey8 => ?_)
            have my8 : y6 ≤ y8 ∧ y7 ≤ y8 ∧ (y8 = y6 ∨ y8 = y7) := by rw [ey8]; exact maxF _ _
            clear ey8
            refine g_maxI (pc := 83) X mw_26_5 mw_12_11 mw_25_23 mw_12_13 (by decide) (Nat.le_of_ble_eq_true rfl) (by decide) (by decide) (inRb b_t (by decide) (by decide)) ⟨by omega, by omega⟩ dX10_tallestEndBetween_83 ?_
            refine g_nameI (fun y9 ey9 => ?_)
            have my9 : t ≤ y9 ∧ y8 ≤ y9 ∧ (y9 = t ∨ y9 = y8) := by rw [ey9]; exact maxF _ _
            clear ey9
            refine g_istore_n (pc := 86) X (i := 3) rfl (by decide) (lv' := [(3, .int (iI y9)), (6, .int (iI y1)), (5, .int (iI i)), (4, .int (iI ah)), (0, .ref w0), (1, .int (iI fr)), (2, .int (iI to))]) rfl dX10_tallestEndBetween_86 ?_
            refine g_iload (pc := 87) X 2 rfl dX10_tallestEndBetween_87 ?_
            refine g_istore (pc := 89) X (by decide) (lv' := [(4, .int (iI i)), (3, .int (iI y9)), (6, .int (iI y1)), (5, .int (iI i)), (0, .ref w0), (1, .int (iI fr)), (2, .int (iI to))]) rfl dX10_tallestEndBetween_89 ?_
            refine g_iincI (pc := 91) X 3 rfl (by decide) (lv' := [(5, .int (iI (i + 1))), (4, .int (iI i)), (3, .int (iI y9)), (6, .int (iI y1)), (0, .ref w0), (1, .int (iI fr)), (2, .int (iI to))]) rfl dX10_tallestEndBetween_91 ?_
            refine g_goto (pc := 94) X 13 (by decide) dX10_tallestEndBetween_94 ?_
            refine g_lv (lv' := [(5, .int (iI (i + 1))), (4, .int (iI i)), (3, .int (iI y9)), (0, .ref w0), (1, .int (iI fr)), (2, .int (iI to))]) [0, 1, 2, 4, 5, 6] rfl ?_
            exact ih y9 i (i + 1) (by omega) (by omega) (by omega) (by omega) (by omega) (by omega)
          · refine g_iload (pc := 43) X 0 rfl dX10_tallestEndBetween_43 ?_
            refine g_aload_n (pc := 45) X 4 rfl dX10_tallestEndBetween_45 ?_
            refine g_get (pc := 46) X inlX10 0 rfl rfl 7 (by decide) mw_16_5 rfl dX10_tallestEndBetween_46 ?_
            refine g_iaddI (pc := 49) X dX10_tallestEndBetween_49 ?_
            refine g_iload_n (pc := 50) X 5 rfl dX10_tallestEndBetween_50 ?_
            refine g_icmp_leI (pc := 51) X 87 (by decide) ⟨by omega, by omega⟩ (inRb b_fr (by decide) (by decide)) dX10_tallestEndBetween_51 (fun c51 => ?_) (fun c51 => ?_)
            · refine g_iload (pc := 87) X 1 rfl dX10_tallestEndBetween_87 ?_
              refine g_istore (pc := 89) X (by decide) (lv' := [(4, .int (iI i)), (6, .int (iI y1)), (5, .int (iI i)), (3, .int (iI t)), (0, .ref w0), (1, .int (iI fr)), (2, .int (iI to))]) rfl dX10_tallestEndBetween_89 ?_
              refine g_iincI (pc := 91) X 2 rfl (by decide) (lv' := [(5, .int (iI (i + 1))), (4, .int (iI i)), (6, .int (iI y1)), (3, .int (iI t)), (0, .ref w0), (1, .int (iI fr)), (2, .int (iI to))]) rfl dX10_tallestEndBetween_91 ?_
              refine g_goto (pc := 94) X 13 (by decide) dX10_tallestEndBetween_94 ?_
              refine g_lv (lv' := [(5, .int (iI (i + 1))), (4, .int (iI i)), (3, .int (iI t)), (0, .ref w0), (1, .int (iI fr)), (2, .int (iI to))]) [0, 1, 3, 4, 5, 6] rfl ?_
              exact ih t i (i + 1) (b_t) (by omega) (by omega) (by omega) (by omega) (by omega)
            · refine g_iload (pc := 54) X 0 rfl dX10_tallestEndBetween_54 ?_
              refine g_aload_n (pc := 56) X 4 rfl dX10_tallestEndBetween_56 ?_
              refine g_get (pc := 57) X inlX10 0 rfl rfl 7 (by decide) mw_16_5 rfl dX10_tallestEndBetween_57 ?_
              refine g_iaddI (pc := 60) X dX10_tallestEndBetween_60 ?_
              refine g_iload_n (pc := 61) X 6 rfl dX10_tallestEndBetween_61 ?_
              refine g_icmp_geI (pc := 62) X 87 (by decide) ⟨by omega, by omega⟩ (inRb b_to (by decide) (by decide)) dX10_tallestEndBetween_62 (fun c62 => ?_) (fun c62 => ?_)
              · refine g_iload (pc := 87) X 1 rfl dX10_tallestEndBetween_87 ?_
                refine g_istore (pc := 89) X (by decide) (lv' := [(4, .int (iI i)), (6, .int (iI y1)), (5, .int (iI i)), (3, .int (iI t)), (0, .ref w0), (1, .int (iI fr)), (2, .int (iI to))]) rfl dX10_tallestEndBetween_89 ?_
                refine g_iincI (pc := 91) X 2 rfl (by decide) (lv' := [(5, .int (iI (i + 1))), (4, .int (iI i)), (6, .int (iI y1)), (3, .int (iI t)), (0, .ref w0), (1, .int (iI fr)), (2, .int (iI to))]) rfl dX10_tallestEndBetween_91 ?_
                refine g_goto (pc := 94) X 13 (by decide) dX10_tallestEndBetween_94 ?_
                refine g_lv (lv' := [(5, .int (iI (i + 1))), (4, .int (iI i)), (3, .int (iI t)), (0, .ref w0), (1, .int (iI fr)), (2, .int (iI to))]) [0, 1, 3, 4, 5, 6] rfl ?_
                exact ih t i (i + 1) (b_t) (by omega) (by omega) (by omega) (by omega) (by omega)
              · refine g_iload_n (pc := 65) X 3 rfl dX10_tallestEndBetween_65 ?_
                refine g_aload_n (pc := 66) X 4 rfl dX10_tallestEndBetween_66 ?_
                refine g_get (pc := 67) X inlX10 0 rfl rfl 3 (by decide) mw_7_4 rfl dX10_tallestEndBetween_67 ?_
                refine g_iload (pc := 70) X 2 rfl dX10_tallestEndBetween_70 ?_
                refine g_ialdI (pc := 72) X 3 rfl (by omega) (by omega) (Int.le_trans b_ah.2 (by decide)) dX10_tallestEndBetween_72 ?_
                refine g_nameI (fun y10 ey10 => ?_)
                have by10 : 0 ≤ y10 ∧ y10 ≤ 400 := by rw [ey10]; exact h_Wk _ (by omega)
                refine g_aload_n (pc := 73) X 4 rfl dX10_tallestEndBetween_73 ?_
                refine g_get (pc := 74) X inlX10 0 rfl rfl 2 (by decide) mw_7_3 rfl dX10_tallestEndBetween_74 ?_
                refine g_iload (pc := 77) X 1 rfl dX10_tallestEndBetween_77 ?_
                refine g_ialdI (pc := 79) X 2 rfl (b_i.1) (by omega) (Int.le_trans b_i.2 (by decide)) dX10_tallestEndBetween_79 ?_
                refine g_nameI (fun y11 ey11 => ?_)
                have by11 : 0 ≤ y11 ∧ y11 ≤ 400 := by rw [ey11]; exact h_Wh _ (by omega)
                refine g_maxI (pc := 80) X mw_26_5 mw_12_11 mw_25_23 mw_12_13 (by decide) (Nat.le_of_ble_eq_true rfl) (by decide) (by decide) (inRb by10 (by decide) (by decide)) (inRb by11 (by decide) (by decide)) dX10_tallestEndBetween_80 ?_
                refine g_nameI (fun y12 ey12 => ?_)
                have my12 : y10 ≤ y12 ∧ y11 ≤ y12 ∧ (y12 = y10 ∨ y12 = y11) := by rw [ey12]; exact maxF _ _
                clear ey12
                refine g_maxI (pc := 83) X mw_26_5 mw_12_11 mw_25_23 mw_12_13 (by decide) (Nat.le_of_ble_eq_true rfl) (by decide) (by decide) (inRb b_t (by decide) (by decide)) ⟨by omega, by omega⟩ dX10_tallestEndBetween_83 ?_
                refine g_nameI (fun y13 ey13 => ?_)
                have my13 : t ≤ y13 ∧ y12 ≤ y13 ∧ (y13 = t ∨ y13 = y12) := by rw [ey13]; exact maxF _ _
                clear ey13
                refine g_istore_n (pc := 86) X (i := 3) rfl (by decide) (lv' := [(3, .int (iI y13)), (6, .int (iI y1)), (5, .int (iI i)), (4, .int (iI ah)), (0, .ref w0), (1, .int (iI fr)), (2, .int (iI to))]) rfl dX10_tallestEndBetween_86 ?_
                refine g_iload (pc := 87) X 2 rfl dX10_tallestEndBetween_87 ?_
                refine g_istore (pc := 89) X (by decide) (lv' := [(4, .int (iI i)), (3, .int (iI y13)), (6, .int (iI y1)), (5, .int (iI i)), (0, .ref w0), (1, .int (iI fr)), (2, .int (iI to))]) rfl dX10_tallestEndBetween_89 ?_
                refine g_iincI (pc := 91) X 3 rfl (by decide) (lv' := [(5, .int (iI (i + 1))), (4, .int (iI i)), (3, .int (iI y13)), (6, .int (iI y1)), (0, .ref w0), (1, .int (iI fr)), (2, .int (iI to))]) rfl dX10_tallestEndBetween_91 ?_
                refine g_goto (pc := 94) X 13 (by decide) dX10_tallestEndBetween_94 ?_
                refine g_lv (lv' := [(5, .int (iI (i + 1))), (4, .int (iI i)), (3, .int (iI y13)), (0, .ref w0), (1, .int (iI fr)), (2, .int (iI to))]) [0, 1, 2, 4, 5, 6] rfl ?_
                exact ih y13 i (i + 1) (by omega) (by omega) (by omega) (by omega) (by omega) (by omega)
  exact loop13 _ 0 (wn - 1) 0 (by omega) (by omega) (by omega) (by omega) (by omega) (Nat.lt_succ_self _)

set_option maxHeartbeats 4000000 in
set_option maxRecDepth 100000 in
theorem k_X10_isCut (l : Launch) (Z : gZ) (cu : Int) (co : Int) (b_cu : (-2147483648) ≤ cu ∧ cu ≤ 2147483647) (b_co : (-2147483648) ≤ co ∧ co ≤ 2147483647) : Con l Z yX10_isCut cX10_isCut 2 (some .boolean) 0 0 0 0 [.int (iI cu), .int (iI co)] [] (fun r w' => ∃ (y : Int), (r = some (.int (iI y))) ∧ (w' = []) ∧ (0 ≤ y ∧ y ≤ 1)) := by
  refine enter (by decide) (Nat.le_of_ble_eq_true rfl) ?_
  intro p e s m args below meth c A X hnm hA
  have X : Cx p s m args meth c cX10_isCut 2 (some .boolean) RX10 Z A := X
  refine g_as (pc' := 0) (lv' := [(0, .int (iI cu)), (1, .int (iI co))]) (st' := []) (ws' := []) rfl rfl rfl rfl ?_
  refine g_iload_n (pc := 0) X 0 rfl dX10_isCut_0 ?_
  refine g_iload_n (pc := 1) X 1 rfl dX10_isCut_1 ?_
  refine g_ishr (pc := 2) X dX10_isCut_2 ?_
  refine g_any (fun y1 by1 => ?_)
  refine g_iconst (pc := 3) X (iI 1) (by rfl) dX10_isCut_3 ?_
  refine g_iandM (pc := 4) X 1 (by decide) (by decide) (by decide) dX10_isCut_4 (fun y2 by2 => ?_)
  refine g_iconst (pc := 5) X (iI 1) (by rfl) dX10_isCut_5 ?_
  refine g_icmp_neI (pc := 6) X 13 (by decide) (inRb by2 (by decide) (by decide)) ⟨by decide, by decide⟩ dX10_isCut_6 (fun c6 => ?_) (fun c6 => ?_)
  · refine g_iconst (pc := 13) X (iI 0) (by rfl) dX10_isCut_13 ?_
    exact g_zret (pc := 14) X hA (rfl) (⟨0, rfl, rfl, (by omega)⟩) (by decide) (by decide) dX10_isCut_14
  · refine g_iconst (pc := 9) X (iI 1) (by rfl) dX10_isCut_9 ?_
    refine g_goto (pc := 10) X 14 (by decide) dX10_isCut_10 ?_
    exact g_zret (pc := 14) X hA (rfl) (⟨1, rfl, rfl, (by omega)⟩) (by decide) (by decide) dX10_isCut_14

set_option maxHeartbeats 4000000 in
set_option maxRecDepth 100000 in
theorem k_X10_runsOffAt (l : Launch) (Z : gZ) (w0 : Nat) (w_begins : Nat) (w_lengths : Nat) (w_lefts : Nat) (w_rights : Nat) (w_leans : Nat) (w_leaning : Nat) (Wk : Nat → Int) (Wm : Nat → Int) (co : Int) (wn : Int) (wr : Int) (b_co : (-2147483648) ≤ co ∧ co ≤ 2147483647) (b_wn : 0 ≤ wn ∧ wn ≤ 8) (b_wr : 0 ≤ wr ∧ wr ≤ 4800) (h_Wk : ∀ j, j < 8 → 0 ≤ Wk j ∧ Wk j ≤ 400) (h_Wm : ∀ j, j < 8 → (-50) ≤ Wm j ∧ Wm j ≤ 50) : Con l Z yX10_runsOffAt cX10_runsOffAt 2 (some .int) 1 21 0 0 [.ref w0, .int (iI co)] [cO_rrrrrrii w0 10 w_begins w_lengths w_lefts w_rights w_leans w_leaning wn wr, cA Z w_rights 0 8 Wk, cA Z w_leans 0 8 Wm] (fun r w' => ∃ (y : Int), (r = some (.int (iI y))) ∧ (w' = [cO_rrrrrrii w0 10 w_begins w_lengths w_lefts w_rights w_leans w_leaning wn wr, cA Z w_rights 0 8 Wk, cA Z w_leans 0 8 Wm]) ∧ ((-200) ≤ y ∧ y ≤ 200)) := by
  refine enter (by decide) (Nat.le_of_ble_eq_true rfl) ?_
  intro p e s m args below meth c A X hnm hA
  have X : Cx p s m args meth c cX10_runsOffAt 2 (some .int) RX10 Z A := X
  refine g_as (pc' := 0) (lv' := [(0, .ref w0), (1, .int (iI co))]) (st' := []) (ws' := [cO_rrrrrrii w0 10 w_begins w_lengths w_lefts w_rights w_leans w_leaning wn wr, cA Z w_rights 0 8 Wk, cA Z w_leans 0 8 Wm]) rfl rfl rfl rfl ?_
  refine g_aload_n (pc := 0) X 0 rfl dX10_runsOffAt_0 ?_
  refine g_iload_n (pc := 1) X 1 rfl dX10_runsOffAt_1 ?_
  refine g_callV (pc := 2) X (k_X10_has l Z w0 w_begins w_lengths w_lefts w_rights w_leans w_leaning co wn wr b_co b_wn b_wr) iM_X10_has mw_17_19 mw_17_20 mw_17_21 0 rfl rfl [0] [1, 2] rfl (wr := [cA Z w_rights 0 8 Wk, cA Z w_leans 0 8 Wm]) rfl (by decide) rfl rfl (Nat.le_of_ble_eq_true rfl) (by decide) dX10_runsOffAt_2 (fun r w' hpo => ?_)
  obtain ⟨rfl, rfl⟩ := hpo
  refine g_as (pc' := 5) (lv' := [(0, .ref w0), (1, .int (iI co))]) (st' := [.int (iI (bI (0 ≤ co ∧ co < wn)))]) (ws' := [cA Z w_rights 0 8 Wk, cA Z w_leans 0 8 Wm, cO_rrrrrrii w0 10 w_begins w_lengths w_lefts w_rights w_leans w_leaning wn wr]) rfl rfl rfl rfl ?_
  refine g_if_eqB (pc := 5) X 27 (by decide) dX10_runsOffAt_5 (fun c5 => ?_) (fun c5 => ?_)
  · refine g_iconst (pc := 27) X (iI 0) (by rfl) dX10_runsOffAt_27 ?_
    refine g_ws (ws' := [cO_rrrrrrii w0 10 w_begins w_lengths w_lefts w_rights w_leans w_leaning wn wr, cA Z w_rights 0 8 Wk, cA Z w_leans 0 8 Wm]) [2, 0, 1] (by decide) rfl ?_
    exact g_iret (pc := 28) X hA (⟨0, rfl, rfl, (by omega)⟩) (by decide) (by decide) dX10_runsOffAt_28
  · refine g_aload_n (pc := 8) X 0 rfl dX10_runsOffAt_8 ?_
    refine g_get (pc := 9) X inlX10 2 rfl rfl 4 (by decide) mw_7_5 rfl dX10_runsOffAt_9 ?_
    refine g_iload_n (pc := 12) X 1 rfl dX10_runsOffAt_12 ?_
    refine g_ialdI (pc := 13) X 1 rfl (by omega) (by omega) (Int.le_trans b_co.2 (by decide)) dX10_runsOffAt_13 ?_
    refine g_nameI (fun y2 ey2 => ?_)
    have by2 : (-50) ≤ y2 ∧ y2 ≤ 50 := by rw [ey2]; exact h_Wm _ (by omega)
    refine g_aload_n (pc := 14) X 0 rfl dX10_runsOffAt_14 ?_
    refine g_get (pc := 15) X inlX10 2 rfl rfl 3 (by decide) mw_7_4 rfl dX10_runsOffAt_15 ?_
    refine g_iload_n (pc := 18) X 1 rfl dX10_runsOffAt_18 ?_
    refine g_ialdI (pc := 19) X 0 rfl (by omega) (by omega) (Int.le_trans b_co.2 (by decide)) dX10_runsOffAt_19 ?_
    refine g_nameI (fun y3 ey3 => ?_)
    have by3 : 0 ≤ y3 ∧ y3 ≤ 400 := by rw [ey3]; exact h_Wk _ (by omega)
    refine g_imulI (pc := 20) X dX10_runsOffAt_20 ?_
    refine g_nameI (fun y4 ey4 => ?_)
    have by4 : (-20000) ≤ y4 ∧ y4 ≤ 20000 := by rw [ey4]; exact mulB (show (-50) ≤ y2 ∧ y2 ≤ 50 by omega) (show (-400) ≤ y3 ∧ y3 ≤ 400 by omega) (by decide)
    refine g_bipush (pc := 21) X (iI 100) (by decide) dX10_runsOffAt_21 ?_
    refine g_idivI (pc := 23) X ⟨by omega, by omega⟩ ⟨by decide, by decide⟩ (by decide) (by decide) dX10_runsOffAt_23 ?_
    refine g_nameI (fun y5 ey5 => ?_)
    have by5 : (-200) ≤ y5 ∧ y5 ≤ 200 := by rw [ey5]; exact tdivB2 (by decide) (by omega)
    refine g_goto (pc := 24) X 28 (by decide) dX10_runsOffAt_24 ?_
    refine g_ws (ws' := [cO_rrrrrrii w0 10 w_begins w_lengths w_lefts w_rights w_leans w_leaning wn wr, cA Z w_rights 0 8 Wk, cA Z w_leans 0 8 Wm]) [2, 0, 1] (by decide) rfl ?_
    exact g_iret (pc := 28) X hA (⟨y5, rfl, rfl, (by omega)⟩) (by decide) (by decide) dX10_runsOffAt_28

set_option maxHeartbeats 4000000 in
set_option maxRecDepth 100000 in
theorem k_X10_runOf (l : Launch) (Z : gZ) (w0 : Nat) (w_begins : Nat) (w_lengths : Nat) (w_lefts : Nat) (w_rights : Nat) (w_leans : Nat) (w_leaning : Nat) (Wk : Nat → Int) (Wm : Nat → Int) (cu : Int) (wl : Int) (wn : Int) (wr : Int) (b_cu : (-2147483648) ≤ cu ∧ cu ≤ 2147483647) (b_wl : (-2147483648) ≤ wl ∧ wl ≤ 2147483647) (b_wn : 0 ≤ wn ∧ wn ≤ 8) (b_wr : 0 ≤ wr ∧ wr ≤ 4800) (h_Wk : ∀ j, j < 8 → 0 ≤ Wk j ∧ Wk j ≤ 400) (h_Wm : ∀ j, j < 8 → (-50) ≤ Wm j ∧ Wm j ≤ 50) : Con l Z yX10_runOf cX10_runOf 5 (some .int) 2 42 0 0 [.ref w0, .int (iI cu), .int (iI wl)] [cO_rrrrrrii w0 10 w_begins w_lengths w_lefts w_rights w_leans w_leaning wn wr, cA Z w_rights 0 8 Wk, cA Z w_leans 0 8 Wm] (fun r w' => ∃ (y : Int), (r = some (.int (iI y))) ∧ (w' = [cO_rrrrrrii w0 10 w_begins w_lengths w_lefts w_rights w_leans w_leaning wn wr, cA Z w_rights 0 8 Wk, cA Z w_leans 0 8 Wm]) ∧ ((-1600) ≤ y ∧ y ≤ 1600)) := by
  refine enter (by decide) (Nat.le_of_ble_eq_true rfl) ?_
  intro p e s m args below meth c A X hnm hA
  have X : Cx p s m args meth c cX10_runOf 5 (some .int) RX10 Z A := X
  refine g_as (pc' := 0) (lv' := [(0, .ref w0), (1, .int (iI cu)), (2, .int (iI wl))]) (st' := []) (ws' := [cO_rrrrrrii w0 10 w_begins w_lengths w_lefts w_rights w_leans w_leaning wn wr, cA Z w_rights 0 8 Wk, cA Z w_leans 0 8 Wm]) rfl rfl rfl rfl ?_
  refine g_iconst (pc := 0) X (iI 0) (by rfl) dX10_runOf_0 ?_
  refine g_istore_n (pc := 1) X (i := 3) rfl (by decide) (lv' := [(3, .int (iI 0)), (0, .ref w0), (1, .int (iI cu)), (2, .int (iI wl))]) rfl dX10_runOf_1 ?_
  refine g_iconst (pc := 2) X (iI 0) (by rfl) dX10_runOf_2 ?_
  refine g_istore (pc := 3) X (by decide) (lv' := [(4, .int (iI 0)), (3, .int (iI 0)), (0, .ref w0), (1, .int (iI cu)), (2, .int (iI wl))]) rfl dX10_runOf_3 ?_
  have loop5 : ∀ (fuel : Nat) (t : Int) (i : Int), ((-1600) ≤ t ∧ t ≤ 1600) → (0 ≤ i ∧ i ≤ 9) → (-200 * i ≤ t ∧ t ≤ 200 * i) → (9 - i).toNat < fuel → Gs p l e ({ frames := 2, cells := 0, slots := 0, locals := 42 } : Room) s m args below meth c (MQ below (gPost Z [cO_rrrrrrii w0 10 w_begins w_lengths w_lefts w_rights w_leans w_leaning wn wr, cA Z w_rights 0 8 Wk, cA Z w_leans 0 8 Wm] s.heap.size (fun r w' => ∃ (y : Int), (r = some (.int (iI y))) ∧ (w' = [cO_rrrrrrii w0 10 w_begins w_lengths w_lefts w_rights w_leans w_leaning wn wr, cA Z w_rights 0 8 Wk, cA Z w_leans 0 8 Wm]) ∧ ((-1600) ≤ y ∧ y ≤ 1600))) args s 0 0 (va_A [cO_rrrrrrii w0 10 w_begins w_lengths w_lefts w_rights w_leans w_leaning wn wr, cA Z w_rights 0 8 Wk, cA Z w_leans 0 8 Wm] s.heap.size)) Z A 5 0 0 5 [(4, .int (iI i)), (3, .int (iI t)), (0, .ref w0), (1, .int (iI cu)), (2, .int (iI wl))] [] [cO_rrrrrrii w0 10 w_begins w_lengths w_lefts w_rights w_leans w_leaning wn wr, cA Z w_rights 0 8 Wk, cA Z w_leans 0 8 Wm] := by
    intro fuel
    induction fuel with
    | zero => intro t i _ _ _ hm; exact absurd hm (Nat.not_lt_zero _)
    | succ fuel ih =>
      intro t i b_t b_i iv hm
      refine g_iload (pc := 5) X 0 rfl dX10_runOf_5 ?_
      refine g_iload_n (pc := 7) X 4 rfl dX10_runOf_7 ?_
      refine g_icmp_geI (pc := 8) X 48 (by decide) (inRb b_i (by decide) (by decide)) b_wl dX10_runOf_8 (fun c8 => ?_) (fun c8 => ?_)
      · refine g_iload_n (pc := 48) X 1 rfl dX10_runOf_48 ?_
        exact g_iret (pc := 49) X hA (⟨t, rfl, rfl, (b_t)⟩) (by decide) (by decide) dX10_runOf_49
      · refine g_iload (pc := 11) X 0 rfl dX10_runOf_11 ?_
        refine g_aload_n (pc := 13) X 2 rfl dX10_runOf_13 ?_
        refine g_get (pc := 14) X inlX10 0 rfl rfl 6 (by decide) mw_16_4 rfl dX10_runOf_14 ?_
        refine g_icmp_geI (pc := 17) X 48 (by decide) (inRb b_i (by decide) (by decide)) (inRb b_wn (by decide) (by decide)) dX10_runOf_17 (fun c17 => ?_) (fun c17 => ?_)
        · refine g_iload_n (pc := 48) X 1 rfl dX10_runOf_48 ?_
          exact g_iret (pc := 49) X hA (⟨t, rfl, rfl, (b_t)⟩) (by decide) (by decide) dX10_runOf_49
        · refine g_iload_n (pc := 20) X 3 rfl dX10_runOf_20 ?_
          refine g_iload (pc := 21) X 0 rfl dX10_runOf_21 ?_
          refine g_callS (pc := 23) X (k_X10_isCut l Z cu i b_cu (by (first | (clear b_cu b_wl b_wn b_wr; omega) | omega))) iM_X10_isCut mw_45_3 mw_45_4 [] [0, 1, 2] rfl (wr := [cO_rrrrrrii w0 10 w_begins w_lengths w_lefts w_rights w_leans w_leaning wn wr, cA Z w_rights 0 8 Wk, cA Z w_leans 0 8 Wm]) rfl (by decide) rfl rfl (Nat.le_of_ble_eq_true rfl) (by decide) dX10_runOf_23 (fun r w' hpo => ?_)
          refine exN_1 hpo fun y1 hz => anD_3 hz fun e_r e_w hf23_b_y => ?_; clear hz hpo; subst e_r; subst e_w
          refine g_as (pc' := 26) (lv' := [(4, .int (iI i)), (3, .int (iI t)), (0, .ref w0), (1, .int (iI cu)), (2, .int (iI wl))]) (st' := [.int (iI y1)]) (ws' := [cO_rrrrrrii w0 10 w_begins w_lengths w_lefts w_rights w_leans w_leaning wn wr, cA Z w_rights 0 8 Wk, cA Z w_leans 0 8 Wm]) rfl rfl rfl rfl ?_
          refine g_if_eqI (pc := 26) X 33 (by decide) (inRb hf23_b_y (by decide) (by decide)) dX10_runOf_26 (fun c26 => ?_) (fun c26 => ?_)
          · refine g_iload_n (pc := 33) X 1 rfl dX10_runOf_33 ?_
            refine g_aload_n (pc := 34) X 2 rfl dX10_runOf_34 ?_
            refine g_iload (pc := 35) X 0 rfl dX10_runOf_35 ?_
            refine g_callV (pc := 37) X (k_X10_runsOffAt l Z w0 w_begins w_lengths w_lefts w_rights w_leans w_leaning Wk Wm i wn wr (by (first | (clear b_cu b_wl b_wn b_wr; omega) | omega)) b_wn b_wr (h_Wk) (h_Wm)) iM_X10_runsOffAt mw_44_23 mw_45_0 mw_45_1 0 rfl rfl [0, 1, 2] [] rfl (wr := []) rfl (by decide) rfl rfl (Nat.le_of_ble_eq_true rfl) (by decide) dX10_runOf_37 (fun r w' hpo => ?_)
            refine exN_1 hpo fun y3 hz => anD_3 hz fun e_r e_w hf37_b_y => ?_; clear hz hpo; subst e_r; subst e_w
            refine g_as (pc' := 40) (lv' := [(4, .int (iI i)), (3, .int (iI t)), (0, .ref w0), (1, .int (iI cu)), (2, .int (iI wl))]) (st' := [.int (iI y3), .int (iI t)]) (ws' := [cO_rrrrrrii w0 10 w_begins w_lengths w_lefts w_rights w_leans w_leaning wn wr, cA Z w_rights 0 8 Wk, cA Z w_leans 0 8 Wm]) rfl rfl rfl rfl ?_
            refine g_iaddI (pc := 40) X dX10_runOf_40 ?_
            refine g_istore_n (pc := 41) X (i := 3) rfl (by decide) (lv' := [(3, .int (iI (t + y3))), (4, .int (iI i)), (0, .ref w0), (1, .int (iI cu)), (2, .int (iI wl))]) rfl dX10_runOf_41 ?_
            refine g_iincI (pc := 42) X 1 rfl (by decide) (lv' := [(4, .int (iI (i + 1))), (3, .int (iI (t + y3))), (0, .ref w0), (1, .int (iI cu)), (2, .int (iI wl))]) rfl dX10_runOf_42 ?_
            refine g_goto (pc := 45) X 5 (by decide) dX10_runOf_45 ?_
            exact ih (t + y3) (i + 1) (by (first | (clear b_cu b_wl b_wn b_wr; omega) | omega)) (by (first | (clear b_cu b_wl b_wn b_wr; omega) | omega)) (by (first | (clear b_cu b_wl b_wn b_wr; omega) | omega)) (by (first | (clear b_cu b_wl b_wn b_wr; omega) | omega))
          · refine g_iconst (pc := 29) X (iI 0) (by rfl) dX10_runOf_29 ?_
            refine g_goto (pc := 30) X 41 (by decide) dX10_runOf_30 ?_
            refine g_istore_n (pc := 41) X (i := 3) rfl (by decide) (lv' := [(3, .int (iI 0)), (4, .int (iI i)), (0, .ref w0), (1, .int (iI cu)), (2, .int (iI wl))]) rfl dX10_runOf_41 ?_
            refine g_iincI (pc := 42) X 1 rfl (by decide) (lv' := [(4, .int (iI (i + 1))), (3, .int (iI 0)), (0, .ref w0), (1, .int (iI cu)), (2, .int (iI wl))]) rfl dX10_runOf_42 ?_
            refine g_goto (pc := 45) X 5 (by decide) dX10_runOf_45 ?_
            exact ih 0 (i + 1) (by (first | (clear b_cu b_wl b_wn b_wr; omega) | omega)) (by (first | (clear b_cu b_wl b_wn b_wr; omega) | omega)) (by (first | (clear b_cu b_wl b_wn b_wr; omega) | omega)) (by (first | (clear b_cu b_wl b_wn b_wr; omega) | omega))
  exact loop5 _ 0 0 (by (first | (clear b_cu b_wl b_wn b_wr; omega) | omega)) (by (first | (clear b_cu b_wl b_wn b_wr; omega) | omega)) (by (first | (clear b_cu b_wl b_wn b_wr; omega) | omega)) (Nat.lt_succ_self _)

set_option maxHeartbeats 4000000 in
set_option maxRecDepth 100000 in
theorem k_X10_shownWith (l : Launch) (Z : gZ) (w0 : Nat) (w_begins : Nat) (w_lengths : Nat) (w_lefts : Nat) (w_rights : Nat) (w_leans : Nat) (w_leaning : Nat) (Wk : Nat → Int) (Wm : Nat → Int) (cu : Int) (wn : Int) (wr : Int) (b_cu : (-2147483648) ≤ cu ∧ cu ≤ 2147483647) (b_wn : 0 ≤ wn ∧ wn ≤ 8) (b_wr : 0 ≤ wr ∧ wr ≤ 4800) (h_Wk : ∀ j, j < 8 → 0 ≤ Wk j ∧ Wk j ≤ 400) (h_Wm : ∀ j, j < 8 → (-50) ≤ Wm j ∧ Wm j ≤ 50) : Con l Z yX10_shownWith cX10_shownWith 5 (some .int) 2 42 0 0 [.ref w0, .int (iI cu)] [cO_rrrrrrii w0 10 w_begins w_lengths w_lefts w_rights w_leans w_leaning wn wr, cA Z w_rights 0 8 Wk, cA Z w_leans 0 8 Wm] (fun r w' => ∃ (y : Int), (r = some (.int (iI y))) ∧ (w' = [cO_rrrrrrii w0 10 w_begins w_lengths w_lefts w_rights w_leans w_leaning wn wr, cA Z w_rights 0 8 Wk, cA Z w_leans 0 8 Wm]) ∧ (0 ≤ y ∧ y ≤ 100000)) := by
  refine enter (by decide) (Nat.le_of_ble_eq_true rfl) ?_
  intro p e s m args below meth c A X hnm hA
  have X : Cx p s m args meth c cX10_shownWith 5 (some .int) RX10 Z A := X
  refine g_as (pc' := 0) (lv' := [(0, .ref w0), (1, .int (iI cu))]) (st' := []) (ws' := [cO_rrrrrrii w0 10 w_begins w_lengths w_lefts w_rights w_leans w_leaning wn wr, cA Z w_rights 0 8 Wk, cA Z w_leans 0 8 Wm]) rfl rfl rfl rfl ?_
  refine g_iconst (pc := 0) X (iI 0) (by rfl) dX10_shownWith_0 ?_
  refine g_istore_n (pc := 1) X (i := 2) rfl (by decide) (lv' := [(2, .int (iI 0)), (0, .ref w0), (1, .int (iI cu))]) rfl dX10_shownWith_1 ?_
  refine g_iconst (pc := 2) X (iI 0) (by rfl) dX10_shownWith_2 ?_
  refine g_istore_n (pc := 3) X (i := 3) rfl (by decide) (lv' := [(3, .int (iI 0)), (2, .int (iI 0)), (0, .ref w0), (1, .int (iI cu))]) rfl dX10_shownWith_3 ?_
  refine g_iconst (pc := 4) X (iI 0) (by rfl) dX10_shownWith_4 ?_
  refine g_istore (pc := 5) X (by decide) (lv' := [(4, .int (iI 0)), (3, .int (iI 0)), (2, .int (iI 0)), (0, .ref w0), (1, .int (iI cu))]) rfl dX10_shownWith_5 ?_
  have loop7 : ∀ (fuel : Nat) (t : Int) (ru : Int) (i : Int), (0 ≤ t ∧ t ≤ 40000) → ((-1600) ≤ ru ∧ ru ≤ 1600) → (0 ≤ i ∧ i ≤ 8) → (-200 * i ≤ ru ∧ ru ≤ 200 * i) → (t ≤ 4800 * i) → (9 - i).toNat < fuel → Gs p l e ({ frames := 2, cells := 0, slots := 0, locals := 42 } : Room) s m args below meth c (MQ below (gPost Z [cO_rrrrrrii w0 10 w_begins w_lengths w_lefts w_rights w_leans w_leaning wn wr, cA Z w_rights 0 8 Wk, cA Z w_leans 0 8 Wm] s.heap.size (fun r w' => ∃ (y : Int), (r = some (.int (iI y))) ∧ (w' = [cO_rrrrrrii w0 10 w_begins w_lengths w_lefts w_rights w_leans w_leaning wn wr, cA Z w_rights 0 8 Wk, cA Z w_leans 0 8 Wm]) ∧ (0 ≤ y ∧ y ≤ 100000))) args s 0 0 (va_A [cO_rrrrrrii w0 10 w_begins w_lengths w_lefts w_rights w_leans w_leaning wn wr, cA Z w_rights 0 8 Wk, cA Z w_leans 0 8 Wm] s.heap.size)) Z A 5 0 0 7 [(4, .int (iI i)), (3, .int (iI ru)), (2, .int (iI t)), (0, .ref w0), (1, .int (iI cu))] [] [cO_rrrrrrii w0 10 w_begins w_lengths w_lefts w_rights w_leans w_leaning wn wr, cA Z w_rights 0 8 Wk, cA Z w_leans 0 8 Wm] := by
    intro fuel
    induction fuel with
    | zero => intro t ru i _ _ _ _ _ hm; exact absurd hm (Nat.not_lt_zero _)
    | succ fuel ih =>
      intro t ru i b_t b_ru b_i iv iv2 hm
      refine g_iload (pc := 7) X 0 rfl dX10_shownWith_7 ?_
      refine g_aload_n (pc := 9) X 3 rfl dX10_shownWith_9 ?_
      refine g_get (pc := 10) X inlX10 0 rfl rfl 6 (by decide) mw_16_4 rfl dX10_shownWith_10 ?_
      refine g_iconst (pc := 13) X (iI 1) (by rfl) dX10_shownWith_13 ?_
      refine g_isubI (pc := 14) X dX10_shownWith_14 ?_
      refine g_icmp_geI (pc := 15) X 60 (by decide) (inRb b_i (by decide) (by decide)) ⟨by omega, by omega⟩ dX10_shownWith_15 (fun c15 => ?_) (fun c15 => ?_)
      · refine g_iload_n (pc := 60) X 2 rfl dX10_shownWith_60 ?_
        exact g_iret (pc := 61) X hA (⟨t, rfl, rfl, (by omega)⟩) (by decide) (by decide) dX10_shownWith_61
      · refine g_iload_n (pc := 18) X 1 rfl dX10_shownWith_18 ?_
        refine g_aload_n (pc := 19) X 3 rfl dX10_shownWith_19 ?_
        refine g_iload (pc := 20) X 0 rfl dX10_shownWith_20 ?_
        refine g_callV (pc := 22) X (k_X10_runsOffAt l Z w0 w_begins w_lengths w_lefts w_rights w_leans w_leaning Wk Wm i wn wr (by omega) b_wn b_wr (h_Wk) (h_Wm)) iM_X10_runsOffAt mw_44_23 mw_45_0 mw_45_1 0 rfl rfl [0, 1, 2] [] rfl (wr := []) rfl (by decide) rfl rfl (Nat.le_of_ble_eq_true rfl) (by decide) dX10_shownWith_22 (fun r w' hpo => ?_)
        refine exN_1 hpo fun y1 hz => anD_3 hz fun e_r e_w hf22_b_y => ?_; clear hz hpo; subst e_r; subst e_w
        refine g_as (pc' := 25) (lv' := [(4, .int (iI i)), (3, .int (iI ru)), (2, .int (iI t)), (0, .ref w0), (1, .int (iI cu))]) (st' := [.int (iI y1), .int (iI ru)]) (ws' := [cO_rrrrrrii w0 10 w_begins w_lengths w_lefts w_rights w_leans w_leaning wn wr, cA Z w_rights 0 8 Wk, cA Z w_leans 0 8 Wm]) rfl rfl rfl rfl ?_
        refine g_iaddI (pc := 25) X dX10_shownWith_25 ?_
        refine g_istore_n (pc := 26) X (i := 3) rfl (by decide) (lv' := [(3, .int (iI (ru + y1))), (4, .int (iI i)), (2, .int (iI t)), (0, .ref w0), (1, .int (iI cu))]) rfl dX10_shownWith_26 ?_
        refine g_iload_n (pc := 27) X 4 rfl dX10_shownWith_27 ?_
        refine g_iload (pc := 28) X 1 rfl dX10_shownWith_28 ?_
        refine g_callS (pc := 30) X (k_X10_isCut l Z cu i b_cu (by omega)) iM_X10_isCut mw_45_3 mw_45_4 [] [0, 1, 2] rfl (wr := [cO_rrrrrrii w0 10 w_begins w_lengths w_lefts w_rights w_leans w_leaning wn wr, cA Z w_rights 0 8 Wk, cA Z w_leans 0 8 Wm]) rfl (by decide) rfl rfl (Nat.le_of_ble_eq_true rfl) (by decide) dX10_shownWith_30 (fun r w' hpo => ?_)
        refine exN_1 hpo fun y3 hz => anD_3 hz fun e_r e_w hf30_b_y => ?_; clear hz hpo; subst e_r; subst e_w
        refine g_as (pc' := 33) (lv' := [(3, .int (iI (ru + y1))), (4, .int (iI i)), (2, .int (iI t)), (0, .ref w0), (1, .int (iI cu))]) (st' := [.int (iI y3)]) (ws' := [cO_rrrrrrii w0 10 w_begins w_lengths w_lefts w_rights w_leans w_leaning wn wr, cA Z w_rights 0 8 Wk, cA Z w_leans 0 8 Wm]) rfl rfl rfl rfl ?_
        refine g_if_eqI (pc := 33) X 47 (by decide) (inRb hf30_b_y (by decide) (by decide)) dX10_shownWith_33 (fun c33 => ?_) (fun c33 => ?_)
        · refine g_iload_n (pc := 47) X 2 rfl dX10_shownWith_47 ?_
          refine g_iload_n (pc := 48) X 0 rfl dX10_shownWith_48 ?_
          refine g_absI (pc := 49) X mw_44_20 mw_44_21 mw_25_23 mw_44_22 (by decide) (Nat.le_of_ble_eq_true rfl) (by decide) (by decide) (by omega) (by omega) dX10_shownWith_49 ?_
          refine g_nameI (fun y5 ey5 => ?_)
          have my5 : 0 ≤ y5 ∧ (y5 = ru + y1 ∨ y5 = -(ru + y1)) ∧ ru + y1 ≤ y5 ∧ -(ru + y1) ≤ y5 := by rw [ey5]; exact absF _
          clear ey5
          refine g_iaddI (pc := 52) X dX10_shownWith_52 ?_
          refine g_istore_n (pc := 53) X (i := 2) rfl (by decide) (lv' := [(2, .int (iI (t + y5))), (3, .int (iI (ru + y1))), (4, .int (iI i)), (0, .ref w0), (1, .int (iI cu))]) rfl dX10_shownWith_53 ?_
          refine g_iincI (pc := 54) X 2 rfl (by decide) (lv' := [(4, .int (iI (i + 1))), (2, .int (iI (t + y5))), (3, .int (iI (ru + y1))), (0, .ref w0), (1, .int (iI cu))]) rfl dX10_shownWith_54 ?_
          refine g_goto (pc := 57) X 7 (by decide) dX10_shownWith_57 ?_
          refine g_lv (lv' := [(4, .int (iI (i + 1))), (3, .int (iI (ru + y1))), (2, .int (iI (t + y5))), (0, .ref w0), (1, .int (iI cu))]) [0, 2, 1, 3, 4] rfl ?_
          exact ih (t + y5) (ru + y1) (i + 1) (by omega) (by omega) (by omega) (by omega) (by omega) (by omega)
        · refine g_iload_n (pc := 36) X 2 rfl dX10_shownWith_36 ?_
          refine g_iconst (pc := 37) X (iI 2) (by rfl) dX10_shownWith_37 ?_
          refine g_iload_n (pc := 38) X 0 rfl dX10_shownWith_38 ?_
          refine g_absI (pc := 39) X mw_44_20 mw_44_21 mw_25_23 mw_44_22 (by decide) (Nat.le_of_ble_eq_true rfl) (by decide) (by decide) (by omega) (by omega) dX10_shownWith_39 ?_
          refine g_nameI (fun y6 ey6 => ?_)
          have my6 : 0 ≤ y6 ∧ (y6 = ru + y1 ∨ y6 = -(ru + y1)) ∧ ru + y1 ≤ y6 ∧ -(ru + y1) ≤ y6 := by rw [ey6]; exact absF _
          clear ey6
          refine g_imulI (pc := 42) X dX10_shownWith_42 ?_
          refine g_iaddI (pc := 43) X dX10_shownWith_43 ?_
          refine g_istore_n (pc := 44) X (i := 2) rfl (by decide) (lv' := [(2, .int (iI (t + (2 * y6)))), (3, .int (iI (ru + y1))), (4, .int (iI i)), (0, .ref w0), (1, .int (iI cu))]) rfl dX10_shownWith_44 ?_
          refine g_iconst (pc := 45) X (iI 0) (by rfl) dX10_shownWith_45 ?_
          refine g_istore_n (pc := 46) X (i := 3) rfl (by decide) (lv' := [(3, .int (iI 0)), (2, .int (iI (t + (2 * y6)))), (4, .int (iI i)), (0, .ref w0), (1, .int (iI cu))]) rfl dX10_shownWith_46 ?_
          refine g_iload_n (pc := 47) X 1 rfl dX10_shownWith_47 ?_
          refine g_iload_n (pc := 48) X 0 rfl dX10_shownWith_48 ?_
          refine g_absI (pc := 49) X mw_44_20 mw_44_21 mw_25_23 mw_44_22 (by decide) (Nat.le_of_ble_eq_true rfl) (by decide) (by decide) (by omega) (by omega) dX10_shownWith_49 ?_
          refine g_nameI (fun y7 ey7 => ?_)
          have my7 : 0 ≤ y7 ∧ (y7 = 0 ∨ y7 = -0) ∧ 0 ≤ y7 ∧ -0 ≤ y7 := by rw [ey7]; exact absF _
          clear ey7
          refine g_iaddI (pc := 52) X dX10_shownWith_52 ?_
          refine g_istore_n (pc := 53) X (i := 2) rfl (by decide) (lv' := [(2, .int (iI ((t + (2 * y6)) + y7))), (3, .int (iI 0)), (4, .int (iI i)), (0, .ref w0), (1, .int (iI cu))]) rfl dX10_shownWith_53 ?_
          refine g_iincI (pc := 54) X 2 rfl (by decide) (lv' := [(4, .int (iI (i + 1))), (2, .int (iI ((t + (2 * y6)) + y7))), (3, .int (iI 0)), (0, .ref w0), (1, .int (iI cu))]) rfl dX10_shownWith_54 ?_
          refine g_goto (pc := 57) X 7 (by decide) dX10_shownWith_57 ?_
          refine g_lv (lv' := [(4, .int (iI (i + 1))), (3, .int (iI 0)), (2, .int (iI ((t + (2 * y6)) + y7))), (0, .ref w0), (1, .int (iI cu))]) [0, 2, 1, 3, 4] rfl ?_
          exact ih ((t + (2 * y6)) + y7) 0 (i + 1) (by omega) (by omega) (by omega) (by omega) (by omega) (by omega)
  exact loop7 _ 0 0 0 (by omega) (by omega) (by omega) (by omega) (by omega) (Nat.lt_succ_self _)
