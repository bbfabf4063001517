set_option maxHeartbeats 4000000 in
set_option maxRecDepth 100000 in
theorem k_X10_init (l : Launch) (Z : gZ) (w0 : Nat) : Con l Z yX10_init cX10_init 1 none 1 20 6 48 [.ref w0] [(w0, .inr (10, [.null, .null, .null, .null, .null, .null, .int (iI 0), .int (iI 0)]))] (fun r w' => ∃ (w_begins : Nat) (w_lengths : Nat) (w_lefts : Nat) (w_rights : Nat) (w_leans : Nat) (w_leaning : Nat) (Wb : Nat → Int) (Wl : Nat → Int) (Wh : Nat → Int) (Wk : Nat → Int) (Wm : Nat → Int) (Wz : Nat → Int), (r = none) ∧ (w' = [cO_rrrrrrii w0 10 w_begins w_lengths w_lefts w_rights w_leans w_leaning 0 0, cA Z w_begins 0 8 Wb, cA Z w_lengths 0 8 Wl, cA Z w_lefts 0 8 Wh, cA Z w_rights 0 8 Wk, cA Z w_leans 0 8 Wm, cA Z w_leaning 2 8 Wz]) ∧ (∀ j, j < 8 → 0 ≤ Wb j ∧ Wb j ≤ 4800) ∧ (∀ j, j < 8 → 0 ≤ Wl j ∧ Wl j ≤ 600) ∧ (∀ j, j < 8 → 0 ≤ Wh j ∧ Wh j ≤ 400) ∧ (∀ j, j < 8 → 0 ≤ Wk j ∧ Wk j ≤ 400) ∧ (∀ j, j < 8 → (-50) ≤ Wm j ∧ Wm j ≤ 50) ∧ (∀ j, j < 8 → 0 ≤ Wz j ∧ Wz j ≤ 1)) := by
  refine enter (by decide) (Nat.le_of_ble_eq_true rfl) ?_
  intro p e s m args below meth c A X hnm hA
  have X : Cx p s m args meth c cX10_init 1 none RX10 Z A := X
  refine g_as (pc' := 0) (lv' := [(0, .ref w0)]) (st' := []) (ws' := [(w0, .inr (10, [.null, .null, .null, .null, .null, .null, .int (iI 0), .int (iI 0)]))]) rfl rfl rfl rfl ?_
  refine g_aload_n (pc := 0) X 0 rfl dX10_init_0 ?_
  refine g_objInit (pc := 1) X mw_7_0 mw_1_10 mw_1_11 (by decide) (Nat.le_of_ble_eq_true rfl) dX10_init_1 ?_
  refine g_aload_n (pc := 4) X 0 rfl dX10_init_4 ?_
  refine g_bipush (pc := 5) X (iI 8) (by decide) dX10_init_5 ?_
  refine g_newiI (pc := 7) X 8 mw_3_11 (by decide) (by decide) (by decide) (by decide) (by decide) dX10_init_7 (fun q1 F2 eF2 => ?_)
  have hF2 : ∀ j, j < 8 → 0 ≤ F2 j ∧ F2 j ≤ 0 := bndZ eF2
  refine g_as (pc' := 9) (lv' := [(0, .ref w0)]) (st' := [.ref q1, .ref w0]) (ws' := [(w0, .inr (10, [.null, .null, .null, .null, .null, .null, .int (iI 0), .int (iI 0)])), cA Z q1 0 8 F2]) rfl rfl rfl rfl ?_
  refine g_putF (pc := 9) X hnm inlX10 tyX10_ok nmX10 0 rfl rfl 0 (by decide) mw_7_1 rfl rfl rfl rfl (Nat.le_of_ble_eq_true rfl) (ws' := [(w0, .inr (10, [.ref q1, .null, .null, .null, .null, .null, .int (iI 0), .int (iI 0)])), cA Z q1 0 8 F2]) rfl dX10_init_9 ?_
  refine g_aload_n (pc := 12) X 0 rfl dX10_init_12 ?_
  refine g_bipush (pc := 13) X (iI 8) (by decide) dX10_init_13 ?_
  refine g_newiI (pc := 15) X 8 mw_3_11 (by decide) (by decide) (by decide) (by decide) (by decide) dX10_init_15 (fun q3 F4 eF4 => ?_)
  have hF4 : ∀ j, j < 8 → 0 ≤ F4 j ∧ F4 j ≤ 0 := bndZ eF4
  refine g_as (pc' := 17) (lv' := [(0, .ref w0)]) (st' := [.ref q3, .ref w0]) (ws' := [(w0, .inr (10, [.ref q1, .null, .null, .null, .null, .null, .int (iI 0), .int (iI 0)])), cA Z q1 0 8 F2, cA Z q3 0 8 F4]) rfl rfl rfl rfl ?_
  refine g_putF (pc := 17) X hnm inlX10 tyX10_ok nmX10 0 rfl rfl 1 (by decide) mw_7_2 rfl rfl rfl rfl (Nat.le_of_ble_eq_true rfl) (ws' := [(w0, .inr (10, [.ref q1, .ref q3, .null, .null, .null, .null, .int (iI 0), .int (iI 0)])), cA Z q1 0 8 F2, cA Z q3 0 8 F4]) rfl dX10_init_17 ?_
  refine g_aload_n (pc := 20) X 0 rfl dX10_init_20 ?_
  refine g_bipush (pc := 21) X (iI 8) (by decide) dX10_init_21 ?_
  refine g_newiI (pc := 23) X 8 mw_3_11 (by decide) (by decide) (by decide) (by decide) (by decide) dX10_init_23 (fun q5 F6 eF6 => ?_)
  have hF6 : ∀ j, j < 8 → 0 ≤ F6 j ∧ F6 j ≤ 0 := bndZ eF6
  refine g_as (pc' := 25) (lv' := [(0, .ref w0)]) (st' := [.ref q5, .ref w0]) (ws' := [(w0, .inr (10, [.ref q1, .ref q3, .null, .null, .null, .null, .int (iI 0), .int (iI 0)])), cA Z q1 0 8 F2, cA Z q3 0 8 F4, cA Z q5 0 8 F6]) rfl rfl rfl rfl ?_
  refine g_putF (pc := 25) X hnm inlX10 tyX10_ok nmX10 0 rfl rfl 2 (by decide) mw_7_3 rfl rfl rfl rfl (Nat.le_of_ble_eq_true rfl) (ws' := [(w0, .inr (10, [.ref q1, .ref q3, .ref q5, .null, .null, .null, .int (iI 0), .int (iI 0)])), cA Z q1 0 8 F2, cA Z q3 0 8 F4, cA Z q5 0 8 F6]) rfl dX10_init_25 ?_
  refine g_aload_n (pc := 28) X 0 rfl dX10_init_28 ?_
  refine g_bipush (pc := 29) X (iI 8) (by decide) dX10_init_29 ?_
  refine g_newiI (pc := 31) X 8 mw_3_11 (by decide) (by decide) (by decide) (by decide) (by decide) dX10_init_31 (fun q7 F8 eF8 => ?_)
  have hF8 : ∀ j, j < 8 → 0 ≤ F8 j ∧ F8 j ≤ 0 := bndZ eF8
  refine g_as (pc' := 33) (lv' := [(0, .ref w0)]) (st' := [.ref q7, .ref w0]) (ws' := [(w0, .inr (10, [.ref q1, .ref q3, .ref q5, .null, .null, .null, .int (iI 0), .int (iI 0)])), cA Z q1 0 8 F2, cA Z q3 0 8 F4, cA Z q5 0 8 F6, cA Z q7 0 8 F8]) rfl rfl rfl rfl ?_
  refine g_putF (pc := 33) X hnm inlX10 tyX10_ok nmX10 0 rfl rfl 3 (by decide) mw_7_4 rfl rfl rfl rfl (Nat.le_of_ble_eq_true rfl) (ws' := [(w0, .inr (10, [.ref q1, .ref q3, .ref q5, .ref q7, .null, .null, .int (iI 0), .int (iI 0)])), cA Z q1 0 8 F2, cA Z q3 0 8 F4, cA Z q5 0 8 F6, cA Z q7 0 8 F8]) rfl dX10_init_33 ?_
  refine g_aload_n (pc := 36) X 0 rfl dX10_init_36 ?_
  refine g_bipush (pc := 37) X (iI 8) (by decide) dX10_init_37 ?_
  refine g_newiI (pc := 39) X 8 mw_3_11 (by decide) (by decide) (by decide) (by decide) (by decide) dX10_init_39 (fun q9 F10 eF10 => ?_)
  have hF10 : ∀ j, j < 8 → 0 ≤ F10 j ∧ F10 j ≤ 0 := bndZ eF10
  refine g_as (pc' := 41) (lv' := [(0, .ref w0)]) (st' := [.ref q9, .ref w0]) (ws' := [(w0, .inr (10, [.ref q1, .ref q3, .ref q5, .ref q7, .null, .null, .int (iI 0), .int (iI 0)])), cA Z q1 0 8 F2, cA Z q3 0 8 F4, cA Z q5 0 8 F6, cA Z q7 0 8 F8, cA Z q9 0 8 F10]) rfl rfl rfl rfl ?_
  refine g_putF (pc := 41) X hnm inlX10 tyX10_ok nmX10 0 rfl rfl 4 (by decide) mw_7_5 rfl rfl rfl rfl (Nat.le_of_ble_eq_true rfl) (ws' := [(w0, .inr (10, [.ref q1, .ref q3, .ref q5, .ref q7, .ref q9, .null, .int (iI 0), .int (iI 0)])), cA Z q1 0 8 F2, cA Z q3 0 8 F4, cA Z q5 0 8 F6, cA Z q7 0 8 F8, cA Z q9 0 8 F10]) rfl dX10_init_41 ?_
  refine g_aload_n (pc := 44) X 0 rfl dX10_init_44 ?_
  refine g_bipush (pc := 45) X (iI 8) (by decide) dX10_init_45 ?_
  refine g_newzI (pc := 47) X 8 mw_5_18 (by decide) (by decide) (by decide) (by decide) (by decide) dX10_init_47 (fun q11 F12 eF12 => ?_)
  have hF12 : ∀ j, j < 8 → 0 ≤ F12 j ∧ F12 j ≤ 0 := bndZ eF12
  refine g_as (pc' := 49) (lv' := [(0, .ref w0)]) (st' := [.ref q11, .ref w0]) (ws' := [(w0, .inr (10, [.ref q1, .ref q3, .ref q5, .ref q7, .ref q9, .null, .int (iI 0), .int (iI 0)])), cA Z q1 0 8 F2, cA Z q3 0 8 F4, cA Z q5 0 8 F6, cA Z q7 0 8 F8, cA Z q9 0 8 F10, cA Z q11 2 8 F12]) rfl rfl rfl rfl ?_
  refine g_putF (pc := 49) X hnm inlX10 tyX10_ok nmX10 0 rfl rfl 5 (by decide) mw_7_6 rfl rfl rfl rfl (Nat.le_of_ble_eq_true rfl) (ws' := [cO_rrrrrrii w0 10 q1 q3 q5 q7 q9 q11 0 0, cA Z q1 0 8 F2, cA Z q3 0 8 F4, cA Z q5 0 8 F6, cA Z q7 0 8 F8, cA Z q9 0 8 F10, cA Z q11 2 8 F12]) rfl dX10_init_49 ?_
  exact g_vret (pc := 52) X hA (⟨q1, q3, q5, q7, q9, q11, F2, F4, F6, F8, F10, F12, rfl, rfl, (bndW hF2 (by decide) (by decide)), (bndW hF4 (by decide) (by decide)), (bndW hF6 (by decide) (by decide)), (bndW hF8 (by decide) (by decide)), (bndW hF10 (by decide) (by decide)), (bndW hF12 (by decide) (by decide))⟩) (by decide) (by decide) dX10_init_52

set_option maxHeartbeats 4000000 in
set_option maxRecDepth 100000 in
theorem k_X6_init (l : Launch) (Z : gZ) (r0 : Nat) : Con l Z yX6_init cX6_init 1 none 2 40 16 116 [.ref r0] [(r0, .inr (6, [.null, .int (iI 0), .null, .null, .null, .null, .null, .null, .int (iI 0), .null, .null, .null]))] (fun r w' => ∃ (r_doors : Nat) (r_openingWalls : Nat) (r_froms : Nat) (r_tos : Nat) (r_lowers : Nat) (r_uppers : Nat) (r_standWalls : Nat) (r_standXs : Nat) (r_standYs : Nat) (w0 : Nat) (w_begins : Nat) (w_lengths : Nat) (w_lefts : Nat) (w_rights : Nat) (w_leans : Nat) (w_leaning : Nat) (Rd : Nat → Int) (Rw : Nat → Int) (Rf : Nat → Int) (Rt : Nat → Int) (Rl : Nat → Int) (Ru : Nat → Int) (Rsw : Nat → Int) (Rsx : Nat → Int) (Rsy : Nat → Int) (Wb : Nat → Int) (Wl : Nat → Int) (Wh : Nat → Int) (Wk : Nat → Int) (Wm : Nat → Int) (Wz : Nat → Int), (r = none) ∧ (w' = [cO_rirrrrrrirrr r0 6 w0 0 r_doors r_openingWalls r_froms r_tos r_lowers r_uppers 0 r_standWalls r_standXs r_standYs, cA Z r_doors 2 8 Rd, cA Z r_openingWalls 0 8 Rw, cA Z r_froms 0 8 Rf, cA Z r_tos 0 8 Rt, cA Z r_lowers 0 8 Rl, cA Z r_uppers 0 8 Ru, cA Z r_standWalls 0 4 Rsw, cA Z r_standXs 0 4 Rsx, cA Z r_standYs 0 4 Rsy, cO_rrrrrrii w0 10 w_begins w_lengths w_lefts w_rights w_leans w_leaning 0 0, cA Z w_begins 0 8 Wb, cA Z w_lengths 0 8 Wl, cA Z w_lefts 0 8 Wh, cA Z w_rights 0 8 Wk, cA Z w_leans 0 8 Wm, cA Z w_leaning 2 8 Wz]) ∧ (∀ j, j < 8 → 0 ≤ Rd j ∧ Rd j ≤ 1) ∧ (∀ j, j < 8 → 0 ≤ Rw j ∧ Rw j ≤ 7) ∧ (∀ j, j < 8 → 0 ≤ Rf j ∧ Rf j ≤ 600) ∧ (∀ j, j < 8 → 0 ≤ Rt j ∧ Rt j ≤ 600) ∧ (∀ j, j < 8 → 0 ≤ Rl j ∧ Rl j ≤ 400) ∧ (∀ j, j < 8 → 0 ≤ Ru j ∧ Ru j ≤ 400) ∧ (∀ j, j < 4 → 0 ≤ Rsw j ∧ Rsw j ≤ 7) ∧ (∀ j, j < 4 → 0 ≤ Rsx j ∧ Rsx j ≤ 600) ∧ (∀ j, j < 4 → 0 ≤ Rsy j ∧ Rsy j ≤ 400) ∧ (∀ j, j < 8 → 0 ≤ Wb j ∧ Wb j ≤ 4800) ∧ (∀ j, j < 8 → 0 ≤ Wl j ∧ Wl j ≤ 600) ∧ (∀ j, j < 8 → 0 ≤ Wh j ∧ Wh j ≤ 400) ∧ (∀ j, j < 8 → 0 ≤ Wk j ∧ Wk j ≤ 400) ∧ (∀ j, j < 8 → (-50) ≤ Wm j ∧ Wm j ≤ 50) ∧ (∀ j, j < 8 → 0 ≤ Wz j ∧ Wz j ≤ 1)) := by
  refine enter (by decide) (Nat.le_of_ble_eq_true rfl) ?_
  intro p e s m args below meth c A X hnm hA
  have X : Cx p s m args meth c cX6_init 1 none RX6 Z A := X
  refine g_as (pc' := 0) (lv' := [(0, .ref r0)]) (st' := []) (ws' := [(r0, .inr (6, [.null, .int (iI 0), .null, .null, .null, .null, .null, .null, .int (iI 0), .null, .null, .null]))]) rfl rfl rfl rfl ?_
  refine g_aload_n (pc := 0) X 0 rfl dX6_init_0 ?_
  refine g_objInit (pc := 1) X mw_6_7 mw_1_10 mw_1_11 (by decide) (Nat.le_of_ble_eq_true rfl) dX6_init_1 ?_
  refine g_aload_n (pc := 4) X 0 rfl dX6_init_4 ?_
  refine g_new (pc := 5) (ci := 10) X inlX10 tyX10_ok mw_6_8 mw_6_9 mw_6_10 rfl df_X10 (by decide) (by decide) dX6_init_5 (fun q1 => ?_)
  refine g_as (pc' := 8) (lv' := [(0, .ref r0)]) (st' := [.ref q1, .ref r0]) (ws' := [(r0, .inr (6, [.null, .int (iI 0), .null, .null, .null, .null, .null, .null, .int (iI 0), .null, .null, .null])), (q1, .inr (10, [.null, .null, .null, .null, .null, .null, .int (iI 0), .int (iI 0)]))]) rfl rfl rfl rfl ?_
  refine g_dup (pc := 8) X rfl dX6_init_8 ?_
  refine g_callI (pc := 9) X (k_X10_init l Z q1) iM_X10_init rfl mw_6_21 mw_6_22 [1] [0] rfl (wr := [(r0, .inr (6, [.null, .int (iI 0), .null, .null, .null, .null, .null, .null, .int (iI 0), .null, .null, .null]))]) rfl (by decide) rfl rfl (Nat.le_of_ble_eq_true rfl) (by decide) dX6_init_9 (fun r w' hpo => ?_)
  refine exN_12 hpo fun q2 q3 q4 q5 q6 q7 F8 F9 F10 F11 F12 F13 hz => anD_8 hz fun e_r e_w hf9_h_Wb hf9_h_Wl hf9_h_Wh hf9_h_Wk hf9_h_Wm hf9_h_Wz => ?_; clear hz hpo; subst e_r; subst e_w
  refine g_as (pc' := 12) (lv' := [(0, .ref r0)]) (st' := [.ref q1, .ref r0]) (ws' := [(r0, .inr (6, [.null, .int (iI 0), .null, .null, .null, .null, .null, .null, .int (iI 0), .null, .null, .null])), cO_rrrrrrii q1 10 q2 q3 q4 q5 q6 q7 0 0, cA Z q2 0 8 F8, cA Z q3 0 8 F9, cA Z q4 0 8 F10, cA Z q5 0 8 F11, cA Z q6 0 8 F12, cA Z q7 2 8 F13]) rfl rfl rfl rfl ?_
  refine g_putF (pc := 12) X hnm inlX6 tyX6_ok nmX6 0 rfl rfl 0 (by decide) mw_6_11 rfl rfl rfl rfl (Nat.le_of_ble_eq_true rfl) (ws' := [(r0, .inr (6, [.ref q1, .int (iI 0), .null, .null, .null, .null, .null, .null, .int (iI 0), .null, .null, .null])), cO_rrrrrrii q1 10 q2 q3 q4 q5 q6 q7 0 0, cA Z q2 0 8 F8, cA Z q3 0 8 F9, cA Z q4 0 8 F10, cA Z q5 0 8 F11, cA Z q6 0 8 F12, cA Z q7 2 8 F13]) rfl dX6_init_12 ?_
  refine g_aload_n (pc := 15) X 0 rfl dX6_init_15 ?_
  refine g_bipush (pc := 16) X (iI 8) (by decide) dX6_init_16 ?_
  refine g_newzI (pc := 18) X 8 mw_5_18 (by decide) (by decide) (by decide) (by decide) (by decide) dX6_init_18 (fun q15 F16 eF16 => ?_)
  have hF16 : ∀ j, j < 8 → 0 ≤ F16 j ∧ F16 j ≤ 0 := bndZ eF16
  refine g_as (pc' := 20) (lv' := [(0, .ref r0)]) (st' := [.ref q15, .ref r0]) (ws' := [(r0, .inr (6, [.ref q1, .int (iI 0), .null, .null, .null, .null, .null, .null, .int (iI 0), .null, .null, .null])), cO_rrrrrrii q1 10 q2 q3 q4 q5 q6 q7 0 0, cA Z q2 0 8 F8, cA Z q3 0 8 F9, cA Z q4 0 8 F10, cA Z q5 0 8 F11, cA Z q6 0 8 F12, cA Z q7 2 8 F13, cA Z q15 2 8 F16]) rfl rfl rfl rfl ?_
  refine g_putF (pc := 20) X hnm inlX6 tyX6_ok nmX6 0 rfl rfl 2 (by decide) mw_6_12 rfl rfl rfl rfl (Nat.le_of_ble_eq_true rfl) (ws' := [(r0, .inr (6, [.ref q1, .int (iI 0), .ref q15, .null, .null, .null, .null, .null, .int (iI 0), .null, .null, .null])), cO_rrrrrrii q1 10 q2 q3 q4 q5 q6 q7 0 0, cA Z q2 0 8 F8, cA Z q3 0 8 F9, cA Z q4 0 8 F10, cA Z q5 0 8 F11, cA Z q6 0 8 F12, cA Z q7 2 8 F13, cA Z q15 2 8 F16]) rfl dX6_init_20 ?_
  refine g_aload_n (pc := 23) X 0 rfl dX6_init_23 ?_
  refine g_bipush (pc := 24) X (iI 8) (by decide) dX6_init_24 ?_
  refine g_newiI (pc := 26) X 8 mw_3_11 (by decide) (by decide) (by decide) (by decide) (by decide) dX6_init_26 (fun q17 F18 eF18 => ?_)
  have hF18 : ∀ j, j < 8 → 0 ≤ F18 j ∧ F18 j ≤ 0 := bndZ eF18
  refine g_as (pc' := 28) (lv' := [(0, .ref r0)]) (st' := [.ref q17, .ref r0]) (ws' := [(r0, .inr (6, [.ref q1, .int (iI 0), .ref q15, .null, .null, .null, .null, .null, .int (iI 0), .null, .null, .null])), cO_rrrrrrii q1 10 q2 q3 q4 q5 q6 q7 0 0, cA Z q2 0 8 F8, cA Z q3 0 8 F9, cA Z q4 0 8 F10, cA Z q5 0 8 F11, cA Z q6 0 8 F12, cA Z q7 2 8 F13, cA Z q15 2 8 F16, cA Z q17 0 8 F18]) rfl rfl rfl rfl ?_
  refine g_putF (pc := 28) X hnm inlX6 tyX6_ok nmX6 0 rfl rfl 3 (by decide) mw_6_13 rfl rfl rfl rfl (Nat.le_of_ble_eq_true rfl) (ws' := [(r0, .inr (6, [.ref q1, .int (iI 0), .ref q15, .ref q17, .null, .null, .null, .null, .int (iI 0), .null, .null, .null])), cO_rrrrrrii q1 10 q2 q3 q4 q5 q6 q7 0 0, cA Z q2 0 8 F8, cA Z q3 0 8 F9, cA Z q4 0 8 F10, cA Z q5 0 8 F11, cA Z q6 0 8 F12, cA Z q7 2 8 F13, cA Z q15 2 8 F16, cA Z q17 0 8 F18]) rfl dX6_init_28 ?_
  refine g_aload_n (pc := 31) X 0 rfl dX6_init_31 ?_
  refine g_bipush (pc := 32) X (iI 8) (by decide) dX6_init_32 ?_
  refine g_newiI (pc := 34) X 8 mw_3_11 (by decide) (by decide) (by decide) (by decide) (by decide) dX6_init_34 (fun q19 F20 eF20 => ?_)
  have hF20 : ∀ j, j < 8 → 0 ≤ F20 j ∧ F20 j ≤ 0 := bndZ eF20
  refine g_as (pc' := 36) (lv' := [(0, .ref r0)]) (st' := [.ref q19, .ref r0]) (ws' := [(r0, .inr (6, [.ref q1, .int (iI 0), .ref q15, .ref q17, .null, .null, .null, .null, .int (iI 0), .null, .null, .null])), cO_rrrrrrii q1 10 q2 q3 q4 q5 q6 q7 0 0, cA Z q2 0 8 F8, cA Z q3 0 8 F9, cA Z q4 0 8 F10, cA Z q5 0 8 F11, cA Z q6 0 8 F12, cA Z q7 2 8 F13, cA Z q15 2 8 F16, cA Z q17 0 8 F18, cA Z q19 0 8 F20]) rfl rfl rfl rfl ?_
  refine g_putF (pc := 36) X hnm inlX6 tyX6_ok nmX6 0 rfl rfl 4 (by decide) mw_6_14 rfl rfl rfl rfl (Nat.le_of_ble_eq_true rfl) (ws' := [(r0, .inr (6, [.ref q1, .int (iI 0), .ref q15, .ref q17, .ref q19, .null, .null, .null, .int (iI 0), .null, .null, .null])), cO_rrrrrrii q1 10 q2 q3 q4 q5 q6 q7 0 0, cA Z q2 0 8 F8, cA Z q3 0 8 F9, cA Z q4 0 8 F10, cA Z q5 0 8 F11, cA Z q6 0 8 F12, cA Z q7 2 8 F13, cA Z q15 2 8 F16, cA Z q17 0 8 F18, cA Z q19 0 8 F20]) rfl dX6_init_36 ?_
  refine g_aload_n (pc := 39) X 0 rfl dX6_init_39 ?_
  refine g_bipush (pc := 40) X (iI 8) (by decide) dX6_init_40 ?_
  refine g_newiI (pc := 42) X 8 mw_3_11 (by decide) (by decide) (by decide) (by decide) (by decide) dX6_init_42 (fun q21 F22 eF22 => ?_)
  have hF22 : ∀ j, j < 8 → 0 ≤ F22 j ∧ F22 j ≤ 0 := bndZ eF22
  refine g_as (pc' := 44) (lv' := [(0, .ref r0)]) (st' := [.ref q21, .ref r0]) (ws' := [(r0, .inr (6, [.ref q1, .int (iI 0), .ref q15, .ref q17, .ref q19, .null, .null, .null, .int (iI 0), .null, .null, .null])), cO_rrrrrrii q1 10 q2 q3 q4 q5 q6 q7 0 0, cA Z q2 0 8 F8, cA Z q3 0 8 F9, cA Z q4 0 8 F10, cA Z q5 0 8 F11, cA Z q6 0 8 F12, cA Z q7 2 8 F13, cA Z q15 2 8 F16, cA Z q17 0 8 F18, cA Z q19 0 8 F20, cA Z q21 0 8 F22]) rfl rfl rfl rfl ?_
  refine g_putF (pc := 44) X hnm inlX6 tyX6_ok nmX6 0 rfl rfl 5 (by decide) mw_6_15 rfl rfl rfl rfl (Nat.le_of_ble_eq_true rfl) (ws' := [(r0, .inr (6, [.ref q1, .int (iI 0), .ref q15, .ref q17, .ref q19, .ref q21, .null, .null, .int (iI 0), .null, .null, .null])), cO_rrrrrrii q1 10 q2 q3 q4 q5 q6 q7 0 0, cA Z q2 0 8 F8, cA Z q3 0 8 F9, cA Z q4 0 8 F10, cA Z q5 0 8 F11, cA Z q6 0 8 F12, cA Z q7 2 8 F13, cA Z q15 2 8 F16, cA Z q17 0 8 F18, cA Z q19 0 8 F20, cA Z q21 0 8 F22]) rfl dX6_init_44 ?_
  refine g_aload_n (pc := 47) X 0 rfl dX6_init_47 ?_
  refine g_bipush (pc := 48) X (iI 8) (by decide) dX6_init_48 ?_
  refine g_newiI (pc := 50) X 8 mw_3_11 (by decide) (by decide) (by decide) (by decide) (by decide) dX6_init_50 (fun q23 F24 eF24 => ?_)
  have hF24 : ∀ j, j < 8 → 0 ≤ F24 j ∧ F24 j ≤ 0 := bndZ eF24
  refine g_as (pc' := 52) (lv' := [(0, .ref r0)]) (st' := [.ref q23, .ref r0]) (ws' := [(r0, .inr (6, [.ref q1, .int (iI 0), .ref q15, .ref q17, .ref q19, .ref q21, .null, .null, .int (iI 0), .null, .null, .null])), cO_rrrrrrii q1 10 q2 q3 q4 q5 q6 q7 0 0, cA Z q2 0 8 F8, cA Z q3 0 8 F9, cA Z q4 0 8 F10, cA Z q5 0 8 F11, cA Z q6 0 8 F12, cA Z q7 2 8 F13, cA Z q15 2 8 F16, cA Z q17 0 8 F18, cA Z q19 0 8 F20, cA Z q21 0 8 F22, cA Z q23 0 8 F24]) rfl rfl rfl rfl ?_
  refine g_putF (pc := 52) X hnm inlX6 tyX6_ok nmX6 0 rfl rfl 6 (by decide) mw_6_16 rfl rfl rfl rfl (Nat.le_of_ble_eq_true rfl) (ws' := [(r0, .inr (6, [.ref q1, .int (iI 0), .ref q15, .ref q17, .ref q19, .ref q21, .ref q23, .null, .int (iI 0), .null, .null, .null])), cO_rrrrrrii q1 10 q2 q3 q4 q5 q6 q7 0 0, cA Z q2 0 8 F8, cA Z q3 0 8 F9, cA Z q4 0 8 F10, cA Z q5 0 8 F11, cA Z q6 0 8 F12, cA Z q7 2 8 F13, cA Z q15 2 8 F16, cA Z q17 0 8 F18, cA Z q19 0 8 F20, cA Z q21 0 8 F22, cA Z q23 0 8 F24]) rfl dX6_init_52 ?_
  refine g_aload_n (pc := 55) X 0 rfl dX6_init_55 ?_
  refine g_bipush (pc := 56) X (iI 8) (by decide) dX6_init_56 ?_
  refine g_newiI (pc := 58) X 8 mw_3_11 (by decide) (by decide) (by decide) (by decide) (by decide) dX6_init_58 (fun q25 F26 eF26 => ?_)
  have hF26 : ∀ j, j < 8 → 0 ≤ F26 j ∧ F26 j ≤ 0 := bndZ eF26
  refine g_as (pc' := 60) (lv' := [(0, .ref r0)]) (st' := [.ref q25, .ref r0]) (ws' := [(r0, .inr (6, [.ref q1, .int (iI 0), .ref q15, .ref q17, .ref q19, .ref q21, .ref q23, .null, .int (iI 0), .null, .null, .null])), cO_rrrrrrii q1 10 q2 q3 q4 q5 q6 q7 0 0, cA Z q2 0 8 F8, cA Z q3 0 8 F9, cA Z q4 0 8 F10, cA Z q5 0 8 F11, cA Z q6 0 8 F12, cA Z q7 2 8 F13, cA Z q15 2 8 F16, cA Z q17 0 8 F18, cA Z q19 0 8 F20, cA Z q21 0 8 F22, cA Z q23 0 8 F24, cA Z q25 0 8 F26]) rfl rfl rfl rfl ?_
  refine g_putF (pc := 60) X hnm inlX6 tyX6_ok nmX6 0 rfl rfl 7 (by decide) mw_6_17 rfl rfl rfl rfl (Nat.le_of_ble_eq_true rfl) (ws' := [(r0, .inr (6, [.ref q1, .int (iI 0), .ref q15, .ref q17, .ref q19, .ref q21, .ref q23, .ref q25, .int (iI 0), .null, .null, .null])), cO_rrrrrrii q1 10 q2 q3 q4 q5 q6 q7 0 0, cA Z q2 0 8 F8, cA Z q3 0 8 F9, cA Z q4 0 8 F10, cA Z q5 0 8 F11, cA Z q6 0 8 F12, cA Z q7 2 8 F13, cA Z q15 2 8 F16, cA Z q17 0 8 F18, cA Z q19 0 8 F20, cA Z q21 0 8 F22, cA Z q23 0 8 F24, cA Z q25 0 8 F26]) rfl dX6_init_60 ?_
  refine g_aload_n (pc := 63) X 0 rfl dX6_init_63 ?_
  refine g_iconst (pc := 64) X (iI 4) (by rfl) dX6_init_64 ?_
  refine g_newiI (pc := 65) X 4 mw_3_11 (by decide) (by decide) (by decide) (by decide) (by decide) dX6_init_65 (fun q27 F28 eF28 => ?_)
  have hF28 : ∀ j, j < 4 → 0 ≤ F28 j ∧ F28 j ≤ 0 := bndZ eF28
  refine g_as (pc' := 67) (lv' := [(0, .ref r0)]) (st' := [.ref q27, .ref r0]) (ws' := [(r0, .inr (6, [.ref q1, .int (iI 0), .ref q15, .ref q17, .ref q19, .ref q21, .ref q23, .ref q25, .int (iI 0), .null, .null, .null])), cO_rrrrrrii q1 10 q2 q3 q4 q5 q6 q7 0 0, cA Z q2 0 8 F8, cA Z q3 0 8 F9, cA Z q4 0 8 F10, cA Z q5 0 8 F11, cA Z q6 0 8 F12, cA Z q7 2 8 F13, cA Z q15 2 8 F16, cA Z q17 0 8 F18, cA Z q19 0 8 F20, cA Z q21 0 8 F22, cA Z q23 0 8 F24, cA Z q25 0 8 F26, cA Z q27 0 4 F28]) rfl rfl rfl rfl ?_
  refine g_putF (pc := 67) X hnm inlX6 tyX6_ok nmX6 0 rfl rfl 9 (by decide) mw_6_18 rfl rfl rfl rfl (Nat.le_of_ble_eq_true rfl) (ws' := [(r0, .inr (6, [.ref q1, .int (iI 0), .ref q15, .ref q17, .ref q19, .ref q21, .ref q23, .ref q25, .int (iI 0), .ref q27, .null, .null])), cO_rrrrrrii q1 10 q2 q3 q4 q5 q6 q7 0 0, cA Z q2 0 8 F8, cA Z q3 0 8 F9, cA Z q4 0 8 F10, cA Z q5 0 8 F11, cA Z q6 0 8 F12, cA Z q7 2 8 F13, cA Z q15 2 8 F16, cA Z q17 0 8 F18, cA Z q19 0 8 F20, cA Z q21 0 8 F22, cA Z q23 0 8 F24, cA Z q25 0 8 F26, cA Z q27 0 4 F28]) rfl dX6_init_67 ?_
  refine g_aload_n (pc := 70) X 0 rfl dX6_init_70 ?_
  refine g_iconst (pc := 71) X (iI 4) (by rfl) dX6_init_71 ?_
  refine g_newiI (pc := 72) X 4 mw_3_11 (by decide) (by decide) (by decide) (by decide) (by decide) dX6_init_72 (fun q29 F30 eF30 => ?_)
  have hF30 : ∀ j, j < 4 → 0 ≤ F30 j ∧ F30 j ≤ 0 := bndZ eF30
  refine g_as (pc' := 74) (lv' := [(0, .ref r0)]) (st' := [.ref q29, .ref r0]) (ws' := [(r0, .inr (6, [.ref q1, .int (iI 0), .ref q15, .ref q17, .ref q19, .ref q21, .ref q23, .ref q25, .int (iI 0), .ref q27, .null, .null])), cO_rrrrrrii q1 10 q2 q3 q4 q5 q6 q7 0 0, cA Z q2 0 8 F8, cA Z q3 0 8 F9, cA Z q4 0 8 F10, cA Z q5 0 8 F11, cA Z q6 0 8 F12, cA Z q7 2 8 F13, cA Z q15 2 8 F16, cA Z q17 0 8 F18, cA Z q19 0 8 F20, cA Z q21 0 8 F22, cA Z q23 0 8 F24, cA Z q25 0 8 F26, cA Z q27 0 4 F28, cA Z q29 0 4 F30]) rfl rfl rfl rfl ?_
  refine g_putF (pc := 74) X hnm inlX6 tyX6_ok nmX6 0 rfl rfl 10 (by decide) mw_6_19 rfl rfl rfl rfl (Nat.le_of_ble_eq_true rfl) (ws' := [(r0, .inr (6, [.ref q1, .int (iI 0), .ref q15, .ref q17, .ref q19, .ref q21, .ref q23, .ref q25, .int (iI 0), .ref q27, .ref q29, .null])), cO_rrrrrrii q1 10 q2 q3 q4 q5 q6 q7 0 0, cA Z q2 0 8 F8, cA Z q3 0 8 F9, cA Z q4 0 8 F10, cA Z q5 0 8 F11, cA Z q6 0 8 F12, cA Z q7 2 8 F13, cA Z q15 2 8 F16, cA Z q17 0 8 F18, cA Z q19 0 8 F20, cA Z q21 0 8 F22, cA Z q23 0 8 F24, cA Z q25 0 8 F26, cA Z q27 0 4 F28, cA Z q29 0 4 F30]) rfl dX6_init_74 ?_
  refine g_aload_n (pc := 77) X 0 rfl dX6_init_77 ?_
  refine g_iconst (pc := 78) X (iI 4) (by rfl) dX6_init_78 ?_
  refine g_newiI (pc := 79) X 4 mw_3_11 (by decide) (by decide) (by decide) (by decide) (by decide) dX6_init_79 (fun q31 F32 eF32 => ?_)
  have hF32 : ∀ j, j < 4 → 0 ≤ F32 j ∧ F32 j ≤ 0 := bndZ eF32
  refine g_as (pc' := 81) (lv' := [(0, .ref r0)]) (st' := [.ref q31, .ref r0]) (ws' := [(r0, .inr (6, [.ref q1, .int (iI 0), .ref q15, .ref q17, .ref q19, .ref q21, .ref q23, .ref q25, .int (iI 0), .ref q27, .ref q29, .null])), cO_rrrrrrii q1 10 q2 q3 q4 q5 q6 q7 0 0, cA Z q2 0 8 F8, cA Z q3 0 8 F9, cA Z q4 0 8 F10, cA Z q5 0 8 F11, cA Z q6 0 8 F12, cA Z q7 2 8 F13, cA Z q15 2 8 F16, cA Z q17 0 8 F18, cA Z q19 0 8 F20, cA Z q21 0 8 F22, cA Z q23 0 8 F24, cA Z q25 0 8 F26, cA Z q27 0 4 F28, cA Z q29 0 4 F30, cA Z q31 0 4 F32]) rfl rfl rfl rfl ?_
  refine g_putF (pc := 81) X hnm inlX6 tyX6_ok nmX6 0 rfl rfl 11 (by decide) mw_6_20 rfl rfl rfl rfl (Nat.le_of_ble_eq_true rfl) (ws' := [cO_rirrrrrrirrr r0 6 q1 0 q15 q17 q19 q21 q23 q25 0 q27 q29 q31, cO_rrrrrrii q1 10 q2 q3 q4 q5 q6 q7 0 0, cA Z q2 0 8 F8, cA Z q3 0 8 F9, cA Z q4 0 8 F10, cA Z q5 0 8 F11, cA Z q6 0 8 F12, cA Z q7 2 8 F13, cA Z q15 2 8 F16, cA Z q17 0 8 F18, cA Z q19 0 8 F20, cA Z q21 0 8 F22, cA Z q23 0 8 F24, cA Z q25 0 8 F26, cA Z q27 0 4 F28, cA Z q29 0 4 F30, cA Z q31 0 4 F32]) rfl dX6_init_81 ?_
  refine g_ws (ws' := [cO_rirrrrrrirrr r0 6 q1 0 q15 q17 q19 q21 q23 q25 0 q27 q29 q31, cA Z q15 2 8 F16, cA Z q17 0 8 F18, cA Z q19 0 8 F20, cA Z q21 0 8 F22, cA Z q23 0 8 F24, cA Z q25 0 8 F26, cA Z q27 0 4 F28, cA Z q29 0 4 F30, cA Z q31 0 4 F32, cO_rrrrrrii q1 10 q2 q3 q4 q5 q6 q7 0 0, cA Z q2 0 8 F8, cA Z q3 0 8 F9, cA Z q4 0 8 F10, cA Z q5 0 8 F11, cA Z q6 0 8 F12, cA Z q7 2 8 F13]) [0, 8, 9, 10, 11, 12, 13, 14, 15, 16, 1, 2, 3, 4, 5, 6, 7] (by decide) rfl ?_
  exact g_vret (pc := 84) X hA (⟨q15, q17, q19, q21, q23, q25, q27, q29, q31, q1, q2, q3, q4, q5, q6, q7, F16, F18, F20, F22, F24, F26, F28, F30, F32, F8, F9, F10, F11, F12, F13, rfl, rfl, (bndW hF16 (by decide) (by decide)), (bndW hF18 (by decide) (by decide)), (bndW hF20 (by decide) (by decide)), (bndW hF22 (by decide) (by decide)), (bndW hF24 (by decide) (by decide)), (bndW hF26 (by decide) (by decide)), (bndW hF28 (by decide) (by decide)), (bndW hF30 (by decide) (by decide)), (bndW hF32 (by decide) (by decide)), (hf9_h_Wb), (hf9_h_Wl), (hf9_h_Wh), (hf9_h_Wk), (hf9_h_Wm), (hf9_h_Wz)⟩) (by decide) (by decide) dX6_init_84

set_option maxHeartbeats 4000000 in
set_option maxRecDepth 100000 in
theorem k_X8_init (l : Launch) (Z : gZ) (s0 : Nat) : Con l Z yX8_init cX8_init 2 none 1 20 7 54 [.ref s0] [(s0, .inr (8, [.null, .null, .null, .null, .int (iI 0), .null, .null, .null]))] (fun r w' => ∃ (s_papers : Nat) (s_starts : Nat) (s_bases : Nat) (s_hungs : Nat) (s_endPapers : Nat) (s_endLengths : Nat) (s_endPhases : Nat) (Sp : Nat → Int) (Ss : Nat → Int) (Sb : Nat → Int) (Sh : Nat → Int) (Sep : Nat → Int) (Sel : Nat → Int) (Sef : Nat → Int), (r = none) ∧ (w' = [cO_rrrrirrr s0 8 s_papers s_starts s_bases s_hungs 0 s_endPapers s_endLengths s_endPhases, cA Z s_papers 0 6 Sp, cA Z s_starts 0 6 Ss, cA Z s_bases 0 6 Sb, cA Z s_hungs 0 6 Sh, cA Z s_endPapers 0 10 Sep, cA Z s_endLengths 0 10 Sel, cA Z s_endPhases 0 10 Sef]) ∧ (∀ j, j < 6 → (-1) ≤ Sp j ∧ Sp j ≤ 3) ∧ (∀ j, j < 6 → 0 ≤ Ss j ∧ Ss j ≤ 4799) ∧ (∀ j, j < 6 → 0 ≤ Sb j ∧ Sb j ≤ 119) ∧ (∀ j, j < 6 → 0 ≤ Sh j ∧ Sh j ≤ 240) ∧ (∀ j, j < 10 → 0 ≤ Sep j ∧ Sep j ≤ 3) ∧ (∀ j, j < 10 → 0 ≤ Sel j ∧ Sel j ≤ 2000) ∧ (∀ j, j < 10 → 0 ≤ Sef j ∧ Sef j ≤ 119) ∧ (∀ j : Nat, j < 6 → Sp j = -1)) := by
  refine enter (by decide) (Nat.le_of_ble_eq_true rfl) ?_
  intro p e s m args below meth c A X hnm hA
  have X : Cx p s m args meth c cX8_init 2 none RX8 Z A := X
  refine g_as (pc' := 0) (lv' := [(0, .ref s0)]) (st' := []) (ws' := [(s0, .inr (8, [.null, .null, .null, .null, .int (iI 0), .null, .null, .null]))]) rfl rfl rfl rfl ?_
  refine g_aload_n (pc := 0) X 0 rfl dX8_init_0 ?_
  refine g_objInit (pc := 1) X mw_4_0 mw_1_10 mw_1_11 (by decide) (Nat.le_of_ble_eq_true rfl) dX8_init_1 ?_
  refine g_aload_n (pc := 4) X 0 rfl dX8_init_4 ?_
  refine g_bipush (pc := 5) X (iI 6) (by decide) dX8_init_5 ?_
  refine g_newiI (pc := 7) X 6 mw_3_11 (by decide) (by decide) (by decide) (by decide) (by decide) dX8_init_7 (fun q1 F2 eF2 => ?_)
  have hF2 : ∀ j, j < 6 → 0 ≤ F2 j ∧ F2 j ≤ 0 := bndZ eF2
  refine g_as (pc' := 9) (lv' := [(0, .ref s0)]) (st' := [.ref q1, .ref s0]) (ws' := [(s0, .inr (8, [.null, .null, .null, .null, .int (iI 0), .null, .null, .null])), cA Z q1 0 6 F2]) rfl rfl rfl rfl ?_
  refine g_putF (pc := 9) X hnm inlX8 tyX8_ok nmX8 0 rfl rfl 0 (by decide) mw_4_1 rfl rfl rfl rfl (Nat.le_of_ble_eq_true rfl) (ws' := [(s0, .inr (8, [.ref q1, .null, .null, .null, .int (iI 0), .null, .null, .null])), cA Z q1 0 6 F2]) rfl dX8_init_9 ?_
  refine g_aload_n (pc := 12) X 0 rfl dX8_init_12 ?_
  refine g_bipush (pc := 13) X (iI 6) (by decide) dX8_init_13 ?_
  refine g_newiI (pc := 15) X 6 mw_3_11 (by decide) (by decide) (by decide) (by decide) (by decide) dX8_init_15 (fun q3 F4 eF4 => ?_)
  have hF4 : ∀ j, j < 6 → 0 ≤ F4 j ∧ F4 j ≤ 0 := bndZ eF4
  refine g_as (pc' := 17) (lv' := [(0, .ref s0)]) (st' := [.ref q3, .ref s0]) (ws' := [(s0, .inr (8, [.ref q1, .null, .null, .null, .int (iI 0), .null, .null, .null])), cA Z q1 0 6 F2, cA Z q3 0 6 F4]) rfl rfl rfl rfl ?_
  refine g_putF (pc := 17) X hnm inlX8 tyX8_ok nmX8 0 rfl rfl 1 (by decide) mw_4_2 rfl rfl rfl rfl (Nat.le_of_ble_eq_true rfl) (ws' := [(s0, .inr (8, [.ref q1, .ref q3, .null, .null, .int (iI 0), .null, .null, .null])), cA Z q1 0 6 F2, cA Z q3 0 6 F4]) rfl dX8_init_17 ?_
  refine g_aload_n (pc := 20) X 0 rfl dX8_init_20 ?_
  refine g_bipush (pc := 21) X (iI 6) (by decide) dX8_init_21 ?_
  refine g_newiI (pc := 23) X 6 mw_3_11 (by decide) (by decide) (by decide) (by decide) (by decide) dX8_init_23 (fun q5 F6 eF6 => ?_)
  have hF6 : ∀ j, j < 6 → 0 ≤ F6 j ∧ F6 j ≤ 0 := bndZ eF6
  refine g_as (pc' := 25) (lv' := [(0, .ref s0)]) (st' := [.ref q5, .ref s0]) (ws' := [(s0, .inr (8, [.ref q1, .ref q3, .null, .null, .int (iI 0), .null, .null, .null])), cA Z q1 0 6 F2, cA Z q3 0 6 F4, cA Z q5 0 6 F6]) rfl rfl rfl rfl ?_
  refine g_putF (pc := 25) X hnm inlX8 tyX8_ok nmX8 0 rfl rfl 2 (by decide) mw_4_3 rfl rfl rfl rfl (Nat.le_of_ble_eq_true rfl) (ws' := [(s0, .inr (8, [.ref q1, .ref q3, .ref q5, .null, .int (iI 0), .null, .null, .null])), cA Z q1 0 6 F2, cA Z q3 0 6 F4, cA Z q5 0 6 F6]) rfl dX8_init_25 ?_
  refine g_aload_n (pc := 28) X 0 rfl dX8_init_28 ?_
  refine g_bipush (pc := 29) X (iI 6) (by decide) dX8_init_29 ?_
  refine g_newiI (pc := 31) X 6 mw_3_11 (by decide) (by decide) (by decide) (by decide) (by decide) dX8_init_31 (fun q7 F8 eF8 => ?_)
  have hF8 : ∀ j, j < 6 → 0 ≤ F8 j ∧ F8 j ≤ 0 := bndZ eF8
  refine g_as (pc' := 33) (lv' := [(0, .ref s0)]) (st' := [.ref q7, .ref s0]) (ws' := [(s0, .inr (8, [.ref q1, .ref q3, .ref q5, .null, .int (iI 0), .null, .null, .null])), cA Z q1 0 6 F2, cA Z q3 0 6 F4, cA Z q5 0 6 F6, cA Z q7 0 6 F8]) rfl rfl rfl rfl ?_
  refine g_putF (pc := 33) X hnm inlX8 tyX8_ok nmX8 0 rfl rfl 3 (by decide) mw_4_4 rfl rfl rfl rfl (Nat.le_of_ble_eq_true rfl) (ws' := [(s0, .inr (8, [.ref q1, .ref q3, .ref q5, .ref q7, .int (iI 0), .null, .null, .null])), cA Z q1 0 6 F2, cA Z q3 0 6 F4, cA Z q5 0 6 F6, cA Z q7 0 6 F8]) rfl dX8_init_33 ?_
  refine g_aload_n (pc := 36) X 0 rfl dX8_init_36 ?_
  refine g_bipush (pc := 37) X (iI 10) (by decide) dX8_init_37 ?_
  refine g_newiI (pc := 39) X 10 mw_3_11 (by decide) (by decide) (by decide) (by decide) (by decide) dX8_init_39 (fun q9 F10 eF10 => ?_)
  have hF10 : ∀ j, j < 10 → 0 ≤ F10 j ∧ F10 j ≤ 0 := bndZ eF10
  refine g_as (pc' := 41) (lv' := [(0, .ref s0)]) (st' := [.ref q9, .ref s0]) (ws' := [(s0, .inr (8, [.ref q1, .ref q3, .ref q5, .ref q7, .int (iI 0), .null, .null, .null])), cA Z q1 0 6 F2, cA Z q3 0 6 F4, cA Z q5 0 6 F6, cA Z q7 0 6 F8, cA Z q9 0 10 F10]) rfl rfl rfl rfl ?_
  refine g_putF (pc := 41) X hnm inlX8 tyX8_ok nmX8 0 rfl rfl 5 (by decide) mw_4_5 rfl rfl rfl rfl (Nat.le_of_ble_eq_true rfl) (ws' := [(s0, .inr (8, [.ref q1, .ref q3, .ref q5, .ref q7, .int (iI 0), .ref q9, .null, .null])), cA Z q1 0 6 F2, cA Z q3 0 6 F4, cA Z q5 0 6 F6, cA Z q7 0 6 F8, cA Z q9 0 10 F10]) rfl dX8_init_41 ?_
  refine g_aload_n (pc := 44) X 0 rfl dX8_init_44 ?_
  refine g_bipush (pc := 45) X (iI 10) (by decide) dX8_init_45 ?_
  refine g_newiI (pc := 47) X 10 mw_3_11 (by decide) (by decide) (by decide) (by decide) (by decide) dX8_init_47 (fun q11 F12 eF12 => ?_)
  have hF12 : ∀ j, j < 10 → 0 ≤ F12 j ∧ F12 j ≤ 0 := bndZ eF12
  refine g_as (pc' := 49) (lv' := [(0, .ref s0)]) (st' := [.ref q11, .ref s0]) (ws' := [(s0, .inr (8, [.ref q1, .ref q3, .ref q5, .ref q7, .int (iI 0), .ref q9, .null, .null])), cA Z q1 0 6 F2, cA Z q3 0 6 F4, cA Z q5 0 6 F6, cA Z q7 0 6 F8, cA Z q9 0 10 F10, cA Z q11 0 10 F12]) rfl rfl rfl rfl ?_
  refine g_putF (pc := 49) X hnm inlX8 tyX8_ok nmX8 0 rfl rfl 6 (by decide) mw_4_6 rfl rfl rfl rfl (Nat.le_of_ble_eq_true rfl) (ws' := [(s0, .inr (8, [.ref q1, .ref q3, .ref q5, .ref q7, .int (iI 0), .ref q9, .ref q11, .null])), cA Z q1 0 6 F2, cA Z q3 0 6 F4, cA Z q5 0 6 F6, cA Z q7 0 6 F8, cA Z q9 0 10 F10, cA Z q11 0 10 F12]) rfl dX8_init_49 ?_
  refine g_aload_n (pc := 52) X 0 rfl dX8_init_52 ?_
  refine g_bipush (pc := 53) X (iI 10) (by decide) dX8_init_53 ?_
  refine g_newiI (pc := 55) X 10 mw_3_11 (by decide) (by decide) (by decide) (by decide) (by decide) dX8_init_55 (fun q13 F14 eF14 => ?_)
  have hF14 : ∀ j, j < 10 → 0 ≤ F14 j ∧ F14 j ≤ 0 := bndZ eF14
  refine g_as (pc' := 57) (lv' := [(0, .ref s0)]) (st' := [.ref q13, .ref s0]) (ws' := [(s0, .inr (8, [.ref q1, .ref q3, .ref q5, .ref q7, .int (iI 0), .ref q9, .ref q11, .null])), cA Z q1 0 6 F2, cA Z q3 0 6 F4, cA Z q5 0 6 F6, cA Z q7 0 6 F8, cA Z q9 0 10 F10, cA Z q11 0 10 F12, cA Z q13 0 10 F14]) rfl rfl rfl rfl ?_
  refine g_putF (pc := 57) X hnm inlX8 tyX8_ok nmX8 0 rfl rfl 7 (by decide) mw_4_7 rfl rfl rfl rfl (Nat.le_of_ble_eq_true rfl) (ws' := [cO_rrrrirrr s0 8 q1 q3 q5 q7 0 q9 q11 q13, cA Z q1 0 6 F2, cA Z q3 0 6 F4, cA Z q5 0 6 F6, cA Z q7 0 6 F8, cA Z q9 0 10 F10, cA Z q11 0 10 F12, cA Z q13 0 10 F14]) rfl dX8_init_57 ?_
  refine g_iconst (pc := 60) X (iI 0) (by rfl) dX8_init_60 ?_
  refine g_istore_n (pc := 61) X (i := 1) rfl (by decide) (lv' := [(1, .int (iI 0)), (0, .ref s0)]) rfl dX8_init_61 ?_
  have loop62 : ∀ (fuel : Nat) (i : Int) (Sp1 : Nat → Int), (0 ≤ i ∧ i ≤ 6) → (∀ j, j < 6 → (-1) ≤ Sp1 j ∧ Sp1 j ≤ 3) → (∀ j : Nat, (j : Int) < i → Sp1 j = -1) → (7 - i).toNat < fuel → Gs p l e ({ frames := 1, cells := 7, slots := 54, locals := 20 } : Room) s m args below meth c (MQ below (gPost Z [(s0, .inr (8, [.null, .null, .null, .null, .int (iI 0), .null, .null, .null]))] s.heap.size (fun r w' => ∃ (s_papers : Nat) (s_starts : Nat) (s_bases : Nat) (s_hungs : Nat) (s_endPapers : Nat) (s_endLengths : Nat) (s_endPhases : Nat) (Sp : Nat → Int) (Ss : Nat → Int) (Sb : Nat → Int) (Sh : Nat → Int) (Sep : Nat → Int) (Sel : Nat → Int) (Sef : Nat → Int), (r = none) ∧ (w' = [cO_rrrrirrr s0 8 s_papers s_starts s_bases s_hungs 0 s_endPapers s_endLengths s_endPhases, cA Z s_papers 0 6 Sp, cA Z s_starts 0 6 Ss, cA Z s_bases 0 6 Sb, cA Z s_hungs 0 6 Sh, cA Z s_endPapers 0 10 Sep, cA Z s_endLengths 0 10 Sel, cA Z s_endPhases 0 10 Sef]) ∧ (∀ j, j < 6 → (-1) ≤ Sp j ∧ Sp j ≤ 3) ∧ (∀ j, j < 6 → 0 ≤ Ss j ∧ Ss j ≤ 4799) ∧ (∀ j, j < 6 → 0 ≤ Sb j ∧ Sb j ≤ 119) ∧ (∀ j, j < 6 → 0 ≤ Sh j ∧ Sh j ≤ 240) ∧ (∀ j, j < 10 → 0 ≤ Sep j ∧ Sep j ≤ 3) ∧ (∀ j, j < 10 → 0 ≤ Sel j ∧ Sel j ≤ 2000) ∧ (∀ j, j < 10 → 0 ≤ Sef j ∧ Sef j ≤ 119) ∧ (∀ j : Nat, j < 6 → Sp j = -1))) args s 7 54 (va_A [(s0, .inr (8, [.null, .null, .null, .null, .int (iI 0), .null, .null, .null]))] s.heap.size)) Z A 2 7 54 62 [(1, .int (iI i)), (0, .ref s0)] [] [cO_rrrrirrr s0 8 q1 q3 q5 q7 0 q9 q11 q13, cA Z q1 0 6 Sp1, cA Z q3 0 6 F4, cA Z q5 0 6 F6, cA Z q7 0 6 F8, cA Z q9 0 10 F10, cA Z q11 0 10 F12, cA Z q13 0 10 F14] := by
    intro fuel
    induction fuel with
    | zero => intro i Sp1 _ _ _ hm; exact absurd hm (Nat.not_lt_zero _)
    | succ fuel ih =>
      intro i Sp1 b_i h_Sp1 iv hm
      refine g_iload_n (pc := 62) X 0 rfl dX8_init_62 ?_
      refine g_bipush (pc := 63) X (iI 6) (by decide) dX8_init_63 ?_
      refine g_icmp_geI (pc := 65) X 81 (by decide) (inRb b_i (by decide) (by decide)) ⟨by decide, by decide⟩ dX8_init_65 (fun c65 => ?_) (fun c65 => ?_)
      · exact g_vret (pc := 81) X hA (⟨q1, q3, q5, q7, q9, q11, q13, Sp1, F4, F6, F8, F10, F12, F14, rfl, rfl, (h_Sp1), (bndW hF4 (by decide) (by decide)), (bndW hF6 (by decide) (by decide)), (bndW hF8 (by decide) (by decide)), (bndW hF10 (by decide) (by decide)), (bndW hF12 (by decide) (by decide)), (bndW hF14 (by decide) (by decide)), (fun j hj => iv j (by omega))⟩) (by decide) (by decide) dX8_init_81
      · refine g_aload_n (pc := 68) X 1 rfl dX8_init_68 ?_
        refine g_get (pc := 69) X inlX8 0 rfl rfl 0 (by decide) mw_4_1 rfl dX8_init_69 ?_
        refine g_iload_n (pc := 72) X 0 rfl dX8_init_72 ?_
        refine g_iconst (pc := 73) X (iI (-1)) (by rfl) dX8_init_73 ?_
        refine g_iastG (pc := 74) X 1 rfl (b_i.1) (by omega) (Int.le_trans b_i.2 (by decide)) (ws' := fun F15 => [cO_rrrrirrr s0 8 q1 q3 q5 q7 0 q9 q11 q13, cA Z q1 0 6 F15, cA Z q3 0 6 F4, cA Z q5 0 6 F6, cA Z q7 0 6 F8, cA Z q9 0 10 F10, cA Z q11 0 10 F12, cA Z q13 0 10 F14]) (fun _ => rfl) dX8_init_74 (fun F15 eF15 => ?_)
        have hF15 : ∀ j, j < 6 → (-1) ≤ F15 j ∧ F15 j ≤ 3 := by rw [eF15]; exact updI_B h_Sp1 (by omega)
        refine g_iincI (pc := 75) X 0 rfl (by decide) (lv' := [(1, .int (iI (i + 1))), (0, .ref s0)]) rfl dX8_init_75 ?_
        refine g_goto (pc := 78) X 62 (by decide) dX8_init_78 ?_
        exact ih (i + 1) F15 (by omega) (hF15) (fun j h => upd_all iv eF15 (by omega) h) (by omega)
  exact loop62 _ 0 F2 (by omega) (bndW hF2 (by decide) (by decide)) (fun j h => absurd h (by omega)) (Nat.lt_succ_self _)

set_option maxHeartbeats 4000000 in
set_option maxRecDepth 100000 in
theorem k_X3_canBe (l : Launch) (Z : gZ) (wd : Int) (rp : Int) (dr : Int) (rl : Int) (fg : Int) (b_wd : (-2147483648) ≤ wd ∧ wd ≤ 2147483647) (b_rp : (-2147483648) ≤ rp ∧ rp ≤ 2147483647) (b_dr : (-2147483648) ≤ dr ∧ dr ≤ 2147483647) (b_rl : (-2147483648) ≤ rl ∧ rl ≤ 2147483647) (b_fg : (-2147483648) ≤ fg ∧ fg ≤ 2147483647) : Con l Z yX3_canBe cX3_canBe 5 (some .boolean) 1 22 0 0 [.int (iI wd), .int (iI rp), .int (iI dr), .int (iI rl), .int (iI fg)] [] (fun r w' => ((r = some (.int (iI 0))) ∧ (w' = []) ∧ (¬ ((20 ≤ wd ∧ wd ≤ 120) ∧ (10 ≤ rp ∧ rp ≤ 120) ∧ (0 ≤ dr ∧ dr ≤ 2) ∧ (300 ≤ rl ∧ rl ≤ 2000) ∧ (0 ≤ Int.tdiv fg 1000 ∧ Int.tdiv fg 1000 ≤ rp - 1) ∧ (1 ≤ Int.tmod fg 1000 ∧ Int.tmod fg 1000 ≤ rp)))) ∨ ((r = some (.int (iI 1))) ∧ (w' = []) ∧ (20 ≤ wd ∧ wd ≤ 120) ∧ (10 ≤ rp ∧ rp ≤ 120) ∧ (0 ≤ dr ∧ dr ≤ 2) ∧ (300 ≤ rl ∧ rl ≤ 2000) ∧ (0 ≤ Int.tdiv fg 1000 ∧ Int.tdiv fg 1000 ≤ rp - 1) ∧ (1 ≤ Int.tmod fg 1000 ∧ Int.tmod fg 1000 ≤ rp))) := by
  refine enter (by decide) (Nat.le_of_ble_eq_true rfl) ?_
  intro p e s m args below meth c A X hnm hA
  have X : Cx p s m args meth c cX3_canBe 5 (some .boolean) RX3 Z A := X
  refine g_as (pc' := 0) (lv' := [(0, .int (iI wd)), (1, .int (iI rp)), (2, .int (iI dr)), (3, .int (iI rl)), (4, .int (iI fg))]) (st' := []) (ws' := []) rfl rfl rfl rfl ?_
  refine g_bipush (pc := 0) X (iI 20) (by decide) dX3_canBe_0 ?_
  refine g_iload_n (pc := 2) X 0 rfl dX3_canBe_2 ?_
  refine g_bipush (pc := 3) X (iI 120) (by decide) dX3_canBe_3 ?_
  refine g_callSN (pc := 5) X (k_X11_isFrom l Z 20 wd 120 (by decide) b_wd (by decide)) iM_X11_isFrom (by decide) mw_11_7 [] [] rfl (wr := []) rfl (by decide) rfl rfl (Nat.le_of_ble_eq_true rfl) (by decide) dX3_canBe_5 (fun r w' hpo => ?_)
  obtain ⟨rfl, rfl⟩ := hpo
  refine g_as (pc' := 8) (lv' := [(0, .int (iI wd)), (1, .int (iI rp)), (2, .int (iI dr)), (3, .int (iI rl)), (4, .int (iI fg))]) (st' := [.int (iI (bI (20 ≤ wd ∧ wd ≤ 120)))]) (ws' := []) rfl rfl rfl rfl ?_
  refine g_if_eqB (pc := 8) X 78 (by decide) dX3_canBe_8 (fun c8 => ?_) (fun c8 => ?_)
  · refine g_iconst (pc := 78) X (iI 0) (by rfl) dX3_canBe_78 ?_
    exact g_zret (pc := 79) X hA (rfl) (Or.inl (⟨rfl, rfl, (by omega)⟩)) (by decide) (by decide) dX3_canBe_79
  · refine g_bipush (pc := 11) X (iI 10) (by decide) dX3_canBe_11 ?_
    refine g_iload_n (pc := 13) X 1 rfl dX3_canBe_13 ?_
    refine g_bipush (pc := 14) X (iI 120) (by decide) dX3_canBe_14 ?_
    refine g_callSN (pc := 16) X (k_X11_isFrom l Z 10 rp 120 (by decide) b_rp (by decide)) iM_X11_isFrom (by decide) mw_11_7 [] [] rfl (wr := []) rfl (by decide) rfl rfl (Nat.le_of_ble_eq_true rfl) (by decide) dX3_canBe_16 (fun r w' hpo => ?_)
    obtain ⟨rfl, rfl⟩ := hpo
    refine g_as (pc' := 19) (lv' := [(0, .int (iI wd)), (1, .int (iI rp)), (2, .int (iI dr)), (3, .int (iI rl)), (4, .int (iI fg))]) (st' := [.int (iI (bI (10 ≤ rp ∧ rp ≤ 120)))]) (ws' := []) rfl rfl rfl rfl ?_
    refine g_if_eqB (pc := 19) X 78 (by decide) dX3_canBe_19 (fun c19 => ?_) (fun c19 => ?_)
    · refine g_iconst (pc := 78) X (iI 0) (by rfl) dX3_canBe_78 ?_
      exact g_zret (pc := 79) X hA (rfl) (Or.inl (⟨rfl, rfl, (by omega)⟩)) (by decide) (by decide) dX3_canBe_79
    · refine g_iconst (pc := 22) X (iI 0) (by rfl) dX3_canBe_22 ?_
      refine g_iload_n (pc := 23) X 2 rfl dX3_canBe_23 ?_
      refine g_iconst (pc := 24) X (iI 2) (by rfl) dX3_canBe_24 ?_
      refine g_callSN (pc := 25) X (k_X11_isFrom l Z 0 dr 2 (by decide) b_dr (by decide)) iM_X11_isFrom (by decide) mw_11_7 [] [] rfl (wr := []) rfl (by decide) rfl rfl (Nat.le_of_ble_eq_true rfl) (by decide) dX3_canBe_25 (fun r w' hpo => ?_)
      obtain ⟨rfl, rfl⟩ := hpo
      refine g_as (pc' := 28) (lv' := [(0, .int (iI wd)), (1, .int (iI rp)), (2, .int (iI dr)), (3, .int (iI rl)), (4, .int (iI fg))]) (st' := [.int (iI (bI (0 ≤ dr ∧ dr ≤ 2)))]) (ws' := []) rfl rfl rfl rfl ?_
      refine g_if_eqB (pc := 28) X 78 (by decide) dX3_canBe_28 (fun c28 => ?_) (fun c28 => ?_)
      · refine g_iconst (pc := 78) X (iI 0) (by rfl) dX3_canBe_78 ?_
        exact g_zret (pc := 79) X hA (rfl) (Or.inl (⟨rfl, rfl, (by omega)⟩)) (by decide) (by decide) dX3_canBe_79
      · refine g_sipush (pc := 31) X (iI 300) (by decide) dX3_canBe_31 ?_
        refine g_iload_n (pc := 34) X 3 rfl dX3_canBe_34 ?_
        refine g_sipush (pc := 35) X (iI 2000) (by decide) dX3_canBe_35 ?_
        refine g_callSN (pc := 38) X (k_X11_isFrom l Z 300 rl 2000 (by decide) b_rl (by decide)) iM_X11_isFrom (by decide) mw_11_7 [] [] rfl (wr := []) rfl (by decide) rfl rfl (Nat.le_of_ble_eq_true rfl) (by decide) dX3_canBe_38 (fun r w' hpo => ?_)
        obtain ⟨rfl, rfl⟩ := hpo
        refine g_as (pc' := 41) (lv' := [(0, .int (iI wd)), (1, .int (iI rp)), (2, .int (iI dr)), (3, .int (iI rl)), (4, .int (iI fg))]) (st' := [.int (iI (bI (300 ≤ rl ∧ rl ≤ 2000)))]) (ws' := []) rfl rfl rfl rfl ?_
        refine g_if_eqB (pc := 41) X 78 (by decide) dX3_canBe_41 (fun c41 => ?_) (fun c41 => ?_)
        · refine g_iconst (pc := 78) X (iI 0) (by rfl) dX3_canBe_78 ?_
          exact g_zret (pc := 79) X hA (rfl) (Or.inl (⟨rfl, rfl, (by omega)⟩)) (by decide) (by decide) dX3_canBe_79
        · refine g_iconst (pc := 44) X (iI 0) (by rfl) dX3_canBe_44 ?_
          refine g_iload (pc := 45) X 4 rfl dX3_canBe_45 ?_
          refine g_sipush (pc := 47) X (iI 1000) (by decide) dX3_canBe_47 ?_
          refine g_idivI (pc := 50) X b_fg ⟨by decide, by decide⟩ (by decide) (by decide) dX3_canBe_50 ?_
          refine g_nameI (fun y5 ey5 => ?_)
          have by5 : (-2147484) ≤ y5 ∧ y5 ≤ 2147484 := by rw [ey5]; exact tdivB2 (by decide) (by omega)
          refine g_iload_n (pc := 51) X 1 rfl dX3_canBe_51 ?_
          refine g_iconst (pc := 52) X (iI 1) (by rfl) dX3_canBe_52 ?_
          refine g_isubI (pc := 53) X dX3_canBe_53 ?_
          refine g_callSN (pc := 54) X (k_X11_isFrom l Z 0 y5 (rp - 1) (by decide) (by omega) (by omega)) iM_X11_isFrom (by decide) mw_11_7 [] [] rfl (wr := []) rfl (by decide) rfl rfl (Nat.le_of_ble_eq_true rfl) (by decide) dX3_canBe_54 (fun r w' hpo => ?_)
          obtain ⟨rfl, rfl⟩ := hpo
          refine g_as (pc' := 57) (lv' := [(0, .int (iI wd)), (1, .int (iI rp)), (2, .int (iI dr)), (3, .int (iI rl)), (4, .int (iI fg))]) (st' := [.int (iI (bI (0 ≤ y5 ∧ y5 ≤ (rp - 1))))]) (ws' := []) rfl rfl rfl rfl ?_
          refine g_if_eqB (pc := 57) X 78 (by decide) dX3_canBe_57 (fun c57 => ?_) (fun c57 => ?_)
          · refine g_iconst (pc := 78) X (iI 0) (by rfl) dX3_canBe_78 ?_
            exact g_zret (pc := 79) X hA (rfl) (Or.inl (⟨rfl, rfl, (by omega)⟩)) (by decide) (by decide) dX3_canBe_79
          · refine g_iconst (pc := 60) X (iI 1) (by rfl) dX3_canBe_60 ?_
            refine g_iload (pc := 61) X 4 rfl dX3_canBe_61 ?_
            refine g_sipush (pc := 63) X (iI 1000) (by decide) dX3_canBe_63 ?_
            refine g_iremI (pc := 66) X b_fg ⟨by decide, by decide⟩ (by decide) (by decide) dX3_canBe_66 ?_
            refine g_nameI (fun y7 ey7 => ?_)
            have by7 : -1000 < y7 ∧ y7 < 1000 := by rw [ey7]; exact tmodB (by omega)
            refine g_iload_n (pc := 67) X 1 rfl dX3_canBe_67 ?_
            refine g_callSN (pc := 68) X (k_X11_isFrom l Z 1 y7 rp (by decide) (by omega) b_rp) iM_X11_isFrom (by decide) mw_11_7 [] [] rfl (wr := []) rfl (by decide) rfl rfl (Nat.le_of_ble_eq_true rfl) (by decide) dX3_canBe_68 (fun r w' hpo => ?_)
            obtain ⟨rfl, rfl⟩ := hpo
            refine g_as (pc' := 71) (lv' := [(0, .int (iI wd)), (1, .int (iI rp)), (2, .int (iI dr)), (3, .int (iI rl)), (4, .int (iI fg))]) (st' := [.int (iI (bI (1 ≤ y7 ∧ y7 ≤ rp)))]) (ws' := []) rfl rfl rfl rfl ?_
            refine g_if_eqB (pc := 71) X 78 (by decide) dX3_canBe_71 (fun c71 => ?_) (fun c71 => ?_)
            · refine g_iconst (pc := 78) X (iI 0) (by rfl) dX3_canBe_78 ?_
              exact g_zret (pc := 79) X hA (rfl) (Or.inl (⟨rfl, rfl, (by omega)⟩)) (by decide) (by decide) dX3_canBe_79
            · refine g_iconst (pc := 74) X (iI 1) (by rfl) dX3_canBe_74 ?_
              refine g_goto (pc := 75) X 79 (by decide) dX3_canBe_75 ?_
              exact g_zret (pc := 79) X hA (rfl) (Or.inr (⟨rfl, rfl, (by omega), (by omega), (by omega), (by omega), (by omega), (by omega)⟩)) (by decide) (by decide) dX3_canBe_79

set_option maxHeartbeats 4000000 in
set_option maxRecDepth 100000 in
theorem k_X3_init (l : Launch) (Z : gZ) (p0 : Nat) (wd : Int) (rp : Int) (dr : Int) (rl : Int) (fg : Int) (b_wd : (-2147483648) ≤ wd ∧ wd ≤ 2147483647) (b_rp : (-2147483648) ≤ rp ∧ rp ≤ 2147483647) (b_dr : (-2147483648) ≤ dr ∧ dr ≤ 2147483647) (b_rl : (-2147483648) ≤ rl ∧ rl ≤ 2147483647) (b_fg : (-2147483648) ≤ fg ∧ fg ≤ 2147483647) (k1 : 20 ≤ wd ∧ wd ≤ 120) (k2 : 10 ≤ rp ∧ rp ≤ 120) (k3 : 0 ≤ dr ∧ dr ≤ 2) (k4 : 300 ≤ rl ∧ rl ≤ 2000) (k5 : 0 ≤ Int.tdiv fg 1000 ∧ Int.tdiv fg 1000 ≤ rp - 1) (k6 : 1 ≤ Int.tmod fg 1000 ∧ Int.tmod fg 1000 ≤ rp) : Con l Z yX3_init cX3_init 6 none 1 20 0 0 [.ref p0, .int (iI wd), .int (iI rp), .int (iI dr), .int (iI rl), .int (iI fg)] [cO_iiiiii p0 3 0 0 0 0 0 0] (fun r w' => ∃ (pf2 : Int) (pg2 : Int), (r = none) ∧ (w' = [cO_iiiiii p0 3 wd rp dr rl pf2 pg2]) ∧ (0 ≤ pf2 ∧ pf2 ≤ 119) ∧ (1 ≤ pg2 ∧ pg2 ≤ 120)) := by
  refine enter (by decide) (Nat.le_of_ble_eq_true rfl) ?_
  intro p e s m args below meth c A X hnm hA
  have X : Cx p s m args meth c cX3_init 6 none RX3 Z A := X
  refine g_as (pc' := 0) (lv' := [(0, .ref p0), (1, .int (iI wd)), (2, .int (iI rp)), (3, .int (iI dr)), (4, .int (iI rl)), (5, .int (iI fg))]) (st' := []) (ws' := [cO_iiiiii p0 3 0 0 0 0 0 0]) rfl rfl rfl rfl ?_
  refine g_aload_n (pc := 0) X 0 rfl dX3_init_0 ?_
  refine g_objInit (pc := 1) X mw_31_9 mw_1_10 mw_1_11 (by decide) (Nat.le_of_ble_eq_true rfl) dX3_init_1 ?_
  refine g_aload_n (pc := 4) X 0 rfl dX3_init_4 ?_
  refine g_iload_n (pc := 5) X 1 rfl dX3_init_5 ?_
  refine g_putF (pc := 6) X hnm inlX3 tyX3_ok nmX3 0 rfl rfl 0 (by decide) mw_24_14 rfl rfl rfl rfl (Nat.le_of_ble_eq_true rfl) (ws' := [cO_iiiiii p0 3 wd 0 0 0 0 0]) rfl dX3_init_6 ?_
  refine g_aload_n (pc := 9) X 0 rfl dX3_init_9 ?_
  refine g_iload_n (pc := 10) X 2 rfl dX3_init_10 ?_
  refine g_putF (pc := 11) X hnm inlX3 tyX3_ok nmX3 0 rfl rfl 1 (by decide) mw_26_23 rfl rfl rfl rfl (Nat.le_of_ble_eq_true rfl) (ws' := [cO_iiiiii p0 3 wd rp 0 0 0 0]) rfl dX3_init_11 ?_
  refine g_aload_n (pc := 14) X 0 rfl dX3_init_14 ?_
  refine g_iload_n (pc := 15) X 3 rfl dX3_init_15 ?_
  refine g_putF (pc := 16) X hnm inlX3 tyX3_ok nmX3 0 rfl rfl 2 (by decide) mw_26_22 rfl rfl rfl rfl (Nat.le_of_ble_eq_true rfl) (ws' := [cO_iiiiii p0 3 wd rp dr 0 0 0]) rfl dX3_init_16 ?_
  refine g_aload_n (pc := 19) X 0 rfl dX3_init_19 ?_
  refine g_iload (pc := 20) X 4 rfl dX3_init_20 ?_
  refine g_putF (pc := 22) X hnm inlX3 tyX3_ok nmX3 0 rfl rfl 3 (by decide) mw_31_10 rfl rfl rfl rfl (Nat.le_of_ble_eq_true rfl) (ws' := [cO_iiiiii p0 3 wd rp dr rl 0 0]) rfl dX3_init_22 ?_
  refine g_aload_n (pc := 25) X 0 rfl dX3_init_25 ?_
  refine g_iload (pc := 26) X 5 rfl dX3_init_26 ?_
  refine g_sipush (pc := 28) X (iI 1000) (by decide) dX3_init_28 ?_
  refine g_idivI (pc := 31) X b_fg ⟨by decide, by decide⟩ (by decide) (by decide) dX3_init_31 ?_
  refine g_nameI (fun y1 ey1 => ?_)
  have by1 : (-2147484) ≤ y1 ∧ y1 ≤ 2147484 := by rw [ey1]; exact tdivB2 (by decide) (by omega)
  refine g_putF (pc := 32) X hnm inlX3 tyX3_ok nmX3 0 rfl rfl 4 (by decide) mw_31_11 rfl rfl rfl rfl (Nat.le_of_ble_eq_true rfl) (ws' := [cO_iiiiii p0 3 wd rp dr rl y1 0]) rfl dX3_init_32 ?_
  refine g_aload_n (pc := 35) X 0 rfl dX3_init_35 ?_
  refine g_iload (pc := 36) X 5 rfl dX3_init_36 ?_
  refine g_sipush (pc := 38) X (iI 1000) (by decide) dX3_init_38 ?_
  refine g_iremI (pc := 41) X b_fg ⟨by decide, by decide⟩ (by decide) (by decide) dX3_init_41 ?_
  refine g_nameI (fun y2 ey2 => ?_)
  have by2 : -1000 < y2 ∧ y2 < 1000 := by rw [ey2]; exact tmodB (by omega)
  refine g_putF (pc := 42) X hnm inlX3 tyX3_ok nmX3 0 rfl rfl 5 (by decide) mw_31_12 rfl rfl rfl rfl (Nat.le_of_ble_eq_true rfl) (ws' := [cO_iiiiii p0 3 wd rp dr rl y1 y2]) rfl dX3_init_42 ?_
  exact g_vret (pc := 45) X hA (⟨y1, y2, rfl, rfl, (by omega), (by omega)⟩) (by decide) (by decide) dX3_init_45

set_option maxHeartbeats 4000000 in
set_option maxRecDepth 100000 in
theorem k_X11_cutUpAny (l : Launch) (Z : gZ) (v : Int) (d : Int) (b_v : (-2147483648) ≤ v ∧ v ≤ 2147483647) (b_d : 1 ≤ d ∧ d ≤ 100000) : Con l Z yX11_cutUp cX11_cutUp 2 (some .int) 0 0 0 0 [.int (iI v), .int (iI d)] [] (fun r w' => ∃ (y : Int), (r = some (.int (iI y))) ∧ (w' = []) ∧ ((-2147483648) ≤ y ∧ y ≤ 2147483647)) := by
  refine enter (by decide) (Nat.le_of_ble_eq_true rfl) ?_
  intro p e s m args below meth c A X hnm hA
  have X : Cx p s m args meth c cX11_cutUp 2 (some .int) RX11 Z A := X
  refine g_as (pc' := 0) (lv' := [(0, .int (iI v)), (1, .int (iI d))]) (st' := []) (ws' := []) rfl rfl rfl rfl ?_
  refine g_iload_n (pc := 0) X 1 rfl dX11_cutUp_0 ?_
  refine g_if_gtI (pc := 1) X 8 (by decide) (inRb b_d (by decide) (by decide)) dX11_cutUp_1 (fun c1 => ?_) (fun c1 => ?_)
  · refine g_iload_n (pc := 8) X 0 rfl dX11_cutUp_8 ?_
    refine g_iload_n (pc := 9) X 1 rfl dX11_cutUp_9 ?_
    refine g_iaddI (pc := 10) X dX11_cutUp_10 ?_
    refine g_any (fun y1 by1 => ?_)
    refine g_iconst (pc := 11) X (iI 1) (by rfl) dX11_cutUp_11 ?_
    refine g_isubI (pc := 12) X dX11_cutUp_12 ?_
    refine g_any (fun y2 by2 => ?_)
    refine g_iload_n (pc := 13) X 1 rfl dX11_cutUp_13 ?_
    refine g_idivI (pc := 14) X by2 (inRb b_d (by decide) (by decide)) (by omega) (by omega) dX11_cutUp_14 ?_
    refine g_any (fun y3 by3 => ?_)
    exact g_iret (pc := 15) X hA (⟨y3, rfl, rfl, (by3)⟩) (by decide) (by decide) dX11_cutUp_15
  · refine g_iconst (pc := 4) X (iI 0) (by rfl) dX11_cutUp_4 ?_
    refine g_goto (pc := 5) X 15 (by decide) dX11_cutUp_5 ?_
    exact g_iret (pc := 15) X hA (⟨0, rfl, rfl, (by omega)⟩) (by decide) (by decide) dX11_cutUp_15
