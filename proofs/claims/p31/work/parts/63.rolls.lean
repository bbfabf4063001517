set_option maxHeartbeats 4000000 in
set_option maxRecDepth 100000 in
theorem k_X5_begin (l : Launch) (Z : gZ) (q0 : Nat) (p0 : Nat) (qv : Value) (q_used : Nat) (q_leastOf : Nat) (q_longs : Nat) (q_phases : Nat) (qo : Int) (qc : Int) (qp : Int) (b_qo : 0 ≤ qo ∧ qo ≤ 2880) (b_qc : (-2147483648) ≤ qc ∧ qc ≤ 2147483647) (b_qp : (-2147483648) ≤ qp ∧ qp ≤ 2147483647) : Con l Z yX5_begin cX5_begin 2 none 0 0 0 0 [.ref q0, .ref p0] [cO_viriirrr q0 5 qv qo q_used qc qp q_leastOf q_longs q_phases] (fun r w' => (r = none) ∧ (w' = [cO_ririirrr q0 5 p0 0 q_used qc qp q_leastOf q_longs q_phases])) := by
  refine enter (by decide) (Nat.le_of_ble_eq_true rfl) ?_
  intro p e s m args below meth c A X hnm hA
  have X : Cx p s m args meth c cX5_begin 2 none RX5 Z A := X
  refine g_as (pc' := 0) (lv' := [(0, .ref q0), (1, .ref p0)]) (st' := []) (ws' := [cO_viriirrr q0 5 qv qo q_used qc qp q_leastOf q_longs q_phases]) rfl rfl rfl rfl ?_
  refine g_aload_n (pc := 0) X 0 rfl dX5_begin_0 ?_
  refine g_aload_n (pc := 1) X 1 rfl dX5_begin_1 ?_
  refine g_put (pc := 2) X inlX5 tyX5_ok nmX5 0 rfl rfl 0 (by decide) mw_34_11 rfl rfl rfl (Nat.le_of_ble_eq_true rfl) (ws' := [cO_ririirrr q0 5 p0 qo q_used qc qp q_leastOf q_longs q_phases]) rfl dX5_begin_2 ?_
  refine g_aload_n (pc := 5) X 0 rfl dX5_begin_5 ?_
  refine g_iconst (pc := 6) X (iI 0) (by rfl) dX5_begin_6 ?_
  refine g_put (pc := 7) X inlX5 tyX5_ok nmX5 0 rfl rfl 1 (by decide) mw_34_12 rfl rfl rfl (Nat.le_of_ble_eq_true rfl) (ws' := [cO_ririirrr q0 5 p0 0 q_used qc qp q_leastOf q_longs q_phases]) rfl dX5_begin_7 ?_
  exact g_vret (pc := 10) X hA (⟨rfl, rfl⟩) (by decide) (by decide) dX5_begin_10

set_option maxHeartbeats 4000000 in
set_option maxRecDepth 100000 in
theorem k_X5_take (l : Launch) (Z : gZ) (q0 : Nat) (p0 : Nat) (q_used : Nat) (q_leastOf : Nat) (q_longs : Nat) (q_phases : Nat) (Qu : Nat → Int) (rl : Int) (pl : Int) (le : Int) (qo : Int) (qc : Int) (qp : Int) (b_rl : 0 ≤ rl ∧ rl ≤ 2879) (b_pl : (-2147483648) ≤ pl ∧ pl ≤ 2147483647) (b_le : (-2147483648) ≤ le ∧ le ≤ 2147483647) (b_qo : 0 ≤ qo ∧ qo ≤ 2880) (b_qc : (-2147483648) ≤ qc ∧ qc ≤ 2147483647) (b_qp : (-2147483648) ≤ qp ∧ qp ≤ 2147483647) (h_Qu : ∀ j, j < 2880 → (-2147483648) ≤ Qu j ∧ Qu j ≤ 2147483647) : Con l Z yX5_take cX5_take 4 none 0 0 0 0 [.ref q0, .int (iI rl), .int (iI pl), .int (iI le)] [cO_ririirrr q0 5 p0 qo q_used qc qp q_leastOf q_longs q_phases, cA Z q_used 0 2880 Qu] (fun r w' => ∃ (Qu2 : Nat → Int), (r = none) ∧ (w' = [cO_ririirrr q0 5 p0 qo q_used rl pl q_leastOf q_longs q_phases, cA Z q_used 0 2880 Qu2]) ∧ (∀ j, j < 2880 → (-2147483648) ≤ Qu2 j ∧ Qu2 j ≤ 2147483647)) := by
  refine enter (by decide) (Nat.le_of_ble_eq_true rfl) ?_
  intro p e s m args below meth c A X hnm hA
  have X : Cx p s m args meth c cX5_take 4 none RX5 Z A := X
  refine g_as (pc' := 0) (lv' := [(0, .ref q0), (1, .int (iI rl)), (2, .int (iI pl)), (3, .int (iI le))]) (st' := []) (ws' := [cO_ririirrr q0 5 p0 qo q_used qc qp q_leastOf q_longs q_phases, cA Z q_used 0 2880 Qu]) rfl rfl rfl rfl ?_
  refine g_aload_n (pc := 0) X 0 rfl dX5_take_0 ?_
  refine g_get (pc := 1) X inlX5 0 rfl rfl 2 (by decide) mw_5_1 rfl dX5_take_1 ?_
  refine g_iload_n (pc := 4) X 1 rfl dX5_take_4 ?_
  refine g_iload_n (pc := 5) X 2 rfl dX5_take_5 ?_
  refine g_iload_n (pc := 6) X 3 rfl dX5_take_6 ?_
  refine g_iaddI (pc := 7) X dX5_take_7 ?_
  refine g_any (fun y1 by1 => ?_)
  refine g_iastG (pc := 8) X 1 rfl (b_rl.1) (Int.lt_of_le_of_lt b_rl.2 (by decide)) (Int.le_trans b_rl.2 (by decide)) (ws' := fun F2 => [cO_ririirrr q0 5 p0 qo q_used qc qp q_leastOf q_longs q_phases, cA Z q_used 0 2880 F2]) (fun _ => rfl) dX5_take_8 (fun F2 eF2 => ?_)
  have hF2 : ∀ j, j < 2880 → (-2147483648) ≤ F2 j ∧ F2 j ≤ 2147483647 := by rw [eF2]; exact updI_B h_Qu (by (first | (clear b_rl b_pl b_le b_qo b_qc b_qp; omega) | omega))
  refine g_aload_n (pc := 9) X 0 rfl dX5_take_9 ?_
  refine g_iload_n (pc := 10) X 1 rfl dX5_take_10 ?_
  refine g_put (pc := 11) X inlX5 tyX5_ok nmX5 0 rfl rfl 3 (by decide) mw_35_8 rfl rfl rfl (Nat.le_of_ble_eq_true rfl) (ws' := [cO_ririirrr q0 5 p0 qo q_used rl qp q_leastOf q_longs q_phases, cA Z q_used 0 2880 F2]) rfl dX5_take_11 ?_
  refine g_aload_n (pc := 14) X 0 rfl dX5_take_14 ?_
  refine g_iload_n (pc := 15) X 2 rfl dX5_take_15 ?_
  refine g_put (pc := 16) X inlX5 tyX5_ok nmX5 0 rfl rfl 4 (by decide) mw_35_9 rfl rfl rfl (Nat.le_of_ble_eq_true rfl) (ws' := [cO_ririirrr q0 5 p0 qo q_used rl pl q_leastOf q_longs q_phases, cA Z q_used 0 2880 F2]) rfl dX5_take_16 ?_
  exact g_vret (pc := 19) X hA (⟨F2, rfl, rfl, (hF2)⟩) (by decide) (by decide) dX5_take_19
