set_option maxHeartbeats 4000000 in
set_option maxRecDepth 100000 in
theorem k_X12_longOf (l : Launch) (Z : gZ) (g0 : Nat) (gA : Nat → Nat) (Pa : Nat → Int) (Pt : Nat → Int) (kp : Int) (nr : Int) (tm : Int) (at_ : Int) (to_ : Int) (fa : Int) (va : Int) (np : Int) (tn : Int) (pc_ : Int) (st_ : Int) (pa_ : Int) (ta : Int) (ow : Int) (of_ : Int) (ot : Int) (rl : Int) (hb : Int) (bs : Int) (se : Int) (b_kp : 0 ≤ kp ∧ kp ≤ 499) (b_nr : 0 ≤ nr ∧ nr ≤ 6) (b_tm : 0 ≤ tm ∧ tm ≤ 400) (b_at_ : 0 ≤ at_ ∧ at_ ≤ 400) (b_to_ : 0 ≤ to_ ∧ to_ ≤ 400) (b_fa : (-1) ≤ fa ∧ fa ≤ 400) (b_va : (-2147483648) ≤ va ∧ va ≤ 2147483647) (b_np : 0 ≤ np ∧ np ≤ 4) (b_tn : 0 ≤ tn ∧ tn ≤ 20) (b_pc_ : 0 ≤ pc_ ∧ pc_ ≤ 480) (b_st_ : 0 ≤ st_ ∧ st_ ≤ 240) (b_pa_ : (-1) ≤ pa_ ∧ pa_ ≤ 3) (b_ta : (-2147483648) ≤ ta ∧ ta ≤ 2147483647) (b_ow : (-2147483648) ≤ ow ∧ ow ≤ 2147483647) (b_of_ : (-2147483648) ≤ of_ ∧ of_ ≤ 2147483647) (b_ot : (-2147483648) ≤ ot ∧ ot ≤ 2147483647) (b_rl : 0 ≤ rl ∧ rl ≤ 2880) (b_hb : 0 ≤ hb ∧ hb ≤ 4) (b_bs : (-2147483648) ≤ bs ∧ bs ≤ 2147483647) (b_se : 0 ≤ se ∧ se ≤ 10) (h_Pa : ∀ j, j < 500 → (-2147483648) ≤ Pa j ∧ Pa j ≤ 2147483647) (h_Pt : ∀ j, j < 500 → (-2147483648) ≤ Pt j ∧ Pt j ≤ 2147483647) : Con l Z yX12_longOf cX12_longOf 2 (some .int) 0 0 0 0 [.ref g0, .int (iI kp)] [(g0, .inr (12, mO gA nr tm at_ to_ fa va np tn pc_ st_ pa_ ta ow of_ ot rl hb bs se)), cA Z (gA 43) 0 500 Pa, cA Z (gA 44) 0 500 Pt] (fun r w' => ∃ (y : Int), (r = some (.int (iI y))) ∧ (w' = [(g0, .inr (12, mO gA nr tm at_ to_ fa va np tn pc_ st_ pa_ ta ow of_ ot rl hb bs se)), cA Z (gA 43) 0 500 Pa, cA Z (gA 44) 0 500 Pt]) ∧ ((-2147483648) ≤ y ∧ y ≤ 2147483647)) := by
  refine enter (by decide) (Nat.le_of_ble_eq_true rfl) ?_
  intro p e s m args below meth c A X hnm hA
  have X : Cx p s m args meth c cX12_longOf 2 (some .int) RX12 Z A := X
  refine g_as (pc' := 0) (lv' := [(0, .ref g0), (1, .int (iI kp))]) (st' := []) (ws' := [(g0, .inr (12, mO gA nr tm at_ to_ fa va np tn pc_ st_ pa_ ta ow of_ ot rl hb bs se)), cA Z (gA 43) 0 500 Pa, cA Z (gA 44) 0 500 Pt]) rfl rfl rfl rfl ?_
  refine g_aload_n (pc := 0) X 0 rfl dX12_longOf_0 ?_
  refine g_get (pc := 1) X inlX12 0 rfl rfl 44 (by decide) mw_9_3 rfl dX12_longOf_1 ?_
  refine g_iload_n (pc := 4) X 1 rfl dX12_longOf_4 ?_
  refine g_ialdI (pc := 5) X 2 rfl (b_kp.1) (Int.lt_of_le_of_lt b_kp.2 (by decide)) (Int.le_trans b_kp.2 (by decide)) dX12_longOf_5 ?_
  refine g_nameI (fun y1 ey1 => ?_)
  have by1 : (-2147483648) ≤ y1 ∧ y1 ≤ 2147483647 := by rw [ey1]; exact h_Pt _ (by (first | (clear b_kp b_nr b_tm b_at_ b_to_ b_fa b_va b_np b_tn b_pc_ b_st_ b_pa_ b_ta b_ow b_of_ b_ot b_rl b_hb b_bs b_se; omega) | omega))
  refine g_aload_n (pc := 6) X 0 rfl dX12_longOf_6 ?_
  refine g_get (pc := 7) X inlX12 0 rfl rfl 43 (by decide) mw_9_2 rfl dX12_longOf_7 ?_
  refine g_iload_n (pc := 10) X 1 rfl dX12_longOf_10 ?_
  refine g_ialdI (pc := 11) X 1 rfl (b_kp.1) (Int.lt_of_le_of_lt b_kp.2 (by decide)) (Int.le_trans b_kp.2 (by decide)) dX12_longOf_11 ?_
  refine g_nameI (fun y2 ey2 => ?_)
  have by2 : (-2147483648) ≤ y2 ∧ y2 ≤ 2147483647 := by rw [ey2]; exact h_Pa _ (by (first | (clear b_kp b_nr b_tm b_at_ b_to_ b_fa b_va b_np b_tn b_pc_ b_st_ b_pa_ b_ta b_ow b_of_ b_ot b_rl b_hb b_bs b_se; omega) | omega))
  refine g_isubI (pc := 12) X dX12_longOf_12 ?_
  refine g_any (fun y3 by3 => ?_)
  refine g_iconst (pc := 13) X (iI 2) (by rfl) dX12_longOf_13 ?_
  refine g_aload_n (pc := 14) X 0 rfl dX12_longOf_14 ?_
  refine g_get (pc := 15) X inlX12 0 rfl rfl 33 (by decide) mw_8_16 rfl dX12_longOf_15 ?_
  refine g_imulI (pc := 18) X dX12_longOf_18 ?_
  refine g_iaddI (pc := 19) X dX12_longOf_19 ?_
  refine g_any (fun y4 by4 => ?_)
  exact g_iret (pc := 20) X hA (⟨y4, rfl, rfl, (by4)⟩) (by decide) (by decide) dX12_longOf_20

set_option maxHeartbeats 4000000 in
set_option maxRecDepth 100000 in
theorem k_X12_phaseOf (l : Launch) (Z : gZ) (g0 : Nat) (gA : Nat → Nat) (Ob : Nat → Int) (Pq : Nat → Int) (Pd : Nat → Int) (Ps : Nat → Int) (Pa : Nat → Int) (rm : Int) (kp : Int) (nr : Int) (tm : Int) (at_ : Int) (to_ : Int) (fa : Int) (va : Int) (np : Int) (tn : Int) (pc_ : Int) (st_ : Int) (pa_ : Int) (ta : Int) (ow : Int) (of_ : Int) (ot : Int) (rl : Int) (hb : Int) (bs : Int) (se : Int) (b_rm : 0 ≤ rm ∧ rm ≤ 5) (b_kp : 0 ≤ kp ∧ kp ≤ 499) (b_nr : 0 ≤ nr ∧ nr ≤ 6) (b_tm : 0 ≤ tm ∧ tm ≤ 400) (b_at_ : 0 ≤ at_ ∧ at_ ≤ 400) (b_to_ : 0 ≤ to_ ∧ to_ ≤ 400) (b_fa : (-1) ≤ fa ∧ fa ≤ 400) (b_va : (-2147483648) ≤ va ∧ va ≤ 2147483647) (b_np : 0 ≤ np ∧ np ≤ 4) (b_tn : 0 ≤ tn ∧ tn ≤ 20) (b_pc_ : 0 ≤ pc_ ∧ pc_ ≤ 480) (b_st_ : 0 ≤ st_ ∧ st_ ≤ 240) (b_pa_ : 0 ≤ pa_ ∧ pa_ ≤ 3) (b_ta : (-2147483648) ≤ ta ∧ ta ≤ 2147483647) (b_ow : (-2147483648) ≤ ow ∧ ow ≤ 2147483647) (b_of_ : (-2147483648) ≤ of_ ∧ of_ ≤ 2147483647) (b_ot : (-2147483648) ≤ ot ∧ ot ≤ 2147483647) (b_rl : 0 ≤ rl ∧ rl ≤ 2880) (b_hb : 0 ≤ hb ∧ hb ≤ 4) (b_bs : (-2147483648) ≤ bs ∧ bs ≤ 2147483647) (b_se : 0 ≤ se ∧ se ≤ 10) (hpq : 10 ≤ Pq pa_.toNat ∧ Pq pa_.toNat ≤ 120) (h_Ob : ∀ j, j < 6 → 0 ≤ Ob j ∧ Ob j ≤ 119) (h_Pq : ∀ j, j < 4 → 0 ≤ Pq j ∧ Pq j ≤ 120) (h_Pd : ∀ j, j < 4 → 0 ≤ Pd j ∧ Pd j ≤ 2) (h_Ps : ∀ j, j < 500 → 0 ≤ Ps j ∧ Ps j ≤ 239) (h_Pa : ∀ j, j < 500 → (-2147483648) ≤ Pa j ∧ Pa j ≤ 2147483647) : Con l Z yX12_phaseOf cX12_phaseOf 3 (some .int) 1 23 0 0 [.ref g0, .int (iI rm), .int (iI kp)] [(g0, .inr (12, mO gA nr tm at_ to_ fa va np tn pc_ st_ pa_ ta ow of_ ot rl hb bs se)), cA Z (gA 36) 0 6 Ob, cA Z (gA 27) 0 4 Pq, cA Z (gA 28) 0 4 Pd, cA Z (gA 42) 0 500 Ps, cA Z (gA 43) 0 500 Pa] (fun r w' => ∃ (y : Int), (r = some (.int (iI y))) ∧ (w' = [(g0, .inr (12, mO gA nr tm at_ to_ fa va np tn pc_ st_ pa_ ta ow of_ ot rl hb bs se)), cA Z (gA 36) 0 6 Ob, cA Z (gA 27) 0 4 Pq, cA Z (gA 28) 0 4 Pd, cA Z (gA 42) 0 500 Ps, cA Z (gA 43) 0 500 Pa]) ∧ ((-2147483648) ≤ y ∧ y ≤ 2147483647)) := by
  refine enter (by decide) (Nat.le_of_ble_eq_true rfl) ?_
  intro p e s m args below meth c A X hnm hA
  have X : Cx p s m args meth c cX12_phaseOf 3 (some .int) RX12 Z A := X
  refine g_as (pc' := 0) (lv' := [(0, .ref g0), (1, .int (iI rm)), (2, .int (iI kp))]) (st' := []) (ws' := [(g0, .inr (12, mO gA nr tm at_ to_ fa va np tn pc_ st_ pa_ ta ow of_ ot rl hb bs se)), cA Z (gA 36) 0 6 Ob, cA Z (gA 27) 0 4 Pq, cA Z (gA 28) 0 4 Pd, cA Z (gA 42) 0 500 Ps, cA Z (gA 43) 0 500 Pa]) rfl rfl rfl rfl ?_
  refine g_aload_n (pc := 0) X 0 rfl dX12_phaseOf_0 ?_
  refine g_get (pc := 1) X inlX12 0 rfl rfl 28 (by decide) mw_8_12 rfl dX12_phaseOf_1 ?_
  refine g_aload_n (pc := 4) X 0 rfl dX12_phaseOf_4 ?_
  refine g_get (pc := 5) X inlX12 0 rfl rfl 49 (by decide) mw_28_2 rfl dX12_phaseOf_5 ?_
  refine g_ialdI (pc := 8) X 3 rfl (b_pa_.1) (Int.lt_of_le_of_lt b_pa_.2 (by decide)) (Int.le_trans b_pa_.2 (by decide)) dX12_phaseOf_8 ?_
  refine g_nameI (fun y1 ey1 => ?_)
  have by1 : 0 ≤ y1 ∧ y1 ≤ 2 := by rw [ey1]; exact h_Pd _ (by (first | (clear b_rm b_kp b_nr b_tm b_at_ b_to_ b_fa b_va b_np b_tn b_pc_ b_st_ b_ta b_ow b_of_ b_ot b_rl b_hb b_bs b_se; omega) | omega))
  refine g_iconst (pc := 9) X (iI 2) (by rfl) dX12_phaseOf_9 ?_
  refine g_icmp_neI (pc := 10) X 15 (by decide) (inRb by1 (by decide) (by decide)) ⟨by decide, by decide⟩ dX12_phaseOf_10 (fun c10 => ?_) (fun c10 => ?_)
  · refine g_aload_n (pc := 15) X 0 rfl dX12_phaseOf_15 ?_
    refine g_aload_n (pc := 16) X 0 rfl dX12_phaseOf_16 ?_
    refine g_get (pc := 17) X inlX12 0 rfl rfl 49 (by decide) mw_28_2 rfl dX12_phaseOf_17 ?_
    refine g_aload_n (pc := 20) X 0 rfl dX12_phaseOf_20 ?_
    refine g_get (pc := 21) X inlX12 0 rfl rfl 36 (by decide) mw_8_19 rfl dX12_phaseOf_21 ?_
    refine g_iload_n (pc := 24) X 1 rfl dX12_phaseOf_24 ?_
    refine g_ialdI (pc := 25) X 1 rfl (b_rm.1) (Int.lt_of_le_of_lt b_rm.2 (by decide)) (Int.le_trans b_rm.2 (by decide)) dX12_phaseOf_25 ?_
    refine g_nameI (fun y2 ey2 => ?_)
    have by2 : 0 ≤ y2 ∧ y2 ≤ 119 := by rw [ey2]; exact h_Ob _ (by (first | (clear b_rm b_kp b_nr b_tm b_at_ b_to_ b_fa b_va b_np b_tn b_pc_ b_st_ b_ta b_ow b_of_ b_ot b_rl b_hb b_bs b_se; omega) | omega))
    refine g_aload_n (pc := 26) X 0 rfl dX12_phaseOf_26 ?_
    refine g_get (pc := 27) X inlX12 0 rfl rfl 42 (by decide) mw_9_1 rfl dX12_phaseOf_27 ?_
    refine g_iload_n (pc := 30) X 2 rfl dX12_phaseOf_30 ?_
    refine g_ialdI (pc := 31) X 4 rfl (b_kp.1) (Int.lt_of_le_of_lt b_kp.2 (by decide)) (Int.le_trans b_kp.2 (by decide)) dX12_phaseOf_31 ?_
    refine g_nameI (fun y3 ey3 => ?_)
    have by3 : 0 ≤ y3 ∧ y3 ≤ 239 := by rw [ey3]; exact h_Ps _ (by (first | (clear b_rm b_kp b_nr b_tm b_at_ b_to_ b_fa b_va b_np b_tn b_pc_ b_st_ b_ta b_ow b_of_ b_ot b_rl b_hb b_bs b_se; omega) | omega))
    refine g_callV (pc := 32) X (k_X12_offsetOf l Z g0 gA Pq Pd pa_ y2 y3 nr tm at_ to_ fa va np tn pc_ st_ pa_ ta ow of_ ot rl hb bs se b_pa_ (by (first | (clear b_rm b_kp b_nr b_tm b_at_ b_to_ b_fa b_va b_np b_tn b_pc_ b_st_ b_ta b_ow b_of_ b_ot b_rl b_hb b_bs b_se; omega) | omega)) (by (first | (clear b_rm b_kp b_nr b_tm b_at_ b_to_ b_fa b_va b_np b_tn b_pc_ b_st_ b_ta b_ow b_of_ b_ot b_rl b_hb b_bs b_se; omega) | omega)) b_nr b_tm b_at_ b_to_ b_fa b_va b_np b_tn b_pc_ b_st_ (by (first | (clear b_rm b_kp b_nr b_tm b_at_ b_to_ b_fa b_va b_np b_tn b_pc_ b_st_ b_ta b_ow b_of_ b_ot b_rl b_hb b_bs b_se; omega) | omega)) b_ta b_ow b_of_ b_ot b_rl b_hb b_bs b_se (by (first | (clear b_rm b_kp b_nr b_tm b_at_ b_to_ b_fa b_va b_np b_tn b_pc_ b_st_ b_ta b_ow b_of_ b_ot b_rl b_hb b_bs b_se; omega) | omega)) (h_Pq) (h_Pd)) iM_X12_offsetOf mw_33_12 mw_33_13 mw_33_14 0 rfl rfl [0, 2, 3] [1, 4, 5] rfl (wr := [cA Z (gA 36) 0 6 Ob, cA Z (gA 42) 0 500 Ps, cA Z (gA 43) 0 500 Pa]) rfl (by decide) rfl rfl (Nat.le_of_ble_eq_true rfl) (by decide) dX12_phaseOf_32 (fun r w' hpo => ?_)
    refine exN_1 hpo fun y4 hz => anD_3 hz fun e_r e_w hf32_b_y => ?_; clear hz hpo; subst e_r; subst e_w
    refine g_as (pc' := 35) (lv' := [(0, .ref g0), (1, .int (iI rm)), (2, .int (iI kp))]) (st' := [.int (iI y4)]) (ws' := [cA Z (gA 36) 0 6 Ob, cA Z (gA 42) 0 500 Ps, cA Z (gA 43) 0 500 Pa, (g0, .inr (12, mO gA nr tm at_ to_ fa va np tn pc_ st_ pa_ ta ow of_ ot rl hb bs se)), cA Z (gA 27) 0 4 Pq, cA Z (gA 28) 0 4 Pd]) rfl rfl rfl rfl ?_
    refine g_aload_n (pc := 35) X 0 rfl dX12_phaseOf_35 ?_
    refine g_get (pc := 36) X inlX12 3 rfl rfl 43 (by decide) mw_9_2 rfl dX12_phaseOf_36 ?_
    refine g_iload_n (pc := 39) X 2 rfl dX12_phaseOf_39 ?_
    refine g_ialdI (pc := 40) X 2 rfl (b_kp.1) (Int.lt_of_le_of_lt b_kp.2 (by decide)) (Int.le_trans b_kp.2 (by decide)) dX12_phaseOf_40 ?_
    refine g_nameI (fun y6 ey6 => ?_)
    have by6 : (-2147483648) ≤ y6 ∧ y6 ≤ 2147483647 := by rw [ey6]; exact h_Pa _ (by (first | (clear b_rm b_kp b_nr b_tm b_at_ b_to_ b_fa b_va b_np b_tn b_pc_ b_st_ b_ta b_ow b_of_ b_ot b_rl b_hb b_bs b_se; omega) | omega))
    refine g_iaddI (pc := 41) X dX12_phaseOf_41 ?_
    refine g_any (fun y7 by7 => ?_)
    refine g_aload_n (pc := 42) X 0 rfl dX12_phaseOf_42 ?_
    refine g_get (pc := 43) X inlX12 3 rfl rfl 33 (by decide) mw_8_16 rfl dX12_phaseOf_43 ?_
    refine g_isubI (pc := 46) X dX12_phaseOf_46 ?_
    refine g_any (fun y8 by8 => ?_)
    refine g_aload_n (pc := 47) X 0 rfl dX12_phaseOf_47 ?_
    refine g_get (pc := 48) X inlX12 3 rfl rfl 27 (by decide) mw_8_11 rfl dX12_phaseOf_48 ?_
    refine g_aload_n (pc := 51) X 0 rfl dX12_phaseOf_51 ?_
    refine g_get (pc := 52) X inlX12 3 rfl rfl 49 (by decide) mw_28_2 rfl dX12_phaseOf_52 ?_
    refine g_ialdI (pc := 55) X 4 rfl (b_pa_.1) (Int.lt_of_le_of_lt b_pa_.2 (by decide)) (Int.le_trans b_pa_.2 (by decide)) dX12_phaseOf_55 ?_
    refine g_nameI (fun y9 ey9 => ?_)
    have by9 : 0 ≤ y9 ∧ y9 ≤ 120 := by rw [ey9]; exact h_Pq _ (by (first | (clear b_rm b_kp b_nr b_tm b_at_ b_to_ b_fa b_va b_np b_tn b_pc_ b_st_ b_ta b_ow b_of_ b_ot b_rl b_hb b_bs b_se; omega) | omega))
    have ty9 : 10 ≤ y9 ∧ y9 ≤ 120 := by rw [ey9]; exact hpq
    refine g_callS (pc := 56) X (k_J9_floorMod_7cf53 l Z y8 y9 by8 (by (first | (clear b_rm b_kp b_nr b_tm b_at_ b_to_ b_fa b_va b_np b_tn b_pc_ b_st_ b_ta b_ow b_of_ b_ot b_rl b_hb b_bs b_se; omega) | omega))) iM_J9_floorMod_7cf53 mw_36_4 mw_36_5 [] [0, 1, 2, 3, 4, 5] rfl (wr := [cA Z (gA 36) 0 6 Ob, cA Z (gA 42) 0 500 Ps, cA Z (gA 43) 0 500 Pa, (g0, .inr (12, mO gA nr tm at_ to_ fa va np tn pc_ st_ pa_ ta ow of_ ot rl hb bs se)), cA Z (gA 27) 0 4 Pq, cA Z (gA 28) 0 4 Pd]) rfl (by decide) rfl rfl (Nat.le_of_ble_eq_true rfl) (by decide) dX12_phaseOf_56 (fun r w' hpo => ?_)
    refine exN_1 hpo fun y10 hz => anD_3 hz fun e_r e_w hf56_b_y => ?_; clear hz hpo; subst e_r; subst e_w
    refine g_as (pc' := 59) (lv' := [(0, .ref g0), (1, .int (iI rm)), (2, .int (iI kp))]) (st' := [.int (iI y10)]) (ws' := [cA Z (gA 36) 0 6 Ob, cA Z (gA 42) 0 500 Ps, cA Z (gA 43) 0 500 Pa, (g0, .inr (12, mO gA nr tm at_ to_ fa va np tn pc_ st_ pa_ ta ow of_ ot rl hb bs se)), cA Z (gA 27) 0 4 Pq, cA Z (gA 28) 0 4 Pd]) rfl rfl rfl rfl ?_
    refine g_ws (ws' := [(g0, .inr (12, mO gA nr tm at_ to_ fa va np tn pc_ st_ pa_ ta ow of_ ot rl hb bs se)), cA Z (gA 36) 0 6 Ob, cA Z (gA 27) 0 4 Pq, cA Z (gA 28) 0 4 Pd, cA Z (gA 42) 0 500 Ps, cA Z (gA 43) 0 500 Pa]) [3, 0, 4, 5, 1, 2] (by decide) rfl ?_
    exact g_iret (pc := 59) X hA (⟨y10, rfl, rfl, (hf56_b_y)⟩) (by decide) (by decide) dX12_phaseOf_59
  · refine g_iconst (pc := 13) X (iI 0) (by rfl) dX12_phaseOf_13 ?_
    exact g_iret (pc := 14) X hA (⟨0, rfl, rfl, (by (first | (clear b_rm b_kp b_nr b_tm b_at_ b_to_ b_fa b_va b_np b_tn b_pc_ b_st_ b_ta b_ow b_of_ b_ot b_rl b_hb b_bs b_se; omega) | omega))⟩) (by decide) (by decide) dX12_phaseOf_14

set_option maxHeartbeats 4000000 in
set_option maxRecDepth 100000 in
theorem k_X12_placeIn (l : Launch) (Z : gZ) (g0 : Nat) (gA : Nat → Nat) (Pq : Nat → Int) (Pd : Nat → Int) (cu : Int) (ph : Int) (nr : Int) (tm : Int) (at_ : Int) (to_ : Int) (fa : Int) (va : Int) (np : Int) (tn : Int) (pc_ : Int) (st_ : Int) (pa_ : Int) (ta : Int) (ow : Int) (of_ : Int) (ot : Int) (rl : Int) (hb : Int) (bs : Int) (se : Int) (b_cu : (-2147483648) ≤ cu ∧ cu ≤ 2147483647) (b_ph : (-2147483648) ≤ ph ∧ ph ≤ 2147483647) (b_nr : 0 ≤ nr ∧ nr ≤ 6) (b_tm : 0 ≤ tm ∧ tm ≤ 400) (b_at_ : 0 ≤ at_ ∧ at_ ≤ 400) (b_to_ : 0 ≤ to_ ∧ to_ ≤ 400) (b_fa : (-1) ≤ fa ∧ fa ≤ 400) (b_va : (-2147483648) ≤ va ∧ va ≤ 2147483647) (b_np : 0 ≤ np ∧ np ≤ 4) (b_tn : 0 ≤ tn ∧ tn ≤ 20) (b_pc_ : 0 ≤ pc_ ∧ pc_ ≤ 480) (b_st_ : 0 ≤ st_ ∧ st_ ≤ 240) (b_pa_ : 0 ≤ pa_ ∧ pa_ ≤ 3) (b_ta : (-2147483648) ≤ ta ∧ ta ≤ 2147483647) (b_ow : (-2147483648) ≤ ow ∧ ow ≤ 2147483647) (b_of_ : (-2147483648) ≤ of_ ∧ of_ ≤ 2147483647) (b_ot : (-2147483648) ≤ ot ∧ ot ≤ 2147483647) (b_rl : 0 ≤ rl ∧ rl ≤ 2880) (b_hb : 0 ≤ hb ∧ hb ≤ 4) (b_bs : (-2147483648) ≤ bs ∧ bs ≤ 2147483647) (b_se : 0 ≤ se ∧ se ≤ 10) (hpq : 10 ≤ Pq pa_.toNat ∧ Pq pa_.toNat ≤ 120) (h_Pq : ∀ j, j < 4 → 0 ≤ Pq j ∧ Pq j ≤ 120) (h_Pd : ∀ j, j < 4 → 0 ≤ Pd j ∧ Pd j ≤ 2) : Con l Z yX12_placeIn cX12_placeIn 3 (some .int) 1 22 0 0 [.ref g0, .int (iI cu), .int (iI ph)] [(g0, .inr (12, mO gA nr tm at_ to_ fa va np tn pc_ st_ pa_ ta ow of_ ot rl hb bs se)), cA Z (gA 27) 0 4 Pq, cA Z (gA 28) 0 4 Pd] (fun r w' => ∃ (y : Int), (r = some (.int (iI y))) ∧ (w' = [(g0, .inr (12, mO gA nr tm at_ to_ fa va np tn pc_ st_ pa_ ta ow of_ ot rl hb bs se)), cA Z (gA 27) 0 4 Pq, cA Z (gA 28) 0 4 Pd]) ∧ ((-2147483648) ≤ y ∧ y ≤ 2147483647)) := by
  refine enter (by decide) (Nat.le_of_ble_eq_true rfl) ?_
  intro p e s m args below meth c A X hnm hA
  have X : Cx p s m args meth c cX12_placeIn 3 (some .int) RX12 Z A := X
  refine g_as (pc' := 0) (lv' := [(0, .ref g0), (1, .int (iI cu)), (2, .int (iI ph))]) (st' := []) (ws' := [(g0, .inr (12, mO gA nr tm at_ to_ fa va np tn pc_ st_ pa_ ta ow of_ ot rl hb bs se)), cA Z (gA 27) 0 4 Pq, cA Z (gA 28) 0 4 Pd]) rfl rfl rfl rfl ?_
  refine g_aload_n (pc := 0) X 0 rfl dX12_placeIn_0 ?_
  refine g_get (pc := 1) X inlX12 0 rfl rfl 28 (by decide) mw_8_12 rfl dX12_placeIn_1 ?_
  refine g_aload_n (pc := 4) X 0 rfl dX12_placeIn_4 ?_
  refine g_get (pc := 5) X inlX12 0 rfl rfl 49 (by decide) mw_28_2 rfl dX12_placeIn_5 ?_
  refine g_ialdI (pc := 8) X 2 rfl (b_pa_.1) (Int.lt_of_le_of_lt b_pa_.2 (by decide)) (Int.le_trans b_pa_.2 (by decide)) dX12_placeIn_8 ?_
  refine g_nameI (fun y1 ey1 => ?_)
  have by1 : 0 ≤ y1 ∧ y1 ≤ 2 := by rw [ey1]; exact h_Pd _ (by (first | (clear b_cu b_ph b_nr b_tm b_at_ b_to_ b_fa b_va b_np b_tn b_pc_ b_st_ b_ta b_ow b_of_ b_ot b_rl b_hb b_bs b_se; omega) | omega))
  refine g_iconst (pc := 9) X (iI 2) (by rfl) dX12_placeIn_9 ?_
  refine g_icmp_neI (pc := 10) X 17 (by decide) (inRb by1 (by decide) (by decide)) ⟨by decide, by decide⟩ dX12_placeIn_10 (fun c10 => ?_) (fun c10 => ?_)
  · refine g_iload_n (pc := 17) X 1 rfl dX12_placeIn_17 ?_
    refine g_iload_n (pc := 18) X 2 rfl dX12_placeIn_18 ?_
    refine g_iload_n (pc := 19) X 1 rfl dX12_placeIn_19 ?_
    refine g_isubI (pc := 20) X dX12_placeIn_20 ?_
    refine g_any (fun y2 by2 => ?_)
    refine g_aload_n (pc := 21) X 0 rfl dX12_placeIn_21 ?_
    refine g_get (pc := 22) X inlX12 0 rfl rfl 27 (by decide) mw_8_11 rfl dX12_placeIn_22 ?_
    refine g_aload_n (pc := 25) X 0 rfl dX12_placeIn_25 ?_
    refine g_get (pc := 26) X inlX12 0 rfl rfl 49 (by decide) mw_28_2 rfl dX12_placeIn_26 ?_
    refine g_ialdI (pc := 29) X 1 rfl (b_pa_.1) (Int.lt_of_le_of_lt b_pa_.2 (by decide)) (Int.le_trans b_pa_.2 (by decide)) dX12_placeIn_29 ?_
    refine g_nameI (fun y3 ey3 => ?_)
    have by3 : 0 ≤ y3 ∧ y3 ≤ 120 := by rw [ey3]; exact h_Pq _ (by (first | (clear b_cu b_ph b_nr b_tm b_at_ b_to_ b_fa b_va b_np b_tn b_pc_ b_st_ b_ta b_ow b_of_ b_ot b_rl b_hb b_bs b_se; omega) | omega))
    have ty3 : 10 ≤ y3 ∧ y3 ≤ 120 := by rw [ey3]; exact hpq
    refine g_callS (pc := 30) X (k_J9_floorMod_7cf53 l Z y2 y3 by2 (by (first | (clear b_cu b_ph b_nr b_tm b_at_ b_to_ b_fa b_va b_np b_tn b_pc_ b_st_ b_ta b_ow b_of_ b_ot b_rl b_hb b_bs b_se; omega) | omega))) iM_J9_floorMod_7cf53 mw_36_4 mw_36_5 [] [0, 1, 2] rfl (wr := [(g0, .inr (12, mO gA nr tm at_ to_ fa va np tn pc_ st_ pa_ ta ow of_ ot rl hb bs se)), cA Z (gA 27) 0 4 Pq, cA Z (gA 28) 0 4 Pd]) rfl (by decide) rfl rfl (Nat.le_of_ble_eq_true rfl) (by decide) dX12_placeIn_30 (fun r w' hpo => ?_)
    refine exN_1 hpo fun y4 hz => anD_3 hz fun e_r e_w hf30_b_y => ?_; clear hz hpo; subst e_r; subst e_w
    refine g_as (pc' := 33) (lv' := [(0, .ref g0), (1, .int (iI cu)), (2, .int (iI ph))]) (st' := [.int (iI y4), .int (iI cu)]) (ws' := [(g0, .inr (12, mO gA nr tm at_ to_ fa va np tn pc_ st_ pa_ ta ow of_ ot rl hb bs se)), cA Z (gA 27) 0 4 Pq, cA Z (gA 28) 0 4 Pd]) rfl rfl rfl rfl ?_
    refine g_iaddI (pc := 33) X dX12_placeIn_33 ?_
    refine g_any (fun y6 by6 => ?_)
    exact g_iret (pc := 34) X hA (⟨y6, rfl, rfl, (by6)⟩) (by decide) (by decide) dX12_placeIn_34
  · refine g_iload_n (pc := 13) X 1 rfl dX12_placeIn_13 ?_
    refine g_goto (pc := 14) X 34 (by decide) dX12_placeIn_14 ?_
    exact g_iret (pc := 34) X hA (⟨cu, rfl, rfl, (b_cu)⟩) (by decide) (by decide) dX12_placeIn_34

set_option maxHeartbeats 4000000 in
set_option maxRecDepth 100000 in
theorem k_X12_cutsFrom (l : Launch) (Z : gZ) (g0 : Nat) (gA : Nat → Nat) (Ob : Nat → Int) (Pq : Nat → Int) (Pd : Nat → Int) (Pl : Nat → Int) (Ps : Nat → Int) (Pa : Nat → Int) (Pt : Nat → Int) (Pr : Nat → Int) (Px : Nat → Int) (Us : Nat → Int) (rm : Int) (kp : Int) (nr : Int) (tm : Int) (at_ : Int) (to_ : Int) (fa : Int) (va : Int) (np : Int) (tn : Int) (pc_ : Int) (st_ : Int) (pa_ : Int) (ta : Int) (ow : Int) (of_ : Int) (ot : Int) (rl : Int) (hb : Int) (bs : Int) (se : Int) (b_rm : 0 ≤ rm ∧ rm ≤ 5) (b_kp : 0 ≤ kp ∧ kp ≤ 499) (b_nr : 0 ≤ nr ∧ nr ≤ 6) (b_tm : 0 ≤ tm ∧ tm ≤ 400) (b_at_ : 0 ≤ at_ ∧ at_ ≤ 400) (b_to_ : 0 ≤ to_ ∧ to_ ≤ 400) (b_fa : (-1) ≤ fa ∧ fa ≤ 400) (b_va : (-2147483648) ≤ va ∧ va ≤ 2147483647) (b_np : 0 ≤ np ∧ np ≤ 4) (b_tn : 0 ≤ tn ∧ tn ≤ 20) (b_pc_ : 0 ≤ pc_ ∧ pc_ ≤ 480) (b_st_ : 0 ≤ st_ ∧ st_ ≤ 240) (b_pa_ : 0 ≤ pa_ ∧ pa_ ≤ 3) (b_ta : (-2147483648) ≤ ta ∧ ta ≤ 2147483647) (b_ow : (-2147483648) ≤ ow ∧ ow ≤ 2147483647) (b_of_ : (-2147483648) ≤ of_ ∧ of_ ≤ 2147483647) (b_ot : (-2147483648) ≤ ot ∧ ot ≤ 2147483647) (b_rl : 0 ≤ rl ∧ rl ≤ 2879) (b_hb : 0 ≤ hb ∧ hb ≤ 4) (b_bs : (-2147483648) ≤ bs ∧ bs ≤ 2147483647) (b_se : 0 ≤ se ∧ se ≤ 10) (hpq : 10 ≤ Pq pa_.toNat ∧ Pq pa_.toNat ≤ 120) (h_Ob : ∀ j, j < 6 → 0 ≤ Ob j ∧ Ob j ≤ 119) (h_Pq : ∀ j, j < 4 → 0 ≤ Pq j ∧ Pq j ≤ 120) (h_Pd : ∀ j, j < 4 → 0 ≤ Pd j ∧ Pd j ≤ 2) (h_Pl : ∀ j, j < 4 → 0 ≤ Pl j ∧ Pl j ≤ 2000) (h_Ps : ∀ j, j < 500 → 0 ≤ Ps j ∧ Ps j ≤ 239) (h_Pa : ∀ j, j < 500 → (-2147483648) ≤ Pa j ∧ Pa j ≤ 2147483647) (h_Pt : ∀ j, j < 500 → (-2147483648) ≤ Pt j ∧ Pt j ≤ 2147483647) (h_Pr : ∀ j, j < 500 → (-2147483648) ≤ Pr j ∧ Pr j ≤ 2147483647) (h_Px : ∀ j, j < 500 → (-2147483648) ≤ Px j ∧ Px j ≤ 2147483647) (h_Us : ∀ j, j < 3000 → (-2147483648) ≤ Us j ∧ Us j ≤ 2147483647) : Con l Z yX12_cutsFrom cX12_cutsFrom 6 (some .boolean) 2 45 0 0 [.ref g0, .int (iI rm), .int (iI kp)] [(g0, .inr (12, mO gA nr tm at_ to_ fa va np tn pc_ st_ pa_ ta ow of_ ot rl hb bs se)), cA Z (gA 36) 0 6 Ob, cA Z (gA 27) 0 4 Pq, cA Z (gA 28) 0 4 Pd, cA Z (gA 29) 0 4 Pl, cA Z (gA 42) 0 500 Ps, cA Z (gA 43) 0 500 Pa, cA Z (gA 44) 0 500 Pt, cA Z (gA 45) 0 500 Pr, cA Z (gA 46) 0 500 Px, cA Z (gA 54) 0 3000 Us] (fun r w' => ∃ (Pr2 : Nat → Int) (Px2 : Nat → Int) (Us2 : Nat → Int) (rl2 : Int) (y : Int), (r = some (.int (iI y))) ∧ (w' = [(g0, .inr (12, mO gA nr tm at_ to_ fa va np tn pc_ st_ pa_ ta ow of_ ot rl2 hb bs se)), cA Z (gA 36) 0 6 Ob, cA Z (gA 27) 0 4 Pq, cA Z (gA 28) 0 4 Pd, cA Z (gA 29) 0 4 Pl, cA Z (gA 42) 0 500 Ps, cA Z (gA 43) 0 500 Pa, cA Z (gA 44) 0 500 Pt, cA Z (gA 45) 0 500 Pr2, cA Z (gA 46) 0 500 Px2, cA Z (gA 54) 0 3000 Us2]) ∧ (0 ≤ rl2 ∧ rl2 ≤ 2880) ∧ (0 ≤ y ∧ y ≤ 1) ∧ (∀ j, j < 500 → (-2147483648) ≤ Pr2 j ∧ Pr2 j ≤ 2147483647) ∧ (∀ j, j < 500 → (-2147483648) ≤ Px2 j ∧ Px2 j ≤ 2147483647) ∧ (∀ j, j < 3000 → (-2147483648) ≤ Us2 j ∧ Us2 j ≤ 2147483647) ∧ (rl ≤ rl2 ∧ rl2 ≤ rl + 1)) := by
  refine enter (by decide) (Nat.le_of_ble_eq_true rfl) ?_
  intro p e s m args below meth c A X hnm hA
  have X : Cx p s m args meth c cX12_cutsFrom 6 (some .boolean) RX12 Z A := X
  refine g_as (pc' := 0) (lv' := [(0, .ref g0), (1, .int (iI rm)), (2, .int (iI kp))]) (st' := []) (ws' := [(g0, .inr (12, mO gA nr tm at_ to_ fa va np tn pc_ st_ pa_ ta ow of_ ot rl hb bs se)), cA Z (gA 36) 0 6 Ob, cA Z (gA 27) 0 4 Pq, cA Z (gA 28) 0 4 Pd, cA Z (gA 29) 0 4 Pl, cA Z (gA 42) 0 500 Ps, cA Z (gA 43) 0 500 Pa, cA Z (gA 44) 0 500 Pt, cA Z (gA 45) 0 500 Pr, cA Z (gA 46) 0 500 Px, cA Z (gA 54) 0 3000 Us]) rfl rfl rfl rfl ?_
  refine g_aload_n (pc := 0) X 0 rfl dX12_cutsFrom_0 ?_
  refine g_iload_n (pc := 1) X 1 rfl dX12_cutsFrom_1 ?_
  refine g_iload_n (pc := 2) X 2 rfl dX12_cutsFrom_2 ?_
  refine g_callV (pc := 3) X (k_X12_phaseOf l Z g0 gA Ob Pq Pd Ps Pa rm kp nr tm at_ to_ fa va np tn pc_ st_ pa_ ta ow of_ ot rl hb bs se b_rm b_kp b_nr b_tm b_at_ b_to_ b_fa b_va b_np b_tn b_pc_ b_st_ b_pa_ b_ta b_ow b_of_ b_ot (by (first | (clear b_rm b_kp b_nr b_tm b_at_ b_to_ b_fa b_va b_np b_tn b_pc_ b_st_ b_ta b_ow b_of_ b_ot b_hb b_bs b_se; omega) | omega)) b_hb b_bs b_se (by (first | (clear b_rm b_kp b_nr b_tm b_at_ b_to_ b_fa b_va b_np b_tn b_pc_ b_st_ b_ta b_ow b_of_ b_ot b_hb b_bs b_se; omega) | omega)) (h_Ob) (h_Pq) (h_Pd) (h_Ps) (h_Pa)) iM_X12_phaseOf mw_36_0 mw_36_1 mw_36_2 0 rfl rfl [0, 1, 2, 3, 5, 6] [4, 7, 8, 9, 10] rfl (wr := [cA Z (gA 29) 0 4 Pl, cA Z (gA 44) 0 500 Pt, cA Z (gA 45) 0 500 Pr, cA Z (gA 46) 0 500 Px, cA Z (gA 54) 0 3000 Us]) rfl (by decide) rfl rfl (Nat.le_of_ble_eq_true rfl) (by decide) dX12_cutsFrom_3 (fun r w' hpo => ?_)
  refine exN_1 hpo fun y1 hz => anD_3 hz fun e_r e_w hf3_b_y => ?_; clear hz hpo; subst e_r; subst e_w
  refine g_as (pc' := 6) (lv' := [(0, .ref g0), (1, .int (iI rm)), (2, .int (iI kp))]) (st' := [.int (iI y1)]) (ws' := [cA Z (gA 29) 0 4 Pl, cA Z (gA 44) 0 500 Pt, cA Z (gA 45) 0 500 Pr, cA Z (gA 46) 0 500 Px, cA Z (gA 54) 0 3000 Us, (g0, .inr (12, mO gA nr tm at_ to_ fa va np tn pc_ st_ pa_ ta ow of_ ot rl hb bs se)), cA Z (gA 36) 0 6 Ob, cA Z (gA 27) 0 4 Pq, cA Z (gA 28) 0 4 Pd, cA Z (gA 42) 0 500 Ps, cA Z (gA 43) 0 500 Pa]) rfl rfl rfl rfl ?_
  refine g_istore_n (pc := 6) X (i := 3) rfl (by decide) (lv' := [(3, .int (iI y1)), (0, .ref g0), (1, .int (iI rm)), (2, .int (iI kp))]) rfl dX12_cutsFrom_6 ?_
  refine g_iconst (pc := 7) X (iI 0) (by rfl) dX12_cutsFrom_7 ?_
  refine g_istore (pc := 8) X (by decide) (lv' := [(4, .int (iI 0)), (3, .int (iI y1)), (0, .ref g0), (1, .int (iI rm)), (2, .int (iI kp))]) rfl dX12_cutsFrom_8 ?_
  have loop10 : ∀ (fuel : Nat) (k1 : Int), (0 ≤ k1 ∧ k1 ≤ 2881) → (2882 - k1).toNat < fuel → Gs p l e ({ frames := 2, cells := 0, slots := 0, locals := 45 } : Room) s m args below meth c (MQ below (gPost Z [(g0, .inr (12, mO gA nr tm at_ to_ fa va np tn pc_ st_ pa_ ta ow of_ ot rl hb bs se)), cA Z (gA 36) 0 6 Ob, cA Z (gA 27) 0 4 Pq, cA Z (gA 28) 0 4 Pd, cA Z (gA 29) 0 4 Pl, cA Z (gA 42) 0 500 Ps, cA Z (gA 43) 0 500 Pa, cA Z (gA 44) 0 500 Pt, cA Z (gA 45) 0 500 Pr, cA Z (gA 46) 0 500 Px, cA Z (gA 54) 0 3000 Us] s.heap.size (fun r w' => ∃ (Pr2 : Nat → Int) (Px2 : Nat → Int) (Us2 : Nat → Int) (rl2 : Int) (y : Int), (r = some (.int (iI y))) ∧ (w' = [(g0, .inr (12, mO gA nr tm at_ to_ fa va np tn pc_ st_ pa_ ta ow of_ ot rl2 hb bs se)), cA Z (gA 36) 0 6 Ob, cA Z (gA 27) 0 4 Pq, cA Z (gA 28) 0 4 Pd, cA Z (gA 29) 0 4 Pl, cA Z (gA 42) 0 500 Ps, cA Z (gA 43) 0 500 Pa, cA Z (gA 44) 0 500 Pt, cA Z (gA 45) 0 500 Pr2, cA Z (gA 46) 0 500 Px2, cA Z (gA 54) 0 3000 Us2]) ∧ (0 ≤ rl2 ∧ rl2 ≤ 2880) ∧ (0 ≤ y ∧ y ≤ 1) ∧ (∀ j, j < 500 → (-2147483648) ≤ Pr2 j ∧ Pr2 j ≤ 2147483647) ∧ (∀ j, j < 500 → (-2147483648) ≤ Px2 j ∧ Px2 j ≤ 2147483647) ∧ (∀ j, j < 3000 → (-2147483648) ≤ Us2 j ∧ Us2 j ≤ 2147483647) ∧ (rl ≤ rl2 ∧ rl2 ≤ rl + 1))) args s 0 0 (va_A [(g0, .inr (12, mO gA nr tm at_ to_ fa va np tn pc_ st_ pa_ ta ow of_ ot rl hb bs se)), cA Z (gA 36) 0 6 Ob, cA Z (gA 27) 0 4 Pq, cA Z (gA 28) 0 4 Pd, cA Z (gA 29) 0 4 Pl, cA Z (gA 42) 0 500 Ps, cA Z (gA 43) 0 500 Pa, cA Z (gA 44) 0 500 Pt, cA Z (gA 45) 0 500 Pr, cA Z (gA 46) 0 500 Px, cA Z (gA 54) 0 3000 Us] s.heap.size)) Z A 6 0 0 10 [(4, .int (iI k1)), (3, .int (iI y1)), (0, .ref g0), (1, .int (iI rm)), (2, .int (iI kp))] [] [cA Z (gA 29) 0 4 Pl, cA Z (gA 44) 0 500 Pt, cA Z (gA 45) 0 500 Pr, cA Z (gA 46) 0 500 Px, cA Z (gA 54) 0 3000 Us, (g0, .inr (12, mO gA nr tm at_ to_ fa va np tn pc_ st_ pa_ ta ow of_ ot rl hb bs se)), cA Z (gA 36) 0 6 Ob, cA Z (gA 27) 0 4 Pq, cA Z (gA 28) 0 4 Pd, cA Z (gA 42) 0 500 Ps, cA Z (gA 43) 0 500 Pa] := by
    intro fuel
    induction fuel with
    | zero => intro k1 _ hm; exact absurd hm (Nat.not_lt_zero _)
    | succ fuel ih =>
      intro k1 b_k1 hm
      refine g_iload (pc := 10) X 0 rfl dX12_cutsFrom_10 ?_
      refine g_aload_n (pc := 12) X 2 rfl dX12_cutsFrom_12 ?_
      refine g_get (pc := 13) X inlX12 5 rfl rfl 55 (by decide) mw_35_19 rfl dX12_cutsFrom_13 ?_
      refine g_icmp_gtI (pc := 16) X 123 (by decide) (inRb b_k1 (by decide) (by decide)) (inRb b_rl (by decide) (by decide)) dX12_cutsFrom_16 (fun c16 => ?_) (fun c16 => ?_)
      · refine g_iconst (pc := 123) X (iI 0) (by rfl) dX12_cutsFrom_123 ?_
        refine g_ws (ws' := [(g0, .inr (12, mO gA nr tm at_ to_ fa va np tn pc_ st_ pa_ ta ow of_ ot rl hb bs se)), cA Z (gA 36) 0 6 Ob, cA Z (gA 27) 0 4 Pq, cA Z (gA 28) 0 4 Pd, cA Z (gA 29) 0 4 Pl, cA Z (gA 42) 0 500 Ps, cA Z (gA 43) 0 500 Pa, cA Z (gA 44) 0 500 Pt, cA Z (gA 45) 0 500 Pr, cA Z (gA 46) 0 500 Px, cA Z (gA 54) 0 3000 Us]) [5, 6, 7, 8, 0, 9, 10, 1, 2, 3, 4] (by decide) rfl ?_
        exact g_zret (pc := 124) X hA (rfl) (⟨Pr, Px, Us, rl, 0, rfl, rfl, (by (first | (clear b_rm b_kp b_nr b_tm b_at_ b_to_ b_fa b_va b_np b_tn b_pc_ b_st_ b_ta b_ow b_of_ b_ot b_hb b_bs b_se; omega) | omega)), (by (first | (clear b_rm b_kp b_nr b_tm b_at_ b_to_ b_fa b_va b_np b_tn b_pc_ b_st_ b_ta b_ow b_of_ b_ot b_hb b_bs b_se; omega) | omega)), (h_Pr), (h_Px), (h_Us), (by (first | (clear b_rm b_kp b_nr b_tm b_at_ b_to_ b_fa b_va b_np b_tn b_pc_ b_st_ b_ta b_ow b_of_ b_ot b_hb b_bs b_se; omega) | omega))⟩) (by decide) (by decide) dX12_cutsFrom_124
      · have join40 : ∀ (u0 : Int), ((-2147483648) ≤ u0 ∧ u0 ≤ 2147483647) → Gs p l e ({ frames := 2, cells := 0, slots := 0, locals := 45 } : Room) s m args below meth c (MQ below (gPost Z [(g0, .inr (12, mO gA nr tm at_ to_ fa va np tn pc_ st_ pa_ ta ow of_ ot rl hb bs se)), cA Z (gA 36) 0 6 Ob, cA Z (gA 27) 0 4 Pq, cA Z (gA 28) 0 4 Pd, cA Z (gA 29) 0 4 Pl, cA Z (gA 42) 0 500 Ps, cA Z (gA 43) 0 500 Pa, cA Z (gA 44) 0 500 Pt, cA Z (gA 45) 0 500 Pr, cA Z (gA 46) 0 500 Px, cA Z (gA 54) 0 3000 Us] s.heap.size (fun r w' => ∃ (Pr2 : Nat → Int) (Px2 : Nat → Int) (Us2 : Nat → Int) (rl2 : Int) (y : Int), (r = some (.int (iI y))) ∧ (w' = [(g0, .inr (12, mO gA nr tm at_ to_ fa va np tn pc_ st_ pa_ ta ow of_ ot rl2 hb bs se)), cA Z (gA 36) 0 6 Ob, cA Z (gA 27) 0 4 Pq, cA Z (gA 28) 0 4 Pd, cA Z (gA 29) 0 4 Pl, cA Z (gA 42) 0 500 Ps, cA Z (gA 43) 0 500 Pa, cA Z (gA 44) 0 500 Pt, cA Z (gA 45) 0 500 Pr2, cA Z (gA 46) 0 500 Px2, cA Z (gA 54) 0 3000 Us2]) ∧ (0 ≤ rl2 ∧ rl2 ≤ 2880) ∧ (0 ≤ y ∧ y ≤ 1) ∧ (∀ j, j < 500 → (-2147483648) ≤ Pr2 j ∧ Pr2 j ≤ 2147483647) ∧ (∀ j, j < 500 → (-2147483648) ≤ Px2 j ∧ Px2 j ≤ 2147483647) ∧ (∀ j, j < 3000 → (-2147483648) ≤ Us2 j ∧ Us2 j ≤ 2147483647) ∧ (rl ≤ rl2 ∧ rl2 ≤ rl + 1))) args s 0 0 (va_A [(g0, .inr (12, mO gA nr tm at_ to_ fa va np tn pc_ st_ pa_ ta ow of_ ot rl hb bs se)), cA Z (gA 36) 0 6 Ob, cA Z (gA 27) 0 4 Pq, cA Z (gA 28) 0 4 Pd, cA Z (gA 29) 0 4 Pl, cA Z (gA 42) 0 500 Ps, cA Z (gA 43) 0 500 Pa, cA Z (gA 44) 0 500 Pt, cA Z (gA 45) 0 500 Pr, cA Z (gA 46) 0 500 Px, cA Z (gA 54) 0 3000 Us] s.heap.size)) Z A 6 0 0 40 [(4, .int (iI k1)), (3, .int (iI y1)), (0, .ref g0), (1, .int (iI rm)), (2, .int (iI kp))] [.int (iI u0), .ref g0] [cA Z (gA 29) 0 4 Pl, cA Z (gA 44) 0 500 Pt, cA Z (gA 45) 0 500 Pr, cA Z (gA 46) 0 500 Px, cA Z (gA 54) 0 3000 Us, (g0, .inr (12, mO gA nr tm at_ to_ fa va np tn pc_ st_ pa_ ta ow of_ ot rl hb bs se)), cA Z (gA 36) 0 6 Ob, cA Z (gA 27) 0 4 Pq, cA Z (gA 28) 0 4 Pd, cA Z (gA 42) 0 500 Ps, cA Z (gA 43) 0 500 Pa] := by
          intro u0 b_u0
          refine g_iload_n (pc := 40) X 1 rfl dX12_cutsFrom_40 ?_
          refine g_callV (pc := 41) X (k_X12_placeIn l Z g0 gA Pq Pd u0 y1 nr tm at_ to_ fa va np tn pc_ st_ pa_ ta ow of_ ot rl hb bs se b_u0 hf3_b_y b_nr b_tm b_at_ b_to_ b_fa b_va b_np b_tn b_pc_ b_st_ b_pa_ b_ta b_ow b_of_ b_ot (by (first | (clear b_rm b_kp b_nr b_tm b_at_ b_to_ b_fa b_va b_np b_tn b_pc_ b_st_ b_ta b_ow b_of_ b_ot b_hb b_bs b_se; omega) | omega)) b_hb b_bs b_se (by (first | (clear b_rm b_kp b_nr b_tm b_at_ b_to_ b_fa b_va b_np b_tn b_pc_ b_st_ b_ta b_ow b_of_ b_ot b_hb b_bs b_se; omega) | omega)) (h_Pq) (h_Pd)) iM_X12_placeIn mw_36_7 mw_36_8 mw_36_9 5 rfl rfl [5, 7, 8] [0, 1, 2, 3, 4, 6, 9, 10] rfl (wr := [cA Z (gA 29) 0 4 Pl, cA Z (gA 44) 0 500 Pt, cA Z (gA 45) 0 500 Pr, cA Z (gA 46) 0 500 Px, cA Z (gA 54) 0 3000 Us, cA Z (gA 36) 0 6 Ob, cA Z (gA 42) 0 500 Ps, cA Z (gA 43) 0 500 Pa]) rfl (by decide) rfl rfl (Nat.le_of_ble_eq_true rfl) (by decide) dX12_cutsFrom_41 (fun r w' hpo => ?_)
          refine exN_1 hpo fun y3 hz => anD_3 hz fun e_r e_w hf41_b_y => ?_; clear hz hpo; subst e_r; subst e_w
          refine g_as (pc' := 44) (lv' := [(4, .int (iI k1)), (3, .int (iI y1)), (0, .ref g0), (1, .int (iI rm)), (2, .int (iI kp))]) (st' := [.int (iI y3)]) (ws' := [cA Z (gA 29) 0 4 Pl, cA Z (gA 44) 0 500 Pt, cA Z (gA 45) 0 500 Pr, cA Z (gA 46) 0 500 Px, cA Z (gA 54) 0 3000 Us, cA Z (gA 36) 0 6 Ob, cA Z (gA 42) 0 500 Ps, cA Z (gA 43) 0 500 Pa, (g0, .inr (12, mO gA nr tm at_ to_ fa va np tn pc_ st_ pa_ ta ow of_ ot rl hb bs se)), cA Z (gA 27) 0 4 Pq, cA Z (gA 28) 0 4 Pd]) rfl rfl rfl rfl ?_
          refine g_istore (pc := 44) X (by decide) (lv' := [(5, .int (iI y3)), (4, .int (iI k1)), (3, .int (iI y1)), (0, .ref g0), (1, .int (iI rm)), (2, .int (iI kp))]) rfl dX12_cutsFrom_44 ?_
          refine g_iload (pc := 46) X 0 rfl dX12_cutsFrom_46 ?_
          refine g_aload_n (pc := 48) X 3 rfl dX12_cutsFrom_48 ?_
          refine g_iload_n (pc := 49) X 5 rfl dX12_cutsFrom_49 ?_
          refine g_callV (pc := 50) X (k_X12_longOf l Z g0 gA Pa Pt kp nr tm at_ to_ fa va np tn pc_ st_ pa_ ta ow of_ ot rl hb bs se b_kp b_nr b_tm b_at_ b_to_ b_fa b_va b_np b_tn b_pc_ b_st_ (by (first | (clear b_rm b_kp b_nr b_tm b_at_ b_to_ b_fa b_va b_np b_tn b_pc_ b_st_ b_ta b_ow b_of_ b_ot b_hb b_bs b_se; omega) | omega)) b_ta b_ow b_of_ b_ot (by (first | (clear b_rm b_kp b_nr b_tm b_at_ b_to_ b_fa b_va b_np b_tn b_pc_ b_st_ b_ta b_ow b_of_ b_ot b_hb b_bs b_se; omega) | omega)) b_hb b_bs b_se (h_Pa) (h_Pt)) iM_X12_longOf mw_36_11 mw_36_12 mw_36_13 8 rfl rfl [8, 7, 1] [0, 2, 3, 4, 5, 6, 9, 10] rfl (wr := [cA Z (gA 29) 0 4 Pl, cA Z (gA 45) 0 500 Pr, cA Z (gA 46) 0 500 Px, cA Z (gA 54) 0 3000 Us, cA Z (gA 36) 0 6 Ob, cA Z (gA 42) 0 500 Ps, cA Z (gA 27) 0 4 Pq, cA Z (gA 28) 0 4 Pd]) rfl (by decide) rfl rfl (Nat.le_of_ble_eq_true rfl) (by decide) dX12_cutsFrom_50 (fun r w' hpo => ?_)
          refine exN_1 hpo fun y5 hz => anD_3 hz fun e_r e_w hf50_b_y => ?_; clear hz hpo; subst e_r; subst e_w
          refine g_as (pc' := 53) (lv' := [(5, .int (iI y3)), (4, .int (iI k1)), (3, .int (iI y1)), (0, .ref g0), (1, .int (iI rm)), (2, .int (iI kp))]) (st' := [.int (iI y5), .int (iI y3)]) (ws' := [cA Z (gA 29) 0 4 Pl, cA Z (gA 45) 0 500 Pr, cA Z (gA 46) 0 500 Px, cA Z (gA 54) 0 3000 Us, cA Z (gA 36) 0 6 Ob, cA Z (gA 42) 0 500 Ps, cA Z (gA 27) 0 4 Pq, cA Z (gA 28) 0 4 Pd, (g0, .inr (12, mO gA nr tm at_ to_ fa va np tn pc_ st_ pa_ ta ow of_ ot rl hb bs se)), cA Z (gA 43) 0 500 Pa, cA Z (gA 44) 0 500 Pt]) rfl rfl rfl rfl ?_
          refine g_iaddI (pc := 53) X dX12_cutsFrom_53 ?_
          refine g_any (fun y7 by7 => ?_)
          refine g_aload_n (pc := 54) X 3 rfl dX12_cutsFrom_54 ?_
          refine g_get (pc := 55) X inlX12 8 rfl rfl 29 (by decide) mw_8_13 rfl dX12_cutsFrom_55 ?_
          refine g_aload_n (pc := 58) X 3 rfl dX12_cutsFrom_58 ?_
          refine g_get (pc := 59) X inlX12 8 rfl rfl 49 (by decide) mw_28_2 rfl dX12_cutsFrom_59 ?_
          refine g_ialdI (pc := 62) X 0 rfl (b_pa_.1) (Int.lt_of_le_of_lt b_pa_.2 (by decide)) (Int.le_trans b_pa_.2 (by decide)) dX12_cutsFrom_62 ?_
          refine g_nameI (fun y8 ey8 => ?_)
          have by8 : 0 ≤ y8 ∧ y8 ≤ 2000 := by rw [ey8]; exact h_Pl _ (by (first | (clear b_rm b_kp b_nr b_tm b_at_ b_to_ b_fa b_va b_np b_tn b_pc_ b_st_ b_ta b_ow b_of_ b_ot b_hb b_bs b_se; omega) | omega))
          refine g_icmp_leI (pc := 63) X 69 (by decide) by7 (inRb by8 (by decide) (by decide)) dX12_cutsFrom_63 (fun c63 => ?_) (fun c63 => ?_)
          · refine g_aload_n (pc := 69) X 3 rfl dX12_cutsFrom_69 ?_
            refine g_get (pc := 70) X inlX12 8 rfl rfl 54 (by decide) mw_9_6 rfl dX12_cutsFrom_70 ?_
            refine g_iload (pc := 73) X 1 rfl dX12_cutsFrom_73 ?_
            refine g_iload (pc := 75) X 0 rfl dX12_cutsFrom_75 ?_
            refine g_aload_n (pc := 77) X 3 rfl dX12_cutsFrom_77 ?_
            refine g_iload_n (pc := 78) X 5 rfl dX12_cutsFrom_78 ?_
            refine g_callV (pc := 79) X (k_X12_longOf l Z g0 gA Pa Pt kp nr tm at_ to_ fa va np tn pc_ st_ pa_ ta ow of_ ot rl hb bs se b_kp b_nr b_tm b_at_ b_to_ b_fa b_va b_np b_tn b_pc_ b_st_ (by (first | (clear b_rm b_kp b_nr b_tm b_at_ b_to_ b_fa b_va b_np b_tn b_pc_ b_st_ b_ta b_ow b_of_ b_ot b_hb b_bs b_se; omega) | omega)) b_ta b_ow b_of_ b_ot (by (first | (clear b_rm b_kp b_nr b_tm b_at_ b_to_ b_fa b_va b_np b_tn b_pc_ b_st_ b_ta b_ow b_of_ b_ot b_hb b_bs b_se; omega) | omega)) b_hb b_bs b_se (h_Pa) (h_Pt)) iM_X12_longOf mw_36_11 mw_36_12 mw_36_13 8 rfl rfl [8, 9, 10] [0, 1, 2, 3, 4, 5, 6, 7] rfl (wr := [cA Z (gA 29) 0 4 Pl, cA Z (gA 45) 0 500 Pr, cA Z (gA 46) 0 500 Px, cA Z (gA 54) 0 3000 Us, cA Z (gA 36) 0 6 Ob, cA Z (gA 42) 0 500 Ps, cA Z (gA 27) 0 4 Pq, cA Z (gA 28) 0 4 Pd]) rfl (by decide) rfl rfl (Nat.le_of_ble_eq_true rfl) (by decide) dX12_cutsFrom_79 (fun r w' hpo => ?_)
            refine exN_1 hpo fun y9 hz => anD_3 hz fun e_r e_w hf79_b_y => ?_; clear hz hpo; subst e_r; subst e_w
            refine g_as (pc' := 82) (lv' := [(5, .int (iI y3)), (4, .int (iI k1)), (3, .int (iI y1)), (0, .ref g0), (1, .int (iI rm)), (2, .int (iI kp))]) (st' := [.int (iI y9), .int (iI y3), .int (iI k1), .ref (gA 54)]) (ws' := [cA Z (gA 29) 0 4 Pl, cA Z (gA 45) 0 500 Pr, cA Z (gA 46) 0 500 Px, cA Z (gA 54) 0 3000 Us, cA Z (gA 36) 0 6 Ob, cA Z (gA 42) 0 500 Ps, cA Z (gA 27) 0 4 Pq, cA Z (gA 28) 0 4 Pd, (g0, .inr (12, mO gA nr tm at_ to_ fa va np tn pc_ st_ pa_ ta ow of_ ot rl hb bs se)), cA Z (gA 43) 0 500 Pa, cA Z (gA 44) 0 500 Pt]) rfl rfl rfl rfl ?_
            refine g_iaddI (pc := 82) X dX12_cutsFrom_82 ?_
            refine g_any (fun y11 by11 => ?_)
            refine g_iastG (pc := 83) X 3 rfl (b_k1.1) (Int.lt_of_le_of_lt b_k1.2 (by decide)) (Int.le_trans b_k1.2 (by decide)) (ws' := fun F12 => [cA Z (gA 29) 0 4 Pl, cA Z (gA 45) 0 500 Pr, cA Z (gA 46) 0 500 Px, cA Z (gA 54) 0 3000 F12, cA Z (gA 36) 0 6 Ob, cA Z (gA 42) 0 500 Ps, cA Z (gA 27) 0 4 Pq, cA Z (gA 28) 0 4 Pd, (g0, .inr (12, mO gA nr tm at_ to_ fa va np tn pc_ st_ pa_ ta ow of_ ot rl hb bs se)), cA Z (gA 43) 0 500 Pa, cA Z (gA 44) 0 500 Pt]) (fun _ => rfl) dX12_cutsFrom_83 (fun F12 eF12 => ?_)
            have hF12 : ∀ j, j < 3000 → (-2147483648) ≤ F12 j ∧ F12 j ≤ 2147483647 := by rw [eF12]; exact updI_B h_Us (by (first | (clear b_rm b_kp b_nr b_tm b_at_ b_to_ b_fa b_va b_np b_tn b_pc_ b_st_ b_ta b_ow b_of_ b_ot b_hb b_bs b_se; omega) | omega))
            refine g_aload_n (pc := 84) X 3 rfl dX12_cutsFrom_84 ?_
            refine g_get (pc := 85) X inlX12 8 rfl rfl 45 (by decide) mw_9_4 rfl dX12_cutsFrom_85 ?_
            refine g_iload_n (pc := 88) X 5 rfl dX12_cutsFrom_88 ?_
            refine g_iload (pc := 89) X 1 rfl dX12_cutsFrom_89 ?_
            refine g_iastG (pc := 91) X 1 rfl (b_kp.1) (Int.lt_of_le_of_lt b_kp.2 (by decide)) (Int.le_trans b_kp.2 (by decide)) (ws' := fun F13 => [cA Z (gA 29) 0 4 Pl, cA Z (gA 45) 0 500 F13, cA Z (gA 46) 0 500 Px, cA Z (gA 54) 0 3000 F12, cA Z (gA 36) 0 6 Ob, cA Z (gA 42) 0 500 Ps, cA Z (gA 27) 0 4 Pq, cA Z (gA 28) 0 4 Pd, (g0, .inr (12, mO gA nr tm at_ to_ fa va np tn pc_ st_ pa_ ta ow of_ ot rl hb bs se)), cA Z (gA 43) 0 500 Pa, cA Z (gA 44) 0 500 Pt]) (fun _ => rfl) dX12_cutsFrom_91 (fun F13 eF13 => ?_)
            have hF13 : ∀ j, j < 500 → (-2147483648) ≤ F13 j ∧ F13 j ≤ 2147483647 := by rw [eF13]; exact updI_B h_Pr (by (first | (clear b_rm b_kp b_nr b_tm b_at_ b_to_ b_fa b_va b_np b_tn b_pc_ b_st_ b_ta b_ow b_of_ b_ot b_hb b_bs b_se; omega) | omega))
            refine g_aload_n (pc := 92) X 3 rfl dX12_cutsFrom_92 ?_
            refine g_get (pc := 93) X inlX12 8 rfl rfl 46 (by decide) mw_9_5 rfl dX12_cutsFrom_93 ?_
            refine g_iload_n (pc := 96) X 5 rfl dX12_cutsFrom_96 ?_
            refine g_iload (pc := 97) X 0 rfl dX12_cutsFrom_97 ?_
            refine g_iastG (pc := 99) X 2 rfl (b_kp.1) (Int.lt_of_le_of_lt b_kp.2 (by decide)) (Int.le_trans b_kp.2 (by decide)) (ws' := fun F14 => [cA Z (gA 29) 0 4 Pl, cA Z (gA 45) 0 500 F13, cA Z (gA 46) 0 500 F14, cA Z (gA 54) 0 3000 F12, cA Z (gA 36) 0 6 Ob, cA Z (gA 42) 0 500 Ps, cA Z (gA 27) 0 4 Pq, cA Z (gA 28) 0 4 Pd, (g0, .inr (12, mO gA nr tm at_ to_ fa va np tn pc_ st_ pa_ ta ow of_ ot rl hb bs se)), cA Z (gA 43) 0 500 Pa, cA Z (gA 44) 0 500 Pt]) (fun _ => rfl) dX12_cutsFrom_99 (fun F14 eF14 => ?_)
            have hF14 : ∀ j, j < 500 → (-2147483648) ≤ F14 j ∧ F14 j ≤ 2147483647 := by rw [eF14]; exact updI_B h_Px (by (first | (clear b_rm b_kp b_nr b_tm b_at_ b_to_ b_fa b_va b_np b_tn b_pc_ b_st_ b_ta b_ow b_of_ b_ot b_hb b_bs b_se; omega) | omega))
            refine g_aload_n (pc := 100) X 3 rfl dX12_cutsFrom_100 ?_
            refine g_aload_n (pc := 101) X 3 rfl dX12_cutsFrom_101 ?_
            refine g_get (pc := 102) X inlX12 8 rfl rfl 55 (by decide) mw_35_19 rfl dX12_cutsFrom_102 ?_
            refine g_iload (pc := 105) X 1 rfl dX12_cutsFrom_105 ?_
            refine g_iconst (pc := 107) X (iI 1) (by rfl) dX12_cutsFrom_107 ?_
            refine g_iaddI (pc := 108) X dX12_cutsFrom_108 ?_
            refine g_maxI (pc := 109) X mw_29_8 mw_12_11 mw_25_23 mw_12_13 (by decide) (Nat.le_of_ble_eq_true rfl) (by decide) (by decide) (inRb b_rl (by decide) (by decide)) ⟨by (first | (clear b_rm b_kp b_nr b_tm b_at_ b_to_ b_fa b_va b_np b_tn b_pc_ b_st_ b_ta b_ow b_of_ b_ot b_hb b_bs b_se; omega) | omega), by (first | (clear b_rm b_kp b_nr b_tm b_at_ b_to_ b_fa b_va b_np b_tn b_pc_ b_st_ b_ta b_ow b_of_ b_ot b_hb b_bs b_se; omega) | omega)⟩ dX12_cutsFrom_109 ?_
            refine g_nameI (fun y15 ey15 => ?_)
            have my15 : rl ≤ y15 ∧ k1 + 1 ≤ y15 ∧ (y15 = rl ∨ y15 = k1 + 1) := by rw [ey15]; exact maxF _ _
            clear ey15
            refine g_put (pc := 112) X inlX12 tyX12_ok nmX12 8 rfl rfl 55 (by decide) mw_35_19 rfl rfl rfl (Nat.le_of_ble_eq_true rfl) (ws' := [cA Z (gA 29) 0 4 Pl, cA Z (gA 45) 0 500 F13, cA Z (gA 46) 0 500 F14, cA Z (gA 54) 0 3000 F12, cA Z (gA 36) 0 6 Ob, cA Z (gA 42) 0 500 Ps, cA Z (gA 27) 0 4 Pq, cA Z (gA 28) 0 4 Pd, (g0, .inr (12, mO gA nr tm at_ to_ fa va np tn pc_ st_ pa_ ta ow of_ ot y15 hb bs se)), cA Z (gA 43) 0 500 Pa, cA Z (gA 44) 0 500 Pt]) rfl dX12_cutsFrom_112 ?_
            refine g_iconst (pc := 115) X (iI 1) (by rfl) dX12_cutsFrom_115 ?_
            refine g_ws (ws' := [(g0, .inr (12, mO gA nr tm at_ to_ fa va np tn pc_ st_ pa_ ta ow of_ ot y15 hb bs se)), cA Z (gA 36) 0 6 Ob, cA Z (gA 27) 0 4 Pq, cA Z (gA 28) 0 4 Pd, cA Z (gA 29) 0 4 Pl, cA Z (gA 42) 0 500 Ps, cA Z (gA 43) 0 500 Pa, cA Z (gA 44) 0 500 Pt, cA Z (gA 45) 0 500 F13, cA Z (gA 46) 0 500 F14, cA Z (gA 54) 0 3000 F12]) [8, 4, 6, 7, 0, 5, 9, 10, 1, 2, 3] (by decide) rfl ?_
            exact g_zret (pc := 116) X hA (rfl) (⟨F13, F14, F12, y15, 1, rfl, rfl, (by (first | (clear b_rm b_kp b_nr b_tm b_at_ b_to_ b_fa b_va b_np b_tn b_pc_ b_st_ b_ta b_ow b_of_ b_ot b_hb b_bs b_se; omega) | omega)), (by (first | (clear b_rm b_kp b_nr b_tm b_at_ b_to_ b_fa b_va b_np b_tn b_pc_ b_st_ b_ta b_ow b_of_ b_ot b_hb b_bs b_se; omega) | omega)), (hF13), (hF14), (hF12), (by (first | (clear b_rm b_kp b_nr b_tm b_at_ b_to_ b_fa b_va b_np b_tn b_pc_ b_st_ b_ta b_ow b_of_ b_ot b_hb b_bs b_se; omega) | omega))⟩) (by decide) (by decide) dX12_cutsFrom_116
          · refine g_goto (pc := 66) X 117 (by decide) dX12_cutsFrom_66 ?_
            refine g_iincI (pc := 117) X 1 rfl (by decide) (lv' := [(4, .int (iI (k1 + 1))), (5, .int (iI y3)), (3, .int (iI y1)), (0, .ref g0), (1, .int (iI rm)), (2, .int (iI kp))]) rfl dX12_cutsFrom_117 ?_
            refine g_goto (pc := 120) X 10 (by decide) dX12_cutsFrom_120 ?_
            refine g_lv (lv' := [(4, .int (iI (k1 + 1))), (3, .int (iI y1)), (0, .ref g0), (1, .int (iI rm)), (2, .int (iI kp))]) [0, 2, 3, 4, 5] rfl ?_
            refine g_ws (ws' := [cA Z (gA 29) 0 4 Pl, cA Z (gA 44) 0 500 Pt, cA Z (gA 45) 0 500 Pr, cA Z (gA 46) 0 500 Px, cA Z (gA 54) 0 3000 Us, (g0, .inr (12, mO gA nr tm at_ to_ fa va np tn pc_ st_ pa_ ta ow of_ ot rl hb bs se)), cA Z (gA 36) 0 6 Ob, cA Z (gA 27) 0 4 Pq, cA Z (gA 28) 0 4 Pd, cA Z (gA 42) 0 500 Ps, cA Z (gA 43) 0 500 Pa]) [0, 10, 1, 2, 3, 8, 4, 6, 7, 5, 9] (by decide) rfl ?_
            exact ih (k1 + 1) (by (first | (clear b_rm b_kp b_nr b_tm b_at_ b_to_ b_fa b_va b_np b_tn b_pc_ b_st_ b_ta b_ow b_of_ b_ot b_hb b_bs b_se; omega) | omega)) (by (first | (clear b_rm b_kp b_nr b_tm b_at_ b_to_ b_fa b_va b_np b_tn b_pc_ b_st_ b_ta b_ow b_of_ b_ot b_hb b_bs b_se; omega) | omega))
        refine g_aload_n (pc := 19) X 2 rfl dX12_cutsFrom_19 ?_
        refine g_iload (pc := 20) X 0 rfl dX12_cutsFrom_20 ?_
        refine g_aload_n (pc := 22) X 2 rfl dX12_cutsFrom_22 ?_
        refine g_get (pc := 23) X inlX12 5 rfl rfl 55 (by decide) mw_35_19 rfl dX12_cutsFrom_23 ?_
        refine g_icmp_neI (pc := 26) X 33 (by decide) (inRb b_k1 (by decide) (by decide)) (inRb b_rl (by decide) (by decide)) dX12_cutsFrom_26 (fun c26 => ?_) (fun c26 => ?_)
        · refine g_aload_n (pc := 33) X 2 rfl dX12_cutsFrom_33 ?_
          refine g_get (pc := 34) X inlX12 5 rfl rfl 54 (by decide) mw_9_6 rfl dX12_cutsFrom_34 ?_
          refine g_iload (pc := 37) X 0 rfl dX12_cutsFrom_37 ?_
          refine g_ialdI (pc := 39) X 4 rfl (b_k1.1) (Int.lt_of_le_of_lt b_k1.2 (by decide)) (Int.le_trans b_k1.2 (by decide)) dX12_cutsFrom_39 ?_
          refine g_nameI (fun y16 ey16 => ?_)
          have by16 : (-2147483648) ≤ y16 ∧ y16 ≤ 2147483647 := by rw [ey16]; exact h_Us _ (by (first | (clear b_rm b_kp b_nr b_tm b_at_ b_to_ b_fa b_va b_np b_tn b_pc_ b_st_ b_ta b_ow b_of_ b_ot b_hb b_bs b_se; omega) | omega))
          exact join40 y16 (by16)
        · refine g_iconst (pc := 29) X (iI 0) (by rfl) dX12_cutsFrom_29 ?_
          refine g_goto (pc := 30) X 40 (by decide) dX12_cutsFrom_30 ?_
          exact join40 0 (by (first | (clear b_rm b_kp b_nr b_tm b_at_ b_to_ b_fa b_va b_np b_tn b_pc_ b_st_ b_ta b_ow b_of_ b_ot b_hb b_bs b_se; omega) | omega))
  exact loop10 _ 0 (by (first | (clear b_rm b_kp b_nr b_tm b_at_ b_to_ b_fa b_va b_np b_tn b_pc_ b_st_ b_ta b_ow b_of_ b_ot b_hb b_bs b_se; omega) | omega)) (Nat.lt_succ_self _)

set_option maxHeartbeats 4000000 in
set_option maxRecDepth 100000 in
theorem k_X12_fitsAll (l : Launch) (Z : gZ) (g0 : Nat) (gA : Nat → Nat) (Ob : Nat → Int) (Pq : Nat → Int) (Pd : Nat → Int) (Pl : Nat → Int) (Ps : Nat → Int) (Pa : Nat → Int) (Pt : Nat → Int) (Pr : Nat → Int) (Px : Nat → Int) (Us : Nat → Int) (rm : Int) (nr : Int) (tm : Int) (at_ : Int) (to_ : Int) (fa : Int) (va : Int) (np : Int) (tn : Int) (pc_ : Int) (st_ : Int) (pa_ : Int) (ta : Int) (ow : Int) (of_ : Int) (ot : Int) (rl : Int) (hb : Int) (bs : Int) (se : Int) (b_rm : 0 ≤ rm ∧ rm ≤ 5) (b_nr : 0 ≤ nr ∧ nr ≤ 6) (b_tm : 0 ≤ tm ∧ tm ≤ 400) (b_at_ : 0 ≤ at_ ∧ at_ ≤ 400) (b_to_ : 0 ≤ to_ ∧ to_ ≤ 400) (b_fa : (-1) ≤ fa ∧ fa ≤ 400) (b_va : (-2147483648) ≤ va ∧ va ≤ 2147483647) (b_np : 0 ≤ np ∧ np ≤ 4) (b_tn : 0 ≤ tn ∧ tn ≤ 20) (b_pc_ : 0 ≤ pc_ ∧ pc_ ≤ 480) (b_st_ : 0 ≤ st_ ∧ st_ ≤ 240) (b_pa_ : 0 ≤ pa_ ∧ pa_ ≤ 3) (b_ta : (-2147483648) ≤ ta ∧ ta ≤ 2147483647) (b_ow : (-2147483648) ≤ ow ∧ ow ≤ 2147483647) (b_of_ : (-2147483648) ≤ of_ ∧ of_ ≤ 2147483647) (b_ot : (-2147483648) ≤ ot ∧ ot ≤ 2147483647) (b_rl : 0 ≤ rl ∧ rl ≤ 2880) (b_hb : 0 ≤ hb ∧ hb ≤ 4) (b_bs : (-2147483648) ≤ bs ∧ bs ≤ 2147483647) (b_se : 0 ≤ se ∧ se ≤ 10) (hpq : 10 ≤ Pq pa_.toNat ∧ Pq pa_.toNat ≤ 120) (h_Ob : ∀ j, j < 6 → 0 ≤ Ob j ∧ Ob j ≤ 119) (h_Pq : ∀ j, j < 4 → 0 ≤ Pq j ∧ Pq j ≤ 120) (h_Pd : ∀ j, j < 4 → 0 ≤ Pd j ∧ Pd j ≤ 2) (h_Pl : ∀ j, j < 4 → 0 ≤ Pl j ∧ Pl j ≤ 2000) (h_Ps : ∀ j, j < 500 → 0 ≤ Ps j ∧ Ps j ≤ 239) (h_Pa : ∀ j, j < 500 → (-2147483648) ≤ Pa j ∧ Pa j ≤ 2147483647) (h_Pt : ∀ j, j < 500 → (-2147483648) ≤ Pt j ∧ Pt j ≤ 2147483647) (h_Pr : ∀ j, j < 500 → (-2147483648) ≤ Pr j ∧ Pr j ≤ 2147483647) (h_Px : ∀ j, j < 500 → (-2147483648) ≤ Px j ∧ Px j ≤ 2147483647) (h_Us : ∀ j, j < 3000 → (-2147483648) ≤ Us j ∧ Us j ≤ 2147483647) : Con l Z yX12_fitsAll cX12_fitsAll 3 (some .boolean) 3 70 0 0 [.ref g0, .int (iI rm)] [(g0, .inr (12, mO gA nr tm at_ to_ fa va np tn pc_ st_ pa_ ta ow of_ ot rl hb bs se)), cA Z (gA 36) 0 6 Ob, cA Z (gA 27) 0 4 Pq, cA Z (gA 28) 0 4 Pd, cA Z (gA 29) 0 4 Pl, cA Z (gA 42) 0 500 Ps, cA Z (gA 43) 0 500 Pa, cA Z (gA 44) 0 500 Pt, cA Z (gA 45) 0 500 Pr, cA Z (gA 46) 0 500 Px, cA Z (gA 54) 0 3000 Us] (fun r w' => ∃ (Pr2 : Nat → Int) (Px2 : Nat → Int) (Us2 : Nat → Int) (rl2 : Int) (y : Int), (r = some (.int (iI y))) ∧ (w' = [(g0, .inr (12, mO gA nr tm at_ to_ fa va np tn pc_ st_ pa_ ta ow of_ ot rl2 hb bs se)), cA Z (gA 36) 0 6 Ob, cA Z (gA 27) 0 4 Pq, cA Z (gA 28) 0 4 Pd, cA Z (gA 29) 0 4 Pl, cA Z (gA 42) 0 500 Ps, cA Z (gA 43) 0 500 Pa, cA Z (gA 44) 0 500 Pt, cA Z (gA 45) 0 500 Pr2, cA Z (gA 46) 0 500 Px2, cA Z (gA 54) 0 3000 Us2]) ∧ (0 ≤ rl2 ∧ rl2 ≤ 2880) ∧ (0 ≤ y ∧ y ≤ 1) ∧ (∀ j, j < 500 → (-2147483648) ≤ Pr2 j ∧ Pr2 j ≤ 2147483647) ∧ (∀ j, j < 500 → (-2147483648) ≤ Px2 j ∧ Px2 j ≤ 2147483647) ∧ (∀ j, j < 3000 → (-2147483648) ≤ Us2 j ∧ Us2 j ≤ 2147483647) ∧ (rl2 ≤ 480)) := by
  refine enter (by decide) (Nat.le_of_ble_eq_true rfl) ?_
  intro p e s m args below meth c A X hnm hA
  have X : Cx p s m args meth c cX12_fitsAll 3 (some .boolean) RX12 Z A := X
  refine g_as (pc' := 0) (lv' := [(0, .ref g0), (1, .int (iI rm))]) (st' := []) (ws' := [(g0, .inr (12, mO gA nr tm at_ to_ fa va np tn pc_ st_ pa_ ta ow of_ ot rl hb bs se)), cA Z (gA 36) 0 6 Ob, cA Z (gA 27) 0 4 Pq, cA Z (gA 28) 0 4 Pd, cA Z (gA 29) 0 4 Pl, cA Z (gA 42) 0 500 Ps, cA Z (gA 43) 0 500 Pa, cA Z (gA 44) 0 500 Pt, cA Z (gA 45) 0 500 Pr, cA Z (gA 46) 0 500 Px, cA Z (gA 54) 0 3000 Us]) rfl rfl rfl rfl ?_
  refine g_aload_n (pc := 0) X 0 rfl dX12_fitsAll_0 ?_
  refine g_iconst (pc := 1) X (iI 0) (by rfl) dX12_fitsAll_1 ?_
  refine g_put (pc := 2) X inlX12 tyX12_ok nmX12 0 rfl rfl 55 (by decide) mw_35_19 rfl rfl rfl (Nat.le_of_ble_eq_true rfl) (ws' := [(g0, .inr (12, mO gA nr tm at_ to_ fa va np tn pc_ st_ pa_ ta ow of_ ot 0 hb bs se)), cA Z (gA 36) 0 6 Ob, cA Z (gA 27) 0 4 Pq, cA Z (gA 28) 0 4 Pd, cA Z (gA 29) 0 4 Pl, cA Z (gA 42) 0 500 Ps, cA Z (gA 43) 0 500 Pa, cA Z (gA 44) 0 500 Pt, cA Z (gA 45) 0 500 Pr, cA Z (gA 46) 0 500 Px, cA Z (gA 54) 0 3000 Us]) rfl dX12_fitsAll_2 ?_
  refine g_iconst (pc := 5) X (iI 0) (by rfl) dX12_fitsAll_5 ?_
  refine g_istore_n (pc := 6) X (i := 2) rfl (by decide) (lv' := [(2, .int (iI 0)), (0, .ref g0), (1, .int (iI rm))]) rfl dX12_fitsAll_6 ?_
  have loop7 : ∀ (fuel : Nat) (k1 : Int) (rl1 : Int) (Pr1 : Nat → Int) (Px1 : Nat → Int) (Us1 : Nat → Int), (0 ≤ k1 ∧ k1 ≤ 480) → (0 ≤ rl1 ∧ rl1 ≤ 2880) → (∀ j, j < 500 → (-2147483648) ≤ Pr1 j ∧ Pr1 j ≤ 2147483647) → (∀ j, j < 500 → (-2147483648) ≤ Px1 j ∧ Px1 j ≤ 2147483647) → (∀ j, j < 3000 → (-2147483648) ≤ Us1 j ∧ Us1 j ≤ 2147483647) → (rl1 ≤ k1) → (481 - k1).toNat < fuel → Gs p l e ({ frames := 3, cells := 0, slots := 0, locals := 70 } : Room) s m args below meth c (MQ below (gPost Z [(g0, .inr (12, mO gA nr tm at_ to_ fa va np tn pc_ st_ pa_ ta ow of_ ot rl hb bs se)), cA Z (gA 36) 0 6 Ob, cA Z (gA 27) 0 4 Pq, cA Z (gA 28) 0 4 Pd, cA Z (gA 29) 0 4 Pl, cA Z (gA 42) 0 500 Ps, cA Z (gA 43) 0 500 Pa, cA Z (gA 44) 0 500 Pt, cA Z (gA 45) 0 500 Pr, cA Z (gA 46) 0 500 Px, cA Z (gA 54) 0 3000 Us] s.heap.size (fun r w' => ∃ (Pr2 : Nat → Int) (Px2 : Nat → Int) (Us2 : Nat → Int) (rl2 : Int) (y : Int), (r = some (.int (iI y))) ∧ (w' = [(g0, .inr (12, mO gA nr tm at_ to_ fa va np tn pc_ st_ pa_ ta ow of_ ot rl2 hb bs se)), cA Z (gA 36) 0 6 Ob, cA Z (gA 27) 0 4 Pq, cA Z (gA 28) 0 4 Pd, cA Z (gA 29) 0 4 Pl, cA Z (gA 42) 0 500 Ps, cA Z (gA 43) 0 500 Pa, cA Z (gA 44) 0 500 Pt, cA Z (gA 45) 0 500 Pr2, cA Z (gA 46) 0 500 Px2, cA Z (gA 54) 0 3000 Us2]) ∧ (0 ≤ rl2 ∧ rl2 ≤ 2880) ∧ (0 ≤ y ∧ y ≤ 1) ∧ (∀ j, j < 500 → (-2147483648) ≤ Pr2 j ∧ Pr2 j ≤ 2147483647) ∧ (∀ j, j < 500 → (-2147483648) ≤ Px2 j ∧ Px2 j ≤ 2147483647) ∧ (∀ j, j < 3000 → (-2147483648) ≤ Us2 j ∧ Us2 j ≤ 2147483647) ∧ (rl2 ≤ 480))) args s 0 0 (va_A [(g0, .inr (12, mO gA nr tm at_ to_ fa va np tn pc_ st_ pa_ ta ow of_ ot rl hb bs se)), cA Z (gA 36) 0 6 Ob, cA Z (gA 27) 0 4 Pq, cA Z (gA 28) 0 4 Pd, cA Z (gA 29) 0 4 Pl, cA Z (gA 42) 0 500 Ps, cA Z (gA 43) 0 500 Pa, cA Z (gA 44) 0 500 Pt, cA Z (gA 45) 0 500 Pr, cA Z (gA 46) 0 500 Px, cA Z (gA 54) 0 3000 Us] s.heap.size)) Z A 3 0 0 7 [(2, .int (iI k1)), (0, .ref g0), (1, .int (iI rm))] [] [(g0, .inr (12, mO gA nr tm at_ to_ fa va np tn pc_ st_ pa_ ta ow of_ ot rl1 hb bs se)), cA Z (gA 36) 0 6 Ob, cA Z (gA 27) 0 4 Pq, cA Z (gA 28) 0 4 Pd, cA Z (gA 29) 0 4 Pl, cA Z (gA 42) 0 500 Ps, cA Z (gA 43) 0 500 Pa, cA Z (gA 44) 0 500 Pt, cA Z (gA 45) 0 500 Pr1, cA Z (gA 46) 0 500 Px1, cA Z (gA 54) 0 3000 Us1] := by
    intro fuel
    induction fuel with
    | zero => intro k1 rl1 Pr1 Px1 Us1 _ _ _ _ _ _ hm; exact absurd hm (Nat.not_lt_zero _)
    | succ fuel ih =>
      intro k1 rl1 Pr1 Px1 Us1 b_k1 b_rl1 h_Pr1 h_Px1 h_Us1 iv hm
      refine g_iload_n (pc := 7) X 0 rfl dX12_fitsAll_7 ?_
      refine g_aload_n (pc := 8) X 1 rfl dX12_fitsAll_8 ?_
      refine g_get (pc := 9) X inlX12 0 rfl rfl 47 (by decide) mw_28_4 rfl dX12_fitsAll_9 ?_
      refine g_icmp_geI (pc := 12) X 32 (by decide) (inRb b_k1 (by decide) (by decide)) (inRb b_pc_ (by decide) (by decide)) dX12_fitsAll_12 (fun c12 => ?_) (fun c12 => ?_)
      · refine g_iconst (pc := 32) X (iI 1) (by rfl) dX12_fitsAll_32 ?_
        exact g_zret (pc := 33) X hA (rfl) (⟨Pr1, Px1, Us1, rl1, 1, rfl, rfl, (b_rl1), (by (first | (clear b_rm b_nr b_tm b_at_ b_to_ b_fa b_va b_np b_tn b_pc_ b_st_ b_ta b_ow b_of_ b_ot b_rl b_hb b_bs b_se; omega) | omega)), (h_Pr1), (h_Px1), (h_Us1), (by (first | (clear b_rm b_nr b_tm b_at_ b_to_ b_fa b_va b_np b_tn b_pc_ b_st_ b_ta b_ow b_of_ b_ot b_rl b_hb b_bs b_se; omega) | omega))⟩) (by decide) (by decide) dX12_fitsAll_33
      · refine g_aload_n (pc := 15) X 1 rfl dX12_fitsAll_15 ?_
        refine g_iload_n (pc := 16) X 2 rfl dX12_fitsAll_16 ?_
        refine g_iload_n (pc := 17) X 0 rfl dX12_fitsAll_17 ?_
        refine g_callV (pc := 18) X (k_X12_cutsFrom l Z g0 gA Ob Pq Pd Pl Ps Pa Pt Pr1 Px1 Us1 rm k1 nr tm at_ to_ fa va np tn pc_ st_ pa_ ta ow of_ ot rl1 hb bs se b_rm (by (first | (clear b_rm b_nr b_tm b_at_ b_to_ b_fa b_va b_np b_tn b_pc_ b_st_ b_ta b_ow b_of_ b_ot b_rl b_hb b_bs b_se; omega) | omega)) b_nr b_tm b_at_ b_to_ b_fa b_va b_np b_tn b_pc_ b_st_ b_pa_ b_ta b_ow b_of_ b_ot (by (first | (clear b_rm b_nr b_tm b_at_ b_to_ b_fa b_va b_np b_tn b_pc_ b_st_ b_ta b_ow b_of_ b_ot b_rl b_hb b_bs b_se; omega) | omega)) b_hb b_bs b_se (by (first | (clear b_rm b_nr b_tm b_at_ b_to_ b_fa b_va b_np b_tn b_pc_ b_st_ b_ta b_ow b_of_ b_ot b_rl b_hb b_bs b_se; omega) | omega)) (h_Ob) (h_Pq) (h_Pd) (h_Pl) (h_Ps) (h_Pa) (h_Pt) (h_Pr1) (h_Px1) (h_Us1)) iM_X12_cutsFrom mw_35_20 mw_35_21 mw_35_22 0 rfl rfl [0, 1, 2, 3, 4, 5, 6, 7, 8, 9, 10] [] rfl (wr := []) rfl (by decide) rfl rfl (Nat.le_of_ble_eq_true rfl) (by decide) dX12_fitsAll_18 (fun r w' hpo => ?_)
        refine exN_5 hpo fun F1 F2 F3 y4 y5 hz => anD_8 hz fun e_r e_w hf18_b_rl2 hf18_b_y hf18_h_Pr2 hf18_h_Px2 hf18_h_Us2 hf18_f1 => ?_; clear hz hpo; subst e_r; subst e_w
        refine g_as (pc' := 21) (lv' := [(2, .int (iI k1)), (0, .ref g0), (1, .int (iI rm))]) (st' := [.int (iI y5)]) (ws' := [(g0, .inr (12, mO gA nr tm at_ to_ fa va np tn pc_ st_ pa_ ta ow of_ ot y4 hb bs se)), cA Z (gA 36) 0 6 Ob, cA Z (gA 27) 0 4 Pq, cA Z (gA 28) 0 4 Pd, cA Z (gA 29) 0 4 Pl, cA Z (gA 42) 0 500 Ps, cA Z (gA 43) 0 500 Pa, cA Z (gA 44) 0 500 Pt, cA Z (gA 45) 0 500 F1, cA Z (gA 46) 0 500 F2, cA Z (gA 54) 0 3000 F3]) rfl rfl rfl rfl ?_
        refine g_if_neI (pc := 21) X 26 (by decide) (inRb hf18_b_y (by decide) (by decide)) dX12_fitsAll_21 (fun c21 => ?_) (fun c21 => ?_)
        · refine g_iincI (pc := 26) X 0 rfl (by decide) (lv' := [(2, .int (iI (k1 + 1))), (0, .ref g0), (1, .int (iI rm))]) rfl dX12_fitsAll_26 ?_
          refine g_goto (pc := 29) X 7 (by decide) dX12_fitsAll_29 ?_
          exact ih (k1 + 1) y4 F1 F2 F3 (by (first | (clear b_rm b_nr b_tm b_at_ b_to_ b_fa b_va b_np b_tn b_pc_ b_st_ b_ta b_ow b_of_ b_ot b_rl b_hb b_bs b_se; omega) | omega)) (hf18_b_rl2) (hf18_h_Pr2) (hf18_h_Px2) (hf18_h_Us2) (by (first | (clear b_rm b_nr b_tm b_at_ b_to_ b_fa b_va b_np b_tn b_pc_ b_st_ b_ta b_ow b_of_ b_ot b_rl b_hb b_bs b_se; omega) | omega)) (by (first | (clear b_rm b_nr b_tm b_at_ b_to_ b_fa b_va b_np b_tn b_pc_ b_st_ b_ta b_ow b_of_ b_ot b_rl b_hb b_bs b_se; omega) | omega))
        · refine g_iconst (pc := 24) X (iI 0) (by rfl) dX12_fitsAll_24 ?_
          exact g_zret (pc := 25) X hA (rfl) (⟨F1, F2, F3, y4, 0, rfl, rfl, (hf18_b_rl2), (by (first | (clear b_rm b_nr b_tm b_at_ b_to_ b_fa b_va b_np b_tn b_pc_ b_st_ b_ta b_ow b_of_ b_ot b_rl b_hb b_bs b_se; omega) | omega)), (hf18_h_Pr2), (hf18_h_Px2), (hf18_h_Us2), (by (first | (clear b_rm b_nr b_tm b_at_ b_to_ b_fa b_va b_np b_tn b_pc_ b_st_ b_ta b_ow b_of_ b_ot b_rl b_hb b_bs b_se; omega) | omega))⟩) (by decide) (by decide) dX12_fitsAll_25
  exact loop7 _ 0 0 Pr Px Us (by (first | (clear b_rm b_nr b_tm b_at_ b_to_ b_fa b_va b_np b_tn b_pc_ b_st_ b_ta b_ow b_of_ b_ot b_rl b_hb b_bs b_se; omega) | omega)) (by (first | (clear b_rm b_nr b_tm b_at_ b_to_ b_fa b_va b_np b_tn b_pc_ b_st_ b_ta b_ow b_of_ b_ot b_rl b_hb b_bs b_se; omega) | omega)) (h_Pr) (h_Px) (h_Us) (by (first | (clear b_rm b_nr b_tm b_at_ b_to_ b_fa b_va b_np b_tn b_pc_ b_st_ b_ta b_ow b_of_ b_ot b_rl b_hb b_bs b_se; omega) | omega)) (Nat.lt_succ_self _)

set_option maxHeartbeats 4000000 in
set_option maxRecDepth 100000 in
theorem k_X12_fewest (l : Launch) (Z : gZ) (g0 : Nat) (gA : Nat → Nat) (Ob : Nat → Int) (Pq : Nat → Int) (Pd : Nat → Int) (Pl : Nat → Int) (Ps : Nat → Int) (Pa : Nat → Int) (Pt : Nat → Int) (He : Nat → Int) (rm : Int) (nr : Int) (tm : Int) (at_ : Int) (to_ : Int) (fa : Int) (va : Int) (np : Int) (tn : Int) (pc_ : Int) (st_ : Int) (pa_ : Int) (ta : Int) (ow : Int) (of_ : Int) (ot : Int) (rl : Int) (hb : Int) (bs : Int) (se : Int) (b_rm : 0 ≤ rm ∧ rm ≤ 5) (b_nr : 0 ≤ nr ∧ nr ≤ 6) (b_tm : 0 ≤ tm ∧ tm ≤ 400) (b_at_ : 0 ≤ at_ ∧ at_ ≤ 400) (b_to_ : 0 ≤ to_ ∧ to_ ≤ 400) (b_fa : (-1) ≤ fa ∧ fa ≤ 400) (b_va : (-2147483648) ≤ va ∧ va ≤ 2147483647) (b_np : 0 ≤ np ∧ np ≤ 4) (b_tn : 0 ≤ tn ∧ tn ≤ 20) (b_pc_ : 0 ≤ pc_ ∧ pc_ ≤ 12) (b_st_ : 0 ≤ st_ ∧ st_ ≤ 240) (b_pa_ : 0 ≤ pa_ ∧ pa_ ≤ 3) (b_ta : (-2147483648) ≤ ta ∧ ta ≤ 2147483647) (b_ow : (-2147483648) ≤ ow ∧ ow ≤ 2147483647) (b_of_ : (-2147483648) ≤ of_ ∧ of_ ≤ 2147483647) (b_ot : (-2147483648) ≤ ot ∧ ot ≤ 2147483647) (b_rl : 0 ≤ rl ∧ rl ≤ 2880) (b_hb : 0 ≤ hb ∧ hb ≤ 4) (b_bs : (-2147483648) ≤ bs ∧ bs ≤ 2147483647) (b_se : 0 ≤ se ∧ se ≤ 10) (hpq : 10 ≤ Pq pa_.toNat ∧ Pq pa_.toNat ≤ 120) (h_Ob : ∀ j, j < 6 → 0 ≤ Ob j ∧ Ob j ≤ 119) (h_Pq : ∀ j, j < 4 → 0 ≤ Pq j ∧ Pq j ≤ 120) (h_Pd : ∀ j, j < 4 → 0 ≤ Pd j ∧ Pd j ≤ 2) (h_Pl : ∀ j, j < 4 → 0 ≤ Pl j ∧ Pl j ≤ 2000) (h_Ps : ∀ j, j < 500 → 0 ≤ Ps j ∧ Ps j ≤ 239) (h_Pa : ∀ j, j < 500 → (-2147483648) ≤ Pa j ∧ Pa j ≤ 2147483647) (h_Pt : ∀ j, j < 500 → (-2147483648) ≤ Pt j ∧ Pt j ≤ 2147483647) (h_He : ∀ j, j < 4096 → (-2147483648) ≤ He j ∧ He j ≤ 2147483647) : Con l Z yX12_fewest cX12_fewest 9 (some .int) 2 45 0 0 [.ref g0, .int (iI rm)] [(g0, .inr (12, mO gA nr tm at_ to_ fa va np tn pc_ st_ pa_ ta ow of_ ot rl hb bs se)), cA Z (gA 36) 0 6 Ob, cA Z (gA 27) 0 4 Pq, cA Z (gA 28) 0 4 Pd, cA Z (gA 29) 0 4 Pl, cA Z (gA 42) 0 500 Ps, cA Z (gA 43) 0 500 Pa, cA Z (gA 44) 0 500 Pt, cA Z (gA 56) 0 4096 He] (fun r w' => ∃ (He2 : Nat → Int) (y : Int), (r = some (.int (iI y))) ∧ (w' = [(g0, .inr (12, mO gA nr tm at_ to_ fa va np tn pc_ st_ pa_ ta ow of_ ot rl hb bs se)), cA Z (gA 36) 0 6 Ob, cA Z (gA 27) 0 4 Pq, cA Z (gA 28) 0 4 Pd, cA Z (gA 29) 0 4 Pl, cA Z (gA 42) 0 500 Ps, cA Z (gA 43) 0 500 Pa, cA Z (gA 44) 0 500 Pt, cA Z (gA 56) 0 4096 He2]) ∧ ((-2147483648) ≤ y ∧ y ≤ 2147483647) ∧ (∀ j, j < 4096 → (-2147483648) ≤ He2 j ∧ He2 j ≤ 2147483647)) := by
  refine enter (by decide) (Nat.le_of_ble_eq_true rfl) ?_
  intro p e s m args below meth c A X hnm hA
  have X : Cx p s m args meth c cX12_fewest 9 (some .int) RX12 Z A := X
  refine g_as (pc' := 0) (lv' := [(0, .ref g0), (1, .int (iI rm))]) (st' := []) (ws' := [(g0, .inr (12, mO gA nr tm at_ to_ fa va np tn pc_ st_ pa_ ta ow of_ ot rl hb bs se)), cA Z (gA 36) 0 6 Ob, cA Z (gA 27) 0 4 Pq, cA Z (gA 28) 0 4 Pd, cA Z (gA 29) 0 4 Pl, cA Z (gA 42) 0 500 Ps, cA Z (gA 43) 0 500 Pa, cA Z (gA 44) 0 500 Pt, cA Z (gA 56) 0 4096 He]) rfl rfl rfl rfl ?_
  refine g_iconst (pc := 0) X (iI 0) (by rfl) dX12_fewest_0 ?_
  refine g_istore_n (pc := 1) X (i := 2) rfl (by decide) (lv' := [(2, .int (iI 0)), (0, .ref g0), (1, .int (iI rm))]) rfl dX12_fewest_1 ?_
  have loop2 : ∀ (fuel : Nat) (h1 : Int) (He1 : Nat → Int), (0 ≤ h1 ∧ h1 ≤ 4096) → (∀ j, j < 4096 → (-2147483648) ≤ He1 j ∧ He1 j ≤ 2147483647) → (4097 - h1).toNat < fuel → Gs p l e ({ frames := 2, cells := 0, slots := 0, locals := 45 } : Room) s m args below meth c (MQ below (gPost Z [(g0, .inr (12, mO gA nr tm at_ to_ fa va np tn pc_ st_ pa_ ta ow of_ ot rl hb bs se)), cA Z (gA 36) 0 6 Ob, cA Z (gA 27) 0 4 Pq, cA Z (gA 28) 0 4 Pd, cA Z (gA 29) 0 4 Pl, cA Z (gA 42) 0 500 Ps, cA Z (gA 43) 0 500 Pa, cA Z (gA 44) 0 500 Pt, cA Z (gA 56) 0 4096 He] s.heap.size (fun r w' => ∃ (He2 : Nat → Int) (y : Int), (r = some (.int (iI y))) ∧ (w' = [(g0, .inr (12, mO gA nr tm at_ to_ fa va np tn pc_ st_ pa_ ta ow of_ ot rl hb bs se)), cA Z (gA 36) 0 6 Ob, cA Z (gA 27) 0 4 Pq, cA Z (gA 28) 0 4 Pd, cA Z (gA 29) 0 4 Pl, cA Z (gA 42) 0 500 Ps, cA Z (gA 43) 0 500 Pa, cA Z (gA 44) 0 500 Pt, cA Z (gA 56) 0 4096 He2]) ∧ ((-2147483648) ≤ y ∧ y ≤ 2147483647) ∧ (∀ j, j < 4096 → (-2147483648) ≤ He2 j ∧ He2 j ≤ 2147483647))) args s 0 0 (va_A [(g0, .inr (12, mO gA nr tm at_ to_ fa va np tn pc_ st_ pa_ ta ow of_ ot rl hb bs se)), cA Z (gA 36) 0 6 Ob, cA Z (gA 27) 0 4 Pq, cA Z (gA 28) 0 4 Pd, cA Z (gA 29) 0 4 Pl, cA Z (gA 42) 0 500 Ps, cA Z (gA 43) 0 500 Pa, cA Z (gA 44) 0 500 Pt, cA Z (gA 56) 0 4096 He] s.heap.size)) Z A 9 0 0 2 [(2, .int (iI h1)), (0, .ref g0), (1, .int (iI rm))] [] [(g0, .inr (12, mO gA nr tm at_ to_ fa va np tn pc_ st_ pa_ ta ow of_ ot rl hb bs se)), cA Z (gA 36) 0 6 Ob, cA Z (gA 27) 0 4 Pq, cA Z (gA 28) 0 4 Pd, cA Z (gA 29) 0 4 Pl, cA Z (gA 42) 0 500 Ps, cA Z (gA 43) 0 500 Pa, cA Z (gA 44) 0 500 Pt, cA Z (gA 56) 0 4096 He1] := by
    intro fuel
    induction fuel with
    | zero => intro h1 He1 _ _ hm; exact absurd hm (Nat.not_lt_zero _)
    | succ fuel ih =>
      intro h1 He1 b_h1 h_He1 hm
      refine g_iload_n (pc := 2) X 0 rfl dX12_fewest_2 ?_
      refine g_iconst (pc := 3) X (iI 1) (by rfl) dX12_fewest_3 ?_
      refine g_aload_n (pc := 4) X 1 rfl dX12_fewest_4 ?_
      refine g_get (pc := 5) X inlX12 0 rfl rfl 47 (by decide) mw_28_4 rfl dX12_fewest_5 ?_
      refine g_shl1 (pc := 8) X (by (first | (clear b_rm b_nr b_tm b_at_ b_to_ b_fa b_va b_np b_tn b_pc_ b_st_ b_ta b_ow b_of_ b_ot b_rl b_hb b_bs b_se; omega) | omega)) (by (first | (clear b_rm b_nr b_tm b_at_ b_to_ b_fa b_va b_np b_tn b_pc_ b_st_ b_ta b_ow b_of_ b_ot b_rl b_hb b_bs b_se; omega) | omega)) dX12_fewest_8 (fun y1 ey1 => ?_)
      have by1 : 1 ≤ y1 ∧ y1 ≤ 4096 := pow2B 12 (by decide) (by (first | (clear b_rm b_nr b_tm b_at_ b_to_ b_fa b_va b_np b_tn b_pc_ b_st_ b_ta b_ow b_of_ b_ot b_rl b_hb b_bs b_se; omega) | omega)) (by (first | (clear b_rm b_nr b_tm b_at_ b_to_ b_fa b_va b_np b_tn b_pc_ b_st_ b_ta b_ow b_of_ b_ot b_rl b_hb b_bs b_se; omega) | omega)) ey1
      refine g_icmp_geI (pc := 9) X 35 (by decide) (inRb b_h1 (by decide) (by decide)) ⟨by (first | (clear b_rm b_nr b_tm b_at_ b_to_ b_fa b_va b_np b_tn b_pc_ b_st_ b_ta b_ow b_of_ b_ot b_rl b_hb b_bs b_se; omega) | omega), by (first | (clear b_rm b_nr b_tm b_at_ b_to_ b_fa b_va b_np b_tn b_pc_ b_st_ b_ta b_ow b_of_ b_ot b_rl b_hb b_bs b_se; omega) | omega)⟩ dX12_fewest_9 (fun c9 => ?_) (fun c9 => ?_)
      · refine g_iconst (pc := 35) X (iI 0) (by rfl) dX12_fewest_35 ?_
        refine g_istore_n (pc := 36) X (i := 2) rfl (by decide) (lv' := [(2, .int (iI 0)), (0, .ref g0), (1, .int (iI rm))]) rfl dX12_fewest_36 ?_
        have loop37 : ∀ (fuel : Nat) (h2 : Int) (He3 : Nat → Int), (0 ≤ h2 ∧ h2 ≤ 4096) → (∀ j, j < 4096 → (-2147483648) ≤ He3 j ∧ He3 j ≤ 2147483647) → (4097 - h2).toNat < fuel → Gs p l e ({ frames := 2, cells := 0, slots := 0, locals := 45 } : Room) s m args below meth c (MQ below (gPost Z [(g0, .inr (12, mO gA nr tm at_ to_ fa va np tn pc_ st_ pa_ ta ow of_ ot rl hb bs se)), cA Z (gA 36) 0 6 Ob, cA Z (gA 27) 0 4 Pq, cA Z (gA 28) 0 4 Pd, cA Z (gA 29) 0 4 Pl, cA Z (gA 42) 0 500 Ps, cA Z (gA 43) 0 500 Pa, cA Z (gA 44) 0 500 Pt, cA Z (gA 56) 0 4096 He] s.heap.size (fun r w' => ∃ (He2 : Nat → Int) (y : Int), (r = some (.int (iI y))) ∧ (w' = [(g0, .inr (12, mO gA nr tm at_ to_ fa va np tn pc_ st_ pa_ ta ow of_ ot rl hb bs se)), cA Z (gA 36) 0 6 Ob, cA Z (gA 27) 0 4 Pq, cA Z (gA 28) 0 4 Pd, cA Z (gA 29) 0 4 Pl, cA Z (gA 42) 0 500 Ps, cA Z (gA 43) 0 500 Pa, cA Z (gA 44) 0 500 Pt, cA Z (gA 56) 0 4096 He2]) ∧ ((-2147483648) ≤ y ∧ y ≤ 2147483647) ∧ (∀ j, j < 4096 → (-2147483648) ≤ He2 j ∧ He2 j ≤ 2147483647))) args s 0 0 (va_A [(g0, .inr (12, mO gA nr tm at_ to_ fa va np tn pc_ st_ pa_ ta ow of_ ot rl hb bs se)), cA Z (gA 36) 0 6 Ob, cA Z (gA 27) 0 4 Pq, cA Z (gA 28) 0 4 Pd, cA Z (gA 29) 0 4 Pl, cA Z (gA 42) 0 500 Ps, cA Z (gA 43) 0 500 Pa, cA Z (gA 44) 0 500 Pt, cA Z (gA 56) 0 4096 He] s.heap.size)) Z A 9 0 0 37 [(2, .int (iI h2)), (0, .ref g0), (1, .int (iI rm))] [] [(g0, .inr (12, mO gA nr tm at_ to_ fa va np tn pc_ st_ pa_ ta ow of_ ot rl hb bs se)), cA Z (gA 36) 0 6 Ob, cA Z (gA 27) 0 4 Pq, cA Z (gA 28) 0 4 Pd, cA Z (gA 29) 0 4 Pl, cA Z (gA 42) 0 500 Ps, cA Z (gA 43) 0 500 Pa, cA Z (gA 44) 0 500 Pt, cA Z (gA 56) 0 4096 He3] := by
          intro fuel
          induction fuel with
          | zero => intro h2 He3 _ _ hm; exact absurd hm (Nat.not_lt_zero _)
          | succ fuel ih =>
            intro h2 He3 b_h2 h_He3 hm
            refine g_iload_n (pc := 37) X 0 rfl dX12_fewest_37 ?_
            refine g_iconst (pc := 38) X (iI 1) (by rfl) dX12_fewest_38 ?_
            refine g_aload_n (pc := 39) X 1 rfl dX12_fewest_39 ?_
            refine g_get (pc := 40) X inlX12 0 rfl rfl 47 (by decide) mw_28_4 rfl dX12_fewest_40 ?_
            refine g_shl1 (pc := 43) X (by (first | (clear b_rm b_nr b_tm b_at_ b_to_ b_fa b_va b_np b_tn b_pc_ b_st_ b_ta b_ow b_of_ b_ot b_rl b_hb b_bs b_se; omega) | omega)) (by (first | (clear b_rm b_nr b_tm b_at_ b_to_ b_fa b_va b_np b_tn b_pc_ b_st_ b_ta b_ow b_of_ b_ot b_rl b_hb b_bs b_se; omega) | omega)) dX12_fewest_43 (fun y2 ey2 => ?_)
            have by2 : 1 ≤ y2 ∧ y2 ≤ 4096 := pow2B 12 (by decide) (by (first | (clear b_rm b_nr b_tm b_at_ b_to_ b_fa b_va b_np b_tn b_pc_ b_st_ b_ta b_ow b_of_ b_ot b_rl b_hb b_bs b_se; omega) | omega)) (by (first | (clear b_rm b_nr b_tm b_at_ b_to_ b_fa b_va b_np b_tn b_pc_ b_st_ b_ta b_ow b_of_ b_ot b_rl b_hb b_bs b_se; omega) | omega)) ey2
            refine g_icmp_geI (pc := 44) X 251 (by decide) (inRb b_h2 (by decide) (by decide)) ⟨by (first | (clear b_rm b_nr b_tm b_at_ b_to_ b_fa b_va b_np b_tn b_pc_ b_st_ b_ta b_ow b_of_ b_ot b_rl b_hb b_bs b_se; omega) | omega), by (first | (clear b_rm b_nr b_tm b_at_ b_to_ b_fa b_va b_np b_tn b_pc_ b_st_ b_ta b_ow b_of_ b_ot b_rl b_hb b_bs b_se; omega) | omega)⟩ dX12_fewest_44 (fun c44 => ?_) (fun c44 => ?_)
            · refine g_aload_n (pc := 251) X 1 rfl dX12_fewest_251 ?_
              refine g_get (pc := 252) X inlX12 0 rfl rfl 47 (by decide) mw_28_4 rfl dX12_fewest_252 ?_
              refine g_if_neI (pc := 255) X 262 (by decide) (inRb b_pc_ (by decide) (by decide)) dX12_fewest_255 (fun c255 => ?_) (fun c255 => ?_)
              · refine g_aload_n (pc := 262) X 1 rfl dX12_fewest_262 ?_
                refine g_get (pc := 263) X inlX12 0 rfl rfl 56 (by decide) mw_9_7 rfl dX12_fewest_263 ?_
                refine g_iconst (pc := 266) X (iI 1) (by rfl) dX12_fewest_266 ?_
                refine g_aload_n (pc := 267) X 1 rfl dX12_fewest_267 ?_
                refine g_get (pc := 268) X inlX12 0 rfl rfl 47 (by decide) mw_28_4 rfl dX12_fewest_268 ?_
                refine g_shl1 (pc := 271) X (by (first | (clear b_rm b_nr b_tm b_at_ b_to_ b_fa b_va b_np b_tn b_pc_ b_st_ b_ta b_ow b_of_ b_ot b_rl b_hb b_bs b_se; omega) | omega)) (by (first | (clear b_rm b_nr b_tm b_at_ b_to_ b_fa b_va b_np b_tn b_pc_ b_st_ b_ta b_ow b_of_ b_ot b_rl b_hb b_bs b_se; omega) | omega)) dX12_fewest_271 (fun y3 ey3 => ?_)
                have by3 : 1 ≤ y3 ∧ y3 ≤ 4096 := pow2B 12 (by decide) (by (first | (clear b_rm b_nr b_tm b_at_ b_to_ b_fa b_va b_np b_tn b_pc_ b_st_ b_ta b_ow b_of_ b_ot b_rl b_hb b_bs b_se; omega) | omega)) (by (first | (clear b_rm b_nr b_tm b_at_ b_to_ b_fa b_va b_np b_tn b_pc_ b_st_ b_ta b_ow b_of_ b_ot b_rl b_hb b_bs b_se; omega) | omega)) ey3
                refine g_iconst (pc := 272) X (iI 1) (by rfl) dX12_fewest_272 ?_
                refine g_isubI (pc := 273) X dX12_fewest_273 ?_
                refine g_ialdI (pc := 274) X 8 rfl (by (first | (clear b_rm b_nr b_tm b_at_ b_to_ b_fa b_va b_np b_tn b_pc_ b_st_ b_ta b_ow b_of_ b_ot b_rl b_hb b_bs b_se; omega) | omega)) (by (first | (clear b_rm b_nr b_tm b_at_ b_to_ b_fa b_va b_np b_tn b_pc_ b_st_ b_ta b_ow b_of_ b_ot b_rl b_hb b_bs b_se; omega) | omega)) (by (first | (clear b_rm b_nr b_tm b_at_ b_to_ b_fa b_va b_np b_tn b_pc_ b_st_ b_ta b_ow b_of_ b_ot b_rl b_hb b_bs b_se; omega) | omega)) dX12_fewest_274 ?_
                refine g_nameI (fun y4 ey4 => ?_)
                have by4 : (-2147483648) ≤ y4 ∧ y4 ≤ 2147483647 := by rw [ey4]; exact h_He3 _ (by (first | (clear b_rm b_nr b_tm b_at_ b_to_ b_fa b_va b_np b_tn b_pc_ b_st_ b_ta b_ow b_of_ b_ot b_rl b_hb b_bs b_se; omega) | omega))
                refine g_sipush (pc := 275) X (iI 10000) (by decide) dX12_fewest_275 ?_
                refine g_idivI (pc := 278) X by4 ⟨by decide, by decide⟩ (by decide) (by decide) dX12_fewest_278 ?_
                refine g_any (fun y5 by5 => ?_)
                exact g_iret (pc := 279) X hA (⟨He3, y5, rfl, rfl, (by5), (h_He3)⟩) (by decide) (by decide) dX12_fewest_279
              · refine g_iconst (pc := 258) X (iI 0) (by rfl) dX12_fewest_258 ?_
                refine g_goto (pc := 259) X 279 (by decide) dX12_fewest_259 ?_
                exact g_iret (pc := 279) X hA (⟨He3, 0, rfl, rfl, (by (first | (clear b_rm b_nr b_tm b_at_ b_to_ b_fa b_va b_np b_tn b_pc_ b_st_ b_ta b_ow b_of_ b_ot b_rl b_hb b_bs b_se; omega) | omega)), (h_He3)⟩) (by decide) (by decide) dX12_fewest_279
            · refine g_aload_n (pc := 47) X 1 rfl dX12_fewest_47 ?_
              refine g_get (pc := 48) X inlX12 0 rfl rfl 56 (by decide) mw_9_7 rfl dX12_fewest_48 ?_
              refine g_iload_n (pc := 51) X 0 rfl dX12_fewest_51 ?_
              refine g_ialdI (pc := 52) X 8 rfl (b_h2.1) (by (first | (clear b_rm b_nr b_tm b_at_ b_to_ b_fa b_va b_np b_tn b_pc_ b_st_ b_ta b_ow b_of_ b_ot b_rl b_hb b_bs b_se; omega) | omega)) (Int.le_trans b_h2.2 (by decide)) dX12_fewest_52 ?_
              refine g_nameI (fun y6 ey6 => ?_)
              have by6 : (-2147483648) ≤ y6 ∧ y6 ≤ 2147483647 := by rw [ey6]; exact h_He3 _ (by (first | (clear b_rm b_nr b_tm b_at_ b_to_ b_fa b_va b_np b_tn b_pc_ b_st_ b_ta b_ow b_of_ b_ot b_rl b_hb b_bs b_se; omega) | omega))
              refine g_iconst (pc := 53) X (iI (-1)) (by rfl) dX12_fewest_53 ?_
              refine g_icmp_neI (pc := 54) X 60 (by decide) by6 ⟨by decide, by decide⟩ dX12_fewest_54 (fun c54 => ?_) (fun c54 => ?_)
              · refine g_iconst (pc := 60) X (iI 0) (by rfl) dX12_fewest_60 ?_
                refine g_istore_n (pc := 61) X (i := 3) rfl (by decide) (lv' := [(3, .int (iI 0)), (2, .int (iI h2)), (0, .ref g0), (1, .int (iI rm))]) rfl dX12_fewest_61 ?_
                have loop62 : ∀ (fuel : Nat) (k3 : Int) (He4 : Nat → Int), (0 ≤ k3 ∧ k3 ≤ 12) → (∀ j, j < 4096 → (-2147483648) ≤ He4 j ∧ He4 j ≤ 2147483647) → (13 - k3).toNat < fuel → Gs p l e ({ frames := 2, cells := 0, slots := 0, locals := 45 } : Room) s m args below meth c (MQ below (gPost Z [(g0, .inr (12, mO gA nr tm at_ to_ fa va np tn pc_ st_ pa_ ta ow of_ ot rl hb bs se)), cA Z (gA 36) 0 6 Ob, cA Z (gA 27) 0 4 Pq, cA Z (gA 28) 0 4 Pd, cA Z (gA 29) 0 4 Pl, cA Z (gA 42) 0 500 Ps, cA Z (gA 43) 0 500 Pa, cA Z (gA 44) 0 500 Pt, cA Z (gA 56) 0 4096 He] s.heap.size (fun r w' => ∃ (He2 : Nat → Int) (y : Int), (r = some (.int (iI y))) ∧ (w' = [(g0, .inr (12, mO gA nr tm at_ to_ fa va np tn pc_ st_ pa_ ta ow of_ ot rl hb bs se)), cA Z (gA 36) 0 6 Ob, cA Z (gA 27) 0 4 Pq, cA Z (gA 28) 0 4 Pd, cA Z (gA 29) 0 4 Pl, cA Z (gA 42) 0 500 Ps, cA Z (gA 43) 0 500 Pa, cA Z (gA 44) 0 500 Pt, cA Z (gA 56) 0 4096 He2]) ∧ ((-2147483648) ≤ y ∧ y ≤ 2147483647) ∧ (∀ j, j < 4096 → (-2147483648) ≤ He2 j ∧ He2 j ≤ 2147483647))) args s 0 0 (va_A [(g0, .inr (12, mO gA nr tm at_ to_ fa va np tn pc_ st_ pa_ ta ow of_ ot rl hb bs se)), cA Z (gA 36) 0 6 Ob, cA Z (gA 27) 0 4 Pq, cA Z (gA 28) 0 4 Pd, cA Z (gA 29) 0 4 Pl, cA Z (gA 42) 0 500 Ps, cA Z (gA 43) 0 500 Pa, cA Z (gA 44) 0 500 Pt, cA Z (gA 56) 0 4096 He] s.heap.size)) Z A 9 0 0 62 [(3, .int (iI k3)), (2, .int (iI h2)), (0, .ref g0), (1, .int (iI rm))] [] [(g0, .inr (12, mO gA nr tm at_ to_ fa va np tn pc_ st_ pa_ ta ow of_ ot rl hb bs se)), cA Z (gA 36) 0 6 Ob, cA Z (gA 27) 0 4 Pq, cA Z (gA 28) 0 4 Pd, cA Z (gA 29) 0 4 Pl, cA Z (gA 42) 0 500 Ps, cA Z (gA 43) 0 500 Pa, cA Z (gA 44) 0 500 Pt, cA Z (gA 56) 0 4096 He4] := by
                  intro fuel
                  induction fuel with
                  | zero => intro k3 He4 _ _ hm; exact absurd hm (Nat.not_lt_zero _)
                  | succ fuel62 ih62 =>
                    intro k3 He4 b_k3 h_He4 hm62
                    refine g_iload_n (pc := 62) X 0 rfl dX12_fewest_62 ?_
                    refine g_aload_n (pc := 63) X 2 rfl dX12_fewest_63 ?_
                    refine g_get (pc := 64) X inlX12 0 rfl rfl 47 (by decide) mw_28_4 rfl dX12_fewest_64 ?_
                    refine g_icmp_geI (pc := 67) X 245 (by decide) (inRb b_k3 (by decide) (by decide)) (inRb b_pc_ (by decide) (by decide)) dX12_fewest_67 (fun c67 => ?_) (fun c67 => ?_)
                    · refine g_iincI (pc := 245) X 1 rfl (by decide) (lv' := [(2, .int (iI (h2 + 1))), (3, .int (iI k3)), (0, .ref g0), (1, .int (iI rm))]) rfl dX12_fewest_245 ?_
                      refine g_goto (pc := 248) X 37 (by decide) dX12_fewest_248 ?_
                      refine g_lv (lv' := [(2, .int (iI (h2 + 1))), (0, .ref g0), (1, .int (iI rm))]) [0, 2, 3] rfl ?_
                      exact ih (h2 + 1) He4 (by (first | (clear b_rm b_nr b_tm b_at_ b_to_ b_fa b_va b_np b_tn b_pc_ b_st_ b_ta b_ow b_of_ b_ot b_rl b_hb b_bs b_se; omega) | omega)) (h_He4) (by (first | (clear b_rm b_nr b_tm b_at_ b_to_ b_fa b_va b_np b_tn b_pc_ b_st_ b_ta b_ow b_of_ b_ot b_rl b_hb b_bs b_se; omega) | omega))
                    · refine g_iload_n (pc := 70) X 1 rfl dX12_fewest_70 ?_
                      refine g_iload_n (pc := 71) X 0 rfl dX12_fewest_71 ?_
                      refine g_ishr (pc := 72) X dX12_fewest_72 ?_
                      refine g_any (fun y7 by7 => ?_)
                      refine g_iconst (pc := 73) X (iI 1) (by rfl) dX12_fewest_73 ?_
                      refine g_iandM (pc := 74) X 1 (by decide) (by decide) (by decide) dX12_fewest_74 (fun y8 by8 => ?_)
                      refine g_iconst (pc := 75) X (iI 1) (by rfl) dX12_fewest_75 ?_
                      refine g_icmp_neI (pc := 76) X 82 (by decide) (inRb by8 (by decide) (by decide)) ⟨by decide, by decide⟩ dX12_fewest_76 (fun c76 => ?_) (fun c76 => ?_)
                      · refine g_aload_n (pc := 82) X 2 rfl dX12_fewest_82 ?_
                        refine g_iload_n (pc := 83) X 3 rfl dX12_fewest_83 ?_
                        refine g_iload_n (pc := 84) X 0 rfl dX12_fewest_84 ?_
                        refine g_callV (pc := 85) X (k_X12_phaseOf l Z g0 gA Ob Pq Pd Ps Pa rm k3 nr tm at_ to_ fa va np tn pc_ st_ pa_ ta ow of_ ot rl hb bs se b_rm (by (first | (clear b_rm b_nr b_tm b_at_ b_to_ b_fa b_va b_np b_tn b_pc_ b_st_ b_ta b_ow b_of_ b_ot b_rl b_hb b_bs b_se; omega) | omega)) b_nr b_tm b_at_ b_to_ b_fa b_va b_np b_tn (by (first | (clear b_rm b_nr b_tm b_at_ b_to_ b_fa b_va b_np b_tn b_pc_ b_st_ b_ta b_ow b_of_ b_ot b_rl b_hb b_bs b_se; omega) | omega)) b_st_ b_pa_ b_ta b_ow b_of_ b_ot b_rl b_hb b_bs b_se (by (first | (clear b_rm b_nr b_tm b_at_ b_to_ b_fa b_va b_np b_tn b_pc_ b_st_ b_ta b_ow b_of_ b_ot b_rl b_hb b_bs b_se; omega) | omega)) (h_Ob) (h_Pq) (h_Pd) (h_Ps) (h_Pa)) iM_X12_phaseOf mw_36_0 mw_36_1 mw_36_2 0 rfl rfl [0, 1, 2, 3, 5, 6] [4, 7, 8] rfl (wr := [cA Z (gA 29) 0 4 Pl, cA Z (gA 44) 0 500 Pt, cA Z (gA 56) 0 4096 He4]) rfl (by decide) rfl rfl (Nat.le_of_ble_eq_true rfl) (by decide) dX12_fewest_85 (fun r w' hpo => ?_)
                        refine exN_1 hpo fun y9 hz => anD_3 hz fun e_r e_w hf85_b_y => ?_; clear hz hpo; subst e_r; subst e_w
                        refine g_as (pc' := 88) (lv' := [(3, .int (iI k3)), (2, .int (iI h2)), (0, .ref g0), (1, .int (iI rm))]) (st' := [.int (iI y9)]) (ws' := [cA Z (gA 29) 0 4 Pl, cA Z (gA 44) 0 500 Pt, cA Z (gA 56) 0 4096 He4, (g0, .inr (12, mO gA nr tm at_ to_ fa va np tn pc_ st_ pa_ ta ow of_ ot rl hb bs se)), cA Z (gA 36) 0 6 Ob, cA Z (gA 27) 0 4 Pq, cA Z (gA 28) 0 4 Pd, cA Z (gA 42) 0 500 Ps, cA Z (gA 43) 0 500 Pa]) rfl rfl rfl rfl ?_
                        refine g_istore (pc := 88) X (by decide) (lv' := [(4, .int (iI y9)), (3, .int (iI k3)), (2, .int (iI h2)), (0, .ref g0), (1, .int (iI rm))]) rfl dX12_fewest_88 ?_
                        refine g_aload_n (pc := 90) X 3 rfl dX12_fewest_90 ?_
                        refine g_aload_n (pc := 91) X 3 rfl dX12_fewest_91 ?_
                        refine g_get (pc := 92) X inlX12 3 rfl rfl 56 (by decide) mw_9_7 rfl dX12_fewest_92 ?_
                        refine g_iload_n (pc := 95) X 2 rfl dX12_fewest_95 ?_
                        refine g_ialdI (pc := 96) X 2 rfl (b_h2.1) (by (first | (clear b_rm b_nr b_tm b_at_ b_to_ b_fa b_va b_np b_tn b_pc_ b_st_ b_ta b_ow b_of_ b_ot b_rl b_hb b_bs b_se; omega) | omega)) (Int.le_trans b_h2.2 (by decide)) dX12_fewest_96 ?_
                        refine g_nameI (fun y11 ey11 => ?_)
                        have by11 : (-2147483648) ≤ y11 ∧ y11 ≤ 2147483647 := by rw [ey11]; exact h_He4 _ (by (first | (clear b_rm b_nr b_tm b_at_ b_to_ b_fa b_va b_np b_tn b_pc_ b_st_ b_ta b_ow b_of_ b_ot b_rl b_hb b_bs b_se; omega) | omega))
                        refine g_sipush (pc := 97) X (iI 10000) (by decide) dX12_fewest_97 ?_
                        refine g_iremI (pc := 100) X by11 ⟨by decide, by decide⟩ (by decide) (by decide) dX12_fewest_100 ?_
                        refine g_any (fun y12 by12 => ?_)
                        refine g_iload (pc := 101) X 0 rfl dX12_fewest_101 ?_
                        refine g_callV (pc := 103) X (k_X12_placeIn l Z g0 gA Pq Pd y12 y9 nr tm at_ to_ fa va np tn pc_ st_ pa_ ta ow of_ ot rl hb bs se by12 hf85_b_y b_nr b_tm b_at_ b_to_ b_fa b_va b_np b_tn (by (first | (clear b_rm b_nr b_tm b_at_ b_to_ b_fa b_va b_np b_tn b_pc_ b_st_ b_ta b_ow b_of_ b_ot b_rl b_hb b_bs b_se; omega) | omega)) b_st_ b_pa_ b_ta b_ow b_of_ b_ot b_rl b_hb b_bs b_se (by (first | (clear b_rm b_nr b_tm b_at_ b_to_ b_fa b_va b_np b_tn b_pc_ b_st_ b_ta b_ow b_of_ b_ot b_rl b_hb b_bs b_se; omega) | omega)) (h_Pq) (h_Pd)) iM_X12_placeIn mw_36_7 mw_36_8 mw_36_9 3 rfl rfl [3, 5, 6] [0, 1, 2, 4, 7, 8] rfl (wr := [cA Z (gA 29) 0 4 Pl, cA Z (gA 44) 0 500 Pt, cA Z (gA 56) 0 4096 He4, cA Z (gA 36) 0 6 Ob, cA Z (gA 42) 0 500 Ps, cA Z (gA 43) 0 500 Pa]) rfl (by decide) rfl rfl (Nat.le_of_ble_eq_true rfl) (by decide) dX12_fewest_103 (fun r w' hpo => ?_)
                        refine exN_1 hpo fun y13 hz => anD_3 hz fun e_r e_w hf103_b_y => ?_; clear hz hpo; subst e_r; subst e_w
                        refine g_as (pc' := 106) (lv' := [(4, .int (iI y9)), (3, .int (iI k3)), (2, .int (iI h2)), (0, .ref g0), (1, .int (iI rm))]) (st' := [.int (iI y13)]) (ws' := [cA Z (gA 29) 0 4 Pl, cA Z (gA 44) 0 500 Pt, cA Z (gA 56) 0 4096 He4, cA Z (gA 36) 0 6 Ob, cA Z (gA 42) 0 500 Ps, cA Z (gA 43) 0 500 Pa, (g0, .inr (12, mO gA nr tm at_ to_ fa va np tn pc_ st_ pa_ ta ow of_ ot rl hb bs se)), cA Z (gA 27) 0 4 Pq, cA Z (gA 28) 0 4 Pd]) rfl rfl rfl rfl ?_
                        refine g_istore (pc := 106) X (by decide) (lv' := [(5, .int (iI y13)), (4, .int (iI y9)), (3, .int (iI k3)), (2, .int (iI h2)), (0, .ref g0), (1, .int (iI rm))]) rfl dX12_fewest_106 ?_
                        refine g_iload (pc := 108) X 0 rfl dX12_fewest_108 ?_
                        refine g_aload_n (pc := 110) X 4 rfl dX12_fewest_110 ?_
                        refine g_iload_n (pc := 111) X 2 rfl dX12_fewest_111 ?_
                        refine g_callV (pc := 112) X (k_X12_longOf l Z g0 gA Pa Pt k3 nr tm at_ to_ fa va np tn pc_ st_ pa_ ta ow of_ ot rl hb bs se (by (first | (clear b_rm b_nr b_tm b_at_ b_to_ b_fa b_va b_np b_tn b_pc_ b_st_ b_ta b_ow b_of_ b_ot b_rl b_hb b_bs b_se; omega) | omega)) b_nr b_tm b_at_ b_to_ b_fa b_va b_np b_tn (by (first | (clear b_rm b_nr b_tm b_at_ b_to_ b_fa b_va b_np b_tn b_pc_ b_st_ b_ta b_ow b_of_ b_ot b_rl b_hb b_bs b_se; omega) | omega)) b_st_ (by (first | (clear b_rm b_nr b_tm b_at_ b_to_ b_fa b_va b_np b_tn b_pc_ b_st_ b_ta b_ow b_of_ b_ot b_rl b_hb b_bs b_se; omega) | omega)) b_ta b_ow b_of_ b_ot b_rl b_hb b_bs b_se (h_Pa) (h_Pt)) iM_X12_longOf mw_36_11 mw_36_12 mw_36_13 6 rfl rfl [6, 5, 1] [0, 2, 3, 4, 7, 8] rfl (wr := [cA Z (gA 29) 0 4 Pl, cA Z (gA 56) 0 4096 He4, cA Z (gA 36) 0 6 Ob, cA Z (gA 42) 0 500 Ps, cA Z (gA 27) 0 4 Pq, cA Z (gA 28) 0 4 Pd]) rfl (by decide) rfl rfl (Nat.le_of_ble_eq_true rfl) (by decide) dX12_fewest_112 (fun r w' hpo => ?_)
                        refine exN_1 hpo fun y15 hz => anD_3 hz fun e_r e_w hf112_b_y => ?_; clear hz hpo; subst e_r; subst e_w
                        refine g_as (pc' := 115) (lv' := [(5, .int (iI y13)), (4, .int (iI y9)), (3, .int (iI k3)), (2, .int (iI h2)), (0, .ref g0), (1, .int (iI rm))]) (st' := [.int (iI y15), .int (iI y13)]) (ws' := [cA Z (gA 29) 0 4 Pl, cA Z (gA 56) 0 4096 He4, cA Z (gA 36) 0 6 Ob, cA Z (gA 42) 0 500 Ps, cA Z (gA 27) 0 4 Pq, cA Z (gA 28) 0 4 Pd, (g0, .inr (12, mO gA nr tm at_ to_ fa va np tn pc_ st_ pa_ ta ow of_ ot rl hb bs se)), cA Z (gA 43) 0 500 Pa, cA Z (gA 44) 0 500 Pt]) rfl rfl rfl rfl ?_
                        refine g_iaddI (pc := 115) X dX12_fewest_115 ?_
                        refine g_any (fun y17 by17 => ?_)
                        refine g_aload_n (pc := 116) X 4 rfl dX12_fewest_116 ?_
                        refine g_get (pc := 117) X inlX12 6 rfl rfl 29 (by decide) mw_8_13 rfl dX12_fewest_117 ?_
                        refine g_aload_n (pc := 120) X 4 rfl dX12_fewest_120 ?_
                        refine g_get (pc := 121) X inlX12 6 rfl rfl 49 (by decide) mw_28_2 rfl dX12_fewest_121 ?_
                        refine g_ialdI (pc := 124) X 0 rfl (b_pa_.1) (Int.lt_of_le_of_lt b_pa_.2 (by decide)) (Int.le_trans b_pa_.2 (by decide)) dX12_fewest_124 ?_
                        refine g_nameI (fun y18 ey18 => ?_)
                        have by18 : 0 ≤ y18 ∧ y18 ≤ 2000 := by rw [ey18]; exact h_Pl _ (by (first | (clear b_rm b_nr b_tm b_at_ b_to_ b_fa b_va b_np b_tn b_pc_ b_st_ b_ta b_ow b_of_ b_ot b_rl b_hb b_bs b_se; omega) | omega))
                        refine g_icmp_gtI (pc := 125) X 132 (by decide) by17 (inRb by18 (by decide) (by decide)) dX12_fewest_125 (fun c125 => ?_) (fun c125 => ?_)
                        · refine g_iconst (pc := 132) X (iI 0) (by rfl) dX12_fewest_132 ?_
                          refine g_istore (pc := 133) X (by decide) (lv' := [(6, .int (iI 0)), (5, .int (iI y13)), (4, .int (iI y9)), (3, .int (iI k3)), (2, .int (iI h2)), (0, .ref g0), (1, .int (iI rm))]) rfl dX12_fewest_133 ?_
                          refine g_iload (pc := 135) X 0 rfl dX12_fewest_135 ?_
                          refine g_if_eqI (pc := 137) X 166 (by decide) ⟨by decide, by decide⟩ dX12_fewest_137 (fun _ => ?_) (fun h => absurd h (by decide))
                          refine g_aload_n (pc := 166) X 5 rfl dX12_fewest_166 ?_
                          refine g_get (pc := 167) X inlX12 6 rfl rfl 56 (by decide) mw_9_7 rfl dX12_fewest_167 ?_
                          refine g_iload_n (pc := 170) X 4 rfl dX12_fewest_170 ?_
                          refine g_ialdI (pc := 171) X 1 rfl (b_h2.1) (by (first | (clear b_rm b_nr b_tm b_at_ b_to_ b_fa b_va b_np b_tn b_pc_ b_st_ b_ta b_ow b_of_ b_ot b_rl b_hb b_bs b_se; omega) | omega)) (Int.le_trans b_h2.2 (by decide)) dX12_fewest_171 ?_
                          refine g_nameI (fun y19 ey19 => ?_)
                          have by19 : (-2147483648) ≤ y19 ∧ y19 ≤ 2147483647 := by rw [ey19]; exact h_He4 _ (by (first | (clear b_rm b_nr b_tm b_at_ b_to_ b_fa b_va b_np b_tn b_pc_ b_st_ b_ta b_ow b_of_ b_ot b_rl b_hb b_bs b_se; omega) | omega))
                          refine g_sipush (pc := 172) X (iI 10000) (by decide) dX12_fewest_172 ?_
                          refine g_idivI (pc := 175) X by19 ⟨by decide, by decide⟩ (by decide) (by decide) dX12_fewest_175 ?_
                          refine g_any (fun y20 by20 => ?_)
                          refine g_sipush (pc := 176) X (iI 10000) (by decide) dX12_fewest_176 ?_
                          refine g_imulI (pc := 179) X dX12_fewest_179 ?_
                          refine g_any (fun y21 by21 => ?_)
                          refine g_sipush (pc := 180) X (iI 10000) (by decide) dX12_fewest_180 ?_
                          refine g_iaddI (pc := 183) X dX12_fewest_183 ?_
                          refine g_any (fun y22 by22 => ?_)
                          refine g_aload_n (pc := 184) X 5 rfl dX12_fewest_184 ?_
                          refine g_iconst (pc := 185) X (iI 0) (by rfl) dX12_fewest_185 ?_
                          refine g_iload (pc := 186) X 2 rfl dX12_fewest_186 ?_
                          refine g_callV (pc := 188) X (k_X12_placeIn l Z g0 gA Pq Pd 0 y9 nr tm at_ to_ fa va np tn pc_ st_ pa_ ta ow of_ ot rl hb bs se (by decide) hf85_b_y b_nr b_tm b_at_ b_to_ b_fa b_va b_np b_tn (by (first | (clear b_rm b_nr b_tm b_at_ b_to_ b_fa b_va b_np b_tn b_pc_ b_st_ b_ta b_ow b_of_ b_ot b_rl b_hb b_bs b_se; omega) | omega)) b_st_ b_pa_ b_ta b_ow b_of_ b_ot b_rl b_hb b_bs b_se (by (first | (clear b_rm b_nr b_tm b_at_ b_to_ b_fa b_va b_np b_tn b_pc_ b_st_ b_ta b_ow b_of_ b_ot b_rl b_hb b_bs b_se; omega) | omega)) (h_Pq) (h_Pd)) iM_X12_placeIn mw_36_7 mw_36_8 mw_36_9 6 rfl rfl [6, 4, 5] [0, 1, 2, 3, 7, 8] rfl (wr := [cA Z (gA 29) 0 4 Pl, cA Z (gA 56) 0 4096 He4, cA Z (gA 36) 0 6 Ob, cA Z (gA 42) 0 500 Ps, cA Z (gA 43) 0 500 Pa, cA Z (gA 44) 0 500 Pt]) rfl (by decide) rfl rfl (Nat.le_of_ble_eq_true rfl) (by decide) dX12_fewest_188 (fun r w' hpo => ?_)
                          refine exN_1 hpo fun y23 hz => anD_3 hz fun e_r e_w hf188_b_y => ?_; clear hz hpo; subst e_r; subst e_w
                          refine g_as (pc' := 191) (lv' := [(6, .int (iI 0)), (5, .int (iI y13)), (4, .int (iI y9)), (3, .int (iI k3)), (2, .int (iI h2)), (0, .ref g0), (1, .int (iI rm))]) (st' := [.int (iI y23), .int (iI y22)]) (ws' := [cA Z (gA 29) 0 4 Pl, cA Z (gA 56) 0 4096 He4, cA Z (gA 36) 0 6 Ob, cA Z (gA 42) 0 500 Ps, cA Z (gA 43) 0 500 Pa, cA Z (gA 44) 0 500 Pt, (g0, .inr (12, mO gA nr tm at_ to_ fa va np tn pc_ st_ pa_ ta ow of_ ot rl hb bs se)), cA Z (gA 27) 0 4 Pq, cA Z (gA 28) 0 4 Pd]) rfl rfl rfl rfl ?_
                          refine g_iaddI (pc := 191) X dX12_fewest_191 ?_
                          refine g_any (fun y25 by25 => ?_)
                          refine g_aload_n (pc := 192) X 5 rfl dX12_fewest_192 ?_
                          refine g_iload_n (pc := 193) X 3 rfl dX12_fewest_193 ?_
                          refine g_callV (pc := 194) X (k_X12_longOf l Z g0 gA Pa Pt k3 nr tm at_ to_ fa va np tn pc_ st_ pa_ ta ow of_ ot rl hb bs se (by (first | (clear b_rm b_nr b_tm b_at_ b_to_ b_fa b_va b_np b_tn b_pc_ b_st_ b_ta b_ow b_of_ b_ot b_rl b_hb b_bs b_se; omega) | omega)) b_nr b_tm b_at_ b_to_ b_fa b_va b_np b_tn (by (first | (clear b_rm b_nr b_tm b_at_ b_to_ b_fa b_va b_np b_tn b_pc_ b_st_ b_ta b_ow b_of_ b_ot b_rl b_hb b_bs b_se; omega) | omega)) b_st_ (by (first | (clear b_rm b_nr b_tm b_at_ b_to_ b_fa b_va b_np b_tn b_pc_ b_st_ b_ta b_ow b_of_ b_ot b_rl b_hb b_bs b_se; omega) | omega)) b_ta b_ow b_of_ b_ot b_rl b_hb b_bs b_se (h_Pa) (h_Pt)) iM_X12_longOf mw_36_11 mw_36_12 mw_36_13 6 rfl rfl [6, 4, 5] [0, 1, 2, 3, 7, 8] rfl (wr := [cA Z (gA 29) 0 4 Pl, cA Z (gA 56) 0 4096 He4, cA Z (gA 36) 0 6 Ob, cA Z (gA 42) 0 500 Ps, cA Z (gA 27) 0 4 Pq, cA Z (gA 28) 0 4 Pd]) rfl (by decide) rfl rfl (Nat.le_of_ble_eq_true rfl) (by decide) dX12_fewest_194 (fun r w' hpo => ?_)
                          refine exN_1 hpo fun y26 hz => anD_3 hz fun e_r e_w hf194_b_y => ?_; clear hz hpo; subst e_r; subst e_w
                          refine g_as (pc' := 197) (lv' := [(6, .int (iI 0)), (5, .int (iI y13)), (4, .int (iI y9)), (3, .int (iI k3)), (2, .int (iI h2)), (0, .ref g0), (1, .int (iI rm))]) (st' := [.int (iI y26), .int (iI y25)]) (ws' := [cA Z (gA 29) 0 4 Pl, cA Z (gA 56) 0 4096 He4, cA Z (gA 36) 0 6 Ob, cA Z (gA 42) 0 500 Ps, cA Z (gA 27) 0 4 Pq, cA Z (gA 28) 0 4 Pd, (g0, .inr (12, mO gA nr tm at_ to_ fa va np tn pc_ st_ pa_ ta ow of_ ot rl hb bs se)), cA Z (gA 43) 0 500 Pa, cA Z (gA 44) 0 500 Pt]) rfl rfl rfl rfl ?_
                          refine g_iaddI (pc := 197) X dX12_fewest_197 ?_
                          refine g_any (fun y28 by28 => ?_)
                          refine g_istore (pc := 198) X (by decide) (lv' := [(7, .int (iI y28)), (6, .int (iI 0)), (5, .int (iI y13)), (4, .int (iI y9)), (3, .int (iI k3)), (2, .int (iI h2)), (0, .ref g0), (1, .int (iI rm))]) rfl dX12_fewest_198 ?_
                          refine g_iload_n (pc := 200) X 5 rfl dX12_fewest_200 ?_
                          refine g_iconst (pc := 201) X (iI 1) (by rfl) dX12_fewest_201 ?_
                          refine g_iload_n (pc := 202) X 4 rfl dX12_fewest_202 ?_
                          refine g_shl1 (pc := 203) X (by (first | (clear b_rm b_nr b_tm b_at_ b_to_ b_fa b_va b_np b_tn b_pc_ b_st_ b_ta b_ow b_of_ b_ot b_rl b_hb b_bs b_se; omega) | omega)) (by (first | (clear b_rm b_nr b_tm b_at_ b_to_ b_fa b_va b_np b_tn b_pc_ b_st_ b_ta b_ow b_of_ b_ot b_rl b_hb b_bs b_se; omega) | omega)) dX12_fewest_203 (fun y29 ey29 => ?_)
                          have by29 : 1 ≤ y29 ∧ y29 ≤ 2048 := pow2B 11 (by decide) (by (first | (clear b_rm b_nr b_tm b_at_ b_to_ b_fa b_va b_np b_tn b_pc_ b_st_ b_ta b_ow b_of_ b_ot b_rl b_hb b_bs b_se; omega) | omega)) (by (first | (clear b_rm b_nr b_tm b_at_ b_to_ b_fa b_va b_np b_tn b_pc_ b_st_ b_ta b_ow b_of_ b_ot b_rl b_hb b_bs b_se; omega) | omega)) ey29
                          refine g_iorB (pc := 204) X 12 (by decide) (by (first | (clear b_rm b_nr b_tm b_at_ b_to_ b_fa b_va b_np b_tn b_pc_ b_st_ b_ta b_ow b_of_ b_ot b_rl b_hb b_bs b_se; omega) | omega)) (by (first | (clear b_rm b_nr b_tm b_at_ b_to_ b_fa b_va b_np b_tn b_pc_ b_st_ b_ta b_ow b_of_ b_ot b_rl b_hb b_bs b_se; omega) | omega)) (by (first | (clear b_rm b_nr b_tm b_at_ b_to_ b_fa b_va b_np b_tn b_pc_ b_st_ b_ta b_ow b_of_ b_ot b_rl b_hb b_bs b_se; omega) | omega)) (by (first | (clear b_rm b_nr b_tm b_at_ b_to_ b_fa b_va b_np b_tn b_pc_ b_st_ b_ta b_ow b_of_ b_ot b_rl b_hb b_bs b_se; omega) | omega)) dX12_fewest_204 (fun y30 by30 => ?_)
                          have by30 : 0 ≤ y30 ∧ y30 ≤ 4095 := by have := by30; omega
                          refine g_istore (pc := 205) X (by decide) (lv' := [(8, .int (iI y30)), (7, .int (iI y28)), (6, .int (iI 0)), (5, .int (iI y13)), (4, .int (iI y9)), (3, .int (iI k3)), (2, .int (iI h2)), (0, .ref g0), (1, .int (iI rm))]) rfl dX12_fewest_205 ?_
                          refine g_aload_n (pc := 207) X 7 rfl dX12_fewest_207 ?_
                          refine g_get (pc := 208) X inlX12 6 rfl rfl 56 (by decide) mw_9_7 rfl dX12_fewest_208 ?_
                          refine g_iload (pc := 211) X 0 rfl dX12_fewest_211 ?_
                          refine g_ialdI (pc := 213) X 1 rfl (by (first | (clear b_rm b_nr b_tm b_at_ b_to_ b_fa b_va b_np b_tn b_pc_ b_st_ b_ta b_ow b_of_ b_ot b_rl b_hb b_bs b_se; omega) | omega)) (by (first | (clear b_rm b_nr b_tm b_at_ b_to_ b_fa b_va b_np b_tn b_pc_ b_st_ b_ta b_ow b_of_ b_ot b_rl b_hb b_bs b_se; omega) | omega)) (by (first | (clear b_rm b_nr b_tm b_at_ b_to_ b_fa b_va b_np b_tn b_pc_ b_st_ b_ta b_ow b_of_ b_ot b_rl b_hb b_bs b_se; omega) | omega)) dX12_fewest_213 ?_
                          refine g_nameI (fun y31 ey31 => ?_)
                          have by31 : (-2147483648) ≤ y31 ∧ y31 ≤ 2147483647 := by rw [ey31]; exact h_He4 _ (by (first | (clear b_rm b_nr b_tm b_at_ b_to_ b_fa b_va b_np b_tn b_pc_ b_st_ b_ta b_ow b_of_ b_ot b_rl b_hb b_bs b_se; omega) | omega))
                          refine g_iconst (pc := 214) X (iI (-1)) (by rfl) dX12_fewest_214 ?_
                          refine g_icmp_eqI (pc := 215) X 230 (by decide) by31 ⟨by decide, by decide⟩ dX12_fewest_215 (fun c215 => ?_) (fun c215 => ?_)
                          · refine g_aload_n (pc := 230) X 7 rfl dX12_fewest_230 ?_
                            refine g_get (pc := 231) X inlX12 6 rfl rfl 56 (by decide) mw_9_7 rfl dX12_fewest_231 ?_
                            refine g_iload (pc := 234) X 0 rfl dX12_fewest_234 ?_
                            refine g_iload (pc := 236) X 1 rfl dX12_fewest_236 ?_
                            refine g_iastG (pc := 238) X 1 rfl (by (first | (clear b_rm b_nr b_tm b_at_ b_to_ b_fa b_va b_np b_tn b_pc_ b_st_ b_ta b_ow b_of_ b_ot b_rl b_hb b_bs b_se; omega) | omega)) (by (first | (clear b_rm b_nr b_tm b_at_ b_to_ b_fa b_va b_np b_tn b_pc_ b_st_ b_ta b_ow b_of_ b_ot b_rl b_hb b_bs b_se; omega) | omega)) (by (first | (clear b_rm b_nr b_tm b_at_ b_to_ b_fa b_va b_np b_tn b_pc_ b_st_ b_ta b_ow b_of_ b_ot b_rl b_hb b_bs b_se; omega) | omega)) (ws' := fun F32 => [cA Z (gA 29) 0 4 Pl, cA Z (gA 56) 0 4096 F32, cA Z (gA 36) 0 6 Ob, cA Z (gA 42) 0 500 Ps, cA Z (gA 27) 0 4 Pq, cA Z (gA 28) 0 4 Pd, (g0, .inr (12, mO gA nr tm at_ to_ fa va np tn pc_ st_ pa_ ta ow of_ ot rl hb bs se)), cA Z (gA 43) 0 500 Pa, cA Z (gA 44) 0 500 Pt]) (fun _ => rfl) dX12_fewest_238 (fun F32 eF32 => ?_)
                            have hF32 : ∀ j, j < 4096 → (-2147483648) ≤ F32 j ∧ F32 j ≤ 2147483647 := by rw [eF32]; exact updI_B h_He4 (by (first | (clear b_rm b_nr b_tm b_at_ b_to_ b_fa b_va b_np b_tn b_pc_ b_st_ b_ta b_ow b_of_ b_ot b_rl b_hb b_bs b_se; omega) | omega))
                            refine g_iincI (pc := 239) X 5 rfl (by decide) (lv' := [(3, .int (iI (k3 + 1))), (8, .int (iI y30)), (7, .int (iI y28)), (6, .int (iI 0)), (5, .int (iI y13)), (4, .int (iI y9)), (2, .int (iI h2)), (0, .ref g0), (1, .int (iI rm))]) rfl dX12_fewest_239 ?_
                            refine g_goto (pc := 242) X 62 (by decide) dX12_fewest_242 ?_
                            refine g_lv (lv' := [(3, .int (iI (k3 + 1))), (2, .int (iI h2)), (0, .ref g0), (1, .int (iI rm))]) [0, 6, 7, 8] rfl ?_
                            refine g_ws (ws' := [(g0, .inr (12, mO gA nr tm at_ to_ fa va np tn pc_ st_ pa_ ta ow of_ ot rl hb bs se)), cA Z (gA 36) 0 6 Ob, cA Z (gA 27) 0 4 Pq, cA Z (gA 28) 0 4 Pd, cA Z (gA 29) 0 4 Pl, cA Z (gA 42) 0 500 Ps, cA Z (gA 43) 0 500 Pa, cA Z (gA 44) 0 500 Pt, cA Z (gA 56) 0 4096 F32]) [6, 2, 4, 5, 0, 3, 7, 8, 1] (by decide) rfl ?_
                            exact ih62 (k3 + 1) F32 (by (first | (clear b_rm b_nr b_tm b_at_ b_to_ b_fa b_va b_np b_tn b_pc_ b_st_ b_ta b_ow b_of_ b_ot b_rl b_hb b_bs b_se; omega) | omega)) (hF32) (by (first | (clear b_rm b_nr b_tm b_at_ b_to_ b_fa b_va b_np b_tn b_pc_ b_st_ b_ta b_ow b_of_ b_ot b_rl b_hb b_bs b_se; omega) | omega))
                          · refine g_iload (pc := 218) X 1 rfl dX12_fewest_218 ?_
                            refine g_aload_n (pc := 220) X 7 rfl dX12_fewest_220 ?_
                            refine g_get (pc := 221) X inlX12 6 rfl rfl 56 (by decide) mw_9_7 rfl dX12_fewest_221 ?_
                            refine g_iload (pc := 224) X 0 rfl dX12_fewest_224 ?_
                            refine g_ialdI (pc := 226) X 1 rfl (by (first | (clear b_rm b_nr b_tm b_at_ b_to_ b_fa b_va b_np b_tn b_pc_ b_st_ b_ta b_ow b_of_ b_ot b_rl b_hb b_bs b_se; omega) | omega)) (by (first | (clear b_rm b_nr b_tm b_at_ b_to_ b_fa b_va b_np b_tn b_pc_ b_st_ b_ta b_ow b_of_ b_ot b_rl b_hb b_bs b_se; omega) | omega)) (by (first | (clear b_rm b_nr b_tm b_at_ b_to_ b_fa b_va b_np b_tn b_pc_ b_st_ b_ta b_ow b_of_ b_ot b_rl b_hb b_bs b_se; omega) | omega)) dX12_fewest_226 ?_
                            refine g_nameI (fun y33 ey33 => ?_)
                            have by33 : (-2147483648) ≤ y33 ∧ y33 ≤ 2147483647 := by rw [ey33]; exact h_He4 _ (by (first | (clear b_rm b_nr b_tm b_at_ b_to_ b_fa b_va b_np b_tn b_pc_ b_st_ b_ta b_ow b_of_ b_ot b_rl b_hb b_bs b_se; omega) | omega))
                            refine g_icmp_geI (pc := 227) X 239 (by decide) by28 by33 dX12_fewest_227 (fun c227 => ?_) (fun c227 => ?_)
                            · refine g_iincI (pc := 239) X 5 rfl (by decide) (lv' := [(3, .int (iI (k3 + 1))), (8, .int (iI y30)), (7, .int (iI y28)), (6, .int (iI 0)), (5, .int (iI y13)), (4, .int (iI y9)), (2, .int (iI h2)), (0, .ref g0), (1, .int (iI rm))]) rfl dX12_fewest_239 ?_
                              refine g_goto (pc := 242) X 62 (by decide) dX12_fewest_242 ?_
                              refine g_lv (lv' := [(3, .int (iI (k3 + 1))), (2, .int (iI h2)), (0, .ref g0), (1, .int (iI rm))]) [0, 6, 7, 8] rfl ?_
                              refine g_ws (ws' := [(g0, .inr (12, mO gA nr tm at_ to_ fa va np tn pc_ st_ pa_ ta ow of_ ot rl hb bs se)), cA Z (gA 36) 0 6 Ob, cA Z (gA 27) 0 4 Pq, cA Z (gA 28) 0 4 Pd, cA Z (gA 29) 0 4 Pl, cA Z (gA 42) 0 500 Ps, cA Z (gA 43) 0 500 Pa, cA Z (gA 44) 0 500 Pt, cA Z (gA 56) 0 4096 He4]) [6, 2, 4, 5, 0, 3, 7, 8, 1] (by decide) rfl ?_
                              exact ih62 (k3 + 1) He4 (by (first | (clear b_rm b_nr b_tm b_at_ b_to_ b_fa b_va b_np b_tn b_pc_ b_st_ b_ta b_ow b_of_ b_ot b_rl b_hb b_bs b_se; omega) | omega)) (h_He4) (by (first | (clear b_rm b_nr b_tm b_at_ b_to_ b_fa b_va b_np b_tn b_pc_ b_st_ b_ta b_ow b_of_ b_ot b_rl b_hb b_bs b_se; omega) | omega))
                            · refine g_aload_n (pc := 230) X 7 rfl dX12_fewest_230 ?_
                              refine g_get (pc := 231) X inlX12 6 rfl rfl 56 (by decide) mw_9_7 rfl dX12_fewest_231 ?_
                              refine g_iload (pc := 234) X 0 rfl dX12_fewest_234 ?_
                              refine g_iload (pc := 236) X 1 rfl dX12_fewest_236 ?_
                              refine g_iastG (pc := 238) X 1 rfl (by (first | (clear b_rm b_nr b_tm b_at_ b_to_ b_fa b_va b_np b_tn b_pc_ b_st_ b_ta b_ow b_of_ b_ot b_rl b_hb b_bs b_se; omega) | omega)) (by (first | (clear b_rm b_nr b_tm b_at_ b_to_ b_fa b_va b_np b_tn b_pc_ b_st_ b_ta b_ow b_of_ b_ot b_rl b_hb b_bs b_se; omega) | omega)) (by (first | (clear b_rm b_nr b_tm b_at_ b_to_ b_fa b_va b_np b_tn b_pc_ b_st_ b_ta b_ow b_of_ b_ot b_rl b_hb b_bs b_se; omega) | omega)) (ws' := fun F34 => [cA Z (gA 29) 0 4 Pl, cA Z (gA 56) 0 4096 F34, cA Z (gA 36) 0 6 Ob, cA Z (gA 42) 0 500 Ps, cA Z (gA 27) 0 4 Pq, cA Z (gA 28) 0 4 Pd, (g0, .inr (12, mO gA nr tm at_ to_ fa va np tn pc_ st_ pa_ ta ow of_ ot rl hb bs se)), cA Z (gA 43) 0 500 Pa, cA Z (gA 44) 0 500 Pt]) (fun _ => rfl) dX12_fewest_238 (fun F34 eF34 => ?_)
                              have hF34 : ∀ j, j < 4096 → (-2147483648) ≤ F34 j ∧ F34 j ≤ 2147483647 := by rw [eF34]; exact updI_B h_He4 (by (first | (clear b_rm b_nr b_tm b_at_ b_to_ b_fa b_va b_np b_tn b_pc_ b_st_ b_ta b_ow b_of_ b_ot b_rl b_hb b_bs b_se; omega) | omega))
                              refine g_iincI (pc := 239) X 5 rfl (by decide) (lv' := [(3, .int (iI (k3 + 1))), (8, .int (iI y30)), (7, .int (iI y28)), (6, .int (iI 0)), (5, .int (iI y13)), (4, .int (iI y9)), (2, .int (iI h2)), (0, .ref g0), (1, .int (iI rm))]) rfl dX12_fewest_239 ?_
                              refine g_goto (pc := 242) X 62 (by decide) dX12_fewest_242 ?_
                              refine g_lv (lv' := [(3, .int (iI (k3 + 1))), (2, .int (iI h2)), (0, .ref g0), (1, .int (iI rm))]) [0, 6, 7, 8] rfl ?_
                              refine g_ws (ws' := [(g0, .inr (12, mO gA nr tm at_ to_ fa va np tn pc_ st_ pa_ ta ow of_ ot rl hb bs se)), cA Z (gA 36) 0 6 Ob, cA Z (gA 27) 0 4 Pq, cA Z (gA 28) 0 4 Pd, cA Z (gA 29) 0 4 Pl, cA Z (gA 42) 0 500 Ps, cA Z (gA 43) 0 500 Pa, cA Z (gA 44) 0 500 Pt, cA Z (gA 56) 0 4096 F34]) [6, 2, 4, 5, 0, 3, 7, 8, 1] (by decide) rfl ?_
                              exact ih62 (k3 + 1) F34 (by (first | (clear b_rm b_nr b_tm b_at_ b_to_ b_fa b_va b_np b_tn b_pc_ b_st_ b_ta b_ow b_of_ b_ot b_rl b_hb b_bs b_se; omega) | omega)) (hF34) (by (first | (clear b_rm b_nr b_tm b_at_ b_to_ b_fa b_va b_np b_tn b_pc_ b_st_ b_ta b_ow b_of_ b_ot b_rl b_hb b_bs b_se; omega) | omega))
                        · refine g_iconst (pc := 128) X (iI 1) (by rfl) dX12_fewest_128 ?_
                          refine g_goto (pc := 129) X 133 (by decide) dX12_fewest_129 ?_
                          refine g_istore (pc := 133) X (by decide) (lv' := [(6, .int (iI 1)), (5, .int (iI y13)), (4, .int (iI y9)), (3, .int (iI k3)), (2, .int (iI h2)), (0, .ref g0), (1, .int (iI rm))]) rfl dX12_fewest_133 ?_
                          refine g_iload (pc := 135) X 0 rfl dX12_fewest_135 ?_
                          refine g_if_eqI (pc := 137) X 166 (by decide) ⟨by decide, by decide⟩ dX12_fewest_137 (fun h => absurd h (by decide)) (fun _ => ?_)
                          refine g_aload_n (pc := 140) X 5 rfl dX12_fewest_140 ?_
                          refine g_get (pc := 141) X inlX12 6 rfl rfl 56 (by decide) mw_9_7 rfl dX12_fewest_141 ?_
                          refine g_iload_n (pc := 144) X 4 rfl dX12_fewest_144 ?_
                          refine g_ialdI (pc := 145) X 1 rfl (b_h2.1) (by (first | (clear b_rm b_nr b_tm b_at_ b_to_ b_fa b_va b_np b_tn b_pc_ b_st_ b_ta b_ow b_of_ b_ot b_rl b_hb b_bs b_se; omega) | omega)) (Int.le_trans b_h2.2 (by decide)) dX12_fewest_145 ?_
                          refine g_nameI (fun y35 ey35 => ?_)
                          have by35 : (-2147483648) ≤ y35 ∧ y35 ≤ 2147483647 := by rw [ey35]; exact h_He4 _ (by (first | (clear b_rm b_nr b_tm b_at_ b_to_ b_fa b_va b_np b_tn b_pc_ b_st_ b_ta b_ow b_of_ b_ot b_rl b_hb b_bs b_se; omega) | omega))
                          refine g_sipush (pc := 146) X (iI 10000) (by decide) dX12_fewest_146 ?_
                          refine g_idivI (pc := 149) X by35 ⟨by decide, by decide⟩ (by decide) (by decide) dX12_fewest_149 ?_
                          refine g_any (fun y36 by36 => ?_)
                          refine g_sipush (pc := 150) X (iI 10000) (by decide) dX12_fewest_150 ?_
                          refine g_imulI (pc := 153) X dX12_fewest_153 ?_
                          refine g_any (fun y37 by37 => ?_)
                          refine g_iload (pc := 154) X 1 rfl dX12_fewest_154 ?_
                          refine g_iaddI (pc := 156) X dX12_fewest_156 ?_
                          refine g_any (fun y38 by38 => ?_)
                          refine g_aload_n (pc := 157) X 5 rfl dX12_fewest_157 ?_
                          refine g_iload_n (pc := 158) X 3 rfl dX12_fewest_158 ?_
                          refine g_callV (pc := 159) X (k_X12_longOf l Z g0 gA Pa Pt k3 nr tm at_ to_ fa va np tn pc_ st_ pa_ ta ow of_ ot rl hb bs se (by (first | (clear b_rm b_nr b_tm b_at_ b_to_ b_fa b_va b_np b_tn b_pc_ b_st_ b_ta b_ow b_of_ b_ot b_rl b_hb b_bs b_se; omega) | omega)) b_nr b_tm b_at_ b_to_ b_fa b_va b_np b_tn (by (first | (clear b_rm b_nr b_tm b_at_ b_to_ b_fa b_va b_np b_tn b_pc_ b_st_ b_ta b_ow b_of_ b_ot b_rl b_hb b_bs b_se; omega) | omega)) b_st_ (by (first | (clear b_rm b_nr b_tm b_at_ b_to_ b_fa b_va b_np b_tn b_pc_ b_st_ b_ta b_ow b_of_ b_ot b_rl b_hb b_bs b_se; omega) | omega)) b_ta b_ow b_of_ b_ot b_rl b_hb b_bs b_se (h_Pa) (h_Pt)) iM_X12_longOf mw_36_11 mw_36_12 mw_36_13 6 rfl rfl [6, 7, 8] [0, 1, 2, 3, 4, 5] rfl (wr := [cA Z (gA 29) 0 4 Pl, cA Z (gA 56) 0 4096 He4, cA Z (gA 36) 0 6 Ob, cA Z (gA 42) 0 500 Ps, cA Z (gA 27) 0 4 Pq, cA Z (gA 28) 0 4 Pd]) rfl (by decide) rfl rfl (Nat.le_of_ble_eq_true rfl) (by decide) dX12_fewest_159 (fun r w' hpo => ?_)
                          refine exN_1 hpo fun y39 hz => anD_3 hz fun e_r e_w hf159_b_y => ?_; clear hz hpo; subst e_r; subst e_w
                          refine g_as (pc' := 162) (lv' := [(6, .int (iI 1)), (5, .int (iI y13)), (4, .int (iI y9)), (3, .int (iI k3)), (2, .int (iI h2)), (0, .ref g0), (1, .int (iI rm))]) (st' := [.int (iI y39), .int (iI y38)]) (ws' := [cA Z (gA 29) 0 4 Pl, cA Z (gA 56) 0 4096 He4, cA Z (gA 36) 0 6 Ob, cA Z (gA 42) 0 500 Ps, cA Z (gA 27) 0 4 Pq, cA Z (gA 28) 0 4 Pd, (g0, .inr (12, mO gA nr tm at_ to_ fa va np tn pc_ st_ pa_ ta ow of_ ot rl hb bs se)), cA Z (gA 43) 0 500 Pa, cA Z (gA 44) 0 500 Pt]) rfl rfl rfl rfl ?_
                          refine g_iaddI (pc := 162) X dX12_fewest_162 ?_
                          refine g_any (fun y41 by41 => ?_)
                          refine g_goto (pc := 163) X 198 (by decide) dX12_fewest_163 ?_
                          refine g_istore (pc := 198) X (by decide) (lv' := [(7, .int (iI y41)), (6, .int (iI 1)), (5, .int (iI y13)), (4, .int (iI y9)), (3, .int (iI k3)), (2, .int (iI h2)), (0, .ref g0), (1, .int (iI rm))]) rfl dX12_fewest_198 ?_
                          refine g_iload_n (pc := 200) X 5 rfl dX12_fewest_200 ?_
                          refine g_iconst (pc := 201) X (iI 1) (by rfl) dX12_fewest_201 ?_
                          refine g_iload_n (pc := 202) X 4 rfl dX12_fewest_202 ?_
                          refine g_shl1 (pc := 203) X (by (first | (clear b_rm b_nr b_tm b_at_ b_to_ b_fa b_va b_np b_tn b_pc_ b_st_ b_ta b_ow b_of_ b_ot b_rl b_hb b_bs b_se; omega) | omega)) (by (first | (clear b_rm b_nr b_tm b_at_ b_to_ b_fa b_va b_np b_tn b_pc_ b_st_ b_ta b_ow b_of_ b_ot b_rl b_hb b_bs b_se; omega) | omega)) dX12_fewest_203 (fun y42 ey42 => ?_)
                          have by42 : 1 ≤ y42 ∧ y42 ≤ 2048 := pow2B 11 (by decide) (by (first | (clear b_rm b_nr b_tm b_at_ b_to_ b_fa b_va b_np b_tn b_pc_ b_st_ b_ta b_ow b_of_ b_ot b_rl b_hb b_bs b_se; omega) | omega)) (by (first | (clear b_rm b_nr b_tm b_at_ b_to_ b_fa b_va b_np b_tn b_pc_ b_st_ b_ta b_ow b_of_ b_ot b_rl b_hb b_bs b_se; omega) | omega)) ey42
                          refine g_iorB (pc := 204) X 12 (by decide) (by (first | (clear b_rm b_nr b_tm b_at_ b_to_ b_fa b_va b_np b_tn b_pc_ b_st_ b_ta b_ow b_of_ b_ot b_rl b_hb b_bs b_se; omega) | omega)) (by (first | (clear b_rm b_nr b_tm b_at_ b_to_ b_fa b_va b_np b_tn b_pc_ b_st_ b_ta b_ow b_of_ b_ot b_rl b_hb b_bs b_se; omega) | omega)) (by (first | (clear b_rm b_nr b_tm b_at_ b_to_ b_fa b_va b_np b_tn b_pc_ b_st_ b_ta b_ow b_of_ b_ot b_rl b_hb b_bs b_se; omega) | omega)) (by (first | (clear b_rm b_nr b_tm b_at_ b_to_ b_fa b_va b_np b_tn b_pc_ b_st_ b_ta b_ow b_of_ b_ot b_rl b_hb b_bs b_se; omega) | omega)) dX12_fewest_204 (fun y43 by43 => ?_)
                          have by43 : 0 ≤ y43 ∧ y43 ≤ 4095 := by have := by43; omega
                          refine g_istore (pc := 205) X (by decide) (lv' := [(8, .int (iI y43)), (7, .int (iI y41)), (6, .int (iI 1)), (5, .int (iI y13)), (4, .int (iI y9)), (3, .int (iI k3)), (2, .int (iI h2)), (0, .ref g0), (1, .int (iI rm))]) rfl dX12_fewest_205 ?_
                          refine g_aload_n (pc := 207) X 7 rfl dX12_fewest_207 ?_
                          refine g_get (pc := 208) X inlX12 6 rfl rfl 56 (by decide) mw_9_7 rfl dX12_fewest_208 ?_
                          refine g_iload (pc := 211) X 0 rfl dX12_fewest_211 ?_
                          refine g_ialdI (pc := 213) X 1 rfl (by (first | (clear b_rm b_nr b_tm b_at_ b_to_ b_fa b_va b_np b_tn b_pc_ b_st_ b_ta b_ow b_of_ b_ot b_rl b_hb b_bs b_se; omega) | omega)) (by (first | (clear b_rm b_nr b_tm b_at_ b_to_ b_fa b_va b_np b_tn b_pc_ b_st_ b_ta b_ow b_of_ b_ot b_rl b_hb b_bs b_se; omega) | omega)) (by (first | (clear b_rm b_nr b_tm b_at_ b_to_ b_fa b_va b_np b_tn b_pc_ b_st_ b_ta b_ow b_of_ b_ot b_rl b_hb b_bs b_se; omega) | omega)) dX12_fewest_213 ?_
                          refine g_nameI (fun y44 ey44 => ?_)
                          have by44 : (-2147483648) ≤ y44 ∧ y44 ≤ 2147483647 := by rw [ey44]; exact h_He4 _ (by (first | (clear b_rm b_nr b_tm b_at_ b_to_ b_fa b_va b_np b_tn b_pc_ b_st_ b_ta b_ow b_of_ b_ot b_rl b_hb b_bs b_se; omega) | omega))
                          refine g_iconst (pc := 214) X (iI (-1)) (by rfl) dX12_fewest_214 ?_
                          refine g_icmp_eqI (pc := 215) X 230 (by decide) by44 ⟨by decide, by decide⟩ dX12_fewest_215 (fun c215 => ?_) (fun c215 => ?_)
                          · refine g_aload_n (pc := 230) X 7 rfl dX12_fewest_230 ?_
                            refine g_get (pc := 231) X inlX12 6 rfl rfl 56 (by decide) mw_9_7 rfl dX12_fewest_231 ?_
                            refine g_iload (pc := 234) X 0 rfl dX12_fewest_234 ?_
                            refine g_iload (pc := 236) X 1 rfl dX12_fewest_236 ?_
                            refine g_iastG (pc := 238) X 1 rfl (by (first | (clear b_rm b_nr b_tm b_at_ b_to_ b_fa b_va b_np b_tn b_pc_ b_st_ b_ta b_ow b_of_ b_ot b_rl b_hb b_bs b_se; omega) | omega)) (by (first | (clear b_rm b_nr b_tm b_at_ b_to_ b_fa b_va b_np b_tn b_pc_ b_st_ b_ta b_ow b_of_ b_ot b_rl b_hb b_bs b_se; omega) | omega)) (by (first | (clear b_rm b_nr b_tm b_at_ b_to_ b_fa b_va b_np b_tn b_pc_ b_st_ b_ta b_ow b_of_ b_ot b_rl b_hb b_bs b_se; omega) | omega)) (ws' := fun F45 => [cA Z (gA 29) 0 4 Pl, cA Z (gA 56) 0 4096 F45, cA Z (gA 36) 0 6 Ob, cA Z (gA 42) 0 500 Ps, cA Z (gA 27) 0 4 Pq, cA Z (gA 28) 0 4 Pd, (g0, .inr (12, mO gA nr tm at_ to_ fa va np tn pc_ st_ pa_ ta ow of_ ot rl hb bs se)), cA Z (gA 43) 0 500 Pa, cA Z (gA 44) 0 500 Pt]) (fun _ => rfl) dX12_fewest_238 (fun F45 eF45 => ?_)
                            have hF45 : ∀ j, j < 4096 → (-2147483648) ≤ F45 j ∧ F45 j ≤ 2147483647 := by rw [eF45]; exact updI_B h_He4 (by (first | (clear b_rm b_nr b_tm b_at_ b_to_ b_fa b_va b_np b_tn b_pc_ b_st_ b_ta b_ow b_of_ b_ot b_rl b_hb b_bs b_se; omega) | omega))
                            refine g_iincI (pc := 239) X 5 rfl (by decide) (lv' := [(3, .int (iI (k3 + 1))), (8, .int (iI y43)), (7, .int (iI y41)), (6, .int (iI 1)), (5, .int (iI y13)), (4, .int (iI y9)), (2, .int (iI h2)), (0, .ref g0), (1, .int (iI rm))]) rfl dX12_fewest_239 ?_
                            refine g_goto (pc := 242) X 62 (by decide) dX12_fewest_242 ?_
                            refine g_lv (lv' := [(3, .int (iI (k3 + 1))), (2, .int (iI h2)), (0, .ref g0), (1, .int (iI rm))]) [0, 6, 7, 8] rfl ?_
                            refine g_ws (ws' := [(g0, .inr (12, mO gA nr tm at_ to_ fa va np tn pc_ st_ pa_ ta ow of_ ot rl hb bs se)), cA Z (gA 36) 0 6 Ob, cA Z (gA 27) 0 4 Pq, cA Z (gA 28) 0 4 Pd, cA Z (gA 29) 0 4 Pl, cA Z (gA 42) 0 500 Ps, cA Z (gA 43) 0 500 Pa, cA Z (gA 44) 0 500 Pt, cA Z (gA 56) 0 4096 F45]) [6, 2, 4, 5, 0, 3, 7, 8, 1] (by decide) rfl ?_
                            exact ih62 (k3 + 1) F45 (by (first | (clear b_rm b_nr b_tm b_at_ b_to_ b_fa b_va b_np b_tn b_pc_ b_st_ b_ta b_ow b_of_ b_ot b_rl b_hb b_bs b_se; omega) | omega)) (hF45) (by (first | (clear b_rm b_nr b_tm b_at_ b_to_ b_fa b_va b_np b_tn b_pc_ b_st_ b_ta b_ow b_of_ b_ot b_rl b_hb b_bs b_se; omega) | omega))
                          · refine g_iload (pc := 218) X 1 rfl dX12_fewest_218 ?_
                            refine g_aload_n (pc := 220) X 7 rfl dX12_fewest_220 ?_
                            refine g_get (pc := 221) X inlX12 6 rfl rfl 56 (by decide) mw_9_7 rfl dX12_fewest_221 ?_
                            refine g_iload (pc := 224) X 0 rfl dX12_fewest_224 ?_
                            refine g_ialdI (pc := 226) X 1 rfl (by (first | (clear b_rm b_nr b_tm b_at_ b_to_ b_fa b_va b_np b_tn b_pc_ b_st_ b_ta b_ow b_of_ b_ot b_rl b_hb b_bs b_se; omega) | omega)) (by (first | (clear b_rm b_nr b_tm b_at_ b_to_ b_fa b_va b_np b_tn b_pc_ b_st_ b_ta b_ow b_of_ b_ot b_rl b_hb b_bs b_se; omega) | omega)) (by (first | (clear b_rm b_nr b_tm b_at_ b_to_ b_fa b_va b_np b_tn b_pc_ b_st_ b_ta b_ow b_of_ b_ot b_rl b_hb b_bs b_se; omega) | omega)) dX12_fewest_226 ?_
                            refine g_nameI (fun y46 ey46 => ?_)
                            have by46 : (-2147483648) ≤ y46 ∧ y46 ≤ 2147483647 := by rw [ey46]; exact h_He4 _ (by (first | (clear b_rm b_nr b_tm b_at_ b_to_ b_fa b_va b_np b_tn b_pc_ b_st_ b_ta b_ow b_of_ b_ot b_rl b_hb b_bs b_se; omega) | omega))
                            refine g_icmp_geI (pc := 227) X 239 (by decide) by41 by46 dX12_fewest_227 (fun c227 => ?_) (fun c227 => ?_)
                            · refine g_iincI (pc := 239) X 5 rfl (by decide) (lv' := [(3, .int (iI (k3 + 1))), (8, .int (iI y43)), (7, .int (iI y41)), (6, .int (iI 1)), (5, .int (iI y13)), (4, .int (iI y9)), (2, .int (iI h2)), (0, .ref g0), (1, .int (iI rm))]) rfl dX12_fewest_239 ?_
                              refine g_goto (pc := 242) X 62 (by decide) dX12_fewest_242 ?_
                              refine g_lv (lv' := [(3, .int (iI (k3 + 1))), (2, .int (iI h2)), (0, .ref g0), (1, .int (iI rm))]) [0, 6, 7, 8] rfl ?_
                              refine g_ws (ws' := [(g0, .inr (12, mO gA nr tm at_ to_ fa va np tn pc_ st_ pa_ ta ow of_ ot rl hb bs se)), cA Z (gA 36) 0 6 Ob, cA Z (gA 27) 0 4 Pq, cA Z (gA 28) 0 4 Pd, cA Z (gA 29) 0 4 Pl, cA Z (gA 42) 0 500 Ps, cA Z (gA 43) 0 500 Pa, cA Z (gA 44) 0 500 Pt, cA Z (gA 56) 0 4096 He4]) [6, 2, 4, 5, 0, 3, 7, 8, 1] (by decide) rfl ?_
                              exact ih62 (k3 + 1) He4 (by (first | (clear b_rm b_nr b_tm b_at_ b_to_ b_fa b_va b_np b_tn b_pc_ b_st_ b_ta b_ow b_of_ b_ot b_rl b_hb b_bs b_se; omega) | omega)) (h_He4) (by (first | (clear b_rm b_nr b_tm b_at_ b_to_ b_fa b_va b_np b_tn b_pc_ b_st_ b_ta b_ow b_of_ b_ot b_rl b_hb b_bs b_se; omega) | omega))
                            · refine g_aload_n (pc := 230) X 7 rfl dX12_fewest_230 ?_
                              refine g_get (pc := 231) X inlX12 6 rfl rfl 56 (by decide) mw_9_7 rfl dX12_fewest_231 ?_
                              refine g_iload (pc := 234) X 0 rfl dX12_fewest_234 ?_
                              refine g_iload (pc := 236) X 1 rfl dX12_fewest_236 ?_
                              refine g_iastG (pc := 238) X 1 rfl (by (first | (clear b_rm b_nr b_tm b_at_ b_to_ b_fa b_va b_np b_tn b_pc_ b_st_ b_ta b_ow b_of_ b_ot b_rl b_hb b_bs b_se; omega) | omega)) (by (first | (clear b_rm b_nr b_tm b_at_ b_to_ b_fa b_va b_np b_tn b_pc_ b_st_ b_ta b_ow b_of_ b_ot b_rl b_hb b_bs b_se; omega) | omega)) (by (first | (clear b_rm b_nr b_tm b_at_ b_to_ b_fa b_va b_np b_tn b_pc_ b_st_ b_ta b_ow b_of_ b_ot b_rl b_hb b_bs b_se; omega) | omega)) (ws' := fun F47 => [cA Z (gA 29) 0 4 Pl, cA Z (gA 56) 0 4096 F47, cA Z (gA 36) 0 6 Ob, cA Z (gA 42) 0 500 Ps, cA Z (gA 27) 0 4 Pq, cA Z (gA 28) 0 4 Pd, (g0, .inr (12, mO gA nr tm at_ to_ fa va np tn pc_ st_ pa_ ta ow of_ ot rl hb bs se)), cA Z (gA 43) 0 500 Pa, cA Z (gA 44) 0 500 Pt]) (fun _ => rfl) dX12_fewest_238 (fun F47 eF47 => ?_)
                              have hF47 : ∀ j, j < 4096 → (-2147483648) ≤ F47 j ∧ F47 j ≤ 2147483647 := by rw [eF47]; exact updI_B h_He4 (by (first | (clear b_rm b_nr b_tm b_at_ b_to_ b_fa b_va b_np b_tn b_pc_ b_st_ b_ta b_ow b_of_ b_ot b_rl b_hb b_bs b_se; omega) | omega))
                              refine g_iincI (pc := 239) X 5 rfl (by decide) (lv' := [(3, .int (iI (k3 + 1))), (8, .int (iI y43)), (7, .int (iI y41)), (6, .int (iI 1)), (5, .int (iI y13)), (4, .int (iI y9)), (2, .int (iI h2)), (0, .ref g0), (1, .int (iI rm))]) rfl dX12_fewest_239 ?_
                              refine g_goto (pc := 242) X 62 (by decide) dX12_fewest_242 ?_
                              refine g_lv (lv' := [(3, .int (iI (k3 + 1))), (2, .int (iI h2)), (0, .ref g0), (1, .int (iI rm))]) [0, 6, 7, 8] rfl ?_
                              refine g_ws (ws' := [(g0, .inr (12, mO gA nr tm at_ to_ fa va np tn pc_ st_ pa_ ta ow of_ ot rl hb bs se)), cA Z (gA 36) 0 6 Ob, cA Z (gA 27) 0 4 Pq, cA Z (gA 28) 0 4 Pd, cA Z (gA 29) 0 4 Pl, cA Z (gA 42) 0 500 Ps, cA Z (gA 43) 0 500 Pa, cA Z (gA 44) 0 500 Pt, cA Z (gA 56) 0 4096 F47]) [6, 2, 4, 5, 0, 3, 7, 8, 1] (by decide) rfl ?_
                              exact ih62 (k3 + 1) F47 (by (first | (clear b_rm b_nr b_tm b_at_ b_to_ b_fa b_va b_np b_tn b_pc_ b_st_ b_ta b_ow b_of_ b_ot b_rl b_hb b_bs b_se; omega) | omega)) (hF47) (by (first | (clear b_rm b_nr b_tm b_at_ b_to_ b_fa b_va b_np b_tn b_pc_ b_st_ b_ta b_ow b_of_ b_ot b_rl b_hb b_bs b_se; omega) | omega))
                      · refine g_goto (pc := 79) X 239 (by decide) dX12_fewest_79 ?_
                        refine g_iincI (pc := 239) X 0 rfl (by decide) (lv' := [(3, .int (iI (k3 + 1))), (2, .int (iI h2)), (0, .ref g0), (1, .int (iI rm))]) rfl dX12_fewest_239 ?_
                        refine g_goto (pc := 242) X 62 (by decide) dX12_fewest_242 ?_
                        exact ih62 (k3 + 1) He4 (by (first | (clear b_rm b_nr b_tm b_at_ b_to_ b_fa b_va b_np b_tn b_pc_ b_st_ b_ta b_ow b_of_ b_ot b_rl b_hb b_bs b_se; omega) | omega)) (h_He4) (by (first | (clear b_rm b_nr b_tm b_at_ b_to_ b_fa b_va b_np b_tn b_pc_ b_st_ b_ta b_ow b_of_ b_ot b_rl b_hb b_bs b_se; omega) | omega))
                exact loop62 _ 0 He3 (by (first | (clear b_rm b_nr b_tm b_at_ b_to_ b_fa b_va b_np b_tn b_pc_ b_st_ b_ta b_ow b_of_ b_ot b_rl b_hb b_bs b_se; omega) | omega)) (h_He3) (Nat.lt_succ_self _)
              · refine g_goto (pc := 57) X 245 (by decide) dX12_fewest_57 ?_
                refine g_iincI (pc := 245) X 0 rfl (by decide) (lv' := [(2, .int (iI (h2 + 1))), (0, .ref g0), (1, .int (iI rm))]) rfl dX12_fewest_245 ?_
                refine g_goto (pc := 248) X 37 (by decide) dX12_fewest_248 ?_
                exact ih (h2 + 1) He3 (by (first | (clear b_rm b_nr b_tm b_at_ b_to_ b_fa b_va b_np b_tn b_pc_ b_st_ b_ta b_ow b_of_ b_ot b_rl b_hb b_bs b_se; omega) | omega)) (h_He3) (by (first | (clear b_rm b_nr b_tm b_at_ b_to_ b_fa b_va b_np b_tn b_pc_ b_st_ b_ta b_ow b_of_ b_ot b_rl b_hb b_bs b_se; omega) | omega))
        exact loop37 _ 0 He1 (by (first | (clear b_rm b_nr b_tm b_at_ b_to_ b_fa b_va b_np b_tn b_pc_ b_st_ b_ta b_ow b_of_ b_ot b_rl b_hb b_bs b_se; omega) | omega)) (h_He1) (Nat.lt_succ_self _)
      · refine g_aload_n (pc := 12) X 1 rfl dX12_fewest_12 ?_
        refine g_get (pc := 13) X inlX12 0 rfl rfl 56 (by decide) mw_9_7 rfl dX12_fewest_13 ?_
        refine g_iload_n (pc := 16) X 0 rfl dX12_fewest_16 ?_
        refine g_iload_n (pc := 17) X 0 rfl dX12_fewest_17 ?_
        refine g_if_neI (pc := 18) X 27 (by decide) (inRb b_h1 (by decide) (by decide)) dX12_fewest_18 (fun c18 => ?_) (fun c18 => ?_)
        · refine g_iconst (pc := 27) X (iI (-1)) (by rfl) dX12_fewest_27 ?_
          refine g_iastG (pc := 28) X 8 rfl (b_h1.1) (by (first | (clear b_rm b_nr b_tm b_at_ b_to_ b_fa b_va b_np b_tn b_pc_ b_st_ b_ta b_ow b_of_ b_ot b_rl b_hb b_bs b_se; omega) | omega)) (Int.le_trans b_h1.2 (by decide)) (ws' := fun F48 => [(g0, .inr (12, mO gA nr tm at_ to_ fa va np tn pc_ st_ pa_ ta ow of_ ot rl hb bs se)), cA Z (gA 36) 0 6 Ob, cA Z (gA 27) 0 4 Pq, cA Z (gA 28) 0 4 Pd, cA Z (gA 29) 0 4 Pl, cA Z (gA 42) 0 500 Ps, cA Z (gA 43) 0 500 Pa, cA Z (gA 44) 0 500 Pt, cA Z (gA 56) 0 4096 F48]) (fun _ => rfl) dX12_fewest_28 (fun F48 eF48 => ?_)
          have hF48 : ∀ j, j < 4096 → (-2147483648) ≤ F48 j ∧ F48 j ≤ 2147483647 := by rw [eF48]; exact updI_B h_He1 (by (first | (clear b_rm b_nr b_tm b_at_ b_to_ b_fa b_va b_np b_tn b_pc_ b_st_ b_ta b_ow b_of_ b_ot b_rl b_hb b_bs b_se; omega) | omega))
          refine g_iincI (pc := 29) X 0 rfl (by decide) (lv' := [(2, .int (iI (h1 + 1))), (0, .ref g0), (1, .int (iI rm))]) rfl dX12_fewest_29 ?_
          refine g_goto (pc := 32) X 2 (by decide) dX12_fewest_32 ?_
          exact ih (h1 + 1) F48 (by (first | (clear b_rm b_nr b_tm b_at_ b_to_ b_fa b_va b_np b_tn b_pc_ b_st_ b_ta b_ow b_of_ b_ot b_rl b_hb b_bs b_se; omega) | omega)) (hF48) (by (first | (clear b_rm b_nr b_tm b_at_ b_to_ b_fa b_va b_np b_tn b_pc_ b_st_ b_ta b_ow b_of_ b_ot b_rl b_hb b_bs b_se; omega) | omega))
        · refine g_sipush (pc := 21) X (iI 10000) (by decide) dX12_fewest_21 ?_
          refine g_goto (pc := 24) X 28 (by decide) dX12_fewest_24 ?_
          refine g_iastG (pc := 28) X 8 rfl (b_h1.1) (by (first | (clear b_rm b_nr b_tm b_at_ b_to_ b_fa b_va b_np b_tn b_pc_ b_st_ b_ta b_ow b_of_ b_ot b_rl b_hb b_bs b_se; omega) | omega)) (Int.le_trans b_h1.2 (by decide)) (ws' := fun F49 => [(g0, .inr (12, mO gA nr tm at_ to_ fa va np tn pc_ st_ pa_ ta ow of_ ot rl hb bs se)), cA Z (gA 36) 0 6 Ob, cA Z (gA 27) 0 4 Pq, cA Z (gA 28) 0 4 Pd, cA Z (gA 29) 0 4 Pl, cA Z (gA 42) 0 500 Ps, cA Z (gA 43) 0 500 Pa, cA Z (gA 44) 0 500 Pt, cA Z (gA 56) 0 4096 F49]) (fun _ => rfl) dX12_fewest_28 (fun F49 eF49 => ?_)
          have hF49 : ∀ j, j < 4096 → (-2147483648) ≤ F49 j ∧ F49 j ≤ 2147483647 := by rw [eF49]; exact updI_B h_He1 (by (first | (clear b_rm b_nr b_tm b_at_ b_to_ b_fa b_va b_np b_tn b_pc_ b_st_ b_ta b_ow b_of_ b_ot b_rl b_hb b_bs b_se; omega) | omega))
          refine g_iincI (pc := 29) X 0 rfl (by decide) (lv' := [(2, .int (iI (h1 + 1))), (0, .ref g0), (1, .int (iI rm))]) rfl dX12_fewest_29 ?_
          refine g_goto (pc := 32) X 2 (by decide) dX12_fewest_32 ?_
          exact ih (h1 + 1) F49 (by (first | (clear b_rm b_nr b_tm b_at_ b_to_ b_fa b_va b_np b_tn b_pc_ b_st_ b_ta b_ow b_of_ b_ot b_rl b_hb b_bs b_se; omega) | omega)) (hF49) (by (first | (clear b_rm b_nr b_tm b_at_ b_to_ b_fa b_va b_np b_tn b_pc_ b_st_ b_ta b_ow b_of_ b_ot b_rl b_hb b_bs b_se; omega) | omega))
  exact loop2 _ 0 He (by (first | (clear b_rm b_nr b_tm b_at_ b_to_ b_fa b_va b_np b_tn b_pc_ b_st_ b_ta b_ow b_of_ b_ot b_rl b_hb b_bs b_se; omega) | omega)) (h_He) (Nat.lt_succ_self _)
