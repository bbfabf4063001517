set_option maxHeartbeats 4000000 in
set_option maxRecDepth 100000 in
theorem kx_X12_feeds (l : Launch) (Z : gZ) (g0 : Nat) (gA : Nat → Nat) (Mt : Nat → Int) (v : Int) (nr : Int) (tm : Int) (at_ : Int) (to_ : Int) (fa : Int) (va : Int) (np : Int) (tn : Int) (pc_ : Int) (st_ : Int) (pa_ : Int) (ta : Int) (ow : Int) (of_ : Int) (ot : Int) (rl : Int) (hb : Int) (bs : Int) (se : Int) (b_v : (-2147483648) ≤ v ∧ v ≤ 2147483647) (b_nr : 0 ≤ nr ∧ nr ≤ 6) (b_tm : 0 ≤ tm ∧ tm ≤ 400) (b_at_ : 0 ≤ at_ ∧ at_ ≤ 400) (b_to_ : 0 ≤ to_ ∧ to_ ≤ 400) (b_fa : (-1) ≤ fa ∧ fa ≤ 400) (b_va : (-2147483648) ≤ va ∧ va ≤ 2147483647) (b_np : 0 ≤ np ∧ np ≤ 4) (b_tn : 0 ≤ tn ∧ tn ≤ 20) (b_pc_ : 0 ≤ pc_ ∧ pc_ ≤ 480) (b_st_ : 0 ≤ st_ ∧ st_ ≤ 240) (b_pa_ : (-1) ≤ pa_ ∧ pa_ ≤ 3) (b_ta : (-2147483648) ≤ ta ∧ ta ≤ 2147483647) (b_ow : (-2147483648) ≤ ow ∧ ow ≤ 2147483647) (b_of_ : (-2147483648) ≤ of_ ∧ of_ ≤ 2147483647) (b_ot : (-2147483648) ≤ ot ∧ ot ≤ 2147483647) (b_rl : 0 ≤ rl ∧ rl ≤ 2880) (b_hb : 0 ≤ hb ∧ hb ≤ 4) (b_bs : (-2147483648) ≤ bs ∧ bs ≤ 2147483647) (b_se : 0 ≤ se ∧ se ≤ 10) (ht : tm ≤ 396) (h_Mt : ∀ j, j < 400 → (-128) ≤ Mt j ∧ Mt j ≤ 127) : Con l Z yX12_feeds cX12_feeds 3 none 0 0 0 0 [.ref g0, .int (iI v)] [(g0, .inr (12, mO gA nr tm at_ to_ fa va np tn pc_ st_ pa_ ta ow of_ ot rl hb bs se)), cA Z (gA 19) 1 400 Mt] (fun r w' => ∃ (Mt2 : Nat → Int), (r = none) ∧ (w' = [(g0, .inr (12, mO gA nr (tm + 1 + 1 + 1 + 1) at_ to_ fa va np tn pc_ st_ pa_ ta ow of_ ot rl hb bs se)), cA Z (gA 19) 1 400 Mt2]) ∧ (∀ j, j < 400 → (-128) ≤ Mt2 j ∧ Mt2 j ≤ 127) ∧ (tm + 1 + 1 + 1 + 1 ≤ 400) ∧ (Mt2 = gm4 Mt tm v)) := by
  refine enter (by decide) (Nat.le_of_ble_eq_true rfl) ?_
  intro p e s m args below meth c A X hnm hA
  have X : Cx p s m args meth c cX12_feeds 3 none RX12 Z A := X
  refine g_as (pc' := 0) (lv' := [(0, .ref g0), (1, .int (iI v))]) (st' := []) (ws' := [(g0, .inr (12, mO gA nr tm at_ to_ fa va np tn pc_ st_ pa_ ta ow of_ ot rl hb bs se)), cA Z (gA 19) 1 400 Mt]) rfl rfl rfl rfl ?_
  refine g_iconst (pc := 0) X (iI 3) (by rfl) dX12_feeds_0 ?_
  refine g_istore_n (pc := 1) X (i := 2) rfl (by decide) (lv' := [(2, .int (iI 3)), (0, .ref g0), (1, .int (iI v))]) rfl dX12_feeds_1 ?_
  refine g_iload_n (pc := 2) X 0 rfl dX12_feeds_2 ?_
  refine g_if_ltI (pc := 3) X 38 (by decide) ⟨by decide, by decide⟩ dX12_feeds_3 (fun h => absurd h (by decide)) (fun _ => ?_)
  refine g_aload_n (pc := 6) X 1 rfl dX12_feeds_6 ?_
  refine g_get (pc := 7) X inlX12 0 rfl rfl 19 (by decide) mw_8_7 rfl dX12_feeds_7 ?_
  refine g_aload_n (pc := 10) X 1 rfl dX12_feeds_10 ?_
  refine g_get (pc := 11) X inlX12 0 rfl rfl 20 (by decide) mw_10_18 rfl dX12_feeds_11 ?_
  refine g_iload_n (pc := 14) X 2 rfl dX12_feeds_14 ?_
  refine g_bipush (pc := 15) X (iI 8) (by decide) dX12_feeds_15 ?_
  refine g_iload_n (pc := 17) X 0 rfl dX12_feeds_17 ?_
  refine g_imulI (pc := 18) X dX12_feeds_18 ?_
  refine g_lit (y := iI 24) (by rfl) ?_
  refine g_iushr (pc := 19) X dX12_feeds_19 ?_
  refine g_lit (y := iI (us8 v 24)) (us8_e _ _) ?_
  refine g_i2b (pc := 20) X dX12_feeds_20 ?_
  refine g_lit (y := iI (sgI (by8 v 24))) (sg8_e _ _) ?_
  have b8_1 := sgI_b (by8_b v 24)
  refine g_bastG (pc := 21) X 1 rfl (b_tm.1) (by (first | (clear b_v b_nr b_at_ b_to_ b_fa b_va b_np b_tn b_pc_ b_st_ b_pa_ b_ta b_ow b_of_ b_ot b_rl b_hb b_bs b_se; omega) | omega)) (Int.le_trans b_tm.2 (by decide)) (by (first | (clear b_v b_nr b_at_ b_to_ b_fa b_va b_np b_tn b_pc_ b_st_ b_pa_ b_ta b_ow b_of_ b_ot b_rl b_hb b_bs b_se; omega) | omega)) (ws' := fun F2 => [(g0, .inr (12, mO gA nr tm at_ to_ fa va np tn pc_ st_ pa_ ta ow of_ ot rl hb bs se)), cA Z (gA 19) 1 400 F2]) (fun _ => rfl) dX12_feeds_21 (fun F2 eF2 => ?_)
  have hF2 : ∀ j, j < 400 → (-128) ≤ F2 j ∧ F2 j ≤ 127 := by rw [eF2]; exact updI_B h_Mt (by (first | (clear b_v b_nr b_at_ b_to_ b_fa b_va b_np b_tn b_pc_ b_st_ b_pa_ b_ta b_ow b_of_ b_ot b_rl b_hb b_bs b_se; omega) | omega))
  refine g_aload_n (pc := 22) X 1 rfl dX12_feeds_22 ?_
  refine g_dup (pc := 23) X rfl dX12_feeds_23 ?_
  refine g_get (pc := 24) X inlX12 0 rfl rfl 20 (by decide) mw_10_18 rfl dX12_feeds_24 ?_
  refine g_iconst (pc := 27) X (iI 1) (by rfl) dX12_feeds_27 ?_
  refine g_iaddI (pc := 28) X dX12_feeds_28 ?_
  refine g_put (pc := 29) X inlX12 tyX12_ok nmX12 0 rfl rfl 20 (by decide) mw_10_18 rfl rfl rfl (Nat.le_of_ble_eq_true rfl) (ws' := [(g0, .inr (12, mO gA nr (tm + 1) at_ to_ fa va np tn pc_ st_ pa_ ta ow of_ ot rl hb bs se)), cA Z (gA 19) 1 400 F2]) rfl dX12_feeds_29 ?_
  refine g_iinc (pc := 32) X 0 rfl (v := iI 2) (by rfl) (by decide) (lv' := [(2, .int (iI 2)), (0, .ref g0), (1, .int (iI v))]) rfl dX12_feeds_32 ?_
  refine g_goto (pc := 35) X 2 (by decide) dX12_feeds_35 ?_
  refine g_iload_n (pc := 2) X 0 rfl dX12_feeds_2 ?_
  refine g_if_ltI (pc := 3) X 38 (by decide) ⟨by decide, by decide⟩ dX12_feeds_3 (fun h => absurd h (by decide)) (fun _ => ?_)
  refine g_aload_n (pc := 6) X 1 rfl dX12_feeds_6 ?_
  refine g_get (pc := 7) X inlX12 0 rfl rfl 19 (by decide) mw_8_7 rfl dX12_feeds_7 ?_
  refine g_aload_n (pc := 10) X 1 rfl dX12_feeds_10 ?_
  refine g_get (pc := 11) X inlX12 0 rfl rfl 20 (by decide) mw_10_18 rfl dX12_feeds_11 ?_
  refine g_iload_n (pc := 14) X 2 rfl dX12_feeds_14 ?_
  refine g_bipush (pc := 15) X (iI 8) (by decide) dX12_feeds_15 ?_
  refine g_iload_n (pc := 17) X 0 rfl dX12_feeds_17 ?_
  refine g_imulI (pc := 18) X dX12_feeds_18 ?_
  refine g_lit (y := iI 16) (by rfl) ?_
  refine g_iushr (pc := 19) X dX12_feeds_19 ?_
  refine g_lit (y := iI (us8 v 16)) (us8_e _ _) ?_
  refine g_i2b (pc := 20) X dX12_feeds_20 ?_
  refine g_lit (y := iI (sgI (by8 v 16))) (sg8_e _ _) ?_
  have b8_3 := sgI_b (by8_b v 16)
  refine g_bastG (pc := 21) X 1 rfl (by (first | (clear b_v b_nr b_at_ b_to_ b_fa b_va b_np b_tn b_pc_ b_st_ b_pa_ b_ta b_ow b_of_ b_ot b_rl b_hb b_bs b_se; omega) | omega)) (by (first | (clear b_v b_nr b_at_ b_to_ b_fa b_va b_np b_tn b_pc_ b_st_ b_pa_ b_ta b_ow b_of_ b_ot b_rl b_hb b_bs b_se; omega) | omega)) (by (first | (clear b_v b_nr b_at_ b_to_ b_fa b_va b_np b_tn b_pc_ b_st_ b_pa_ b_ta b_ow b_of_ b_ot b_rl b_hb b_bs b_se; omega) | omega)) (by (first | (clear b_v b_nr b_at_ b_to_ b_fa b_va b_np b_tn b_pc_ b_st_ b_pa_ b_ta b_ow b_of_ b_ot b_rl b_hb b_bs b_se; omega) | omega)) (ws' := fun F4 => [(g0, .inr (12, mO gA nr (tm + 1) at_ to_ fa va np tn pc_ st_ pa_ ta ow of_ ot rl hb bs se)), cA Z (gA 19) 1 400 F4]) (fun _ => rfl) dX12_feeds_21 (fun F4 eF4 => ?_)
  have hF4 : ∀ j, j < 400 → (-128) ≤ F4 j ∧ F4 j ≤ 127 := by rw [eF4]; exact updI_B hF2 (by (first | (clear b_v b_nr b_at_ b_to_ b_fa b_va b_np b_tn b_pc_ b_st_ b_pa_ b_ta b_ow b_of_ b_ot b_rl b_hb b_bs b_se; omega) | omega))
  refine g_aload_n (pc := 22) X 1 rfl dX12_feeds_22 ?_
  refine g_dup (pc := 23) X rfl dX12_feeds_23 ?_
  refine g_get (pc := 24) X inlX12 0 rfl rfl 20 (by decide) mw_10_18 rfl dX12_feeds_24 ?_
  refine g_iconst (pc := 27) X (iI 1) (by rfl) dX12_feeds_27 ?_
  refine g_iaddI (pc := 28) X dX12_feeds_28 ?_
  refine g_put (pc := 29) X inlX12 tyX12_ok nmX12 0 rfl rfl 20 (by decide) mw_10_18 rfl rfl rfl (Nat.le_of_ble_eq_true rfl) (ws' := [(g0, .inr (12, mO gA nr ((tm + 1) + 1) at_ to_ fa va np tn pc_ st_ pa_ ta ow of_ ot rl hb bs se)), cA Z (gA 19) 1 400 F4]) rfl dX12_feeds_29 ?_
  refine g_iinc (pc := 32) X 0 rfl (v := iI 1) (by rfl) (by decide) (lv' := [(2, .int (iI 1)), (0, .ref g0), (1, .int (iI v))]) rfl dX12_feeds_32 ?_
  refine g_goto (pc := 35) X 2 (by decide) dX12_feeds_35 ?_
  refine g_iload_n (pc := 2) X 0 rfl dX12_feeds_2 ?_
  refine g_if_ltI (pc := 3) X 38 (by decide) ⟨by decide, by decide⟩ dX12_feeds_3 (fun h => absurd h (by decide)) (fun _ => ?_)
  refine g_aload_n (pc := 6) X 1 rfl dX12_feeds_6 ?_
  refine g_get (pc := 7) X inlX12 0 rfl rfl 19 (by decide) mw_8_7 rfl dX12_feeds_7 ?_
  refine g_aload_n (pc := 10) X 1 rfl dX12_feeds_10 ?_
  refine g_get (pc := 11) X inlX12 0 rfl rfl 20 (by decide) mw_10_18 rfl dX12_feeds_11 ?_
  refine g_iload_n (pc := 14) X 2 rfl dX12_feeds_14 ?_
  refine g_bipush (pc := 15) X (iI 8) (by decide) dX12_feeds_15 ?_
  refine g_iload_n (pc := 17) X 0 rfl dX12_feeds_17 ?_
  refine g_imulI (pc := 18) X dX12_feeds_18 ?_
  refine g_lit (y := iI 8) (by rfl) ?_
  refine g_iushr (pc := 19) X dX12_feeds_19 ?_
  refine g_lit (y := iI (us8 v 8)) (us8_e _ _) ?_
  refine g_i2b (pc := 20) X dX12_feeds_20 ?_
  refine g_lit (y := iI (sgI (by8 v 8))) (sg8_e _ _) ?_
  have b8_5 := sgI_b (by8_b v 8)
  refine g_bastG (pc := 21) X 1 rfl (by (first | (clear b_v b_nr b_at_ b_to_ b_fa b_va b_np b_tn b_pc_ b_st_ b_pa_ b_ta b_ow b_of_ b_ot b_rl b_hb b_bs b_se; omega) | omega)) (by (first | (clear b_v b_nr b_at_ b_to_ b_fa b_va b_np b_tn b_pc_ b_st_ b_pa_ b_ta b_ow b_of_ b_ot b_rl b_hb b_bs b_se; omega) | omega)) (by (first | (clear b_v b_nr b_at_ b_to_ b_fa b_va b_np b_tn b_pc_ b_st_ b_pa_ b_ta b_ow b_of_ b_ot b_rl b_hb b_bs b_se; omega) | omega)) (by (first | (clear b_v b_nr b_at_ b_to_ b_fa b_va b_np b_tn b_pc_ b_st_ b_pa_ b_ta b_ow b_of_ b_ot b_rl b_hb b_bs b_se; omega) | omega)) (ws' := fun F6 => [(g0, .inr (12, mO gA nr ((tm + 1) + 1) at_ to_ fa va np tn pc_ st_ pa_ ta ow of_ ot rl hb bs se)), cA Z (gA 19) 1 400 F6]) (fun _ => rfl) dX12_feeds_21 (fun F6 eF6 => ?_)
  have hF6 : ∀ j, j < 400 → (-128) ≤ F6 j ∧ F6 j ≤ 127 := by rw [eF6]; exact updI_B hF4 (by (first | (clear b_v b_nr b_at_ b_to_ b_fa b_va b_np b_tn b_pc_ b_st_ b_pa_ b_ta b_ow b_of_ b_ot b_rl b_hb b_bs b_se; omega) | omega))
  refine g_aload_n (pc := 22) X 1 rfl dX12_feeds_22 ?_
  refine g_dup (pc := 23) X rfl dX12_feeds_23 ?_
  refine g_get (pc := 24) X inlX12 0 rfl rfl 20 (by decide) mw_10_18 rfl dX12_feeds_24 ?_
  refine g_iconst (pc := 27) X (iI 1) (by rfl) dX12_feeds_27 ?_
  refine g_iaddI (pc := 28) X dX12_feeds_28 ?_
  refine g_put (pc := 29) X inlX12 tyX12_ok nmX12 0 rfl rfl 20 (by decide) mw_10_18 rfl rfl rfl (Nat.le_of_ble_eq_true rfl) (ws' := [(g0, .inr (12, mO gA nr (((tm + 1) + 1) + 1) at_ to_ fa va np tn pc_ st_ pa_ ta ow of_ ot rl hb bs se)), cA Z (gA 19) 1 400 F6]) rfl dX12_feeds_29 ?_
  refine g_iinc (pc := 32) X 0 rfl (v := iI 0) (by rfl) (by decide) (lv' := [(2, .int (iI 0)), (0, .ref g0), (1, .int (iI v))]) rfl dX12_feeds_32 ?_
  refine g_goto (pc := 35) X 2 (by decide) dX12_feeds_35 ?_
  refine g_iload_n (pc := 2) X 0 rfl dX12_feeds_2 ?_
  refine g_if_ltI (pc := 3) X 38 (by decide) ⟨by decide, by decide⟩ dX12_feeds_3 (fun h => absurd h (by decide)) (fun _ => ?_)
  refine g_aload_n (pc := 6) X 1 rfl dX12_feeds_6 ?_
  refine g_get (pc := 7) X inlX12 0 rfl rfl 19 (by decide) mw_8_7 rfl dX12_feeds_7 ?_
  refine g_aload_n (pc := 10) X 1 rfl dX12_feeds_10 ?_
  refine g_get (pc := 11) X inlX12 0 rfl rfl 20 (by decide) mw_10_18 rfl dX12_feeds_11 ?_
  refine g_iload_n (pc := 14) X 2 rfl dX12_feeds_14 ?_
  refine g_bipush (pc := 15) X (iI 8) (by decide) dX12_feeds_15 ?_
  refine g_iload_n (pc := 17) X 0 rfl dX12_feeds_17 ?_
  refine g_imulI (pc := 18) X dX12_feeds_18 ?_
  refine g_lit (y := iI 0) (by rfl) ?_
  refine g_iushr (pc := 19) X dX12_feeds_19 ?_
  refine g_lit (y := iI (us8 v 0)) (us8_e _ _) ?_
  refine g_i2b (pc := 20) X dX12_feeds_20 ?_
  refine g_lit (y := iI (sgI (by8 v 0))) (sg8_e _ _) ?_
  have b8_7 := sgI_b (by8_b v 0)
  refine g_bastG (pc := 21) X 1 rfl (by (first | (clear b_v b_nr b_at_ b_to_ b_fa b_va b_np b_tn b_pc_ b_st_ b_pa_ b_ta b_ow b_of_ b_ot b_rl b_hb b_bs b_se; omega) | omega)) (by (first | (clear b_v b_nr b_at_ b_to_ b_fa b_va b_np b_tn b_pc_ b_st_ b_pa_ b_ta b_ow b_of_ b_ot b_rl b_hb b_bs b_se; omega) | omega)) (by (first | (clear b_v b_nr b_at_ b_to_ b_fa b_va b_np b_tn b_pc_ b_st_ b_pa_ b_ta b_ow b_of_ b_ot b_rl b_hb b_bs b_se; omega) | omega)) (by (first | (clear b_v b_nr b_at_ b_to_ b_fa b_va b_np b_tn b_pc_ b_st_ b_pa_ b_ta b_ow b_of_ b_ot b_rl b_hb b_bs b_se; omega) | omega)) (ws' := fun F8 => [(g0, .inr (12, mO gA nr (((tm + 1) + 1) + 1) at_ to_ fa va np tn pc_ st_ pa_ ta ow of_ ot rl hb bs se)), cA Z (gA 19) 1 400 F8]) (fun _ => rfl) dX12_feeds_21 (fun F8 eF8 => ?_)
  have hF8 : ∀ j, j < 400 → (-128) ≤ F8 j ∧ F8 j ≤ 127 := by rw [eF8]; exact updI_B hF6 (by (first | (clear b_v b_nr b_at_ b_to_ b_fa b_va b_np b_tn b_pc_ b_st_ b_pa_ b_ta b_ow b_of_ b_ot b_rl b_hb b_bs b_se; omega) | omega))
  refine g_aload_n (pc := 22) X 1 rfl dX12_feeds_22 ?_
  refine g_dup (pc := 23) X rfl dX12_feeds_23 ?_
  refine g_get (pc := 24) X inlX12 0 rfl rfl 20 (by decide) mw_10_18 rfl dX12_feeds_24 ?_
  refine g_iconst (pc := 27) X (iI 1) (by rfl) dX12_feeds_27 ?_
  refine g_iaddI (pc := 28) X dX12_feeds_28 ?_
  refine g_put (pc := 29) X inlX12 tyX12_ok nmX12 0 rfl rfl 20 (by decide) mw_10_18 rfl rfl rfl (Nat.le_of_ble_eq_true rfl) (ws' := [(g0, .inr (12, mO gA nr ((((tm + 1) + 1) + 1) + 1) at_ to_ fa va np tn pc_ st_ pa_ ta ow of_ ot rl hb bs se)), cA Z (gA 19) 1 400 F8]) rfl dX12_feeds_29 ?_
  refine g_iinc (pc := 32) X 0 rfl (v := iI (-1)) (by rfl) (by decide) (lv' := [(2, .int (iI (-1))), (0, .ref g0), (1, .int (iI v))]) rfl dX12_feeds_32 ?_
  refine g_goto (pc := 35) X 2 (by decide) dX12_feeds_35 ?_
  refine g_iload_n (pc := 2) X 0 rfl dX12_feeds_2 ?_
  refine g_if_ltI (pc := 3) X 38 (by decide) ⟨by decide, by decide⟩ dX12_feeds_3 (fun _ => ?_) (fun h => absurd h (by decide))
  exact g_vret (pc := 38) X hA (⟨F8, rfl, rfl, (hF8), (by (first | (clear b_v b_nr b_at_ b_to_ b_fa b_va b_np b_tn b_pc_ b_st_ b_pa_ b_ta b_ow b_of_ b_ot b_rl b_hb b_bs b_se; omega) | omega)), (by rw [eF8, eF6, eF4, eF2]; rfl)⟩) (by decide) (by decide) dX12_feeds_38

set_option maxHeartbeats 4000000 in
set_option maxRecDepth 100000 in
theorem kx_X12_feed (l : Launch) (Z : gZ) (g0 : Nat) (gA : Nat → Nat) (Mt : Nat → Int) (a1 : Int) (a2 : Int) (a3 : Int) (a4 : Int) (a5 : Int) (nr : Int) (tm : Int) (at_ : Int) (to_ : Int) (fa : Int) (va : Int) (np : Int) (tn : Int) (pc_ : Int) (st_ : Int) (pa_ : Int) (ta : Int) (ow : Int) (of_ : Int) (ot : Int) (rl : Int) (hb : Int) (bs : Int) (se : Int) (b_a1 : (-2147483648) ≤ a1 ∧ a1 ≤ 2147483647) (b_a2 : (-2147483648) ≤ a2 ∧ a2 ≤ 2147483647) (b_a3 : (-2147483648) ≤ a3 ∧ a3 ≤ 2147483647) (b_a4 : (-2147483648) ≤ a4 ∧ a4 ≤ 2147483647) (b_a5 : (-2147483648) ≤ a5 ∧ a5 ≤ 2147483647) (b_nr : 0 ≤ nr ∧ nr ≤ 6) (b_tm : 0 ≤ tm ∧ tm ≤ 400) (b_at_ : 0 ≤ at_ ∧ at_ ≤ 400) (b_to_ : 0 ≤ to_ ∧ to_ ≤ 400) (b_fa : (-1) ≤ fa ∧ fa ≤ 400) (b_va : (-2147483648) ≤ va ∧ va ≤ 2147483647) (b_np : 0 ≤ np ∧ np ≤ 4) (b_tn : 0 ≤ tn ∧ tn ≤ 20) (b_pc_ : 0 ≤ pc_ ∧ pc_ ≤ 480) (b_st_ : 0 ≤ st_ ∧ st_ ≤ 240) (b_pa_ : (-1) ≤ pa_ ∧ pa_ ≤ 3) (b_ta : (-2147483648) ≤ ta ∧ ta ≤ 2147483647) (b_ow : (-2147483648) ≤ ow ∧ ow ≤ 2147483647) (b_of_ : (-2147483648) ≤ of_ ∧ of_ ≤ 2147483647) (b_ot : (-2147483648) ≤ ot ∧ ot ≤ 2147483647) (b_rl : 0 ≤ rl ∧ rl ≤ 2880) (b_hb : 0 ≤ hb ∧ hb ≤ 4) (b_bs : (-2147483648) ≤ bs ∧ bs ≤ 2147483647) (b_se : 0 ≤ se ∧ se ≤ 10) (h_Mt : ∀ j, j < 400 → (-128) ≤ Mt j ∧ Mt j ≤ 127) : Con l Z yX12_feed cX12_feed 6 (some .int) 1 22 0 0 [.ref g0, .int (iI a1), .int (iI a2), .int (iI a3), .int (iI a4), .int (iI a5)] [(g0, .inr (12, mO gA nr tm at_ to_ fa va np tn pc_ st_ pa_ ta ow of_ ot rl hb bs se)), cA Z (gA 19) 1 400 Mt] (fun r w' => ((r = some (.int (iI (-1)))) ∧ (w' = [(g0, .inr (12, mO gA nr tm at_ to_ fa va np tn pc_ st_ pa_ ta ow of_ ot rl hb bs se)), cA Z (gA 19) 1 400 Mt]) ∧ (380 < tm)) ∨ (∃ (Mt2 : Nat → Int), (r = some (.int (iI (tm + 1 + 1 + 1 + 1 + 1 + 1 + 1 + 1 + 1 + 1 + 1 + 1 + 1 + 1 + 1 + 1 + 1 + 1 + 1 + 1)))) ∧ (w' = [(g0, .inr (12, mO gA nr (tm + 1 + 1 + 1 + 1 + 1 + 1 + 1 + 1 + 1 + 1 + 1 + 1 + 1 + 1 + 1 + 1 + 1 + 1 + 1 + 1) at_ to_ fa va np tn pc_ st_ pa_ ta ow of_ ot rl hb bs se)), cA Z (gA 19) 1 400 Mt2]) ∧ (∀ j, j < 400 → (-128) ≤ Mt2 j ∧ Mt2 j ≤ 127) ∧ (tm ≤ 380) ∧ (Mt2 = gm20 Mt tm a1 a2 a3 a4 a5))) := by
  refine enter (by decide) (Nat.le_of_ble_eq_true rfl) ?_
  intro p e s m args below meth c A X hnm hA
  have X : Cx p s m args meth c cX12_feed 6 (some .int) RX12 Z A := X
  refine g_as (pc' := 0) (lv' := [(0, .ref g0), (1, .int (iI a1)), (2, .int (iI a2)), (3, .int (iI a3)), (4, .int (iI a4)), (5, .int (iI a5))]) (st' := []) (ws' := [(g0, .inr (12, mO gA nr tm at_ to_ fa va np tn pc_ st_ pa_ ta ow of_ ot rl hb bs se)), cA Z (gA 19) 1 400 Mt]) rfl rfl rfl rfl ?_
  refine g_aload_n (pc := 0) X 0 rfl dX12_feed_0 ?_
  refine g_get (pc := 1) X inlX12 0 rfl rfl 20 (by decide) mw_10_18 rfl dX12_feed_1 ?_
  refine g_bipush (pc := 4) X (iI 20) (by decide) dX12_feed_4 ?_
  refine g_iaddI (pc := 6) X dX12_feed_6 ?_
  refine g_sipush (pc := 7) X (iI 400) (by decide) dX12_feed_7 ?_
  refine g_icmp_leI (pc := 10) X 15 (by decide) ⟨by (first | (clear b_a1 b_a2 b_a3 b_a4 b_a5 b_nr b_at_ b_to_ b_fa b_va b_np b_tn b_pc_ b_st_ b_pa_ b_ta b_ow b_of_ b_ot b_rl b_hb b_bs b_se; omega) | omega), by (first | (clear b_a1 b_a2 b_a3 b_a4 b_a5 b_nr b_at_ b_to_ b_fa b_va b_np b_tn b_pc_ b_st_ b_pa_ b_ta b_ow b_of_ b_ot b_rl b_hb b_bs b_se; omega) | omega)⟩ ⟨by decide, by decide⟩ dX12_feed_10 (fun c10 => ?_) (fun c10 => ?_)
  · refine g_aload_n (pc := 15) X 0 rfl dX12_feed_15 ?_
    refine g_iload_n (pc := 16) X 1 rfl dX12_feed_16 ?_
    refine g_callV (pc := 17) X (kx_X12_feeds l Z g0 gA Mt a1 nr tm at_ to_ fa va np tn pc_ st_ pa_ ta ow of_ ot rl hb bs se b_a1 b_nr b_tm b_at_ b_to_ b_fa b_va b_np b_tn b_pc_ b_st_ b_pa_ b_ta b_ow b_of_ b_ot b_rl b_hb b_bs b_se (by (first | (clear b_a1 b_a2 b_a3 b_a4 b_a5 b_nr b_at_ b_to_ b_fa b_va b_np b_tn b_pc_ b_st_ b_pa_ b_ta b_ow b_of_ b_ot b_rl b_hb b_bs b_se; omega) | omega)) (h_Mt)) iM_X12_feeds mw_10_19 mw_10_20 mw_10_21 0 rfl rfl [0, 1] [] rfl (wr := []) rfl (by decide) rfl rfl (Nat.le_of_ble_eq_true rfl) (by decide) dX12_feed_17 (fun r w' hpo => ?_)
    refine exN_1 hpo fun F1 hz => anD_5 hz fun e_r e_w hf17_h_Mt2 hf17_f1 hf17_fT => ?_; clear hz hpo; subst e_r; subst e_w
    refine g_as (pc' := 20) (lv' := [(0, .ref g0), (1, .int (iI a1)), (2, .int (iI a2)), (3, .int (iI a3)), (4, .int (iI a4)), (5, .int (iI a5))]) (st' := []) (ws' := [(g0, .inr (12, mO gA nr (tm + 1 + 1 + 1 + 1) at_ to_ fa va np tn pc_ st_ pa_ ta ow of_ ot rl hb bs se)), cA Z (gA 19) 1 400 F1]) rfl rfl rfl rfl ?_
    refine g_aload_n (pc := 20) X 0 rfl dX12_feed_20 ?_
    refine g_iload_n (pc := 21) X 2 rfl dX12_feed_21 ?_
    refine g_callV (pc := 22) X (kx_X12_feeds l Z g0 gA F1 a2 nr (tm + 1 + 1 + 1 + 1) at_ to_ fa va np tn pc_ st_ pa_ ta ow of_ ot rl hb bs se b_a2 b_nr (by (first | (clear b_a1 b_a2 b_a3 b_a4 b_a5 b_nr b_at_ b_to_ b_fa b_va b_np b_tn b_pc_ b_st_ b_pa_ b_ta b_ow b_of_ b_ot b_rl b_hb b_bs b_se; omega) | omega)) b_at_ b_to_ b_fa b_va b_np b_tn b_pc_ b_st_ b_pa_ b_ta b_ow b_of_ b_ot b_rl b_hb b_bs b_se (by (first | (clear b_a1 b_a2 b_a3 b_a4 b_a5 b_nr b_at_ b_to_ b_fa b_va b_np b_tn b_pc_ b_st_ b_pa_ b_ta b_ow b_of_ b_ot b_rl b_hb b_bs b_se; omega) | omega)) (hf17_h_Mt2)) iM_X12_feeds mw_10_19 mw_10_20 mw_10_21 0 rfl rfl [0, 1] [] rfl (wr := []) rfl (by decide) rfl rfl (Nat.le_of_ble_eq_true rfl) (by decide) dX12_feed_22 (fun r w' hpo => ?_)
    refine exN_1 hpo fun F3 hz => anD_5 hz fun e_r e_w hf22_h_Mt2 hf22_f1 hf22_fT => ?_; clear hz hpo; subst e_r; subst e_w
    refine g_as (pc' := 25) (lv' := [(0, .ref g0), (1, .int (iI a1)), (2, .int (iI a2)), (3, .int (iI a3)), (4, .int (iI a4)), (5, .int (iI a5))]) (st' := []) (ws' := [(g0, .inr (12, mO gA nr ((tm + 1 + 1 + 1 + 1) + 1 + 1 + 1 + 1) at_ to_ fa va np tn pc_ st_ pa_ ta ow of_ ot rl hb bs se)), cA Z (gA 19) 1 400 F3]) rfl rfl rfl rfl ?_
    refine g_aload_n (pc := 25) X 0 rfl dX12_feed_25 ?_
    refine g_iload_n (pc := 26) X 3 rfl dX12_feed_26 ?_
    refine g_callV (pc := 27) X (kx_X12_feeds l Z g0 gA F3 a3 nr ((tm + 1 + 1 + 1 + 1) + 1 + 1 + 1 + 1) at_ to_ fa va np tn pc_ st_ pa_ ta ow of_ ot rl hb bs se b_a3 b_nr (by (first | (clear b_a1 b_a2 b_a3 b_a4 b_a5 b_nr b_at_ b_to_ b_fa b_va b_np b_tn b_pc_ b_st_ b_pa_ b_ta b_ow b_of_ b_ot b_rl b_hb b_bs b_se; omega) | omega)) b_at_ b_to_ b_fa b_va b_np b_tn b_pc_ b_st_ b_pa_ b_ta b_ow b_of_ b_ot b_rl b_hb b_bs b_se (by (first | (clear b_a1 b_a2 b_a3 b_a4 b_a5 b_nr b_at_ b_to_ b_fa b_va b_np b_tn b_pc_ b_st_ b_pa_ b_ta b_ow b_of_ b_ot b_rl b_hb b_bs b_se; omega) | omega)) (hf22_h_Mt2)) iM_X12_feeds mw_10_19 mw_10_20 mw_10_21 0 rfl rfl [0, 1] [] rfl (wr := []) rfl (by decide) rfl rfl (Nat.le_of_ble_eq_true rfl) (by decide) dX12_feed_27 (fun r w' hpo => ?_)
    refine exN_1 hpo fun F5 hz => anD_5 hz fun e_r e_w hf27_h_Mt2 hf27_f1 hf27_fT => ?_; clear hz hpo; subst e_r; subst e_w
    refine g_as (pc' := 30) (lv' := [(0, .ref g0), (1, .int (iI a1)), (2, .int (iI a2)), (3, .int (iI a3)), (4, .int (iI a4)), (5, .int (iI a5))]) (st' := []) (ws' := [(g0, .inr (12, mO gA nr (((tm + 1 + 1 + 1 + 1) + 1 + 1 + 1 + 1) + 1 + 1 + 1 + 1) at_ to_ fa va np tn pc_ st_ pa_ ta ow of_ ot rl hb bs se)), cA Z (gA 19) 1 400 F5]) rfl rfl rfl rfl ?_
    refine g_aload_n (pc := 30) X 0 rfl dX12_feed_30 ?_
    refine g_iload (pc := 31) X 4 rfl dX12_feed_31 ?_
    refine g_callV (pc := 33) X (kx_X12_feeds l Z g0 gA F5 a4 nr (((tm + 1 + 1 + 1 + 1) + 1 + 1 + 1 + 1) + 1 + 1 + 1 + 1) at_ to_ fa va np tn pc_ st_ pa_ ta ow of_ ot rl hb bs se b_a4 b_nr (by (first | (clear b_a1 b_a2 b_a3 b_a4 b_a5 b_nr b_at_ b_to_ b_fa b_va b_np b_tn b_pc_ b_st_ b_pa_ b_ta b_ow b_of_ b_ot b_rl b_hb b_bs b_se; omega) | omega)) b_at_ b_to_ b_fa b_va b_np b_tn b_pc_ b_st_ b_pa_ b_ta b_ow b_of_ b_ot b_rl b_hb b_bs b_se (by (first | (clear b_a1 b_a2 b_a3 b_a4 b_a5 b_nr b_at_ b_to_ b_fa b_va b_np b_tn b_pc_ b_st_ b_pa_ b_ta b_ow b_of_ b_ot b_rl b_hb b_bs b_se; omega) | omega)) (hf27_h_Mt2)) iM_X12_feeds mw_10_19 mw_10_20 mw_10_21 0 rfl rfl [0, 1] [] rfl (wr := []) rfl (by decide) rfl rfl (Nat.le_of_ble_eq_true rfl) (by decide) dX12_feed_33 (fun r w' hpo => ?_)
    refine exN_1 hpo fun F7 hz => anD_5 hz fun e_r e_w hf33_h_Mt2 hf33_f1 hf33_fT => ?_; clear hz hpo; subst e_r; subst e_w
    refine g_as (pc' := 36) (lv' := [(0, .ref g0), (1, .int (iI a1)), (2, .int (iI a2)), (3, .int (iI a3)), (4, .int (iI a4)), (5, .int (iI a5))]) (st' := []) (ws' := [(g0, .inr (12, mO gA nr ((((tm + 1 + 1 + 1 + 1) + 1 + 1 + 1 + 1) + 1 + 1 + 1 + 1) + 1 + 1 + 1 + 1) at_ to_ fa va np tn pc_ st_ pa_ ta ow of_ ot rl hb bs se)), cA Z (gA 19) 1 400 F7]) rfl rfl rfl rfl ?_
    refine g_aload_n (pc := 36) X 0 rfl dX12_feed_36 ?_
    refine g_iload (pc := 37) X 5 rfl dX12_feed_37 ?_
    refine g_callV (pc := 39) X (kx_X12_feeds l Z g0 gA F7 a5 nr ((((tm + 1 + 1 + 1 + 1) + 1 + 1 + 1 + 1) + 1 + 1 + 1 + 1) + 1 + 1 + 1 + 1) at_ to_ fa va np tn pc_ st_ pa_ ta ow of_ ot rl hb bs se b_a5 b_nr (by (first | (clear b_a1 b_a2 b_a3 b_a4 b_a5 b_nr b_at_ b_to_ b_fa b_va b_np b_tn b_pc_ b_st_ b_pa_ b_ta b_ow b_of_ b_ot b_rl b_hb b_bs b_se; omega) | omega)) b_at_ b_to_ b_fa b_va b_np b_tn b_pc_ b_st_ b_pa_ b_ta b_ow b_of_ b_ot b_rl b_hb b_bs b_se (by (first | (clear b_a1 b_a2 b_a3 b_a4 b_a5 b_nr b_at_ b_to_ b_fa b_va b_np b_tn b_pc_ b_st_ b_pa_ b_ta b_ow b_of_ b_ot b_rl b_hb b_bs b_se; omega) | omega)) (hf33_h_Mt2)) iM_X12_feeds mw_10_19 mw_10_20 mw_10_21 0 rfl rfl [0, 1] [] rfl (wr := []) rfl (by decide) rfl rfl (Nat.le_of_ble_eq_true rfl) (by decide) dX12_feed_39 (fun r w' hpo => ?_)
    refine exN_1 hpo fun F9 hz => anD_5 hz fun e_r e_w hf39_h_Mt2 hf39_f1 hf39_fT => ?_; clear hz hpo; subst e_r; subst e_w
    refine g_as (pc' := 42) (lv' := [(0, .ref g0), (1, .int (iI a1)), (2, .int (iI a2)), (3, .int (iI a3)), (4, .int (iI a4)), (5, .int (iI a5))]) (st' := []) (ws' := [(g0, .inr (12, mO gA nr (((((tm + 1 + 1 + 1 + 1) + 1 + 1 + 1 + 1) + 1 + 1 + 1 + 1) + 1 + 1 + 1 + 1) + 1 + 1 + 1 + 1) at_ to_ fa va np tn pc_ st_ pa_ ta ow of_ ot rl hb bs se)), cA Z (gA 19) 1 400 F9]) rfl rfl rfl rfl ?_
    refine g_aload_n (pc := 42) X 0 rfl dX12_feed_42 ?_
    refine g_get (pc := 43) X inlX12 0 rfl rfl 20 (by decide) mw_10_18 rfl dX12_feed_43 ?_
    exact g_iret (pc := 46) X hA (Or.inr (⟨F9, rfl, rfl, (hf39_h_Mt2), (by (first | (clear b_a1 b_a2 b_a3 b_a4 b_a5 b_nr b_at_ b_to_ b_fa b_va b_np b_tn b_pc_ b_st_ b_pa_ b_ta b_ow b_of_ b_ot b_rl b_hb b_bs b_se; omega) | omega)), (by rw [hf39_fT, hf33_fT, hf27_fT, hf22_fT, hf17_fT]; rfl)⟩)) (by decide) (by decide) dX12_feed_46
  · refine g_iconst (pc := 13) X (iI (-1)) (by rfl) dX12_feed_13 ?_
    exact g_iret (pc := 14) X hA (Or.inl (⟨rfl, rfl, (by (first | (clear b_a1 b_a2 b_a3 b_a4 b_a5 b_nr b_at_ b_to_ b_fa b_va b_np b_tn b_pc_ b_st_ b_pa_ b_ta b_ow b_of_ b_ot b_rl b_hb b_bs b_se; omega) | omega))⟩)) (by decide) (by decide) dX12_feed_14

set_option maxHeartbeats 4000000 in
set_option maxRecDepth 100000 in
theorem kx_X12_count (l : Launch) (Z : gZ) (g0 : Nat) (gA : Nat → Nat) (b1 : Int) (nr : Int) (tm : Int) (at_ : Int) (to_ : Int) (fa : Int) (va : Int) (np : Int) (tn : Int) (pc_ : Int) (st_ : Int) (pa_ : Int) (ta : Int) (ow : Int) (of_ : Int) (ot : Int) (rl : Int) (hb : Int) (bs : Int) (se : Int) (b_b1 : (-2147483648) ≤ b1 ∧ b1 ≤ 2147483647) (b_nr : 0 ≤ nr ∧ nr ≤ 6) (b_tm : 0 ≤ tm ∧ tm ≤ 400) (b_at_ : 0 ≤ at_ ∧ at_ ≤ 400) (b_to_ : 0 ≤ to_ ∧ to_ ≤ 400) (b_fa : (-1) ≤ fa ∧ fa ≤ 400) (b_va : (-2147483648) ≤ va ∧ va ≤ 2147483647) (b_np : 0 ≤ np ∧ np ≤ 4) (b_tn : 0 ≤ tn ∧ tn ≤ 20) (b_pc_ : 0 ≤ pc_ ∧ pc_ ≤ 480) (b_st_ : 0 ≤ st_ ∧ st_ ≤ 240) (b_pa_ : (-1) ≤ pa_ ∧ pa_ ≤ 3) (b_ta : (-2147483648) ≤ ta ∧ ta ≤ 2147483647) (b_ow : (-2147483648) ≤ ow ∧ ow ≤ 2147483647) (b_of_ : (-2147483648) ≤ of_ ∧ of_ ≤ 2147483647) (b_ot : (-2147483648) ≤ ot ∧ ot ≤ 2147483647) (b_rl : 0 ≤ rl ∧ rl ≤ 2880) (b_hb : 0 ≤ hb ∧ hb ≤ 4) (b_bs : (-2147483648) ≤ bs ∧ bs ≤ 2147483647) (b_se : 0 ≤ se ∧ se ≤ 10) : Con l Z yX12_count cX12_count 2 (some .int) 0 0 0 0 [.ref g0, .int (iI b1)] [(g0, .inr (12, mO gA nr tm at_ to_ fa va np tn pc_ st_ pa_ ta ow of_ ot rl hb bs se))] (fun r w' => ∃ (y : Int), (r = some (.int (iI y))) ∧ (w' = [(g0, .inr (12, mO gA nr tm at_ to_ fa va np tn pc_ st_ pa_ ta ow of_ ot rl hb bs se))]) ∧ ((-2147483648) ≤ y ∧ y ≤ 2147483647) ∧ (cnqF b1 nr np tn hb se tm y)) := by
  refine enter (by decide) (Nat.le_of_ble_eq_true rfl) ?_
  intro p e s m args below meth c A X hnm hA
  have X : Cx p s m args meth c cX12_count 2 (some .int) RX12 Z A := X
  refine g_as (pc' := 0) (lv' := [(0, .ref g0), (1, .int (iI b1))]) (st' := []) (ws' := [(g0, .inr (12, mO gA nr tm at_ to_ fa va np tn pc_ st_ pa_ ta ow of_ ot rl hb bs se))]) rfl rfl rfl rfl ?_
  refine g_iload_n (pc := 0) X 1 rfl dX12_count_0 ?_
  by_cases c1 : b1 < 0 ∨ 5 < b1
  · refine g_tableOutI (pc := 1) X 70 b_b1 c1 (by decide) dX12_count_1 ?_
    refine g_iconst (pc := 70) X (iI (-1)) (by rfl) dX12_count_70 ?_
    exact g_iret (pc := 71) X hA (⟨(-1), rfl, rfl, (by (first | (clear b_nr b_tm b_at_ b_to_ b_fa b_va b_np b_tn b_pc_ b_st_ b_pa_ b_ta b_ow b_of_ b_ot b_rl b_hb b_bs b_se; omega) | omega)), (by unfold cnqF; omega)⟩) (by decide) (by decide) dX12_count_71
  · obtain c1_0 | c1_1 | c1_2 | c1_3 | c1_4 | c1_5 := (show b1 = 0 ∨ b1 = 1 ∨ b1 = 2 ∨ b1 = 3 ∨ b1 = 4 ∨ b1 = 5 by (first | (clear b_nr b_tm b_at_ b_to_ b_fa b_va b_np b_tn b_pc_ b_st_ b_pa_ b_ta b_ow b_of_ b_ot b_rl b_hb b_bs b_se; omega) | omega))
    · refine g_tableInI (pc := 1) X 40 b_b1 (by (first | (clear b_nr b_tm b_at_ b_to_ b_fa b_va b_np b_tn b_pc_ b_st_ b_pa_ b_ta b_ow b_of_ b_ot b_rl b_hb b_bs b_se; omega) | omega)) (by (first | (clear b_nr b_tm b_at_ b_to_ b_fa b_va b_np b_tn b_pc_ b_st_ b_pa_ b_ta b_ow b_of_ b_ot b_rl b_hb b_bs b_se; omega) | omega)) (by rw [c1_0]; rfl) (by decide) dX12_count_1 ?_
      refine g_aload_n (pc := 40) X 0 rfl dX12_count_40 ?_
      refine g_get (pc := 41) X inlX12 0 rfl rfl 18 (by decide) mw_22_12 rfl dX12_count_41 ?_
      exact g_iret (pc := 44) X hA (⟨nr, rfl, rfl, (by (first | (clear b_nr b_tm b_at_ b_to_ b_fa b_va b_np b_tn b_pc_ b_st_ b_pa_ b_ta b_ow b_of_ b_ot b_rl b_hb b_bs b_se; omega) | omega)), (by unfold cnqF; omega)⟩) (by decide) (by decide) dX12_count_44
    · refine g_tableInI (pc := 1) X 45 b_b1 (by (first | (clear b_nr b_tm b_at_ b_to_ b_fa b_va b_np b_tn b_pc_ b_st_ b_pa_ b_ta b_ow b_of_ b_ot b_rl b_hb b_bs b_se; omega) | omega)) (by (first | (clear b_nr b_tm b_at_ b_to_ b_fa b_va b_np b_tn b_pc_ b_st_ b_pa_ b_ta b_ow b_of_ b_ot b_rl b_hb b_bs b_se; omega) | omega)) (by rw [c1_1]; rfl) (by decide) dX12_count_1 ?_
      refine g_aload_n (pc := 45) X 0 rfl dX12_count_45 ?_
      refine g_get (pc := 46) X inlX12 0 rfl rfl 32 (by decide) mw_31_23 rfl dX12_count_46 ?_
      exact g_iret (pc := 49) X hA (⟨np, rfl, rfl, (by (first | (clear b_nr b_tm b_at_ b_to_ b_fa b_va b_np b_tn b_pc_ b_st_ b_pa_ b_ta b_ow b_of_ b_ot b_rl b_hb b_bs b_se; omega) | omega)), (by unfold cnqF; omega)⟩) (by decide) (by decide) dX12_count_49
    · refine g_tableInI (pc := 1) X 50 b_b1 (by (first | (clear b_nr b_tm b_at_ b_to_ b_fa b_va b_np b_tn b_pc_ b_st_ b_pa_ b_ta b_ow b_of_ b_ot b_rl b_hb b_bs b_se; omega) | omega)) (by (first | (clear b_nr b_tm b_at_ b_to_ b_fa b_va b_np b_tn b_pc_ b_st_ b_pa_ b_ta b_ow b_of_ b_ot b_rl b_hb b_bs b_se; omega) | omega)) (by rw [c1_2]; rfl) (by decide) dX12_count_1 ?_
      refine g_aload_n (pc := 50) X 0 rfl dX12_count_50 ?_
      refine g_get (pc := 51) X inlX12 0 rfl rfl 33 (by decide) mw_8_16 rfl dX12_count_51 ?_
      exact g_iret (pc := 54) X hA (⟨tn, rfl, rfl, (by (first | (clear b_nr b_tm b_at_ b_to_ b_fa b_va b_np b_tn b_pc_ b_st_ b_pa_ b_ta b_ow b_of_ b_ot b_rl b_hb b_bs b_se; omega) | omega)), (by unfold cnqF; omega)⟩) (by decide) (by decide) dX12_count_54
    · refine g_tableInI (pc := 1) X 55 b_b1 (by (first | (clear b_nr b_tm b_at_ b_to_ b_fa b_va b_np b_tn b_pc_ b_st_ b_pa_ b_ta b_ow b_of_ b_ot b_rl b_hb b_bs b_se; omega) | omega)) (by (first | (clear b_nr b_tm b_at_ b_to_ b_fa b_va b_np b_tn b_pc_ b_st_ b_pa_ b_ta b_ow b_of_ b_ot b_rl b_hb b_bs b_se; omega) | omega)) (by rw [c1_3]; rfl) (by decide) dX12_count_1 ?_
      refine g_aload_n (pc := 55) X 0 rfl dX12_count_55 ?_
      refine g_get (pc := 56) X inlX12 0 rfl rfl 64 (by decide) mw_47_13 rfl dX12_count_56 ?_
      exact g_iret (pc := 59) X hA (⟨hb, rfl, rfl, (by (first | (clear b_nr b_tm b_at_ b_to_ b_fa b_va b_np b_tn b_pc_ b_st_ b_pa_ b_ta b_ow b_of_ b_ot b_rl b_hb b_bs b_se; omega) | omega)), (by unfold cnqF; omega)⟩) (by decide) (by decide) dX12_count_59
    · refine g_tableInI (pc := 1) X 60 b_b1 (by (first | (clear b_nr b_tm b_at_ b_to_ b_fa b_va b_np b_tn b_pc_ b_st_ b_pa_ b_ta b_ow b_of_ b_ot b_rl b_hb b_bs b_se; omega) | omega)) (by (first | (clear b_nr b_tm b_at_ b_to_ b_fa b_va b_np b_tn b_pc_ b_st_ b_pa_ b_ta b_ow b_of_ b_ot b_rl b_hb b_bs b_se; omega) | omega)) (by rw [c1_4]; rfl) (by decide) dX12_count_1 ?_
      refine g_aload_n (pc := 60) X 0 rfl dX12_count_60 ?_
      refine g_get (pc := 61) X inlX12 0 rfl rfl 69 (by decide) mw_51_15 rfl dX12_count_61 ?_
      exact g_iret (pc := 64) X hA (⟨se, rfl, rfl, (by (first | (clear b_nr b_tm b_at_ b_to_ b_fa b_va b_np b_tn b_pc_ b_st_ b_pa_ b_ta b_ow b_of_ b_ot b_rl b_hb b_bs b_se; omega) | omega)), (by unfold cnqF; omega)⟩) (by decide) (by decide) dX12_count_64
    · refine g_tableInI (pc := 1) X 65 b_b1 (by (first | (clear b_nr b_tm b_at_ b_to_ b_fa b_va b_np b_tn b_pc_ b_st_ b_pa_ b_ta b_ow b_of_ b_ot b_rl b_hb b_bs b_se; omega) | omega)) (by (first | (clear b_nr b_tm b_at_ b_to_ b_fa b_va b_np b_tn b_pc_ b_st_ b_pa_ b_ta b_ow b_of_ b_ot b_rl b_hb b_bs b_se; omega) | omega)) (by rw [c1_5]; rfl) (by decide) dX12_count_1 ?_
      refine g_aload_n (pc := 65) X 0 rfl dX12_count_65 ?_
      refine g_get (pc := 66) X inlX12 0 rfl rfl 20 (by decide) mw_10_18 rfl dX12_count_66 ?_
      exact g_iret (pc := 69) X hA (⟨tm, rfl, rfl, (by (first | (clear b_nr b_tm b_at_ b_to_ b_fa b_va b_np b_tn b_pc_ b_st_ b_pa_ b_ta b_ow b_of_ b_ot b_rl b_hb b_bs b_se; omega) | omega)), (by unfold cnqF; omega)⟩) (by decide) (by decide) dX12_count_69

set_option maxHeartbeats 4000000 in
set_option maxRecDepth 100000 in
theorem kx_X12_next (l : Launch) (Z : gZ) (g0 : Nat) (gA : Nat → Nat) (aA : Nat → Int) (aE : Nat → Int) (aK : Nat → Int) (aV : Nat → Int) (tj : Int) (Mt : Nat → Int) (nr : Int) (tm : Int) (at_ : Int) (to_ : Int) (fa : Int) (va : Int) (np : Int) (tn : Int) (pc_ : Int) (st_ : Int) (pa_ : Int) (ta : Int) (ow : Int) (of_ : Int) (ot : Int) (rl : Int) (hb : Int) (bs : Int) (se : Int) (b_nr : 0 ≤ nr ∧ nr ≤ 6) (b_tm : 0 ≤ tm ∧ tm ≤ 400) (b_at_ : 0 ≤ at_ ∧ at_ ≤ 400) (b_to_ : 0 ≤ to_ ∧ to_ ≤ 400) (b_fa : (-1) ≤ fa ∧ fa ≤ 400) (b_va : (-2147483648) ≤ va ∧ va ≤ 2147483647) (b_np : 0 ≤ np ∧ np ≤ 4) (b_tn : 0 ≤ tn ∧ tn ≤ 20) (b_pc_ : 0 ≤ pc_ ∧ pc_ ≤ 480) (b_st_ : 0 ≤ st_ ∧ st_ ≤ 240) (b_pa_ : (-1) ≤ pa_ ∧ pa_ ≤ 3) (b_ta : (-2147483648) ≤ ta ∧ ta ≤ 2147483647) (b_ow : (-2147483648) ≤ ow ∧ ow ≤ 2147483647) (b_of_ : (-2147483648) ≤ of_ ∧ of_ ≤ 2147483647) (b_ot : (-2147483648) ≤ ot ∧ ot ≤ 2147483647) (b_rl : 0 ≤ rl ∧ rl ≤ 2880) (b_hb : 0 ≤ hb ∧ hb ≤ 4) (b_bs : (-2147483648) ≤ bs ∧ bs ≤ 2147483647) (b_se : 0 ≤ se ∧ se ≤ 10) (hT : aA = tA Mt tm ∧ aE = tE Mt tm ∧ aK = tK Mt tm ∧ aV = tV Mt tm) (hj0 : to_ ≤ tm) (hs : skp Mt tm 401 to_ = aA tj.toNat) (h_Mt : ∀ j, j < 400 → (-128) ≤ Mt j ∧ Mt j ≤ 127) : Con l Z yX12_next cX12_next 1 none 1 23 0 0 [.ref g0] [(g0, .inr (12, mO gA nr tm at_ to_ fa va np tn pc_ st_ pa_ ta ow of_ ot rl hb bs se)), cA Z (gA 19) 1 400 Mt] (fun r w' => (r = none) ∧ (w' = [(g0, .inr (12, mO gA nr tm (aA tj.toNat) (aE tj.toNat) fa va np tn pc_ st_ pa_ ta ow of_ ot rl hb bs se)), cA Z (gA 19) 1 400 Mt]) ∧ (0 ≤ aA tj.toNat) ∧ (aA tj.toNat ≤ aE tj.toNat ∧ aE tj.toNat ≤ tm) ∧ (aA tj.toNat < tm → aA tj.toNat < aE tj.toNat)) := by
  refine enter (by decide) (Nat.le_of_ble_eq_true rfl) ?_
  intro p e s m args below meth c A X hnm hA
  have X : Cx p s m args meth c cX12_next 1 none RX12 Z A := X
  refine g_as (pc' := 0) (lv' := [(0, .ref g0)]) (st' := []) (ws' := [(g0, .inr (12, mO gA nr tm at_ to_ fa va np tn pc_ st_ pa_ ta ow of_ ot rl hb bs se)), cA Z (gA 19) 1 400 Mt]) rfl rfl rfl rfl ?_
  refine g_aload_n (pc := 0) X 0 rfl dX12_next_0 ?_
  refine g_aload_n (pc := 1) X 0 rfl dX12_next_1 ?_
  refine g_get (pc := 2) X inlX12 0 rfl rfl 22 (by decide) mw_19_22 rfl dX12_next_2 ?_
  refine g_put (pc := 5) X inlX12 tyX12_ok nmX12 0 rfl rfl 21 (by decide) mw_19_23 rfl rfl rfl (Nat.le_of_ble_eq_true rfl) (ws' := [(g0, .inr (12, mO gA nr tm to_ to_ fa va np tn pc_ st_ pa_ ta ow of_ ot rl hb bs se)), cA Z (gA 19) 1 400 Mt]) rfl dX12_next_5 ?_
  have loop8 : ∀ (fuel : Nat) (at1 : Int), (0 ≤ at1 ∧ at1 ≤ 400) → (to_ ≤ at1 ∧ at1 ≤ tm) → (∀ j : Nat, to_ ≤ (j : Int) → (j : Int) < at1 → Mt j = 32 ∨ Mt j = 10) → (401 - at1).toNat < fuel → Gs p l e ({ frames := 1, cells := 0, slots := 0, locals := 23 } : Room) s m args below meth c (MQ below (gPost Z [(g0, .inr (12, mO gA nr tm at_ to_ fa va np tn pc_ st_ pa_ ta ow of_ ot rl hb bs se)), cA Z (gA 19) 1 400 Mt] s.heap.size (fun r w' => (r = none) ∧ (w' = [(g0, .inr (12, mO gA nr tm (aA tj.toNat) (aE tj.toNat) fa va np tn pc_ st_ pa_ ta ow of_ ot rl hb bs se)), cA Z (gA 19) 1 400 Mt]) ∧ (0 ≤ aA tj.toNat) ∧ (aA tj.toNat ≤ aE tj.toNat ∧ aE tj.toNat ≤ tm) ∧ (aA tj.toNat < tm → aA tj.toNat < aE tj.toNat))) args s 0 0 (va_A [(g0, .inr (12, mO gA nr tm at_ to_ fa va np tn pc_ st_ pa_ ta ow of_ ot rl hb bs se)), cA Z (gA 19) 1 400 Mt] s.heap.size)) Z A 1 0 0 8 [(0, .ref g0)] [] [(g0, .inr (12, mO gA nr tm at1 to_ fa va np tn pc_ st_ pa_ ta ow of_ ot rl hb bs se)), cA Z (gA 19) 1 400 Mt] := by
    intro fuel
    induction fuel with
    | zero => intro at1 _ _ _ hm; exact absurd hm (Nat.not_lt_zero _)
    | succ fuel ih =>
      intro at1 b_at1 iv0 ivb hm
      refine g_aload_n (pc := 8) X 0 rfl dX12_next_8 ?_
      refine g_get (pc := 9) X inlX12 0 rfl rfl 21 (by decide) mw_19_23 rfl dX12_next_9 ?_
      refine g_aload_n (pc := 12) X 0 rfl dX12_next_12 ?_
      refine g_get (pc := 13) X inlX12 0 rfl rfl 20 (by decide) mw_10_18 rfl dX12_next_13 ?_
      refine g_icmp_geI (pc := 16) X 60 (by decide) (inRb b_at1 (by decide) (by decide)) (inRb b_tm (by decide) (by decide)) dX12_next_16 (fun c16 => ?_) (fun c16 => ?_)
      · have qs1 : at1 = aA tj.toNat := by rw [← hs]; exact (skp_eq 401 to_ (by (first | (clear b_nr b_at_ b_fa b_va b_np b_tn b_pc_ b_st_ b_pa_ b_ta b_ow b_of_ b_ot b_rl b_hb b_bs b_se; omega) | omega)) (by (first | (clear b_nr b_at_ b_fa b_va b_np b_tn b_pc_ b_st_ b_pa_ b_ta b_ow b_of_ b_ot b_rl b_hb b_bs b_se; omega) | omega)) (by (first | (clear b_nr b_at_ b_fa b_va b_np b_tn b_pc_ b_st_ b_pa_ b_ta b_ow b_of_ b_ot b_rl b_hb b_bs b_se; omega) | omega)) (by (first | (clear b_nr b_at_ b_fa b_va b_np b_tn b_pc_ b_st_ b_pa_ b_ta b_ow b_of_ b_ot b_rl b_hb b_bs b_se; omega) | omega)) ivb (fun h => absurd h (by (first | (clear b_nr b_at_ b_fa b_va b_np b_tn b_pc_ b_st_ b_pa_ b_ta b_ow b_of_ b_ot b_rl b_hb b_bs b_se; omega) | omega)))).symm
        subst qs1
        have bJ := tok_Bm hT (by (first | (clear b_nr b_at_ b_fa b_va b_np b_tn b_pc_ b_st_ b_pa_ b_ta b_ow b_of_ b_ot b_rl b_hb b_bs b_se; omega) | omega)) tj.toNat
        refine g_aload_n (pc := 60) X 0 rfl dX12_next_60 ?_
        refine g_aload_n (pc := 61) X 0 rfl dX12_next_61 ?_
        refine g_get (pc := 62) X inlX12 0 rfl rfl 21 (by decide) mw_19_23 rfl dX12_next_62 ?_
        refine g_put (pc := 65) X inlX12 tyX12_ok nmX12 0 rfl rfl 22 (by decide) mw_19_22 rfl rfl rfl (Nat.le_of_ble_eq_true rfl) (ws' := [(g0, .inr (12, mO gA nr tm (aA tj.toNat) (aA tj.toNat) fa va np tn pc_ st_ pa_ ta ow of_ ot rl hb bs se)), cA Z (gA 19) 1 400 Mt]) rfl dX12_next_65 ?_
        refine g_aload_n (pc := 68) X 0 rfl dX12_next_68 ?_
        refine g_aload_n (pc := 69) X 0 rfl dX12_next_69 ?_
        refine g_get (pc := 70) X inlX12 0 rfl rfl 21 (by decide) mw_19_23 rfl dX12_next_70 ?_
        refine g_bipush (pc := 73) X (iI 97) (by decide) dX12_next_73 ?_
        refine g_bipush (pc := 75) X (iI 122) (by decide) dX12_next_75 ?_
        refine g_callV (pc := 77) X (k_X12_between l Z g0 gA Mt (aA tj.toNat) 97 122 nr tm (aA tj.toNat) (aA tj.toNat) fa va np tn pc_ st_ pa_ ta ow of_ ot rl hb bs se (by (first | (clear b_nr b_at_ b_fa b_va b_np b_tn b_pc_ b_st_ b_pa_ b_ta b_ow b_of_ b_ot b_rl b_hb b_bs b_se; omega) | omega)) (by decide) (by decide) b_nr b_tm (by (first | (clear b_nr b_at_ b_fa b_va b_np b_tn b_pc_ b_st_ b_pa_ b_ta b_ow b_of_ b_ot b_rl b_hb b_bs b_se; omega) | omega)) (by (first | (clear b_nr b_at_ b_fa b_va b_np b_tn b_pc_ b_st_ b_pa_ b_ta b_ow b_of_ b_ot b_rl b_hb b_bs b_se; omega) | omega)) b_fa b_va b_np b_tn b_pc_ b_st_ b_pa_ b_ta b_ow b_of_ b_ot b_rl b_hb b_bs b_se (h_Mt)) iM_X12_between mw_20_4 mw_20_5 mw_20_6 0 rfl rfl [0, 1] [] rfl (wr := []) rfl (by decide) rfl rfl (Nat.le_of_ble_eq_true rfl) (by decide) dX12_next_77 (fun r w' hpo => ?_)
        obtain ⟨rfl, rfl⟩ := hpo
        refine g_as (pc' := 80) (lv' := [(0, .ref g0)]) (st' := [.int (iI (bI ((aA tj.toNat) < tm ∧ 97 ≤ Mt (aA tj.toNat).toNat ∧ Mt (aA tj.toNat).toNat ≤ 122)))]) (ws' := [(g0, .inr (12, mO gA nr tm (aA tj.toNat) (aA tj.toNat) fa va np tn pc_ st_ pa_ ta ow of_ ot rl hb bs se)), cA Z (gA 19) 1 400 Mt]) rfl rfl rfl rfl ?_
        refine g_if_eqB (pc := 80) X 111 (by decide) dX12_next_80 (fun c80 => ?_) (fun c80 => ?_)
        · refine g_aload_n (pc := 111) X 0 rfl dX12_next_111 ?_
          refine g_aload_n (pc := 112) X 0 rfl dX12_next_112 ?_
          refine g_get (pc := 113) X inlX12 0 rfl rfl 21 (by decide) mw_19_23 rfl dX12_next_113 ?_
          refine g_bipush (pc := 116) X (iI 48) (by decide) dX12_next_116 ?_
          refine g_bipush (pc := 118) X (iI 57) (by decide) dX12_next_118 ?_
          refine g_callV (pc := 120) X (k_X12_between l Z g0 gA Mt (aA tj.toNat) 48 57 nr tm (aA tj.toNat) (aA tj.toNat) fa va np tn pc_ st_ pa_ ta ow of_ ot rl hb bs se (by (first | (clear b_nr b_at_ b_fa b_va b_np b_tn b_pc_ b_st_ b_pa_ b_ta b_ow b_of_ b_ot b_rl b_hb b_bs b_se; omega) | omega)) (by decide) (by decide) b_nr b_tm (by (first | (clear b_nr b_at_ b_fa b_va b_np b_tn b_pc_ b_st_ b_pa_ b_ta b_ow b_of_ b_ot b_rl b_hb b_bs b_se; omega) | omega)) (by (first | (clear b_nr b_at_ b_fa b_va b_np b_tn b_pc_ b_st_ b_pa_ b_ta b_ow b_of_ b_ot b_rl b_hb b_bs b_se; omega) | omega)) b_fa b_va b_np b_tn b_pc_ b_st_ b_pa_ b_ta b_ow b_of_ b_ot b_rl b_hb b_bs b_se (h_Mt)) iM_X12_between mw_20_4 mw_20_5 mw_20_6 0 rfl rfl [0, 1] [] rfl (wr := []) rfl (by decide) rfl rfl (Nat.le_of_ble_eq_true rfl) (by decide) dX12_next_120 (fun r w' hpo => ?_)
          obtain ⟨rfl, rfl⟩ := hpo
          refine g_as (pc' := 123) (lv' := [(0, .ref g0)]) (st' := [.int (iI (bI ((aA tj.toNat) < tm ∧ 48 ≤ Mt (aA tj.toNat).toNat ∧ Mt (aA tj.toNat).toNat ≤ 57)))]) (ws' := [(g0, .inr (12, mO gA nr tm (aA tj.toNat) (aA tj.toNat) fa va np tn pc_ st_ pa_ ta ow of_ ot rl hb bs se)), cA Z (gA 19) 1 400 Mt]) rfl rfl rfl rfl ?_
          refine g_if_eqB (pc := 123) X 154 (by decide) dX12_next_123 (fun c123 => ?_) (fun c123 => ?_)
          · refine g_aload_n (pc := 154) X 0 rfl dX12_next_154 ?_
            refine g_get (pc := 155) X inlX12 0 rfl rfl 21 (by decide) mw_19_23 rfl dX12_next_155 ?_
            refine g_aload_n (pc := 158) X 0 rfl dX12_next_158 ?_
            refine g_get (pc := 159) X inlX12 0 rfl rfl 20 (by decide) mw_10_18 rfl dX12_next_159 ?_
            refine g_icmp_geI (pc := 162) X 175 (by decide) ⟨by (first | (clear b_nr b_at_ b_fa b_va b_np b_tn b_pc_ b_st_ b_pa_ b_ta b_ow b_of_ b_ot b_rl b_hb b_bs b_se; omega) | omega), by (first | (clear b_nr b_at_ b_fa b_va b_np b_tn b_pc_ b_st_ b_pa_ b_ta b_ow b_of_ b_ot b_rl b_hb b_bs b_se; omega) | omega)⟩ (inRb b_tm (by decide) (by decide)) dX12_next_162 (fun c162 => ?_) (fun c162 => ?_)
            · have qr4 : aA tj.toNat = aE tj.toNat := aE_n hT (by (first | (clear b_nr b_at_ b_fa b_va b_np b_tn b_pc_ b_st_ b_pa_ b_ta b_ow b_of_ b_ot b_rl b_hb b_bs b_se; omega) | omega))
              refine g_as (pc' := 175) (lv' := [(0, .ref g0)]) (st' := []) (ws' := [(g0, .inr (12, mO gA nr tm (aA tj.toNat) (aE tj.toNat) fa va np tn pc_ st_ pa_ ta ow of_ ot rl hb bs se)), cA Z (gA 19) 1 400 Mt]) rfl rfl rfl (by rw [qr4]) ?_
              exact g_vret (pc := 175) X hA (⟨rfl, rfl, (by (first | (clear b_nr b_at_ b_fa b_va b_np b_tn b_pc_ b_st_ b_pa_ b_ta b_ow b_of_ b_ot b_rl b_hb b_bs b_se; omega) | omega)), (by (first | (clear b_nr b_at_ b_fa b_va b_np b_tn b_pc_ b_st_ b_pa_ b_ta b_ow b_of_ b_ot b_rl b_hb b_bs b_se; omega) | omega)), (by (first | (clear b_nr b_at_ b_fa b_va b_np b_tn b_pc_ b_st_ b_pa_ b_ta b_ow b_of_ b_ot b_rl b_hb b_bs b_se; omega) | omega))⟩) (by decide) (by decide) dX12_next_175
            · refine g_aload_n (pc := 165) X 0 rfl dX12_next_165 ?_
              refine g_dup (pc := 166) X rfl dX12_next_166 ?_
              refine g_get (pc := 167) X inlX12 0 rfl rfl 22 (by decide) mw_19_22 rfl dX12_next_167 ?_
              refine g_iconst (pc := 170) X (iI 1) (by rfl) dX12_next_170 ?_
              refine g_iaddI (pc := 171) X dX12_next_171 ?_
              refine g_put (pc := 172) X inlX12 tyX12_ok nmX12 0 rfl rfl 22 (by decide) mw_19_22 rfl rfl rfl (Nat.le_of_ble_eq_true rfl) (ws' := [(g0, .inr (12, mO gA nr tm (aA tj.toNat) ((aA tj.toNat) + 1) fa va np tn pc_ st_ pa_ ta ow of_ ot rl hb bs se)), cA Z (gA 19) 1 400 Mt]) rfl dX12_next_172 ?_
              have qr5 : (aA tj.toNat) + 1 = aE tj.toNat := aE_o hT (by (first | (clear b_nr b_at_ b_fa b_va b_np b_tn b_pc_ b_st_ b_pa_ b_ta b_ow b_of_ b_ot b_rl b_hb b_bs b_se; omega) | omega)) c80 c123
              refine g_as (pc' := 175) (lv' := [(0, .ref g0)]) (st' := []) (ws' := [(g0, .inr (12, mO gA nr tm (aA tj.toNat) (aE tj.toNat) fa va np tn pc_ st_ pa_ ta ow of_ ot rl hb bs se)), cA Z (gA 19) 1 400 Mt]) rfl rfl rfl (by rw [qr5]) ?_
              exact g_vret (pc := 175) X hA (⟨rfl, rfl, (by (first | (clear b_nr b_at_ b_fa b_va b_np b_tn b_pc_ b_st_ b_pa_ b_ta b_ow b_of_ b_ot b_rl b_hb b_bs b_se; omega) | omega)), (by (first | (clear b_nr b_at_ b_fa b_va b_np b_tn b_pc_ b_st_ b_pa_ b_ta b_ow b_of_ b_ot b_rl b_hb b_bs b_se; omega) | omega)), (by (first | (clear b_nr b_at_ b_fa b_va b_np b_tn b_pc_ b_st_ b_pa_ b_ta b_ow b_of_ b_ot b_rl b_hb b_bs b_se; omega) | omega))⟩) (by decide) (by decide) dX12_next_175
          · have loop126 : ∀ (fuel : Nat) (to1 : Int), (0 ≤ to1 ∧ to1 ≤ 400) → (aA tj.toNat ≤ to1) → (to1 ≤ tm) → (∀ j : Nat, aA tj.toNat ≤ (j : Int) → (j : Int) < to1 → 48 ≤ Mt j ∧ Mt j ≤ 57) → (401 - to1).toNat < fuel → Gs p l e ({ frames := 1, cells := 0, slots := 0, locals := 23 } : Room) s m args below meth c (MQ below (gPost Z [(g0, .inr (12, mO gA nr tm at_ to_ fa va np tn pc_ st_ pa_ ta ow of_ ot rl hb bs se)), cA Z (gA 19) 1 400 Mt] s.heap.size (fun r w' => (r = none) ∧ (w' = [(g0, .inr (12, mO gA nr tm (aA tj.toNat) (aE tj.toNat) fa va np tn pc_ st_ pa_ ta ow of_ ot rl hb bs se)), cA Z (gA 19) 1 400 Mt]) ∧ (0 ≤ aA tj.toNat) ∧ (aA tj.toNat ≤ aE tj.toNat ∧ aE tj.toNat ≤ tm) ∧ (aA tj.toNat < tm → aA tj.toNat < aE tj.toNat))) args s 0 0 (va_A [(g0, .inr (12, mO gA nr tm at_ to_ fa va np tn pc_ st_ pa_ ta ow of_ ot rl hb bs se)), cA Z (gA 19) 1 400 Mt] s.heap.size)) Z A 1 0 0 126 [(0, .ref g0)] [] [(g0, .inr (12, mO gA nr tm (aA tj.toNat) to1 fa va np tn pc_ st_ pa_ ta ow of_ ot rl hb bs se)), cA Z (gA 19) 1 400 Mt] := by
              intro fuel
              induction fuel with
              | zero => intro to1 _ _ _ _ hm; exact absurd hm (Nat.not_lt_zero _)
              | succ fuel ih =>
                intro to1 b_to1 iv iv3 ivr hm
                refine g_aload_n (pc := 126) X 0 rfl dX12_next_126 ?_
                refine g_aload_n (pc := 127) X 0 rfl dX12_next_127 ?_
                refine g_get (pc := 128) X inlX12 0 rfl rfl 22 (by decide) mw_19_22 rfl dX12_next_128 ?_
                refine g_bipush (pc := 131) X (iI 48) (by decide) dX12_next_131 ?_
                refine g_bipush (pc := 133) X (iI 57) (by decide) dX12_next_133 ?_
                refine g_callV (pc := 135) X (k_X12_between l Z g0 gA Mt to1 48 57 nr tm (aA tj.toNat) to1 fa va np tn pc_ st_ pa_ ta ow of_ ot rl hb bs se b_to1 (by decide) (by decide) b_nr b_tm (by (first | (clear b_nr b_at_ b_fa b_va b_np b_tn b_pc_ b_st_ b_pa_ b_ta b_ow b_of_ b_ot b_rl b_hb b_bs b_se; omega) | omega)) b_to1 b_fa b_va b_np b_tn b_pc_ b_st_ b_pa_ b_ta b_ow b_of_ b_ot b_rl b_hb b_bs b_se (h_Mt)) iM_X12_between mw_20_4 mw_20_5 mw_20_6 0 rfl rfl [0, 1] [] rfl (wr := []) rfl (by decide) rfl rfl (Nat.le_of_ble_eq_true rfl) (by decide) dX12_next_135 (fun r w' hpo => ?_)
                obtain ⟨rfl, rfl⟩ := hpo
                refine g_as (pc' := 138) (lv' := [(0, .ref g0)]) (st' := [.int (iI (bI (to1 < tm ∧ 48 ≤ Mt to1.toNat ∧ Mt to1.toNat ≤ 57)))]) (ws' := [(g0, .inr (12, mO gA nr tm (aA tj.toNat) to1 fa va np tn pc_ st_ pa_ ta ow of_ ot rl hb bs se)), cA Z (gA 19) 1 400 Mt]) rfl rfl rfl rfl ?_
                refine g_if_eqB (pc := 138) X 175 (by decide) dX12_next_138 (fun c138 => ?_) (fun c138 => ?_)
                · have qs7 : to1 = aE tj.toNat := by rw [aE_d hT c123]; exact (rne_eq 401 _ (by (first | (clear b_nr b_at_ b_fa b_va b_np b_tn b_pc_ b_st_ b_pa_ b_ta b_ow b_of_ b_ot b_rl b_hb b_bs b_se; omega) | omega)) (by (first | (clear b_nr b_at_ b_fa b_va b_np b_tn b_pc_ b_st_ b_pa_ b_ta b_ow b_of_ b_ot b_rl b_hb b_bs b_se; omega) | omega)) (by (first | (clear b_nr b_at_ b_fa b_va b_np b_tn b_pc_ b_st_ b_pa_ b_ta b_ow b_of_ b_ot b_rl b_hb b_bs b_se; omega) | omega)) (by (first | (clear b_nr b_at_ b_fa b_va b_np b_tn b_pc_ b_st_ b_pa_ b_ta b_ow b_of_ b_ot b_rl b_hb b_bs b_se; omega) | omega)) ivr (fun h h2 => c138 ⟨h, h2⟩)).symm
                  subst qs7
                  exact g_vret (pc := 175) X hA (⟨rfl, rfl, (by (first | (clear b_nr b_at_ b_fa b_va b_np b_tn b_pc_ b_st_ b_pa_ b_ta b_ow b_of_ b_ot b_rl b_hb b_bs b_se; omega) | omega)), (by (first | (clear b_nr b_at_ b_fa b_va b_np b_tn b_pc_ b_st_ b_pa_ b_ta b_ow b_of_ b_ot b_rl b_hb b_bs b_se; omega) | omega)), (by (first | (clear b_nr b_at_ b_fa b_va b_np b_tn b_pc_ b_st_ b_pa_ b_ta b_ow b_of_ b_ot b_rl b_hb b_bs b_se; omega) | omega))⟩) (by decide) (by decide) dX12_next_175
                · refine g_aload_n (pc := 141) X 0 rfl dX12_next_141 ?_
                  refine g_dup (pc := 142) X rfl dX12_next_142 ?_
                  refine g_get (pc := 143) X inlX12 0 rfl rfl 22 (by decide) mw_19_22 rfl dX12_next_143 ?_
                  refine g_iconst (pc := 146) X (iI 1) (by rfl) dX12_next_146 ?_
                  refine g_iaddI (pc := 147) X dX12_next_147 ?_
                  refine g_put (pc := 148) X inlX12 tyX12_ok nmX12 0 rfl rfl 22 (by decide) mw_19_22 rfl rfl rfl (Nat.le_of_ble_eq_true rfl) (ws' := [(g0, .inr (12, mO gA nr tm (aA tj.toNat) (to1 + 1) fa va np tn pc_ st_ pa_ ta ow of_ ot rl hb bs se)), cA Z (gA 19) 1 400 Mt]) rfl dX12_next_148 ?_
                  refine g_goto (pc := 151) X 126 (by decide) dX12_next_151 ?_
                  exact ih (to1 + 1) (by (first | (clear b_nr b_at_ b_fa b_va b_np b_tn b_pc_ b_st_ b_pa_ b_ta b_ow b_of_ b_ot b_rl b_hb b_bs b_se; omega) | omega)) (by (first | (clear b_nr b_at_ b_fa b_va b_np b_tn b_pc_ b_st_ b_pa_ b_ta b_ow b_of_ b_ot b_rl b_hb b_bs b_se; omega) | omega)) (by (first | (clear b_nr b_at_ b_fa b_va b_np b_tn b_pc_ b_st_ b_pa_ b_ta b_ow b_of_ b_ot b_rl b_hb b_bs b_se; omega) | omega)) (fun j h1 h2 => stepE ivr (by (first | (clear b_nr b_at_ b_fa b_va b_np b_tn b_pc_ b_st_ b_pa_ b_ta b_ow b_of_ b_ot b_rl b_hb b_bs b_se; omega) | omega)) c138.2 rfl j h1 h2) (by (first | (clear b_nr b_at_ b_fa b_va b_np b_tn b_pc_ b_st_ b_pa_ b_ta b_ow b_of_ b_ot b_rl b_hb b_bs b_se; omega) | omega))
            exact loop126 _ (aA tj.toNat) (by (first | (clear b_nr b_at_ b_fa b_va b_np b_tn b_pc_ b_st_ b_pa_ b_ta b_ow b_of_ b_ot b_rl b_hb b_bs b_se; omega) | omega)) (by (first | (clear b_nr b_at_ b_fa b_va b_np b_tn b_pc_ b_st_ b_pa_ b_ta b_ow b_of_ b_ot b_rl b_hb b_bs b_se; omega) | omega)) (by (first | (clear b_nr b_at_ b_fa b_va b_np b_tn b_pc_ b_st_ b_pa_ b_ta b_ow b_of_ b_ot b_rl b_hb b_bs b_se; omega) | omega)) (fun j h1 h2 => absurd h2 (by (first | (clear b_nr b_at_ b_fa b_va b_np b_tn b_pc_ b_st_ b_pa_ b_ta b_ow b_of_ b_ot b_rl b_hb b_bs b_se; omega) | omega))) (Nat.lt_succ_self _)
        · have loop83 : ∀ (fuel : Nat) (to1 : Int), (0 ≤ to1 ∧ to1 ≤ 400) → (aA tj.toNat ≤ to1) → (to1 ≤ tm) → (∀ j : Nat, aA tj.toNat ≤ (j : Int) → (j : Int) < to1 → 97 ≤ Mt j ∧ Mt j ≤ 122) → (401 - to1).toNat < fuel → Gs p l e ({ frames := 1, cells := 0, slots := 0, locals := 23 } : Room) s m args below meth c (MQ below (gPost Z [(g0, .inr (12, mO gA nr tm at_ to_ fa va np tn pc_ st_ pa_ ta ow of_ ot rl hb bs se)), cA Z (gA 19) 1 400 Mt] s.heap.size (fun r w' => (r = none) ∧ (w' = [(g0, .inr (12, mO gA nr tm (aA tj.toNat) (aE tj.toNat) fa va np tn pc_ st_ pa_ ta ow of_ ot rl hb bs se)), cA Z (gA 19) 1 400 Mt]) ∧ (0 ≤ aA tj.toNat) ∧ (aA tj.toNat ≤ aE tj.toNat ∧ aE tj.toNat ≤ tm) ∧ (aA tj.toNat < tm → aA tj.toNat < aE tj.toNat))) args s 0 0 (va_A [(g0, .inr (12, mO gA nr tm at_ to_ fa va np tn pc_ st_ pa_ ta ow of_ ot rl hb bs se)), cA Z (gA 19) 1 400 Mt] s.heap.size)) Z A 1 0 0 83 [(0, .ref g0)] [] [(g0, .inr (12, mO gA nr tm (aA tj.toNat) to1 fa va np tn pc_ st_ pa_ ta ow of_ ot rl hb bs se)), cA Z (gA 19) 1 400 Mt] := by
            intro fuel
            induction fuel with
            | zero => intro to1 _ _ _ _ hm; exact absurd hm (Nat.not_lt_zero _)
            | succ fuel ih =>
              intro to1 b_to1 iv iv3 ivr hm
              refine g_aload_n (pc := 83) X 0 rfl dX12_next_83 ?_
              refine g_aload_n (pc := 84) X 0 rfl dX12_next_84 ?_
              refine g_get (pc := 85) X inlX12 0 rfl rfl 22 (by decide) mw_19_22 rfl dX12_next_85 ?_
              refine g_bipush (pc := 88) X (iI 97) (by decide) dX12_next_88 ?_
              refine g_bipush (pc := 90) X (iI 122) (by decide) dX12_next_90 ?_
              refine g_callV (pc := 92) X (k_X12_between l Z g0 gA Mt to1 97 122 nr tm (aA tj.toNat) to1 fa va np tn pc_ st_ pa_ ta ow of_ ot rl hb bs se b_to1 (by decide) (by decide) b_nr b_tm (by (first | (clear b_nr b_at_ b_fa b_va b_np b_tn b_pc_ b_st_ b_pa_ b_ta b_ow b_of_ b_ot b_rl b_hb b_bs b_se; omega) | omega)) b_to1 b_fa b_va b_np b_tn b_pc_ b_st_ b_pa_ b_ta b_ow b_of_ b_ot b_rl b_hb b_bs b_se (h_Mt)) iM_X12_between mw_20_4 mw_20_5 mw_20_6 0 rfl rfl [0, 1] [] rfl (wr := []) rfl (by decide) rfl rfl (Nat.le_of_ble_eq_true rfl) (by decide) dX12_next_92 (fun r w' hpo => ?_)
              obtain ⟨rfl, rfl⟩ := hpo
              refine g_as (pc' := 95) (lv' := [(0, .ref g0)]) (st' := [.int (iI (bI (to1 < tm ∧ 97 ≤ Mt to1.toNat ∧ Mt to1.toNat ≤ 122)))]) (ws' := [(g0, .inr (12, mO gA nr tm (aA tj.toNat) to1 fa va np tn pc_ st_ pa_ ta ow of_ ot rl hb bs se)), cA Z (gA 19) 1 400 Mt]) rfl rfl rfl rfl ?_
              refine g_if_eqB (pc := 95) X 175 (by decide) dX12_next_95 (fun c95 => ?_) (fun c95 => ?_)
              · have qs9 : to1 = aE tj.toNat := by rw [aE_w hT c80]; exact (rne_eq 401 _ (by (first | (clear b_nr b_at_ b_fa b_va b_np b_tn b_pc_ b_st_ b_pa_ b_ta b_ow b_of_ b_ot b_rl b_hb b_bs b_se; omega) | omega)) (by (first | (clear b_nr b_at_ b_fa b_va b_np b_tn b_pc_ b_st_ b_pa_ b_ta b_ow b_of_ b_ot b_rl b_hb b_bs b_se; omega) | omega)) (by (first | (clear b_nr b_at_ b_fa b_va b_np b_tn b_pc_ b_st_ b_pa_ b_ta b_ow b_of_ b_ot b_rl b_hb b_bs b_se; omega) | omega)) (by (first | (clear b_nr b_at_ b_fa b_va b_np b_tn b_pc_ b_st_ b_pa_ b_ta b_ow b_of_ b_ot b_rl b_hb b_bs b_se; omega) | omega)) ivr (fun h h2 => c95 ⟨h, h2⟩)).symm
                subst qs9
                exact g_vret (pc := 175) X hA (⟨rfl, rfl, (by (first | (clear b_nr b_at_ b_fa b_va b_np b_tn b_pc_ b_st_ b_pa_ b_ta b_ow b_of_ b_ot b_rl b_hb b_bs b_se; omega) | omega)), (by (first | (clear b_nr b_at_ b_fa b_va b_np b_tn b_pc_ b_st_ b_pa_ b_ta b_ow b_of_ b_ot b_rl b_hb b_bs b_se; omega) | omega)), (by (first | (clear b_nr b_at_ b_fa b_va b_np b_tn b_pc_ b_st_ b_pa_ b_ta b_ow b_of_ b_ot b_rl b_hb b_bs b_se; omega) | omega))⟩) (by decide) (by decide) dX12_next_175
              · refine g_aload_n (pc := 98) X 0 rfl dX12_next_98 ?_
                refine g_dup (pc := 99) X rfl dX12_next_99 ?_
                refine g_get (pc := 100) X inlX12 0 rfl rfl 22 (by decide) mw_19_22 rfl dX12_next_100 ?_
                refine g_iconst (pc := 103) X (iI 1) (by rfl) dX12_next_103 ?_
                refine g_iaddI (pc := 104) X dX12_next_104 ?_
                refine g_put (pc := 105) X inlX12 tyX12_ok nmX12 0 rfl rfl 22 (by decide) mw_19_22 rfl rfl rfl (Nat.le_of_ble_eq_true rfl) (ws' := [(g0, .inr (12, mO gA nr tm (aA tj.toNat) (to1 + 1) fa va np tn pc_ st_ pa_ ta ow of_ ot rl hb bs se)), cA Z (gA 19) 1 400 Mt]) rfl dX12_next_105 ?_
                refine g_goto (pc := 108) X 83 (by decide) dX12_next_108 ?_
                exact ih (to1 + 1) (by (first | (clear b_nr b_at_ b_fa b_va b_np b_tn b_pc_ b_st_ b_pa_ b_ta b_ow b_of_ b_ot b_rl b_hb b_bs b_se; omega) | omega)) (by (first | (clear b_nr b_at_ b_fa b_va b_np b_tn b_pc_ b_st_ b_pa_ b_ta b_ow b_of_ b_ot b_rl b_hb b_bs b_se; omega) | omega)) (by (first | (clear b_nr b_at_ b_fa b_va b_np b_tn b_pc_ b_st_ b_pa_ b_ta b_ow b_of_ b_ot b_rl b_hb b_bs b_se; omega) | omega)) (fun j h1 h2 => stepE ivr (by (first | (clear b_nr b_at_ b_fa b_va b_np b_tn b_pc_ b_st_ b_pa_ b_ta b_ow b_of_ b_ot b_rl b_hb b_bs b_se; omega) | omega)) c95.2 rfl j h1 h2) (by (first | (clear b_nr b_at_ b_fa b_va b_np b_tn b_pc_ b_st_ b_pa_ b_ta b_ow b_of_ b_ot b_rl b_hb b_bs b_se; omega) | omega))
          exact loop83 _ (aA tj.toNat) (by (first | (clear b_nr b_at_ b_fa b_va b_np b_tn b_pc_ b_st_ b_pa_ b_ta b_ow b_of_ b_ot b_rl b_hb b_bs b_se; omega) | omega)) (by (first | (clear b_nr b_at_ b_fa b_va b_np b_tn b_pc_ b_st_ b_pa_ b_ta b_ow b_of_ b_ot b_rl b_hb b_bs b_se; omega) | omega)) (by (first | (clear b_nr b_at_ b_fa b_va b_np b_tn b_pc_ b_st_ b_pa_ b_ta b_ow b_of_ b_ot b_rl b_hb b_bs b_se; omega) | omega)) (fun j h1 h2 => absurd h2 (by (first | (clear b_nr b_at_ b_fa b_va b_np b_tn b_pc_ b_st_ b_pa_ b_ta b_ow b_of_ b_ot b_rl b_hb b_bs b_se; omega) | omega))) (Nat.lt_succ_self _)
      · refine g_aload_n (pc := 19) X 0 rfl dX12_next_19 ?_
        refine g_get (pc := 20) X inlX12 0 rfl rfl 19 (by decide) mw_8_7 rfl dX12_next_20 ?_
        refine g_aload_n (pc := 23) X 0 rfl dX12_next_23 ?_
        refine g_get (pc := 24) X inlX12 0 rfl rfl 21 (by decide) mw_19_23 rfl dX12_next_24 ?_
        refine g_baldI (pc := 27) X 1 rfl (b_at1.1) (by (first | (clear b_nr b_at_ b_fa b_va b_np b_tn b_pc_ b_st_ b_pa_ b_ta b_ow b_of_ b_ot b_rl b_hb b_bs b_se; omega) | omega)) (Int.le_trans b_at1.2 (by decide)) dX12_next_27 ?_
        refine g_nameI (fun y10 ey10 => ?_)
        have by10 : (-128) ≤ y10 ∧ y10 ≤ 127 := by rw [ey10]; exact h_Mt _ (by (first | (clear b_nr b_at_ b_fa b_va b_np b_tn b_pc_ b_st_ b_pa_ b_ta b_ow b_of_ b_ot b_rl b_hb b_bs b_se; omega) | omega))
        refine g_bipush (pc := 28) X (iI 32) (by decide) dX12_next_28 ?_
        refine g_icmp_eqI (pc := 30) X 47 (by decide) (inRb by10 (by decide) (by decide)) ⟨by decide, by decide⟩ dX12_next_30 (fun c30 => ?_) (fun c30 => ?_)
        · refine g_aload_n (pc := 47) X 0 rfl dX12_next_47 ?_
          refine g_dup (pc := 48) X rfl dX12_next_48 ?_
          refine g_get (pc := 49) X inlX12 0 rfl rfl 21 (by decide) mw_19_23 rfl dX12_next_49 ?_
          refine g_iconst (pc := 52) X (iI 1) (by rfl) dX12_next_52 ?_
          refine g_iaddI (pc := 53) X dX12_next_53 ?_
          refine g_put (pc := 54) X inlX12 tyX12_ok nmX12 0 rfl rfl 21 (by decide) mw_19_23 rfl rfl rfl (Nat.le_of_ble_eq_true rfl) (ws' := [(g0, .inr (12, mO gA nr tm (at1 + 1) to_ fa va np tn pc_ st_ pa_ ta ow of_ ot rl hb bs se)), cA Z (gA 19) 1 400 Mt]) rfl dX12_next_54 ?_
          refine g_goto (pc := 57) X 8 (by decide) dX12_next_57 ?_
          exact ih (at1 + 1) (by (first | (clear b_nr b_at_ b_fa b_va b_np b_tn b_pc_ b_st_ b_pa_ b_ta b_ow b_of_ b_ot b_rl b_hb b_bs b_se; omega) | omega)) (by (first | (clear b_nr b_at_ b_fa b_va b_np b_tn b_pc_ b_st_ b_pa_ b_ta b_ow b_of_ b_ot b_rl b_hb b_bs b_se; omega) | omega)) (fun j h1 h2 => by by_cases q : (j : Int) < at1; exact ivb j h1 q; rw [show j = at1.toNat by (first | (clear b_nr b_at_ b_fa b_va b_np b_tn b_pc_ b_st_ b_pa_ b_ta b_ow b_of_ b_ot b_rl b_hb b_bs b_se; omega) | omega)]; omega) (by (first | (clear b_nr b_at_ b_fa b_va b_np b_tn b_pc_ b_st_ b_pa_ b_ta b_ow b_of_ b_ot b_rl b_hb b_bs b_se; omega) | omega))
        · refine g_aload_n (pc := 33) X 0 rfl dX12_next_33 ?_
          refine g_get (pc := 34) X inlX12 0 rfl rfl 19 (by decide) mw_8_7 rfl dX12_next_34 ?_
          refine g_aload_n (pc := 37) X 0 rfl dX12_next_37 ?_
          refine g_get (pc := 38) X inlX12 0 rfl rfl 21 (by decide) mw_19_23 rfl dX12_next_38 ?_
          refine g_baldI (pc := 41) X 1 rfl (b_at1.1) (by (first | (clear b_nr b_at_ b_fa b_va b_np b_tn b_pc_ b_st_ b_pa_ b_ta b_ow b_of_ b_ot b_rl b_hb b_bs b_se; omega) | omega)) (Int.le_trans b_at1.2 (by decide)) dX12_next_41 ?_
          refine g_nameI (fun y11 ey11 => ?_)
          have by11 : (-128) ≤ y11 ∧ y11 ≤ 127 := by rw [ey11]; exact h_Mt _ (by (first | (clear b_nr b_at_ b_fa b_va b_np b_tn b_pc_ b_st_ b_pa_ b_ta b_ow b_of_ b_ot b_rl b_hb b_bs b_se; omega) | omega))
          refine g_bipush (pc := 42) X (iI 10) (by decide) dX12_next_42 ?_
          refine g_icmp_neI (pc := 44) X 60 (by decide) (inRb by11 (by decide) (by decide)) ⟨by decide, by decide⟩ dX12_next_44 (fun c44 => ?_) (fun c44 => ?_)
          · have qs12 : at1 = aA tj.toNat := by rw [← hs]; exact (skp_eq 401 to_ (by (first | (clear b_nr b_at_ b_fa b_va b_np b_tn b_pc_ b_st_ b_pa_ b_ta b_ow b_of_ b_ot b_rl b_hb b_bs b_se; omega) | omega)) (by (first | (clear b_nr b_at_ b_fa b_va b_np b_tn b_pc_ b_st_ b_pa_ b_ta b_ow b_of_ b_ot b_rl b_hb b_bs b_se; omega) | omega)) (by (first | (clear b_nr b_at_ b_fa b_va b_np b_tn b_pc_ b_st_ b_pa_ b_ta b_ow b_of_ b_ot b_rl b_hb b_bs b_se; omega) | omega)) (by (first | (clear b_nr b_at_ b_fa b_va b_np b_tn b_pc_ b_st_ b_pa_ b_ta b_ow b_of_ b_ot b_rl b_hb b_bs b_se; omega) | omega)) ivb (fun _ => by (first | (clear b_nr b_at_ b_fa b_va b_np b_tn b_pc_ b_st_ b_pa_ b_ta b_ow b_of_ b_ot b_rl b_hb b_bs b_se; omega) | omega))).symm
            subst qs12
            have bJ := tok_Bm hT (by (first | (clear b_nr b_at_ b_fa b_va b_np b_tn b_pc_ b_st_ b_pa_ b_ta b_ow b_of_ b_ot b_rl b_hb b_bs b_se; omega) | omega)) tj.toNat
            refine g_aload_n (pc := 60) X 0 rfl dX12_next_60 ?_
            refine g_aload_n (pc := 61) X 0 rfl dX12_next_61 ?_
            refine g_get (pc := 62) X inlX12 0 rfl rfl 21 (by decide) mw_19_23 rfl dX12_next_62 ?_
            refine g_put (pc := 65) X inlX12 tyX12_ok nmX12 0 rfl rfl 22 (by decide) mw_19_22 rfl rfl rfl (Nat.le_of_ble_eq_true rfl) (ws' := [(g0, .inr (12, mO gA nr tm (aA tj.toNat) (aA tj.toNat) fa va np tn pc_ st_ pa_ ta ow of_ ot rl hb bs se)), cA Z (gA 19) 1 400 Mt]) rfl dX12_next_65 ?_
            refine g_aload_n (pc := 68) X 0 rfl dX12_next_68 ?_
            refine g_aload_n (pc := 69) X 0 rfl dX12_next_69 ?_
            refine g_get (pc := 70) X inlX12 0 rfl rfl 21 (by decide) mw_19_23 rfl dX12_next_70 ?_
            refine g_bipush (pc := 73) X (iI 97) (by decide) dX12_next_73 ?_
            refine g_bipush (pc := 75) X (iI 122) (by decide) dX12_next_75 ?_
            refine g_callV (pc := 77) X (k_X12_between l Z g0 gA Mt (aA tj.toNat) 97 122 nr tm (aA tj.toNat) (aA tj.toNat) fa va np tn pc_ st_ pa_ ta ow of_ ot rl hb bs se (by (first | (clear b_nr b_at_ b_fa b_va b_np b_tn b_pc_ b_st_ b_pa_ b_ta b_ow b_of_ b_ot b_rl b_hb b_bs b_se; omega) | omega)) (by decide) (by decide) b_nr b_tm (by (first | (clear b_nr b_at_ b_fa b_va b_np b_tn b_pc_ b_st_ b_pa_ b_ta b_ow b_of_ b_ot b_rl b_hb b_bs b_se; omega) | omega)) (by (first | (clear b_nr b_at_ b_fa b_va b_np b_tn b_pc_ b_st_ b_pa_ b_ta b_ow b_of_ b_ot b_rl b_hb b_bs b_se; omega) | omega)) b_fa b_va b_np b_tn b_pc_ b_st_ b_pa_ b_ta b_ow b_of_ b_ot b_rl b_hb b_bs b_se (h_Mt)) iM_X12_between mw_20_4 mw_20_5 mw_20_6 0 rfl rfl [0, 1] [] rfl (wr := []) rfl (by decide) rfl rfl (Nat.le_of_ble_eq_true rfl) (by decide) dX12_next_77 (fun r w' hpo => ?_)
            obtain ⟨rfl, rfl⟩ := hpo
            refine g_as (pc' := 80) (lv' := [(0, .ref g0)]) (st' := [.int (iI (bI ((aA tj.toNat) < tm ∧ 97 ≤ Mt (aA tj.toNat).toNat ∧ Mt (aA tj.toNat).toNat ≤ 122)))]) (ws' := [(g0, .inr (12, mO gA nr tm (aA tj.toNat) (aA tj.toNat) fa va np tn pc_ st_ pa_ ta ow of_ ot rl hb bs se)), cA Z (gA 19) 1 400 Mt]) rfl rfl rfl rfl ?_
            refine g_if_eqB (pc := 80) X 111 (by decide) dX12_next_80 (fun c80 => ?_) (fun c80 => ?_)
            · refine g_aload_n (pc := 111) X 0 rfl dX12_next_111 ?_
              refine g_aload_n (pc := 112) X 0 rfl dX12_next_112 ?_
              refine g_get (pc := 113) X inlX12 0 rfl rfl 21 (by decide) mw_19_23 rfl dX12_next_113 ?_
              refine g_bipush (pc := 116) X (iI 48) (by decide) dX12_next_116 ?_
              refine g_bipush (pc := 118) X (iI 57) (by decide) dX12_next_118 ?_
              refine g_callV (pc := 120) X (k_X12_between l Z g0 gA Mt (aA tj.toNat) 48 57 nr tm (aA tj.toNat) (aA tj.toNat) fa va np tn pc_ st_ pa_ ta ow of_ ot rl hb bs se (by (first | (clear b_nr b_at_ b_fa b_va b_np b_tn b_pc_ b_st_ b_pa_ b_ta b_ow b_of_ b_ot b_rl b_hb b_bs b_se; omega) | omega)) (by decide) (by decide) b_nr b_tm (by (first | (clear b_nr b_at_ b_fa b_va b_np b_tn b_pc_ b_st_ b_pa_ b_ta b_ow b_of_ b_ot b_rl b_hb b_bs b_se; omega) | omega)) (by (first | (clear b_nr b_at_ b_fa b_va b_np b_tn b_pc_ b_st_ b_pa_ b_ta b_ow b_of_ b_ot b_rl b_hb b_bs b_se; omega) | omega)) b_fa b_va b_np b_tn b_pc_ b_st_ b_pa_ b_ta b_ow b_of_ b_ot b_rl b_hb b_bs b_se (h_Mt)) iM_X12_between mw_20_4 mw_20_5 mw_20_6 0 rfl rfl [0, 1] [] rfl (wr := []) rfl (by decide) rfl rfl (Nat.le_of_ble_eq_true rfl) (by decide) dX12_next_120 (fun r w' hpo => ?_)
              obtain ⟨rfl, rfl⟩ := hpo
              refine g_as (pc' := 123) (lv' := [(0, .ref g0)]) (st' := [.int (iI (bI ((aA tj.toNat) < tm ∧ 48 ≤ Mt (aA tj.toNat).toNat ∧ Mt (aA tj.toNat).toNat ≤ 57)))]) (ws' := [(g0, .inr (12, mO gA nr tm (aA tj.toNat) (aA tj.toNat) fa va np tn pc_ st_ pa_ ta ow of_ ot rl hb bs se)), cA Z (gA 19) 1 400 Mt]) rfl rfl rfl rfl ?_
              refine g_if_eqB (pc := 123) X 154 (by decide) dX12_next_123 (fun c123 => ?_) (fun c123 => ?_)
              · refine g_aload_n (pc := 154) X 0 rfl dX12_next_154 ?_
                refine g_get (pc := 155) X inlX12 0 rfl rfl 21 (by decide) mw_19_23 rfl dX12_next_155 ?_
                refine g_aload_n (pc := 158) X 0 rfl dX12_next_158 ?_
                refine g_get (pc := 159) X inlX12 0 rfl rfl 20 (by decide) mw_10_18 rfl dX12_next_159 ?_
                refine g_icmp_geI (pc := 162) X 175 (by decide) ⟨by (first | (clear b_nr b_at_ b_fa b_va b_np b_tn b_pc_ b_st_ b_pa_ b_ta b_ow b_of_ b_ot b_rl b_hb b_bs b_se; omega) | omega), by (first | (clear b_nr b_at_ b_fa b_va b_np b_tn b_pc_ b_st_ b_pa_ b_ta b_ow b_of_ b_ot b_rl b_hb b_bs b_se; omega) | omega)⟩ (inRb b_tm (by decide) (by decide)) dX12_next_162 (fun c162 => ?_) (fun c162 => ?_)
                · have qr15 : aA tj.toNat = aE tj.toNat := aE_n hT (by (first | (clear b_nr b_at_ b_fa b_va b_np b_tn b_pc_ b_st_ b_pa_ b_ta b_ow b_of_ b_ot b_rl b_hb b_bs b_se; omega) | omega))
                  refine g_as (pc' := 175) (lv' := [(0, .ref g0)]) (st' := []) (ws' := [(g0, .inr (12, mO gA nr tm (aA tj.toNat) (aE tj.toNat) fa va np tn pc_ st_ pa_ ta ow of_ ot rl hb bs se)), cA Z (gA 19) 1 400 Mt]) rfl rfl rfl (by rw [qr15]) ?_
                  exact g_vret (pc := 175) X hA (⟨rfl, rfl, (by (first | (clear b_nr b_at_ b_fa b_va b_np b_tn b_pc_ b_st_ b_pa_ b_ta b_ow b_of_ b_ot b_rl b_hb b_bs b_se; omega) | omega)), (by (first | (clear b_nr b_at_ b_fa b_va b_np b_tn b_pc_ b_st_ b_pa_ b_ta b_ow b_of_ b_ot b_rl b_hb b_bs b_se; omega) | omega)), (by (first | (clear b_nr b_at_ b_fa b_va b_np b_tn b_pc_ b_st_ b_pa_ b_ta b_ow b_of_ b_ot b_rl b_hb b_bs b_se; omega) | omega))⟩) (by decide) (by decide) dX12_next_175
                · refine g_aload_n (pc := 165) X 0 rfl dX12_next_165 ?_
                  refine g_dup (pc := 166) X rfl dX12_next_166 ?_
                  refine g_get (pc := 167) X inlX12 0 rfl rfl 22 (by decide) mw_19_22 rfl dX12_next_167 ?_
                  refine g_iconst (pc := 170) X (iI 1) (by rfl) dX12_next_170 ?_
                  refine g_iaddI (pc := 171) X dX12_next_171 ?_
                  refine g_put (pc := 172) X inlX12 tyX12_ok nmX12 0 rfl rfl 22 (by decide) mw_19_22 rfl rfl rfl (Nat.le_of_ble_eq_true rfl) (ws' := [(g0, .inr (12, mO gA nr tm (aA tj.toNat) ((aA tj.toNat) + 1) fa va np tn pc_ st_ pa_ ta ow of_ ot rl hb bs se)), cA Z (gA 19) 1 400 Mt]) rfl dX12_next_172 ?_
                  have qr16 : (aA tj.toNat) + 1 = aE tj.toNat := aE_o hT (by (first | (clear b_nr b_at_ b_fa b_va b_np b_tn b_pc_ b_st_ b_pa_ b_ta b_ow b_of_ b_ot b_rl b_hb b_bs b_se; omega) | omega)) c80 c123
                  refine g_as (pc' := 175) (lv' := [(0, .ref g0)]) (st' := []) (ws' := [(g0, .inr (12, mO gA nr tm (aA tj.toNat) (aE tj.toNat) fa va np tn pc_ st_ pa_ ta ow of_ ot rl hb bs se)), cA Z (gA 19) 1 400 Mt]) rfl rfl rfl (by rw [qr16]) ?_
                  exact g_vret (pc := 175) X hA (⟨rfl, rfl, (by (first | (clear b_nr b_at_ b_fa b_va b_np b_tn b_pc_ b_st_ b_pa_ b_ta b_ow b_of_ b_ot b_rl b_hb b_bs b_se; omega) | omega)), (by (first | (clear b_nr b_at_ b_fa b_va b_np b_tn b_pc_ b_st_ b_pa_ b_ta b_ow b_of_ b_ot b_rl b_hb b_bs b_se; omega) | omega)), (by (first | (clear b_nr b_at_ b_fa b_va b_np b_tn b_pc_ b_st_ b_pa_ b_ta b_ow b_of_ b_ot b_rl b_hb b_bs b_se; omega) | omega))⟩) (by decide) (by decide) dX12_next_175
              · have loop126 : ∀ (fuel : Nat) (to1 : Int), (0 ≤ to1 ∧ to1 ≤ 400) → (aA tj.toNat ≤ to1) → (to1 ≤ tm) → (∀ j : Nat, aA tj.toNat ≤ (j : Int) → (j : Int) < to1 → 48 ≤ Mt j ∧ Mt j ≤ 57) → (401 - to1).toNat < fuel → Gs p l e ({ frames := 1, cells := 0, slots := 0, locals := 23 } : Room) s m args below meth c (MQ below (gPost Z [(g0, .inr (12, mO gA nr tm at_ to_ fa va np tn pc_ st_ pa_ ta ow of_ ot rl hb bs se)), cA Z (gA 19) 1 400 Mt] s.heap.size (fun r w' => (r = none) ∧ (w' = [(g0, .inr (12, mO gA nr tm (aA tj.toNat) (aE tj.toNat) fa va np tn pc_ st_ pa_ ta ow of_ ot rl hb bs se)), cA Z (gA 19) 1 400 Mt]) ∧ (0 ≤ aA tj.toNat) ∧ (aA tj.toNat ≤ aE tj.toNat ∧ aE tj.toNat ≤ tm) ∧ (aA tj.toNat < tm → aA tj.toNat < aE tj.toNat))) args s 0 0 (va_A [(g0, .inr (12, mO gA nr tm at_ to_ fa va np tn pc_ st_ pa_ ta ow of_ ot rl hb bs se)), cA Z (gA 19) 1 400 Mt] s.heap.size)) Z A 1 0 0 126 [(0, .ref g0)] [] [(g0, .inr (12, mO gA nr tm (aA tj.toNat) to1 fa va np tn pc_ st_ pa_ ta ow of_ ot rl hb bs se)), cA Z (gA 19) 1 400 Mt] := by
                  intro fuel
                  induction fuel with
                  | zero => intro to1 _ _ _ _ hm; exact absurd hm (Nat.not_lt_zero _)
                  | succ fuel ih =>
                    intro to1 b_to1 iv iv3 ivr hm
                    refine g_aload_n (pc := 126) X 0 rfl dX12_next_126 ?_
                    refine g_aload_n (pc := 127) X 0 rfl dX12_next_127 ?_
                    refine g_get (pc := 128) X inlX12 0 rfl rfl 22 (by decide) mw_19_22 rfl dX12_next_128 ?_
                    refine g_bipush (pc := 131) X (iI 48) (by decide) dX12_next_131 ?_
                    refine g_bipush (pc := 133) X (iI 57) (by decide) dX12_next_133 ?_
                    refine g_callV (pc := 135) X (k_X12_between l Z g0 gA Mt to1 48 57 nr tm (aA tj.toNat) to1 fa va np tn pc_ st_ pa_ ta ow of_ ot rl hb bs se b_to1 (by decide) (by decide) b_nr b_tm (by (first | (clear b_nr b_at_ b_fa b_va b_np b_tn b_pc_ b_st_ b_pa_ b_ta b_ow b_of_ b_ot b_rl b_hb b_bs b_se; omega) | omega)) b_to1 b_fa b_va b_np b_tn b_pc_ b_st_ b_pa_ b_ta b_ow b_of_ b_ot b_rl b_hb b_bs b_se (h_Mt)) iM_X12_between mw_20_4 mw_20_5 mw_20_6 0 rfl rfl [0, 1] [] rfl (wr := []) rfl (by decide) rfl rfl (Nat.le_of_ble_eq_true rfl) (by decide) dX12_next_135 (fun r w' hpo => ?_)
                    obtain ⟨rfl, rfl⟩ := hpo
                    refine g_as (pc' := 138) (lv' := [(0, .ref g0)]) (st' := [.int (iI (bI (to1 < tm ∧ 48 ≤ Mt to1.toNat ∧ Mt to1.toNat ≤ 57)))]) (ws' := [(g0, .inr (12, mO gA nr tm (aA tj.toNat) to1 fa va np tn pc_ st_ pa_ ta ow of_ ot rl hb bs se)), cA Z (gA 19) 1 400 Mt]) rfl rfl rfl rfl ?_
                    refine g_if_eqB (pc := 138) X 175 (by decide) dX12_next_138 (fun c138 => ?_) (fun c138 => ?_)
                    · have qs18 : to1 = aE tj.toNat := by rw [aE_d hT c123]; exact (rne_eq 401 _ (by (first | (clear b_nr b_at_ b_fa b_va b_np b_tn b_pc_ b_st_ b_pa_ b_ta b_ow b_of_ b_ot b_rl b_hb b_bs b_se; omega) | omega)) (by (first | (clear b_nr b_at_ b_fa b_va b_np b_tn b_pc_ b_st_ b_pa_ b_ta b_ow b_of_ b_ot b_rl b_hb b_bs b_se; omega) | omega)) (by (first | (clear b_nr b_at_ b_fa b_va b_np b_tn b_pc_ b_st_ b_pa_ b_ta b_ow b_of_ b_ot b_rl b_hb b_bs b_se; omega) | omega)) (by (first | (clear b_nr b_at_ b_fa b_va b_np b_tn b_pc_ b_st_ b_pa_ b_ta b_ow b_of_ b_ot b_rl b_hb b_bs b_se; omega) | omega)) ivr (fun h h2 => c138 ⟨h, h2⟩)).symm
                      subst qs18
                      exact g_vret (pc := 175) X hA (⟨rfl, rfl, (by (first | (clear b_nr b_at_ b_fa b_va b_np b_tn b_pc_ b_st_ b_pa_ b_ta b_ow b_of_ b_ot b_rl b_hb b_bs b_se; omega) | omega)), (by (first | (clear b_nr b_at_ b_fa b_va b_np b_tn b_pc_ b_st_ b_pa_ b_ta b_ow b_of_ b_ot b_rl b_hb b_bs b_se; omega) | omega)), (by (first | (clear b_nr b_at_ b_fa b_va b_np b_tn b_pc_ b_st_ b_pa_ b_ta b_ow b_of_ b_ot b_rl b_hb b_bs b_se; omega) | omega))⟩) (by decide) (by decide) dX12_next_175
                    · refine g_aload_n (pc := 141) X 0 rfl dX12_next_141 ?_
                      refine g_dup (pc := 142) X rfl dX12_next_142 ?_
                      refine g_get (pc := 143) X inlX12 0 rfl rfl 22 (by decide) mw_19_22 rfl dX12_next_143 ?_
                      refine g_iconst (pc := 146) X (iI 1) (by rfl) dX12_next_146 ?_
                      refine g_iaddI (pc := 147) X dX12_next_147 ?_
                      refine g_put (pc := 148) X inlX12 tyX12_ok nmX12 0 rfl rfl 22 (by decide) mw_19_22 rfl rfl rfl (Nat.le_of_ble_eq_true rfl) (ws' := [(g0, .inr (12, mO gA nr tm (aA tj.toNat) (to1 + 1) fa va np tn pc_ st_ pa_ ta ow of_ ot rl hb bs se)), cA Z (gA 19) 1 400 Mt]) rfl dX12_next_148 ?_
                      refine g_goto (pc := 151) X 126 (by decide) dX12_next_151 ?_
                      exact ih (to1 + 1) (by (first | (clear b_nr b_at_ b_fa b_va b_np b_tn b_pc_ b_st_ b_pa_ b_ta b_ow b_of_ b_ot b_rl b_hb b_bs b_se; omega) | omega)) (by (first | (clear b_nr b_at_ b_fa b_va b_np b_tn b_pc_ b_st_ b_pa_ b_ta b_ow b_of_ b_ot b_rl b_hb b_bs b_se; omega) | omega)) (by (first | (clear b_nr b_at_ b_fa b_va b_np b_tn b_pc_ b_st_ b_pa_ b_ta b_ow b_of_ b_ot b_rl b_hb b_bs b_se; omega) | omega)) (fun j h1 h2 => stepE ivr (by (first | (clear b_nr b_at_ b_fa b_va b_np b_tn b_pc_ b_st_ b_pa_ b_ta b_ow b_of_ b_ot b_rl b_hb b_bs b_se; omega) | omega)) c138.2 rfl j h1 h2) (by (first | (clear b_nr b_at_ b_fa b_va b_np b_tn b_pc_ b_st_ b_pa_ b_ta b_ow b_of_ b_ot b_rl b_hb b_bs b_se; omega) | omega))
                exact loop126 _ (aA tj.toNat) (by (first | (clear b_nr b_at_ b_fa b_va b_np b_tn b_pc_ b_st_ b_pa_ b_ta b_ow b_of_ b_ot b_rl b_hb b_bs b_se; omega) | omega)) (by (first | (clear b_nr b_at_ b_fa b_va b_np b_tn b_pc_ b_st_ b_pa_ b_ta b_ow b_of_ b_ot b_rl b_hb b_bs b_se; omega) | omega)) (by (first | (clear b_nr b_at_ b_fa b_va b_np b_tn b_pc_ b_st_ b_pa_ b_ta b_ow b_of_ b_ot b_rl b_hb b_bs b_se; omega) | omega)) (fun j h1 h2 => absurd h2 (by (first | (clear b_nr b_at_ b_fa b_va b_np b_tn b_pc_ b_st_ b_pa_ b_ta b_ow b_of_ b_ot b_rl b_hb b_bs b_se; omega) | omega))) (Nat.lt_succ_self _)
            · have loop83 : ∀ (fuel : Nat) (to1 : Int), (0 ≤ to1 ∧ to1 ≤ 400) → (aA tj.toNat ≤ to1) → (to1 ≤ tm) → (∀ j : Nat, aA tj.toNat ≤ (j : Int) → (j : Int) < to1 → 97 ≤ Mt j ∧ Mt j ≤ 122) → (401 - to1).toNat < fuel → Gs p l e ({ frames := 1, cells := 0, slots := 0, locals := 23 } : Room) s m args below meth c (MQ below (gPost Z [(g0, .inr (12, mO gA nr tm at_ to_ fa va np tn pc_ st_ pa_ ta ow of_ ot rl hb bs se)), cA Z (gA 19) 1 400 Mt] s.heap.size (fun r w' => (r = none) ∧ (w' = [(g0, .inr (12, mO gA nr tm (aA tj.toNat) (aE tj.toNat) fa va np tn pc_ st_ pa_ ta ow of_ ot rl hb bs se)), cA Z (gA 19) 1 400 Mt]) ∧ (0 ≤ aA tj.toNat) ∧ (aA tj.toNat ≤ aE tj.toNat ∧ aE tj.toNat ≤ tm) ∧ (aA tj.toNat < tm → aA tj.toNat < aE tj.toNat))) args s 0 0 (va_A [(g0, .inr (12, mO gA nr tm at_ to_ fa va np tn pc_ st_ pa_ ta ow of_ ot rl hb bs se)), cA Z (gA 19) 1 400 Mt] s.heap.size)) Z A 1 0 0 83 [(0, .ref g0)] [] [(g0, .inr (12, mO gA nr tm (aA tj.toNat) to1 fa va np tn pc_ st_ pa_ ta ow of_ ot rl hb bs se)), cA Z (gA 19) 1 400 Mt] := by
                intro fuel
                induction fuel with
                | zero => intro to1 _ _ _ _ hm; exact absurd hm (Nat.not_lt_zero _)
                | succ fuel ih =>
                  intro to1 b_to1 iv iv3 ivr hm
                  refine g_aload_n (pc := 83) X 0 rfl dX12_next_83 ?_
                  refine g_aload_n (pc := 84) X 0 rfl dX12_next_84 ?_
                  refine g_get (pc := 85) X inlX12 0 rfl rfl 22 (by decide) mw_19_22 rfl dX12_next_85 ?_
                  refine g_bipush (pc := 88) X (iI 97) (by decide) dX12_next_88 ?_
                  refine g_bipush (pc := 90) X (iI 122) (by decide) dX12_next_90 ?_
                  refine g_callV (pc := 92) X (k_X12_between l Z g0 gA Mt to1 97 122 nr tm (aA tj.toNat) to1 fa va np tn pc_ st_ pa_ ta ow of_ ot rl hb bs se b_to1 (by decide) (by decide) b_nr b_tm (by (first | (clear b_nr b_at_ b_fa b_va b_np b_tn b_pc_ b_st_ b_pa_ b_ta b_ow b_of_ b_ot b_rl b_hb b_bs b_se; omega) | omega)) b_to1 b_fa b_va b_np b_tn b_pc_ b_st_ b_pa_ b_ta b_ow b_of_ b_ot b_rl b_hb b_bs b_se (h_Mt)) iM_X12_between mw_20_4 mw_20_5 mw_20_6 0 rfl rfl [0, 1] [] rfl (wr := []) rfl (by decide) rfl rfl (Nat.le_of_ble_eq_true rfl) (by decide) dX12_next_92 (fun r w' hpo => ?_)
                  obtain ⟨rfl, rfl⟩ := hpo
                  refine g_as (pc' := 95) (lv' := [(0, .ref g0)]) (st' := [.int (iI (bI (to1 < tm ∧ 97 ≤ Mt to1.toNat ∧ Mt to1.toNat ≤ 122)))]) (ws' := [(g0, .inr (12, mO gA nr tm (aA tj.toNat) to1 fa va np tn pc_ st_ pa_ ta ow of_ ot rl hb bs se)), cA Z (gA 19) 1 400 Mt]) rfl rfl rfl rfl ?_
                  refine g_if_eqB (pc := 95) X 175 (by decide) dX12_next_95 (fun c95 => ?_) (fun c95 => ?_)
                  · have qs20 : to1 = aE tj.toNat := by rw [aE_w hT c80]; exact (rne_eq 401 _ (by (first | (clear b_nr b_at_ b_fa b_va b_np b_tn b_pc_ b_st_ b_pa_ b_ta b_ow b_of_ b_ot b_rl b_hb b_bs b_se; omega) | omega)) (by (first | (clear b_nr b_at_ b_fa b_va b_np b_tn b_pc_ b_st_ b_pa_ b_ta b_ow b_of_ b_ot b_rl b_hb b_bs b_se; omega) | omega)) (by (first | (clear b_nr b_at_ b_fa b_va b_np b_tn b_pc_ b_st_ b_pa_ b_ta b_ow b_of_ b_ot b_rl b_hb b_bs b_se; omega) | omega)) (by (first | (clear b_nr b_at_ b_fa b_va b_np b_tn b_pc_ b_st_ b_pa_ b_ta b_ow b_of_ b_ot b_rl b_hb b_bs b_se; omega) | omega)) ivr (fun h h2 => c95 ⟨h, h2⟩)).symm
                    subst qs20
                    exact g_vret (pc := 175) X hA (⟨rfl, rfl, (by (first | (clear b_nr b_at_ b_fa b_va b_np b_tn b_pc_ b_st_ b_pa_ b_ta b_ow b_of_ b_ot b_rl b_hb b_bs b_se; omega) | omega)), (by (first | (clear b_nr b_at_ b_fa b_va b_np b_tn b_pc_ b_st_ b_pa_ b_ta b_ow b_of_ b_ot b_rl b_hb b_bs b_se; omega) | omega)), (by (first | (clear b_nr b_at_ b_fa b_va b_np b_tn b_pc_ b_st_ b_pa_ b_ta b_ow b_of_ b_ot b_rl b_hb b_bs b_se; omega) | omega))⟩) (by decide) (by decide) dX12_next_175
                  · refine g_aload_n (pc := 98) X 0 rfl dX12_next_98 ?_
                    refine g_dup (pc := 99) X rfl dX12_next_99 ?_
                    refine g_get (pc := 100) X inlX12 0 rfl rfl 22 (by decide) mw_19_22 rfl dX12_next_100 ?_
                    refine g_iconst (pc := 103) X (iI 1) (by rfl) dX12_next_103 ?_
                    refine g_iaddI (pc := 104) X dX12_next_104 ?_
                    refine g_put (pc := 105) X inlX12 tyX12_ok nmX12 0 rfl rfl 22 (by decide) mw_19_22 rfl rfl rfl (Nat.le_of_ble_eq_true rfl) (ws' := [(g0, .inr (12, mO gA nr tm (aA tj.toNat) (to1 + 1) fa va np tn pc_ st_ pa_ ta ow of_ ot rl hb bs se)), cA Z (gA 19) 1 400 Mt]) rfl dX12_next_105 ?_
                    refine g_goto (pc := 108) X 83 (by decide) dX12_next_108 ?_
                    exact ih (to1 + 1) (by (first | (clear b_nr b_at_ b_fa b_va b_np b_tn b_pc_ b_st_ b_pa_ b_ta b_ow b_of_ b_ot b_rl b_hb b_bs b_se; omega) | omega)) (by (first | (clear b_nr b_at_ b_fa b_va b_np b_tn b_pc_ b_st_ b_pa_ b_ta b_ow b_of_ b_ot b_rl b_hb b_bs b_se; omega) | omega)) (by (first | (clear b_nr b_at_ b_fa b_va b_np b_tn b_pc_ b_st_ b_pa_ b_ta b_ow b_of_ b_ot b_rl b_hb b_bs b_se; omega) | omega)) (fun j h1 h2 => stepE ivr (by (first | (clear b_nr b_at_ b_fa b_va b_np b_tn b_pc_ b_st_ b_pa_ b_ta b_ow b_of_ b_ot b_rl b_hb b_bs b_se; omega) | omega)) c95.2 rfl j h1 h2) (by (first | (clear b_nr b_at_ b_fa b_va b_np b_tn b_pc_ b_st_ b_pa_ b_ta b_ow b_of_ b_ot b_rl b_hb b_bs b_se; omega) | omega))
              exact loop83 _ (aA tj.toNat) (by (first | (clear b_nr b_at_ b_fa b_va b_np b_tn b_pc_ b_st_ b_pa_ b_ta b_ow b_of_ b_ot b_rl b_hb b_bs b_se; omega) | omega)) (by (first | (clear b_nr b_at_ b_fa b_va b_np b_tn b_pc_ b_st_ b_pa_ b_ta b_ow b_of_ b_ot b_rl b_hb b_bs b_se; omega) | omega)) (by (first | (clear b_nr b_at_ b_fa b_va b_np b_tn b_pc_ b_st_ b_pa_ b_ta b_ow b_of_ b_ot b_rl b_hb b_bs b_se; omega) | omega)) (fun j h1 h2 => absurd h2 (by (first | (clear b_nr b_at_ b_fa b_va b_np b_tn b_pc_ b_st_ b_pa_ b_ta b_ow b_of_ b_ot b_rl b_hb b_bs b_se; omega) | omega))) (Nat.lt_succ_self _)
          · refine g_aload_n (pc := 47) X 0 rfl dX12_next_47 ?_
            refine g_dup (pc := 48) X rfl dX12_next_48 ?_
            refine g_get (pc := 49) X inlX12 0 rfl rfl 21 (by decide) mw_19_23 rfl dX12_next_49 ?_
            refine g_iconst (pc := 52) X (iI 1) (by rfl) dX12_next_52 ?_
            refine g_iaddI (pc := 53) X dX12_next_53 ?_
            refine g_put (pc := 54) X inlX12 tyX12_ok nmX12 0 rfl rfl 21 (by decide) mw_19_23 rfl rfl rfl (Nat.le_of_ble_eq_true rfl) (ws' := [(g0, .inr (12, mO gA nr tm (at1 + 1) to_ fa va np tn pc_ st_ pa_ ta ow of_ ot rl hb bs se)), cA Z (gA 19) 1 400 Mt]) rfl dX12_next_54 ?_
            refine g_goto (pc := 57) X 8 (by decide) dX12_next_57 ?_
            exact ih (at1 + 1) (by (first | (clear b_nr b_at_ b_fa b_va b_np b_tn b_pc_ b_st_ b_pa_ b_ta b_ow b_of_ b_ot b_rl b_hb b_bs b_se; omega) | omega)) (by (first | (clear b_nr b_at_ b_fa b_va b_np b_tn b_pc_ b_st_ b_pa_ b_ta b_ow b_of_ b_ot b_rl b_hb b_bs b_se; omega) | omega)) (fun j h1 h2 => by by_cases q : (j : Int) < at1; exact ivb j h1 q; rw [show j = at1.toNat by (first | (clear b_nr b_at_ b_fa b_va b_np b_tn b_pc_ b_st_ b_pa_ b_ta b_ow b_of_ b_ot b_rl b_hb b_bs b_se; omega) | omega)]; omega) (by (first | (clear b_nr b_at_ b_fa b_va b_np b_tn b_pc_ b_st_ b_pa_ b_ta b_ow b_of_ b_ot b_rl b_hb b_bs b_se; omega) | omega))
  exact loop8 _ to_ (b_to_) (by (first | (clear b_nr b_at_ b_fa b_va b_np b_tn b_pc_ b_st_ b_pa_ b_ta b_ow b_of_ b_ot b_rl b_hb b_bs b_se; omega) | omega)) (fun j h1 h2 => absurd h2 (by (first | (clear b_nr b_at_ b_fa b_va b_np b_tn b_pc_ b_st_ b_pa_ b_ta b_ow b_of_ b_ot b_rl b_hb b_bs b_se; omega) | omega))) (Nat.lt_succ_self _)

set_option maxHeartbeats 4000000 in
set_option maxRecDepth 100000 in
theorem kx_X12_passes (l : Launch) (Z : gZ) (g0 : Nat) (gA : Nat → Nat) (aA : Nat → Int) (aE : Nat → Int) (aK : Nat → Int) (aV : Nat → Int) (ti : Int) (Mt : Nat → Int) (is : Int) (nr : Int) (tm : Int) (va : Int) (np : Int) (tn : Int) (pc_ : Int) (st_ : Int) (pa_ : Int) (ta : Int) (ow : Int) (of_ : Int) (ot : Int) (rl : Int) (hb : Int) (bs : Int) (se : Int) (b_is : 0 ≤ is ∧ is ≤ 1) (b_nr : 0 ≤ nr ∧ nr ≤ 6) (b_tm : 0 ≤ tm ∧ tm ≤ 400) (b_va : (-2147483648) ≤ va ∧ va ≤ 2147483647) (b_np : 0 ≤ np ∧ np ≤ 4) (b_tn : 0 ≤ tn ∧ tn ≤ 20) (b_pc_ : 0 ≤ pc_ ∧ pc_ ≤ 480) (b_st_ : 0 ≤ st_ ∧ st_ ≤ 240) (b_pa_ : (-1) ≤ pa_ ∧ pa_ ≤ 3) (b_ta : (-2147483648) ≤ ta ∧ ta ≤ 2147483647) (b_ow : (-2147483648) ≤ ow ∧ ow ≤ 2147483647) (b_of_ : (-2147483648) ≤ of_ ∧ of_ ≤ 2147483647) (b_ot : (-2147483648) ≤ ot ∧ ot ≤ 2147483647) (b_rl : 0 ≤ rl ∧ rl ≤ 2880) (b_hb : 0 ≤ hb ∧ hb ≤ 4) (b_bs : (-2147483648) ≤ bs ∧ bs ≤ 2147483647) (b_se : 0 ≤ se ∧ se ≤ 10) (hT : aA = tA Mt tm ∧ aE = tE Mt tm ∧ aK = tK Mt tm ∧ aV = tV Mt tm) (hti : 0 ≤ ti) (h_Mt : ∀ j, j < 400 → (-128) ≤ Mt j ∧ Mt j ≤ 127) : Con l Z yX12_passes cX12_passes 2 (some .boolean) 2 43 0 0 [.ref g0, .int (iI is)] [(g0, .inr (12, mO gA nr tm (aA ti.toNat) (aE ti.toNat) (-1) va np tn pc_ st_ pa_ ta ow of_ ot rl hb bs se)), cA Z (gA 19) 1 400 Mt] (fun r w' => ((r = some (.int (iI 0))) ∧ (w' = [(g0, .inr (12, mO gA nr tm (aA ti.toNat) (aE ti.toNat) (aA ti.toNat) va np tn pc_ st_ pa_ ta ow of_ ot rl hb bs se)), cA Z (gA 19) 1 400 Mt]) ∧ (is = 0)) ∨ ((r = some (.int (iI 1))) ∧ (w' = [(g0, .inr (12, mO gA nr tm (aA (ti + 1).toNat) (aE (ti + 1).toNat) (-1) va np tn pc_ st_ pa_ ta ow of_ ot rl hb bs se)), cA Z (gA 19) 1 400 Mt]) ∧ (0 ≤ aA (ti + 1).toNat) ∧ (aA (ti + 1).toNat ≤ aE (ti + 1).toNat ∧ aE (ti + 1).toNat ≤ tm) ∧ (aA (ti + 1).toNat < tm → aA (ti + 1).toNat < aE (ti + 1).toNat) ∧ (is = 1) ∧ (aE ti.toNat ≤ aA (ti + 1).toNat))) := by
  refine enter (by decide) (Nat.le_of_ble_eq_true rfl) ?_
  intro p e s m args below meth c A X hnm hA
  have X : Cx p s m args meth c cX12_passes 2 (some .boolean) RX12 Z A := X
  refine g_as (pc' := 0) (lv' := [(0, .ref g0), (1, .int (iI is))]) (st' := []) (ws' := [(g0, .inr (12, mO gA nr tm (aA ti.toNat) (aE ti.toNat) (-1) va np tn pc_ st_ pa_ ta ow of_ ot rl hb bs se)), cA Z (gA 19) 1 400 Mt]) rfl rfl rfl rfl ?_
  have bT := tok_Bm hT (by (first | (clear b_nr b_va b_np b_tn b_pc_ b_st_ b_pa_ b_ta b_ow b_of_ b_ot b_rl b_hb b_bs b_se; omega) | omega)) ti.toNat
  refine g_iload_n (pc := 0) X 1 rfl dX12_passes_0 ?_
  refine g_if_neI (pc := 1) X 22 (by decide) (inRb b_is (by decide) (by decide)) dX12_passes_1 (fun c1 => ?_) (fun c1 => ?_)
  · refine g_aload_n (pc := 22) X 0 rfl dX12_passes_22 ?_
    refine g_callV (pc := 23) X (kx_X12_next l Z g0 gA aA aE aK aV (ti + 1) Mt nr tm (aA ti.toNat) (aE ti.toNat) (-1) va np tn pc_ st_ pa_ ta ow of_ ot rl hb bs se b_nr b_tm (by (first | (clear b_nr b_va b_np b_tn b_pc_ b_st_ b_pa_ b_ta b_ow b_of_ b_ot b_rl b_hb b_bs b_se; omega) | omega)) (by (first | (clear b_nr b_va b_np b_tn b_pc_ b_st_ b_pa_ b_ta b_ow b_of_ b_ot b_rl b_hb b_bs b_se; omega) | omega)) (by decide) b_va b_np b_tn b_pc_ b_st_ b_pa_ b_ta b_ow b_of_ b_ot b_rl b_hb b_bs b_se (hT) (by (first | (clear b_nr b_va b_np b_tn b_pc_ b_st_ b_pa_ b_ta b_ow b_of_ b_ot b_rl b_hb b_bs b_se; omega) | omega)) (hsS hT hti) (h_Mt)) iM_X12_next mw_20_0 mw_20_1 mw_20_2 0 rfl rfl [0, 1] [] rfl (wr := []) rfl (by decide) rfl rfl (Nat.le_of_ble_eq_true rfl) (by decide) dX12_passes_23 (fun r w' hpo => ?_)
    refine anD_5 hpo fun e_r e_w hf23_j0 hf23_j1 hf23_j2 => ?_; clear hpo; subst e_r; subst e_w
    refine g_as (pc' := 26) (lv' := [(0, .ref g0), (1, .int (iI is))]) (st' := []) (ws' := [(g0, .inr (12, mO gA nr tm (aA (ti + 1).toNat) (aE (ti + 1).toNat) (-1) va np tn pc_ st_ pa_ ta ow of_ ot rl hb bs se)), cA Z (gA 19) 1 400 Mt]) rfl rfl rfl rfl ?_
    refine g_iconst (pc := 26) X (iI 1) (by rfl) dX12_passes_26 ?_
    exact g_zret (pc := 27) X hA (rfl) (Or.inr (⟨rfl, rfl, (by (first | (clear b_nr b_va b_np b_tn b_pc_ b_st_ b_pa_ b_ta b_ow b_of_ b_ot b_rl b_hb b_bs b_se; omega) | omega)), (by (first | (clear b_nr b_va b_np b_tn b_pc_ b_st_ b_pa_ b_ta b_ow b_of_ b_ot b_rl b_hb b_bs b_se; omega) | omega)), (by (first | (clear b_nr b_va b_np b_tn b_pc_ b_st_ b_pa_ b_ta b_ow b_of_ b_ot b_rl b_hb b_bs b_se; omega) | omega)), (by (first | (clear b_nr b_va b_np b_tn b_pc_ b_st_ b_pa_ b_ta b_ow b_of_ b_ot b_rl b_hb b_bs b_se; omega) | omega)), (aE_s hT (by (first | (clear b_nr b_va b_np b_tn b_pc_ b_st_ b_pa_ b_ta b_ow b_of_ b_ot b_rl b_hb b_bs b_se; omega) | omega)) hti)⟩)) (by decide) (by decide) dX12_passes_27
  · refine g_aload_n (pc := 4) X 0 rfl dX12_passes_4 ?_
    refine g_get (pc := 5) X inlX12 0 rfl rfl 23 (by decide) mw_19_17 rfl dX12_passes_5 ?_
    refine g_iconst (pc := 8) X (iI (-1)) (by rfl) dX12_passes_8 ?_
    refine g_icmp_neI (pc := 9) X 20 (by decide) ⟨by decide, by decide⟩ ⟨by decide, by decide⟩ dX12_passes_9 (fun h => absurd h (by decide)) (fun _ => ?_)
    refine g_aload_n (pc := 12) X 0 rfl dX12_passes_12 ?_
    refine g_aload_n (pc := 13) X 0 rfl dX12_passes_13 ?_
    refine g_get (pc := 14) X inlX12 0 rfl rfl 21 (by decide) mw_19_23 rfl dX12_passes_14 ?_
    refine g_put (pc := 17) X inlX12 tyX12_ok nmX12 0 rfl rfl 23 (by decide) mw_19_17 rfl rfl rfl (Nat.le_of_ble_eq_true rfl) (ws' := [(g0, .inr (12, mO gA nr tm (aA ti.toNat) (aE ti.toNat) (aA ti.toNat) va np tn pc_ st_ pa_ ta ow of_ ot rl hb bs se)), cA Z (gA 19) 1 400 Mt]) rfl dX12_passes_17 ?_
    refine g_iconst (pc := 20) X (iI 0) (by rfl) dX12_passes_20 ?_
    exact g_zret (pc := 21) X hA (rfl) (Or.inl (⟨rfl, rfl, (by (first | (clear b_nr b_va b_np b_tn b_pc_ b_st_ b_pa_ b_ta b_ow b_of_ b_ot b_rl b_hb b_bs b_se; omega) | omega))⟩)) (by decide) (by decide) dX12_passes_21

set_option maxHeartbeats 4000000 in
set_option maxRecDepth 100000 in
theorem kx_isSign8 (l : Launch) (Z : gZ) (g0 : Nat) (gA : Nat → Nat) (aA : Nat → Int) (aE : Nat → Int) (aK : Nat → Int) (aV : Nat → Int) (ti : Int) (Mt : Nat → Int) (nr : Int) (tm : Int) (va : Int) (np : Int) (tn : Int) (pc_ : Int) (st_ : Int) (pa_ : Int) (ta : Int) (ow : Int) (of_ : Int) (ot : Int) (rl : Int) (hb : Int) (bs : Int) (se : Int) (b_nr : 0 ≤ nr ∧ nr ≤ 6) (b_tm : 0 ≤ tm ∧ tm ≤ 400) (b_va : (-2147483648) ≤ va ∧ va ≤ 2147483647) (b_np : 0 ≤ np ∧ np ≤ 4) (b_tn : 0 ≤ tn ∧ tn ≤ 20) (b_pc_ : 0 ≤ pc_ ∧ pc_ ≤ 480) (b_st_ : 0 ≤ st_ ∧ st_ ≤ 240) (b_pa_ : (-1) ≤ pa_ ∧ pa_ ≤ 3) (b_ta : (-2147483648) ≤ ta ∧ ta ≤ 2147483647) (b_ow : (-2147483648) ≤ ow ∧ ow ≤ 2147483647) (b_of_ : (-2147483648) ≤ of_ ∧ of_ ≤ 2147483647) (b_ot : (-2147483648) ≤ ot ∧ ot ≤ 2147483647) (b_rl : 0 ≤ rl ∧ rl ≤ 2880) (b_hb : 0 ≤ hb ∧ hb ≤ 4) (b_bs : (-2147483648) ≤ bs ∧ bs ≤ 2147483647) (b_se : 0 ≤ se ∧ se ≤ 10) (hT : aA = tA Mt tm ∧ aE = tE Mt tm ∧ aK = tK Mt tm ∧ aV = tV Mt tm) (h_Mt : ∀ j, j < 400 → (-128) ≤ Mt j ∧ Mt j ≤ 127) : Con l Z yX12_isSign cX12_isSign 2 (some .boolean) 0 0 0 0 [.ref g0, .int (iI 59)] [(g0, .inr (12, mO gA nr tm (aA ti.toNat) (aE ti.toNat) (-1) va np tn pc_ st_ pa_ ta ow of_ ot rl hb bs se)), cA Z (gA 19) 1 400 Mt] (fun r w' => (r = some (.int (iI (bI (aK ti.toNat = 8))))) ∧ (w' = [(g0, .inr (12, mO gA nr tm (aA ti.toNat) (aE ti.toNat) (-1) va np tn pc_ st_ pa_ ta ow of_ ot rl hb bs se)), cA Z (gA 19) 1 400 Mt])) := by
  refine enter (by decide) (Nat.le_of_ble_eq_true rfl) ?_
  intro p e s m args below meth c A X hnm hA
  have X : Cx p s m args meth c cX12_isSign 2 (some .boolean) RX12 Z A := X
  refine g_as (pc' := 0) (lv' := [(0, .ref g0), (1, .int (iI 59))]) (st' := []) (ws' := [(g0, .inr (12, mO gA nr tm (aA ti.toNat) (aE ti.toNat) (-1) va np tn pc_ st_ pa_ ta ow of_ ot rl hb bs se)), cA Z (gA 19) 1 400 Mt]) rfl rfl rfl rfl ?_
  have bT := tok_Bm hT (by (first | (clear b_nr b_va b_np b_tn b_pc_ b_st_ b_pa_ b_ta b_ow b_of_ b_ot b_rl b_hb b_bs b_se; omega) | omega)) ti.toNat
  have ks := aK_s8 hT ti.toNat
  refine g_aload_n (pc := 0) X 0 rfl dX12_isSign_0 ?_
  refine g_get (pc := 1) X inlX12 0 rfl rfl 21 (by decide) mw_19_23 rfl dX12_isSign_1 ?_
  refine g_aload_n (pc := 4) X 0 rfl dX12_isSign_4 ?_
  refine g_get (pc := 5) X inlX12 0 rfl rfl 20 (by decide) mw_10_18 rfl dX12_isSign_5 ?_
  refine g_icmp_geI (pc := 8) X 28 (by decide) ⟨by (first | (clear b_nr b_va b_np b_tn b_pc_ b_st_ b_pa_ b_ta b_ow b_of_ b_ot b_rl b_hb b_bs b_se; omega) | omega), by (first | (clear b_nr b_va b_np b_tn b_pc_ b_st_ b_pa_ b_ta b_ow b_of_ b_ot b_rl b_hb b_bs b_se; omega) | omega)⟩ (inRb b_tm (by decide) (by decide)) dX12_isSign_8 (fun c8 => ?_) (fun c8 => ?_)
  · refine g_iconst (pc := 28) X (iI 0) (by rfl) dX12_isSign_28 ?_
    exact g_zret (pc := 29) X hA (rfl) (⟨congrArg (fun z => some (Value.int (iI z))) ((bI_f (by (first | (clear b_nr b_va b_np b_tn b_pc_ b_st_ b_pa_ b_ta b_ow b_of_ b_ot b_rl b_hb b_bs b_se; omega) | omega))).symm), rfl⟩) (by decide) (by decide) dX12_isSign_29
  · refine g_aload_n (pc := 11) X 0 rfl dX12_isSign_11 ?_
    refine g_get (pc := 12) X inlX12 0 rfl rfl 19 (by decide) mw_8_7 rfl dX12_isSign_12 ?_
    refine g_aload_n (pc := 15) X 0 rfl dX12_isSign_15 ?_
    refine g_get (pc := 16) X inlX12 0 rfl rfl 21 (by decide) mw_19_23 rfl dX12_isSign_16 ?_
    refine g_baldI (pc := 19) X 1 rfl (by (first | (clear b_nr b_va b_np b_tn b_pc_ b_st_ b_pa_ b_ta b_ow b_of_ b_ot b_rl b_hb b_bs b_se; omega) | omega)) (by (first | (clear b_nr b_va b_np b_tn b_pc_ b_st_ b_pa_ b_ta b_ow b_of_ b_ot b_rl b_hb b_bs b_se; omega) | omega)) (by (first | (clear b_nr b_va b_np b_tn b_pc_ b_st_ b_pa_ b_ta b_ow b_of_ b_ot b_rl b_hb b_bs b_se; omega) | omega)) dX12_isSign_19 ?_
    refine g_nameI (fun y1 ey1 => ?_)
    have by1 : (-128) ≤ y1 ∧ y1 ≤ 127 := by rw [ey1]; exact h_Mt _ (by (first | (clear b_nr b_va b_np b_tn b_pc_ b_st_ b_pa_ b_ta b_ow b_of_ b_ot b_rl b_hb b_bs b_se; omega) | omega))
    refine g_iload_n (pc := 20) X 1 rfl dX12_isSign_20 ?_
    refine g_icmp_neI (pc := 21) X 28 (by decide) (inRb by1 (by decide) (by decide)) ⟨by decide, by decide⟩ dX12_isSign_21 (fun c21 => ?_) (fun c21 => ?_)
    · refine g_iconst (pc := 28) X (iI 0) (by rfl) dX12_isSign_28 ?_
      exact g_zret (pc := 29) X hA (rfl) (⟨congrArg (fun z => some (Value.int (iI z))) ((bI_f (by (first | (clear b_nr b_va b_np b_tn b_pc_ b_st_ b_pa_ b_ta b_ow b_of_ b_ot b_rl b_hb b_bs b_se; omega) | omega))).symm), rfl⟩) (by decide) (by decide) dX12_isSign_29
    · refine g_iconst (pc := 24) X (iI 1) (by rfl) dX12_isSign_24 ?_
      refine g_goto (pc := 25) X 29 (by decide) dX12_isSign_25 ?_
      exact g_zret (pc := 29) X hA (rfl) (⟨congrArg (fun z => some (Value.int (iI z))) ((bI_t (by (first | (clear b_nr b_va b_np b_tn b_pc_ b_st_ b_pa_ b_ta b_ow b_of_ b_ot b_rl b_hb b_bs b_se; omega) | omega))).symm), rfl⟩) (by decide) (by decide) dX12_isSign_29

set_option maxHeartbeats 4000000 in
set_option maxRecDepth 100000 in
theorem kx_isSign7 (l : Launch) (Z : gZ) (g0 : Nat) (gA : Nat → Nat) (aA : Nat → Int) (aE : Nat → Int) (aK : Nat → Int) (aV : Nat → Int) (ti : Int) (Mt : Nat → Int) (nr : Int) (tm : Int) (va : Int) (np : Int) (tn : Int) (pc_ : Int) (st_ : Int) (pa_ : Int) (ta : Int) (ow : Int) (of_ : Int) (ot : Int) (rl : Int) (hb : Int) (bs : Int) (se : Int) (b_nr : 0 ≤ nr ∧ nr ≤ 6) (b_tm : 0 ≤ tm ∧ tm ≤ 400) (b_va : (-2147483648) ≤ va ∧ va ≤ 2147483647) (b_np : 0 ≤ np ∧ np ≤ 4) (b_tn : 0 ≤ tn ∧ tn ≤ 20) (b_pc_ : 0 ≤ pc_ ∧ pc_ ≤ 480) (b_st_ : 0 ≤ st_ ∧ st_ ≤ 240) (b_pa_ : (-1) ≤ pa_ ∧ pa_ ≤ 3) (b_ta : (-2147483648) ≤ ta ∧ ta ≤ 2147483647) (b_ow : (-2147483648) ≤ ow ∧ ow ≤ 2147483647) (b_of_ : (-2147483648) ≤ of_ ∧ of_ ≤ 2147483647) (b_ot : (-2147483648) ≤ ot ∧ ot ≤ 2147483647) (b_rl : 0 ≤ rl ∧ rl ≤ 2880) (b_hb : 0 ≤ hb ∧ hb ≤ 4) (b_bs : (-2147483648) ≤ bs ∧ bs ≤ 2147483647) (b_se : 0 ≤ se ∧ se ≤ 10) (hT : aA = tA Mt tm ∧ aE = tE Mt tm ∧ aK = tK Mt tm ∧ aV = tV Mt tm) (h_Mt : ∀ j, j < 400 → (-128) ≤ Mt j ∧ Mt j ≤ 127) : Con l Z yX12_isSign cX12_isSign 2 (some .boolean) 0 0 0 0 [.ref g0, .int (iI 45)] [(g0, .inr (12, mO gA nr tm (aA ti.toNat) (aE ti.toNat) (-1) va np tn pc_ st_ pa_ ta ow of_ ot rl hb bs se)), cA Z (gA 19) 1 400 Mt] (fun r w' => (r = some (.int (iI (bI (aK ti.toNat = 7))))) ∧ (w' = [(g0, .inr (12, mO gA nr tm (aA ti.toNat) (aE ti.toNat) (-1) va np tn pc_ st_ pa_ ta ow of_ ot rl hb bs se)), cA Z (gA 19) 1 400 Mt])) := by
  refine enter (by decide) (Nat.le_of_ble_eq_true rfl) ?_
  intro p e s m args below meth c A X hnm hA
  have X : Cx p s m args meth c cX12_isSign 2 (some .boolean) RX12 Z A := X
  refine g_as (pc' := 0) (lv' := [(0, .ref g0), (1, .int (iI 45))]) (st' := []) (ws' := [(g0, .inr (12, mO gA nr tm (aA ti.toNat) (aE ti.toNat) (-1) va np tn pc_ st_ pa_ ta ow of_ ot rl hb bs se)), cA Z (gA 19) 1 400 Mt]) rfl rfl rfl rfl ?_
  have bT := tok_Bm hT (by (first | (clear b_nr b_va b_np b_tn b_pc_ b_st_ b_pa_ b_ta b_ow b_of_ b_ot b_rl b_hb b_bs b_se; omega) | omega)) ti.toNat
  have ks := aK_s7 hT ti.toNat
  refine g_aload_n (pc := 0) X 0 rfl dX12_isSign_0 ?_
  refine g_get (pc := 1) X inlX12 0 rfl rfl 21 (by decide) mw_19_23 rfl dX12_isSign_1 ?_
  refine g_aload_n (pc := 4) X 0 rfl dX12_isSign_4 ?_
  refine g_get (pc := 5) X inlX12 0 rfl rfl 20 (by decide) mw_10_18 rfl dX12_isSign_5 ?_
  refine g_icmp_geI (pc := 8) X 28 (by decide) ⟨by (first | (clear b_nr b_va b_np b_tn b_pc_ b_st_ b_pa_ b_ta b_ow b_of_ b_ot b_rl b_hb b_bs b_se; omega) | omega), by (first | (clear b_nr b_va b_np b_tn b_pc_ b_st_ b_pa_ b_ta b_ow b_of_ b_ot b_rl b_hb b_bs b_se; omega) | omega)⟩ (inRb b_tm (by decide) (by decide)) dX12_isSign_8 (fun c8 => ?_) (fun c8 => ?_)
  · refine g_iconst (pc := 28) X (iI 0) (by rfl) dX12_isSign_28 ?_
    exact g_zret (pc := 29) X hA (rfl) (⟨congrArg (fun z => some (Value.int (iI z))) ((bI_f (by (first | (clear b_nr b_va b_np b_tn b_pc_ b_st_ b_pa_ b_ta b_ow b_of_ b_ot b_rl b_hb b_bs b_se; omega) | omega))).symm), rfl⟩) (by decide) (by decide) dX12_isSign_29
  · refine g_aload_n (pc := 11) X 0 rfl dX12_isSign_11 ?_
    refine g_get (pc := 12) X inlX12 0 rfl rfl 19 (by decide) mw_8_7 rfl dX12_isSign_12 ?_
    refine g_aload_n (pc := 15) X 0 rfl dX12_isSign_15 ?_
    refine g_get (pc := 16) X inlX12 0 rfl rfl 21 (by decide) mw_19_23 rfl dX12_isSign_16 ?_
    refine g_baldI (pc := 19) X 1 rfl (by (first | (clear b_nr b_va b_np b_tn b_pc_ b_st_ b_pa_ b_ta b_ow b_of_ b_ot b_rl b_hb b_bs b_se; omega) | omega)) (by (first | (clear b_nr b_va b_np b_tn b_pc_ b_st_ b_pa_ b_ta b_ow b_of_ b_ot b_rl b_hb b_bs b_se; omega) | omega)) (by (first | (clear b_nr b_va b_np b_tn b_pc_ b_st_ b_pa_ b_ta b_ow b_of_ b_ot b_rl b_hb b_bs b_se; omega) | omega)) dX12_isSign_19 ?_
    refine g_nameI (fun y1 ey1 => ?_)
    have by1 : (-128) ≤ y1 ∧ y1 ≤ 127 := by rw [ey1]; exact h_Mt _ (by (first | (clear b_nr b_va b_np b_tn b_pc_ b_st_ b_pa_ b_ta b_ow b_of_ b_ot b_rl b_hb b_bs b_se; omega) | omega))
    refine g_iload_n (pc := 20) X 1 rfl dX12_isSign_20 ?_
    refine g_icmp_neI (pc := 21) X 28 (by decide) (inRb by1 (by decide) (by decide)) ⟨by decide, by decide⟩ dX12_isSign_21 (fun c21 => ?_) (fun c21 => ?_)
    · refine g_iconst (pc := 28) X (iI 0) (by rfl) dX12_isSign_28 ?_
      exact g_zret (pc := 29) X hA (rfl) (⟨congrArg (fun z => some (Value.int (iI z))) ((bI_f (by (first | (clear b_nr b_va b_np b_tn b_pc_ b_st_ b_pa_ b_ta b_ow b_of_ b_ot b_rl b_hb b_bs b_se; omega) | omega))).symm), rfl⟩) (by decide) (by decide) dX12_isSign_29
    · refine g_iconst (pc := 24) X (iI 1) (by rfl) dX12_isSign_24 ?_
      refine g_goto (pc := 25) X 29 (by decide) dX12_isSign_25 ?_
      exact g_zret (pc := 29) X hA (rfl) (⟨congrArg (fun z => some (Value.int (iI z))) ((bI_t (by (first | (clear b_nr b_va b_np b_tn b_pc_ b_st_ b_pa_ b_ta b_ow b_of_ b_ot b_rl b_hb b_bs b_se; omega) | omega))).symm), rfl⟩) (by decide) (by decide) dX12_isSign_29

set_option maxHeartbeats 4000000 in
set_option maxRecDepth 100000 in
theorem kx_X12_isWord (l : Launch) (Z : gZ) (g0 : Nat) (gA : Nat → Nat) (aA : Nat → Int) (aE : Nat → Int) (aK : Nat → Int) (aV : Nat → Int) (sj : Nat) (ti : Int) (Mt : Nat → Int) (Ws : Nat → Option Nat) (ww : Int) (nr : Int) (tm : Int) (va : Int) (np : Int) (tn : Int) (pc_ : Int) (st_ : Int) (pa_ : Int) (ta : Int) (ow : Int) (of_ : Int) (ot : Int) (rl : Int) (hb : Int) (bs : Int) (se : Int) (b_ww : 0 ≤ ww ∧ ww ≤ 4) (b_nr : 0 ≤ nr ∧ nr ≤ 6) (b_tm : 0 ≤ tm ∧ tm ≤ 400) (b_va : (-2147483648) ≤ va ∧ va ≤ 2147483647) (b_np : 0 ≤ np ∧ np ≤ 4) (b_tn : 0 ≤ tn ∧ tn ≤ 20) (b_pc_ : 0 ≤ pc_ ∧ pc_ ≤ 480) (b_st_ : 0 ≤ st_ ∧ st_ ≤ 240) (b_pa_ : (-1) ≤ pa_ ∧ pa_ ≤ 3) (b_ta : (-2147483648) ≤ ta ∧ ta ≤ 2147483647) (b_ow : (-2147483648) ≤ ow ∧ ow ≤ 2147483647) (b_of_ : (-2147483648) ≤ of_ ∧ of_ ≤ 2147483647) (b_ot : (-2147483648) ≤ ot ∧ ot ≤ 2147483647) (b_rl : 0 ≤ rl ∧ rl ≤ 2880) (b_hb : 0 ≤ hb ∧ hb ≤ 4) (b_bs : (-2147483648) ≤ bs ∧ bs ≤ 2147483647) (b_se : 0 ≤ se ∧ se ≤ 10) (hT : aA = tA Mt tm ∧ aE = tE Mt tm ∧ aK = tK Mt tm ∧ aV = tV Mt tm) (hti : 0 ≤ ti) (hWs : ∀ j, j < 5 → Ws j = some (Z.2.2.1 j)) (hsj : sj < 5) (hww : ww = (sj : Int)) (h_Mt : ∀ j, j < 400 → (-128) ≤ Mt j ∧ Mt j ≤ 127) : Con l Z yX12_isWord cX12_isWord 3 (some .boolean) 4 85 0 0 [.ref g0, .int (iI ww)] [(g0, .inr (12, mO gA nr tm (aA ti.toNat) (aE ti.toNat) (-1) va np tn pc_ st_ pa_ ta ow of_ ot rl hb bs se)), cA Z (gA 19) 1 400 Mt, cR Z (gA 25) 7 5 Ws] (fun r w' => (r = some (.int (iI (bI (aK ti.toNat = ww))))) ∧ (w' = [(g0, .inr (12, mO gA nr tm (aA ti.toNat) (aE ti.toNat) (-1) va np tn pc_ st_ pa_ ta ow of_ ot rl hb bs se)), cA Z (gA 19) 1 400 Mt, cR Z (gA 25) 7 5 Ws])) := by
  refine enter (by decide) (Nat.le_of_ble_eq_true rfl) ?_
  intro p e s m args below meth c A X hnm hA
  have X : Cx p s m args meth c cX12_isWord 3 (some .boolean) RX12 Z A := X
  refine g_as (pc' := 0) (lv' := [(0, .ref g0), (1, .int (iI ww))]) (st' := []) (ws' := [(g0, .inr (12, mO gA nr tm (aA ti.toNat) (aE ti.toNat) (-1) va np tn pc_ st_ pa_ ta ow of_ ot rl hb bs se)), cA Z (gA 19) 1 400 Mt, cR Z (gA 25) 7 5 Ws]) rfl rfl rfl rfl ?_
  have bT := tok_Bm hT (by (first | (clear b_nr b_va b_np b_tn b_pc_ b_st_ b_pa_ b_ta b_ow b_of_ b_ot b_rl b_hb b_bs b_se; omega) | omega)) ti.toNat
  have k10 := aK_10 hT ti.toNat
  have kw := aK_word hT hsj ti.toNat
  refine g_aload_n (pc := 0) X 0 rfl dX12_isWord_0 ?_
  refine g_get (pc := 1) X inlX12 0 rfl rfl 21 (by decide) mw_19_23 rfl dX12_isWord_1 ?_
  refine g_aload_n (pc := 4) X 0 rfl dX12_isWord_4 ?_
  refine g_get (pc := 5) X inlX12 0 rfl rfl 20 (by decide) mw_10_18 rfl dX12_isWord_5 ?_
  refine g_icmp_eqI (pc := 8) X 32 (by decide) ⟨by (first | (clear b_nr b_va b_np b_tn b_pc_ b_st_ b_pa_ b_ta b_ow b_of_ b_ot b_rl b_hb b_bs b_se; omega) | omega), by (first | (clear b_nr b_va b_np b_tn b_pc_ b_st_ b_pa_ b_ta b_ow b_of_ b_ot b_rl b_hb b_bs b_se; omega) | omega)⟩ (inRb b_tm (by decide) (by decide)) dX12_isWord_8 (fun c8 => ?_) (fun c8 => ?_)
  · refine g_iconst (pc := 32) X (iI 0) (by rfl) dX12_isWord_32 ?_
    exact g_zret (pc := 33) X hA (rfl) (⟨congrArg (fun z => some (Value.int (iI z))) ((bI_f (by (first | (clear b_nr b_va b_np b_tn b_pc_ b_st_ b_pa_ b_ta b_ow b_of_ b_ot b_rl b_hb b_bs b_se; omega) | omega))).symm), rfl⟩) (by decide) (by decide) dX12_isWord_33
  · refine g_aload_n (pc := 11) X 0 rfl dX12_isWord_11 ?_
    refine g_get (pc := 12) X inlX12 0 rfl rfl 22 (by decide) mw_19_22 rfl dX12_isWord_12 ?_
    refine g_aload_n (pc := 15) X 0 rfl dX12_isWord_15 ?_
    refine g_get (pc := 16) X inlX12 0 rfl rfl 21 (by decide) mw_19_23 rfl dX12_isWord_16 ?_
    refine g_isubI (pc := 19) X dX12_isWord_19 ?_
    refine g_aload_n (pc := 20) X 0 rfl dX12_isWord_20 ?_
    refine g_get (pc := 21) X inlX12 0 rfl rfl 25 (by decide) mw_8_9 rfl dX12_isWord_21 ?_
    refine g_iload_n (pc := 24) X 1 rfl dX12_isWord_24 ?_
    refine g_aaldS (pc := 25) X 2 7 rfl rfl (b_ww.1) (Int.lt_of_le_of_lt b_ww.2 (by decide)) (Int.le_trans b_ww.2 (by decide)) (by rw [show ww.toNat = sj by (first | (clear b_nr b_va b_np b_tn b_pc_ b_st_ b_pa_ b_ta b_ow b_of_ b_ot b_rl b_hb b_bs b_se; omega) | omega)]; exact hWs sj hsj) dX12_isWord_25 ?_
    refine g_callVS (pc := 26) (j := sj) X hsj (k_J0_length_8abf5 l Z sj (hsj)) iM_J0_length_8abf5 rfl mw_20_16 mw_13_3 mw_13_4 [] [0, 1, 2] rfl (wr := [(g0, .inr (12, mO gA nr tm (aA ti.toNat) (aE ti.toNat) (-1) va np tn pc_ st_ pa_ ta ow of_ ot rl hb bs se)), cA Z (gA 19) 1 400 Mt, cR Z (gA 25) 7 5 Ws]) rfl (by decide) rfl rfl (Nat.le_of_ble_eq_true rfl) (by decide) dX12_isWord_26 (fun r w' hpo => ?_)
    obtain ⟨rfl, rfl, hf26_fl⟩ := hpo
    refine g_as (pc' := 29) (lv' := [(0, .ref g0), (1, .int (iI ww))]) (st' := [.int (iI ((gLen.getD sj 0 : Nat) : Int)), .int (iI ((aE ti.toNat) - (aA ti.toNat)))]) (ws' := [(g0, .inr (12, mO gA nr tm (aA ti.toNat) (aE ti.toNat) (-1) va np tn pc_ st_ pa_ ta ow of_ ot rl hb bs se)), cA Z (gA 19) 1 400 Mt, cR Z (gA 25) 7 5 Ws]) rfl rfl rfl rfl ?_
    refine g_icmp_eqI (pc := 29) X 34 (by decide) ⟨by (first | (clear b_nr b_va b_np b_tn b_pc_ b_st_ b_pa_ b_ta b_ow b_of_ b_ot b_rl b_hb b_bs b_se; omega) | omega), by (first | (clear b_nr b_va b_np b_tn b_pc_ b_st_ b_pa_ b_ta b_ow b_of_ b_ot b_rl b_hb b_bs b_se; omega) | omega)⟩ ⟨by (first | (clear b_nr b_va b_np b_tn b_pc_ b_st_ b_pa_ b_ta b_ow b_of_ b_ot b_rl b_hb b_bs b_se; omega) | omega), by (first | (clear b_nr b_va b_np b_tn b_pc_ b_st_ b_pa_ b_ta b_ow b_of_ b_ot b_rl b_hb b_bs b_se; omega) | omega)⟩ dX12_isWord_29 (fun c29 => ?_) (fun c29 => ?_)
    · refine g_aload_n (pc := 34) X 0 rfl dX12_isWord_34 ?_
      refine g_get (pc := 35) X inlX12 0 rfl rfl 21 (by decide) mw_19_23 rfl dX12_isWord_35 ?_
      refine g_istore_n (pc := 38) X (i := 2) rfl (by decide) (lv' := [(2, .int (iI (aA ti.toNat))), (0, .ref g0), (1, .int (iI ww))]) rfl dX12_isWord_38 ?_
      have loop39 : ∀ (fuel : Nat) (k1 : Int), (0 ≤ k1 ∧ k1 ≤ 400) → (((gLen.getD sj 0 : Nat) : Int) ≤ 6) → (aA ti.toNat ≤ k1) → (k1 ≤ aE ti.toNat) → (aE ti.toNat - aA ti.toNat = ((gLen.getD sj 0 : Nat) : Int)) → (∀ q : Nat, (q : Int) < k1 - aA ti.toNat → Mt ((aA ti.toNat).toNat + q) = gCh sj q) → (401 - k1).toNat < fuel → Gs p l e ({ frames := 4, cells := 0, slots := 0, locals := 85 } : Room) s m args below meth c (MQ below (gPost Z [(g0, .inr (12, mO gA nr tm (aA ti.toNat) (aE ti.toNat) (-1) va np tn pc_ st_ pa_ ta ow of_ ot rl hb bs se)), cA Z (gA 19) 1 400 Mt, cR Z (gA 25) 7 5 Ws] s.heap.size (fun r w' => (r = some (.int (iI (bI (aK ti.toNat = ww))))) ∧ (w' = [(g0, .inr (12, mO gA nr tm (aA ti.toNat) (aE ti.toNat) (-1) va np tn pc_ st_ pa_ ta ow of_ ot rl hb bs se)), cA Z (gA 19) 1 400 Mt, cR Z (gA 25) 7 5 Ws]))) args s 0 0 (va_A [(g0, .inr (12, mO gA nr tm (aA ti.toNat) (aE ti.toNat) (-1) va np tn pc_ st_ pa_ ta ow of_ ot rl hb bs se)), cA Z (gA 19) 1 400 Mt, cR Z (gA 25) 7 5 Ws] s.heap.size)) Z A 3 0 0 39 [(2, .int (iI k1)), (0, .ref g0), (1, .int (iI ww))] [] [(g0, .inr (12, mO gA nr tm (aA ti.toNat) (aE ti.toNat) (-1) va np tn pc_ st_ pa_ ta ow of_ ot rl hb bs se)), cA Z (gA 19) 1 400 Mt, cR Z (gA 25) 7 5 Ws] := by
        intro fuel
        induction fuel with
        | zero => intro k1 _ _ _ _ _ _ hm; exact absurd hm (Nat.not_lt_zero _)
        | succ fuel ih =>
          intro k1 b_k1 hL iv iv4 iv2 ivs hm
          refine g_iload_n (pc := 39) X 0 rfl dX12_isWord_39 ?_
          refine g_aload_n (pc := 40) X 1 rfl dX12_isWord_40 ?_
          refine g_get (pc := 41) X inlX12 0 rfl rfl 22 (by decide) mw_19_22 rfl dX12_isWord_41 ?_
          refine g_icmp_geI (pc := 44) X 79 (by decide) (inRb b_k1 (by decide) (by decide)) ⟨by (first | (clear b_nr b_va b_np b_tn b_pc_ b_st_ b_pa_ b_ta b_ow b_of_ b_ot b_rl b_hb b_bs b_se; omega) | omega), by (first | (clear b_nr b_va b_np b_tn b_pc_ b_st_ b_pa_ b_ta b_ow b_of_ b_ot b_rl b_hb b_bs b_se; omega) | omega)⟩ dX12_isWord_44 (fun c44 => ?_) (fun c44 => ?_)
          · refine g_iconst (pc := 79) X (iI 1) (by rfl) dX12_isWord_79 ?_
            exact g_zret (pc := 80) X hA (rfl) (⟨congrArg (fun z => some (Value.int (iI z))) ((bI_t (by rw [hww]; exact (kw (by (first | (clear b_nr b_va b_np b_tn b_pc_ b_st_ b_pa_ b_ta b_ow b_of_ b_ot b_rl b_hb b_bs b_se; omega) | omega))).mpr ⟨by (first | (clear b_nr b_va b_np b_tn b_pc_ b_st_ b_pa_ b_ta b_ow b_of_ b_ot b_rl b_hb b_bs b_se; omega) | omega), fun q hq => ivs q (by (first | (clear b_nr b_va b_np b_tn b_pc_ b_st_ b_pa_ b_ta b_ow b_of_ b_ot b_rl b_hb b_bs b_se; omega) | omega))⟩)).symm), rfl⟩) (by decide) (by decide) dX12_isWord_80
          · refine g_aload_n (pc := 47) X 1 rfl dX12_isWord_47 ?_
            refine g_get (pc := 48) X inlX12 0 rfl rfl 19 (by decide) mw_8_7 rfl dX12_isWord_48 ?_
            refine g_iload_n (pc := 51) X 0 rfl dX12_isWord_51 ?_
            refine g_baldI (pc := 52) X 1 rfl (b_k1.1) (by (first | (clear b_nr b_va b_np b_tn b_pc_ b_st_ b_pa_ b_ta b_ow b_of_ b_ot b_rl b_hb b_bs b_se; omega) | omega)) (Int.le_trans b_k1.2 (by decide)) dX12_isWord_52 ?_
            refine g_nameI (fun y2 ey2 => ?_)
            have by2 : (-128) ≤ y2 ∧ y2 ≤ 127 := by rw [ey2]; exact h_Mt _ (by (first | (clear b_nr b_va b_np b_tn b_pc_ b_st_ b_pa_ b_ta b_ow b_of_ b_ot b_rl b_hb b_bs b_se; omega) | omega))
            refine g_aload_n (pc := 53) X 1 rfl dX12_isWord_53 ?_
            refine g_get (pc := 54) X inlX12 0 rfl rfl 25 (by decide) mw_8_9 rfl dX12_isWord_54 ?_
            refine g_iload_n (pc := 57) X 2 rfl dX12_isWord_57 ?_
            refine g_aaldS (pc := 58) X 2 7 rfl rfl (b_ww.1) (Int.lt_of_le_of_lt b_ww.2 (by decide)) (Int.le_trans b_ww.2 (by decide)) (by rw [show ww.toNat = sj by (first | (clear b_nr b_va b_np b_tn b_pc_ b_st_ b_pa_ b_ta b_ow b_of_ b_ot b_rl b_hb b_bs b_se; omega) | omega)]; exact hWs sj hsj) dX12_isWord_58 ?_
            refine g_iload_n (pc := 59) X 0 rfl dX12_isWord_59 ?_
            refine g_aload_n (pc := 60) X 1 rfl dX12_isWord_60 ?_
            refine g_get (pc := 61) X inlX12 0 rfl rfl 21 (by decide) mw_19_23 rfl dX12_isWord_61 ?_
            refine g_isubI (pc := 64) X dX12_isWord_64 ?_
            refine g_callVS (pc := 65) (j := sj) X hsj (k_J0_charAt_5068e l Z sj (k1 - (aA ti.toNat)) (by (first | (clear b_nr b_va b_np b_tn b_pc_ b_st_ b_pa_ b_ta b_ow b_of_ b_ot b_rl b_hb b_bs b_se; omega) | omega)) (hsj) (by (first | (clear b_nr b_va b_np b_tn b_pc_ b_st_ b_pa_ b_ta b_ow b_of_ b_ot b_rl b_hb b_bs b_se; omega) | omega))) iM_J0_charAt_5068e rfl mw_20_17 mw_13_15 mw_13_16 [] [0, 1, 2] rfl (wr := [(g0, .inr (12, mO gA nr tm (aA ti.toNat) (aE ti.toNat) (-1) va np tn pc_ st_ pa_ ta ow of_ ot rl hb bs se)), cA Z (gA 19) 1 400 Mt, cR Z (gA 25) 7 5 Ws]) rfl (by decide) rfl rfl (Nat.le_of_ble_eq_true rfl) (by decide) dX12_isWord_65 (fun r w' hpo => ?_)
            obtain ⟨rfl, rfl, hf65_fc⟩ := hpo
            refine g_as (pc' := 68) (lv' := [(2, .int (iI k1)), (0, .ref g0), (1, .int (iI ww))]) (st' := [.int (iI (gCh sj ((k1 - (aA ti.toNat))).toNat)), .int (iI y2)]) (ws' := [(g0, .inr (12, mO gA nr tm (aA ti.toNat) (aE ti.toNat) (-1) va np tn pc_ st_ pa_ ta ow of_ ot rl hb bs se)), cA Z (gA 19) 1 400 Mt, cR Z (gA 25) 7 5 Ws]) rfl rfl rfl rfl ?_
            refine g_icmp_eqI (pc := 68) X 73 (by decide) (inRb by2 (by decide) (by decide)) ⟨by (first | (clear b_nr b_va b_np b_tn b_pc_ b_st_ b_pa_ b_ta b_ow b_of_ b_ot b_rl b_hb b_bs b_se; omega) | omega), by (first | (clear b_nr b_va b_np b_tn b_pc_ b_st_ b_pa_ b_ta b_ow b_of_ b_ot b_rl b_hb b_bs b_se; omega) | omega)⟩ dX12_isWord_68 (fun c68 => ?_) (fun c68 => ?_)
            · refine g_iincI (pc := 73) X 0 rfl (by decide) (lv' := [(2, .int (iI (k1 + 1))), (0, .ref g0), (1, .int (iI ww))]) rfl dX12_isWord_73 ?_
              refine g_goto (pc := 76) X 39 (by decide) dX12_isWord_76 ?_
              exact ih (k1 + 1) (by (first | (clear b_nr b_va b_np b_tn b_pc_ b_st_ b_pa_ b_ta b_ow b_of_ b_ot b_rl b_hb b_bs b_se; omega) | omega)) (by (first | (clear b_nr b_va b_np b_tn b_pc_ b_st_ b_pa_ b_ta b_ow b_of_ b_ot b_rl b_hb b_bs b_se; omega) | omega)) (by (first | (clear b_nr b_va b_np b_tn b_pc_ b_st_ b_pa_ b_ta b_ow b_of_ b_ot b_rl b_hb b_bs b_se; omega) | omega)) (by (first | (clear b_nr b_va b_np b_tn b_pc_ b_st_ b_pa_ b_ta b_ow b_of_ b_ot b_rl b_hb b_bs b_se; omega) | omega)) (by (first | (clear b_nr b_va b_np b_tn b_pc_ b_st_ b_pa_ b_ta b_ow b_of_ b_ot b_rl b_hb b_bs b_se; omega) | omega)) (fun q hq => spl_s (i := k1 - aA ti.toNat) ivs (by (first | (clear b_nr b_va b_np b_tn b_pc_ b_st_ b_pa_ b_ta b_ow b_of_ b_ot b_rl b_hb b_bs b_se; omega) | omega)) (by (first | (clear b_nr b_va b_np b_tn b_pc_ b_st_ b_pa_ b_ta b_ow b_of_ b_ot b_rl b_hb b_bs b_se; omega) | omega)) (by rw [show (aA ti.toNat + (k1 - aA ti.toNat)).toNat = k1.toNat by (first | (clear b_nr b_va b_np b_tn b_pc_ b_st_ b_pa_ b_ta b_ow b_of_ b_ot b_rl b_hb b_bs b_se; omega) | omega)]; exact ey2) c68 q (by (first | (clear b_nr b_va b_np b_tn b_pc_ b_st_ b_pa_ b_ta b_ow b_of_ b_ot b_rl b_hb b_bs b_se; omega) | omega))) (by (first | (clear b_nr b_va b_np b_tn b_pc_ b_st_ b_pa_ b_ta b_ow b_of_ b_ot b_rl b_hb b_bs b_se; omega) | omega))
            · refine g_iconst (pc := 71) X (iI 0) (by rfl) dX12_isWord_71 ?_
              exact g_zret (pc := 72) X hA (rfl) (⟨congrArg (fun z => some (Value.int (iI z))) ((bI_f (fun q => spl_x (i := k1 - aA ti.toNat) (by (first | (clear b_nr b_va b_np b_tn b_pc_ b_st_ b_pa_ b_ta b_ow b_of_ b_ot b_rl b_hb b_bs b_se; omega) | omega)) (by (first | (clear b_nr b_va b_np b_tn b_pc_ b_st_ b_pa_ b_ta b_ow b_of_ b_ot b_rl b_hb b_bs b_se; omega) | omega)) (by (first | (clear b_nr b_va b_np b_tn b_pc_ b_st_ b_pa_ b_ta b_ow b_of_ b_ot b_rl b_hb b_bs b_se; omega) | omega)) (by rw [show (aA ti.toNat + (k1 - aA ti.toNat)).toNat = k1.toNat by (first | (clear b_nr b_va b_np b_tn b_pc_ b_st_ b_pa_ b_ta b_ow b_of_ b_ot b_rl b_hb b_bs b_se; omega) | omega)]; exact ey2) c68 ((kw (by (first | (clear b_nr b_va b_np b_tn b_pc_ b_st_ b_pa_ b_ta b_ow b_of_ b_ot b_rl b_hb b_bs b_se; omega) | omega))).mp (by (first | (clear b_nr b_va b_np b_tn b_pc_ b_st_ b_pa_ b_ta b_ow b_of_ b_ot b_rl b_hb b_bs b_se; omega) | omega))))).symm), rfl⟩) (by decide) (by decide) dX12_isWord_72
      exact loop39 _ (aA ti.toNat) (by (first | (clear b_nr b_va b_np b_tn b_pc_ b_st_ b_pa_ b_ta b_ow b_of_ b_ot b_rl b_hb b_bs b_se; omega) | omega)) (by have := (gCh_ok sj hsj).1; omega) (by (first | (clear b_nr b_va b_np b_tn b_pc_ b_st_ b_pa_ b_ta b_ow b_of_ b_ot b_rl b_hb b_bs b_se; omega) | omega)) (by (first | (clear b_nr b_va b_np b_tn b_pc_ b_st_ b_pa_ b_ta b_ow b_of_ b_ot b_rl b_hb b_bs b_se; omega) | omega)) (by (first | (clear b_nr b_va b_np b_tn b_pc_ b_st_ b_pa_ b_ta b_ow b_of_ b_ot b_rl b_hb b_bs b_se; omega) | omega)) (fun q hq => absurd hq (by (first | (clear b_nr b_va b_np b_tn b_pc_ b_st_ b_pa_ b_ta b_ow b_of_ b_ot b_rl b_hb b_bs b_se; omega) | omega))) (Nat.lt_succ_self _)
    · refine g_iconst (pc := 32) X (iI 0) (by rfl) dX12_isWord_32 ?_
      exact g_zret (pc := 33) X hA (rfl) (⟨congrArg (fun z => some (Value.int (iI z))) ((bI_f (fun q => absurd ((kw (by (first | (clear b_nr b_va b_np b_tn b_pc_ b_st_ b_pa_ b_ta b_ow b_of_ b_ot b_rl b_hb b_bs b_se; omega) | omega))).mp (by (first | (clear b_nr b_va b_np b_tn b_pc_ b_st_ b_pa_ b_ta b_ow b_of_ b_ot b_rl b_hb b_bs b_se; omega) | omega))).1 (by (first | (clear b_nr b_va b_np b_tn b_pc_ b_st_ b_pa_ b_ta b_ow b_of_ b_ot b_rl b_hb b_bs b_se; omega) | omega)))).symm), rfl⟩) (by decide) (by decide) dX12_isWord_33

set_option maxHeartbeats 4000000 in
set_option maxRecDepth 100000 in
theorem kx_X12_number (l : Launch) (Z : gZ) (g0 : Nat) (gA : Nat → Nat) (aA : Nat → Int) (aE : Nat → Int) (aK : Nat → Int) (aV : Nat → Int) (ti : Int) (Mt : Nat → Int) (lw : Int) (tp : Int) (nr : Int) (tm : Int) (va : Int) (np : Int) (tn : Int) (pc_ : Int) (st_ : Int) (pa_ : Int) (ta : Int) (ow : Int) (of_ : Int) (ot : Int) (rl : Int) (hb : Int) (bs : Int) (se : Int) (b_lw : (-2147483648) ≤ lw ∧ lw ≤ 2147483647) (b_tp : (-2147483648) ≤ tp ∧ tp ≤ 2147483647) (b_nr : 0 ≤ nr ∧ nr ≤ 6) (b_tm : 0 ≤ tm ∧ tm ≤ 400) (b_va : (-2147483648) ≤ va ∧ va ≤ 2147483647) (b_np : 0 ≤ np ∧ np ≤ 4) (b_tn : 0 ≤ tn ∧ tn ≤ 20) (b_pc_ : 0 ≤ pc_ ∧ pc_ ≤ 480) (b_st_ : 0 ≤ st_ ∧ st_ ≤ 240) (b_pa_ : (-1) ≤ pa_ ∧ pa_ ≤ 3) (b_ta : (-2147483648) ≤ ta ∧ ta ≤ 2147483647) (b_ow : (-2147483648) ≤ ow ∧ ow ≤ 2147483647) (b_of_ : (-2147483648) ≤ of_ ∧ of_ ≤ 2147483647) (b_ot : (-2147483648) ≤ ot ∧ ot ≤ 2147483647) (b_rl : 0 ≤ rl ∧ rl ≤ 2880) (b_hb : 0 ≤ hb ∧ hb ≤ 4) (b_bs : (-2147483648) ≤ bs ∧ bs ≤ 2147483647) (b_se : 0 ≤ se ∧ se ≤ 10) (hT : aA = tA Mt tm ∧ aE = tE Mt tm ∧ aK = tK Mt tm ∧ aV = tV Mt tm) (hti : 0 ≤ ti) (hl : 0 ≤ lw) (htp : tp ≤ 9999) (h_Mt : ∀ j, j < 400 → (-128) ≤ Mt j ∧ Mt j ≤ 127) : Con l Z yX12_number cX12_number 4 (some .boolean) 3 64 0 0 [.ref g0, .int (iI lw), .int (iI tp)] [(g0, .inr (12, mO gA nr tm (aA ti.toNat) (aE ti.toNat) (-1) va np tn pc_ st_ pa_ ta ow of_ ot rl hb bs se)), cA Z (gA 19) 1 400 Mt] (fun r w' => (∃ (va2 : Int), (r = some (.int (iI 0))) ∧ (w' = [(g0, .inr (12, mO gA nr tm (aA ti.toNat) (aE ti.toNat) (aA ti.toNat) va2 np tn pc_ st_ pa_ ta ow of_ ot rl hb bs se)), cA Z (gA 19) 1 400 Mt]) ∧ ((-2147483648) ≤ va2 ∧ va2 ≤ 2147483647) ∧ (¬ (aK ti.toNat = 6 ∧ lw ≤ aV ti.toNat ∧ aV ti.toNat ≤ tp))) ∨ ((r = some (.int (iI 1))) ∧ (w' = [(g0, .inr (12, mO gA nr tm (aA (ti + 1).toNat) (aE (ti + 1).toNat) (-1) (aV ti.toNat) np tn pc_ st_ pa_ ta ow of_ ot rl hb bs se)), cA Z (gA 19) 1 400 Mt]) ∧ (0 ≤ aA (ti + 1).toNat) ∧ (aA (ti + 1).toNat ≤ aE (ti + 1).toNat ∧ aE (ti + 1).toNat ≤ tm) ∧ (aA (ti + 1).toNat < tm → aA (ti + 1).toNat < aE (ti + 1).toNat) ∧ (aK ti.toNat = 6 ∧ lw ≤ aV ti.toNat ∧ aV ti.toNat ≤ tp) ∧ (aE ti.toNat ≤ aA (ti + 1).toNat))) := by
  refine enter (by decide) (Nat.le_of_ble_eq_true rfl) ?_
  intro p e s m args below meth c A X hnm hA
  have X : Cx p s m args meth c cX12_number 4 (some .boolean) RX12 Z A := X
  refine g_as (pc' := 0) (lv' := [(0, .ref g0), (1, .int (iI lw)), (2, .int (iI tp))]) (st' := []) (ws' := [(g0, .inr (12, mO gA nr tm (aA ti.toNat) (aE ti.toNat) (-1) va np tn pc_ st_ pa_ ta ow of_ ot rl hb bs se)), cA Z (gA 19) 1 400 Mt]) rfl rfl rfl rfl ?_
  have bT := tok_Bm hT (by (first | (clear b_nr b_va b_np b_tn b_pc_ b_st_ b_pa_ b_ta b_ow b_of_ b_ot b_rl b_hb b_bs b_se; omega) | omega)) ti.toNat
  have k6 := aK_6 hT ti.toNat
  refine g_aload_n (pc := 0) X 0 rfl dX12_number_0 ?_
  refine g_aload_n (pc := 1) X 0 rfl dX12_number_1 ?_
  refine g_aload_n (pc := 2) X 0 rfl dX12_number_2 ?_
  refine g_get (pc := 3) X inlX12 0 rfl rfl 21 (by decide) mw_19_23 rfl dX12_number_3 ?_
  refine g_bipush (pc := 6) X (iI 48) (by decide) dX12_number_6 ?_
  have join21 : ∀ (v0 : Int), ((-1) ≤ v0 ∧ v0 ≤ 0) → ((v0 = 0 ∧ aK ti.toNat = 6) ∨ (v0 = -1 ∧ ¬ aK ti.toNat = 6)) → Gs p l e ({ frames := 3, cells := 0, slots := 0, locals := 64 } : Room) s m args below meth c (MQ below (gPost Z [(g0, .inr (12, mO gA nr tm (aA ti.toNat) (aE ti.toNat) (-1) va np tn pc_ st_ pa_ ta ow of_ ot rl hb bs se)), cA Z (gA 19) 1 400 Mt] s.heap.size (fun r w' => (∃ (va2 : Int), (r = some (.int (iI 0))) ∧ (w' = [(g0, .inr (12, mO gA nr tm (aA ti.toNat) (aE ti.toNat) (aA ti.toNat) va2 np tn pc_ st_ pa_ ta ow of_ ot rl hb bs se)), cA Z (gA 19) 1 400 Mt]) ∧ ((-2147483648) ≤ va2 ∧ va2 ≤ 2147483647) ∧ (¬ (aK ti.toNat = 6 ∧ lw ≤ aV ti.toNat ∧ aV ti.toNat ≤ tp))) ∨ ((r = some (.int (iI 1))) ∧ (w' = [(g0, .inr (12, mO gA nr tm (aA (ti + 1).toNat) (aE (ti + 1).toNat) (-1) (aV ti.toNat) np tn pc_ st_ pa_ ta ow of_ ot rl hb bs se)), cA Z (gA 19) 1 400 Mt]) ∧ (0 ≤ aA (ti + 1).toNat) ∧ (aA (ti + 1).toNat ≤ aE (ti + 1).toNat ∧ aE (ti + 1).toNat ≤ tm) ∧ (aA (ti + 1).toNat < tm → aA (ti + 1).toNat < aE (ti + 1).toNat) ∧ (aK ti.toNat = 6 ∧ lw ≤ aV ti.toNat ∧ aV ti.toNat ≤ tp) ∧ (aE ti.toNat ≤ aA (ti + 1).toNat)))) args s 0 0 (va_A [(g0, .inr (12, mO gA nr tm (aA ti.toNat) (aE ti.toNat) (-1) va np tn pc_ st_ pa_ ta ow of_ ot rl hb bs se)), cA Z (gA 19) 1 400 Mt] s.heap.size)) Z A 4 0 0 21 [(0, .ref g0), (1, .int (iI lw)), (2, .int (iI tp))] [.int (iI v0), .ref g0] [(g0, .inr (12, mO gA nr tm (aA ti.toNat) (aE ti.toNat) (-1) va np tn pc_ st_ pa_ ta ow of_ ot rl hb bs se)), cA Z (gA 19) 1 400 Mt] := by
    intro v0 b_v0 hv0
    refine g_put (pc := 21) X inlX12 tyX12_ok nmX12 0 rfl rfl 24 (by decide) mw_20_22 rfl rfl rfl (Nat.le_of_ble_eq_true rfl) (ws' := [(g0, .inr (12, mO gA nr tm (aA ti.toNat) (aE ti.toNat) (-1) v0 np tn pc_ st_ pa_ ta ow of_ ot rl hb bs se)), cA Z (gA 19) 1 400 Mt]) rfl dX12_number_21 ?_
    refine g_aload_n (pc := 24) X 0 rfl dX12_number_24 ?_
    refine g_get (pc := 25) X inlX12 0 rfl rfl 21 (by decide) mw_19_23 rfl dX12_number_25 ?_
    refine g_istore_n (pc := 28) X (i := 3) rfl (by decide) (lv' := [(3, .int (iI (aA ti.toNat))), (0, .ref g0), (1, .int (iI lw)), (2, .int (iI tp))]) rfl dX12_number_28 ?_
    have loop29 : ∀ (fuel : Nat) (k1 : Int) (va1 : Int), (0 ≤ k1 ∧ k1 ≤ 400) → ((-1) ≤ va1 ∧ va1 ≤ 99999) → (aA ti.toNat ≤ k1) → (k1 ≤ aE ti.toNat) → ((v0 = -1 ∧ va1 = -1) ∨ (v0 = 0 ∧ 0 ≤ va1 ∧ va1 = mvl Mt 9999 (aA ti.toNat).toNat (k1 - aA ti.toNat).toNat)) → (401 - k1).toNat < fuel → Gs p l e ({ frames := 3, cells := 0, slots := 0, locals := 64 } : Room) s m args below meth c (MQ below (gPost Z [(g0, .inr (12, mO gA nr tm (aA ti.toNat) (aE ti.toNat) (-1) va np tn pc_ st_ pa_ ta ow of_ ot rl hb bs se)), cA Z (gA 19) 1 400 Mt] s.heap.size (fun r w' => (∃ (va2 : Int), (r = some (.int (iI 0))) ∧ (w' = [(g0, .inr (12, mO gA nr tm (aA ti.toNat) (aE ti.toNat) (aA ti.toNat) va2 np tn pc_ st_ pa_ ta ow of_ ot rl hb bs se)), cA Z (gA 19) 1 400 Mt]) ∧ ((-2147483648) ≤ va2 ∧ va2 ≤ 2147483647) ∧ (¬ (aK ti.toNat = 6 ∧ lw ≤ aV ti.toNat ∧ aV ti.toNat ≤ tp))) ∨ ((r = some (.int (iI 1))) ∧ (w' = [(g0, .inr (12, mO gA nr tm (aA (ti + 1).toNat) (aE (ti + 1).toNat) (-1) (aV ti.toNat) np tn pc_ st_ pa_ ta ow of_ ot rl hb bs se)), cA Z (gA 19) 1 400 Mt]) ∧ (0 ≤ aA (ti + 1).toNat) ∧ (aA (ti + 1).toNat ≤ aE (ti + 1).toNat ∧ aE (ti + 1).toNat ≤ tm) ∧ (aA (ti + 1).toNat < tm → aA (ti + 1).toNat < aE (ti + 1).toNat) ∧ (aK ti.toNat = 6 ∧ lw ≤ aV ti.toNat ∧ aV ti.toNat ≤ tp) ∧ (aE ti.toNat ≤ aA (ti + 1).toNat)))) args s 0 0 (va_A [(g0, .inr (12, mO gA nr tm (aA ti.toNat) (aE ti.toNat) (-1) va np tn pc_ st_ pa_ ta ow of_ ot rl hb bs se)), cA Z (gA 19) 1 400 Mt] s.heap.size)) Z A 4 0 0 29 [(3, .int (iI k1)), (0, .ref g0), (1, .int (iI lw)), (2, .int (iI tp))] [] [(g0, .inr (12, mO gA nr tm (aA ti.toNat) (aE ti.toNat) (-1) va1 np tn pc_ st_ pa_ ta ow of_ ot rl hb bs se)), cA Z (gA 19) 1 400 Mt] := by
      intro fuel
      induction fuel with
      | zero => intro k1 va1 _ _ _ _ _ hm; exact absurd hm (Nat.not_lt_zero _)
      | succ fuel ih =>
        intro k1 va1 b_k1 b_va1 iv iv2 ivv hm
        refine g_aload_n (pc := 29) X 1 rfl dX12_number_29 ?_
        refine g_get (pc := 30) X inlX12 0 rfl rfl 24 (by decide) mw_20_22 rfl dX12_number_30 ?_
        refine g_iconst (pc := 33) X (iI (-1)) (by rfl) dX12_number_33 ?_
        refine g_icmp_eqI (pc := 34) X 89 (by decide) (inRb b_va1 (by decide) (by decide)) ⟨by decide, by decide⟩ dX12_number_34 (fun c34 => ?_) (fun c34 => ?_)
        · have qn := numInA (c := 9999) (v := va1) (v0 := v0) (lw := lw) (tp := tp) (k := ti.toNat) hT (by (first | (clear b_nr b_va b_np b_tn b_pc_ b_st_ b_pa_ b_ta b_ow b_of_ b_ot b_rl b_hb b_bs b_se; omega) | omega)) (by decide) (by decide) hv0 (Or.inl ⟨by (first | (clear b_nr b_va b_np b_tn b_pc_ b_st_ b_pa_ b_ta b_ow b_of_ b_ot b_rl b_hb b_bs b_se; omega) | omega), by (first | (clear b_nr b_va b_np b_tn b_pc_ b_st_ b_pa_ b_ta b_ow b_of_ b_ot b_rl b_hb b_bs b_se; omega) | omega)⟩) (by (first | (clear b_nr b_va b_np b_tn b_pc_ b_st_ b_pa_ b_ta b_ow b_of_ b_ot b_rl b_hb b_bs b_se; omega) | omega)) (by (first | (clear b_nr b_va b_np b_tn b_pc_ b_st_ b_pa_ b_ta b_ow b_of_ b_ot b_rl b_hb b_bs b_se; omega) | omega))
          refine g_aload_n (pc := 89) X 1 rfl dX12_number_89 ?_
          refine g_aload_n (pc := 90) X 1 rfl dX12_number_90 ?_
          refine g_get (pc := 91) X inlX12 0 rfl rfl 24 (by decide) mw_20_22 rfl dX12_number_91 ?_
          refine g_i2lI (pc := 94) X (inRb b_va1 (by decide) (by decide)) dX12_number_94 ?_
          refine g_iload_n (pc := 95) X 2 rfl dX12_number_95 ?_
          refine g_i2lI (pc := 96) X b_lw dX12_number_96 ?_
          refine g_iload_n (pc := 97) X 3 rfl dX12_number_97 ?_
          refine g_i2lI (pc := 98) X b_tp dX12_number_98 ?_
          refine g_callS (pc := 99) X (k_X12_in l Z va1 lw tp (by (first | (clear b_nr b_va b_np b_tn b_pc_ b_st_ b_pa_ b_ta b_ow b_of_ b_ot b_rl b_hb b_bs b_se; omega) | omega)) (by (first | (clear b_nr b_va b_np b_tn b_pc_ b_st_ b_pa_ b_ta b_ow b_of_ b_ot b_rl b_hb b_bs b_se; omega) | omega)) (by (first | (clear b_nr b_va b_np b_tn b_pc_ b_st_ b_pa_ b_ta b_ow b_of_ b_ot b_rl b_hb b_bs b_se; omega) | omega))) iM_X12_in mw_11_13 mw_11_14 [] [0, 1] rfl (wr := [(g0, .inr (12, mO gA nr tm (aA ti.toNat) (aE ti.toNat) (-1) va1 np tn pc_ st_ pa_ ta ow of_ ot rl hb bs se)), cA Z (gA 19) 1 400 Mt]) rfl (by decide) rfl rfl (Nat.le_of_ble_eq_true rfl) (by decide) dX12_number_99 (fun r w' hpo => ?_)
          obtain ⟨rfl, rfl⟩ := hpo
          refine g_as (pc' := 102) (lv' := [(3, .int (iI k1)), (0, .ref g0), (1, .int (iI lw)), (2, .int (iI tp))]) (st' := [.int (iI (bI (lw ≤ va1 ∧ va1 ≤ tp))), .ref g0]) (ws' := [(g0, .inr (12, mO gA nr tm (aA ti.toNat) (aE ti.toNat) (-1) va1 np tn pc_ st_ pa_ ta ow of_ ot rl hb bs se)), cA Z (gA 19) 1 400 Mt]) rfl rfl rfl rfl ?_
          have hb_102 := bI_01 (P := lw ≤ va1 ∧ va1 ≤ tp)
          have hc_102 : bI (lw ≤ va1 ∧ va1 ≤ tp) = 1 → (lw ≤ va1 ∧ va1 ≤ tp) := bI_1i
          have hd_102 : bI (lw ≤ va1 ∧ va1 ≤ tp) = 0 → ¬ (lw ≤ va1 ∧ va1 ≤ tp) := bI_0.mp
          refine g_callV (pc := 102) X (kx_X12_passes l Z g0 gA aA aE aK aV ti Mt (bI (lw ≤ va1 ∧ va1 ≤ tp)) nr tm va1 np tn pc_ st_ pa_ ta ow of_ ot rl hb bs se (by (first | (clear b_nr b_va b_np b_tn b_pc_ b_st_ b_pa_ b_ta b_ow b_of_ b_ot b_rl b_hb b_bs b_se; omega) | omega)) b_nr b_tm (by (first | (clear b_nr b_va b_np b_tn b_pc_ b_st_ b_pa_ b_ta b_ow b_of_ b_ot b_rl b_hb b_bs b_se; omega) | omega)) b_np b_tn b_pc_ b_st_ b_pa_ b_ta b_ow b_of_ b_ot b_rl b_hb b_bs b_se (hT) (by (first | (clear b_nr b_va b_np b_tn b_pc_ b_st_ b_pa_ b_ta b_ow b_of_ b_ot b_rl b_hb b_bs b_se; omega) | omega)) (h_Mt)) iM_X12_passes mw_20_23 mw_21_0 mw_21_1 0 rfl rfl [0, 1] [] rfl (wr := []) rfl (by decide) rfl rfl (Nat.le_of_ble_eq_true rfl) (by decide) dX12_number_102 (fun r w' hpo => ?_)
          rcases hpo with hp0 | hp1
          · obtain ⟨rfl, rfl, hf102_f1⟩ := hp0
            refine g_as (pc' := 105) (lv' := [(3, .int (iI k1)), (0, .ref g0), (1, .int (iI lw)), (2, .int (iI tp))]) (st' := [.int (iI 0)]) (ws' := [(g0, .inr (12, mO gA nr tm (aA ti.toNat) (aE ti.toNat) (aA ti.toNat) va1 np tn pc_ st_ pa_ ta ow of_ ot rl hb bs se)), cA Z (gA 19) 1 400 Mt]) rfl rfl rfl rfl ?_
            exact g_zret (pc := 105) X hA (rfl) (Or.inl (⟨va1, rfl, rfl, (by (first | (clear b_nr b_va b_np b_tn b_pc_ b_st_ b_pa_ b_ta b_ow b_of_ b_ot b_rl b_hb b_bs b_se; omega) | omega)), (fun h => bI_0.mp hf102_f1 (qn.1.mpr h))⟩)) (by decide) (by decide) dX12_number_105
          · refine anD_7 hp1 fun e_r e_w hf102_j0 hf102_j1 hf102_j2 hf102_f1 hf102_f2 => ?_; clear hp1; subst e_r; subst e_w
            refine g_as (pc' := 105) (lv' := [(3, .int (iI k1)), (0, .ref g0), (1, .int (iI lw)), (2, .int (iI tp))]) (st' := [.int (iI 1)]) (ws' := [(g0, .inr (12, mO gA nr tm (aA (ti + 1).toNat) (aE (ti + 1).toNat) (-1) va1 np tn pc_ st_ pa_ ta ow of_ ot rl hb bs se)), cA Z (gA 19) 1 400 Mt]) rfl rfl rfl rfl ?_
            have qs4 : va1 = aV ti.toNat := qn.2 (hc_102 hf102_f1)
            subst qs4
            exact g_zret (pc := 105) X hA (rfl) (Or.inr (⟨rfl, rfl, (by (first | (clear b_nr b_va b_np b_tn b_pc_ b_st_ b_pa_ b_ta b_ow b_of_ b_ot b_rl b_hb b_bs b_se; omega) | omega)), (by (first | (clear b_nr b_va b_np b_tn b_pc_ b_st_ b_pa_ b_ta b_ow b_of_ b_ot b_rl b_hb b_bs b_se; omega) | omega)), (by (first | (clear b_nr b_va b_np b_tn b_pc_ b_st_ b_pa_ b_ta b_ow b_of_ b_ot b_rl b_hb b_bs b_se; omega) | omega)), (qn.1.mp (hc_102 hf102_f1)), (by (first | (clear b_nr b_va b_np b_tn b_pc_ b_st_ b_pa_ b_ta b_ow b_of_ b_ot b_rl b_hb b_bs b_se; omega) | omega))⟩)) (by decide) (by decide) dX12_number_105
        · refine g_iload_n (pc := 37) X 0 rfl dX12_number_37 ?_
          refine g_aload_n (pc := 38) X 1 rfl dX12_number_38 ?_
          refine g_get (pc := 39) X inlX12 0 rfl rfl 22 (by decide) mw_19_22 rfl dX12_number_39 ?_
          refine g_icmp_geI (pc := 42) X 89 (by decide) (inRb b_k1 (by decide) (by decide)) ⟨by (first | (clear b_nr b_va b_np b_tn b_pc_ b_st_ b_pa_ b_ta b_ow b_of_ b_ot b_rl b_hb b_bs b_se; omega) | omega), by (first | (clear b_nr b_va b_np b_tn b_pc_ b_st_ b_pa_ b_ta b_ow b_of_ b_ot b_rl b_hb b_bs b_se; omega) | omega)⟩ dX12_number_42 (fun c42 => ?_) (fun c42 => ?_)
          · have qn := numInA (c := 9999) (v := va1) (v0 := v0) (lw := lw) (tp := tp) (k := ti.toNat) hT (by (first | (clear b_nr b_va b_np b_tn b_pc_ b_st_ b_pa_ b_ta b_ow b_of_ b_ot b_rl b_hb b_bs b_se; omega) | omega)) (by decide) (by decide) hv0 (by rw [show (aE ti.toNat - aA ti.toNat).toNat = (k1 - aA ti.toNat).toNat by (first | (clear b_nr b_va b_np b_tn b_pc_ b_st_ b_pa_ b_ta b_ow b_of_ b_ot b_rl b_hb b_bs b_se; omega) | omega)]; omega) (by (first | (clear b_nr b_va b_np b_tn b_pc_ b_st_ b_pa_ b_ta b_ow b_of_ b_ot b_rl b_hb b_bs b_se; omega) | omega)) (by (first | (clear b_nr b_va b_np b_tn b_pc_ b_st_ b_pa_ b_ta b_ow b_of_ b_ot b_rl b_hb b_bs b_se; omega) | omega))
            refine g_aload_n (pc := 89) X 1 rfl dX12_number_89 ?_
            refine g_aload_n (pc := 90) X 1 rfl dX12_number_90 ?_
            refine g_get (pc := 91) X inlX12 0 rfl rfl 24 (by decide) mw_20_22 rfl dX12_number_91 ?_
            refine g_i2lI (pc := 94) X (inRb b_va1 (by decide) (by decide)) dX12_number_94 ?_
            refine g_iload_n (pc := 95) X 2 rfl dX12_number_95 ?_
            refine g_i2lI (pc := 96) X b_lw dX12_number_96 ?_
            refine g_iload_n (pc := 97) X 3 rfl dX12_number_97 ?_
            refine g_i2lI (pc := 98) X b_tp dX12_number_98 ?_
            refine g_callS (pc := 99) X (k_X12_in l Z va1 lw tp (by (first | (clear b_nr b_va b_np b_tn b_pc_ b_st_ b_pa_ b_ta b_ow b_of_ b_ot b_rl b_hb b_bs b_se; omega) | omega)) (by (first | (clear b_nr b_va b_np b_tn b_pc_ b_st_ b_pa_ b_ta b_ow b_of_ b_ot b_rl b_hb b_bs b_se; omega) | omega)) (by (first | (clear b_nr b_va b_np b_tn b_pc_ b_st_ b_pa_ b_ta b_ow b_of_ b_ot b_rl b_hb b_bs b_se; omega) | omega))) iM_X12_in mw_11_13 mw_11_14 [] [0, 1] rfl (wr := [(g0, .inr (12, mO gA nr tm (aA ti.toNat) (aE ti.toNat) (-1) va1 np tn pc_ st_ pa_ ta ow of_ ot rl hb bs se)), cA Z (gA 19) 1 400 Mt]) rfl (by decide) rfl rfl (Nat.le_of_ble_eq_true rfl) (by decide) dX12_number_99 (fun r w' hpo => ?_)
            obtain ⟨rfl, rfl⟩ := hpo
            refine g_as (pc' := 102) (lv' := [(3, .int (iI k1)), (0, .ref g0), (1, .int (iI lw)), (2, .int (iI tp))]) (st' := [.int (iI (bI (lw ≤ va1 ∧ va1 ≤ tp))), .ref g0]) (ws' := [(g0, .inr (12, mO gA nr tm (aA ti.toNat) (aE ti.toNat) (-1) va1 np tn pc_ st_ pa_ ta ow of_ ot rl hb bs se)), cA Z (gA 19) 1 400 Mt]) rfl rfl rfl rfl ?_
            have hb_102 := bI_01 (P := lw ≤ va1 ∧ va1 ≤ tp)
            have hc_102 : bI (lw ≤ va1 ∧ va1 ≤ tp) = 1 → (lw ≤ va1 ∧ va1 ≤ tp) := bI_1i
            have hd_102 : bI (lw ≤ va1 ∧ va1 ≤ tp) = 0 → ¬ (lw ≤ va1 ∧ va1 ≤ tp) := bI_0.mp
            refine g_callV (pc := 102) X (kx_X12_passes l Z g0 gA aA aE aK aV ti Mt (bI (lw ≤ va1 ∧ va1 ≤ tp)) nr tm va1 np tn pc_ st_ pa_ ta ow of_ ot rl hb bs se (by (first | (clear b_nr b_va b_np b_tn b_pc_ b_st_ b_pa_ b_ta b_ow b_of_ b_ot b_rl b_hb b_bs b_se; omega) | omega)) b_nr b_tm (by (first | (clear b_nr b_va b_np b_tn b_pc_ b_st_ b_pa_ b_ta b_ow b_of_ b_ot b_rl b_hb b_bs b_se; omega) | omega)) b_np b_tn b_pc_ b_st_ b_pa_ b_ta b_ow b_of_ b_ot b_rl b_hb b_bs b_se (hT) (by (first | (clear b_nr b_va b_np b_tn b_pc_ b_st_ b_pa_ b_ta b_ow b_of_ b_ot b_rl b_hb b_bs b_se; omega) | omega)) (h_Mt)) iM_X12_passes mw_20_23 mw_21_0 mw_21_1 0 rfl rfl [0, 1] [] rfl (wr := []) rfl (by decide) rfl rfl (Nat.le_of_ble_eq_true rfl) (by decide) dX12_number_102 (fun r w' hpo => ?_)
            rcases hpo with hp0 | hp1
            · obtain ⟨rfl, rfl, hf102_f1⟩ := hp0
              refine g_as (pc' := 105) (lv' := [(3, .int (iI k1)), (0, .ref g0), (1, .int (iI lw)), (2, .int (iI tp))]) (st' := [.int (iI 0)]) (ws' := [(g0, .inr (12, mO gA nr tm (aA ti.toNat) (aE ti.toNat) (aA ti.toNat) va1 np tn pc_ st_ pa_ ta ow of_ ot rl hb bs se)), cA Z (gA 19) 1 400 Mt]) rfl rfl rfl rfl ?_
              exact g_zret (pc := 105) X hA (rfl) (Or.inl (⟨va1, rfl, rfl, (by (first | (clear b_nr b_va b_np b_tn b_pc_ b_st_ b_pa_ b_ta b_ow b_of_ b_ot b_rl b_hb b_bs b_se; omega) | omega)), (fun h => bI_0.mp hf102_f1 (qn.1.mpr h))⟩)) (by decide) (by decide) dX12_number_105
            · refine anD_7 hp1 fun e_r e_w hf102_j0 hf102_j1 hf102_j2 hf102_f1 hf102_f2 => ?_; clear hp1; subst e_r; subst e_w
              refine g_as (pc' := 105) (lv' := [(3, .int (iI k1)), (0, .ref g0), (1, .int (iI lw)), (2, .int (iI tp))]) (st' := [.int (iI 1)]) (ws' := [(g0, .inr (12, mO gA nr tm (aA (ti + 1).toNat) (aE (ti + 1).toNat) (-1) va1 np tn pc_ st_ pa_ ta ow of_ ot rl hb bs se)), cA Z (gA 19) 1 400 Mt]) rfl rfl rfl rfl ?_
              have qs8 : va1 = aV ti.toNat := qn.2 (hc_102 hf102_f1)
              subst qs8
              exact g_zret (pc := 105) X hA (rfl) (Or.inr (⟨rfl, rfl, (by (first | (clear b_nr b_va b_np b_tn b_pc_ b_st_ b_pa_ b_ta b_ow b_of_ b_ot b_rl b_hb b_bs b_se; omega) | omega)), (by (first | (clear b_nr b_va b_np b_tn b_pc_ b_st_ b_pa_ b_ta b_ow b_of_ b_ot b_rl b_hb b_bs b_se; omega) | omega)), (by (first | (clear b_nr b_va b_np b_tn b_pc_ b_st_ b_pa_ b_ta b_ow b_of_ b_ot b_rl b_hb b_bs b_se; omega) | omega)), (qn.1.mp (hc_102 hf102_f1)), (by (first | (clear b_nr b_va b_np b_tn b_pc_ b_st_ b_pa_ b_ta b_ow b_of_ b_ot b_rl b_hb b_bs b_se; omega) | omega))⟩)) (by decide) (by decide) dX12_number_105
          · refine g_aload_n (pc := 45) X 1 rfl dX12_number_45 ?_
            refine g_aload_n (pc := 46) X 1 rfl dX12_number_46 ?_
            refine g_get (pc := 47) X inlX12 0 rfl rfl 24 (by decide) mw_20_22 rfl dX12_number_47 ?_
            refine g_sipush (pc := 50) X (iI 9999) (by decide) dX12_number_50 ?_
            refine g_icmp_leI (pc := 53) X 63 (by decide) (inRb b_va1 (by decide) (by decide)) ⟨by decide, by decide⟩ dX12_number_53 (fun c53 => ?_) (fun c53 => ?_)
            · refine g_bipush (pc := 63) X (iI 10) (by decide) dX12_number_63 ?_
              refine g_aload_n (pc := 65) X 1 rfl dX12_number_65 ?_
              refine g_get (pc := 66) X inlX12 0 rfl rfl 24 (by decide) mw_20_22 rfl dX12_number_66 ?_
              refine g_imulI (pc := 69) X dX12_number_69 ?_
              refine g_aload_n (pc := 70) X 1 rfl dX12_number_70 ?_
              refine g_get (pc := 71) X inlX12 0 rfl rfl 19 (by decide) mw_8_7 rfl dX12_number_71 ?_
              refine g_iload_n (pc := 74) X 0 rfl dX12_number_74 ?_
              refine g_baldI (pc := 75) X 1 rfl (b_k1.1) (by (first | (clear b_nr b_va b_np b_tn b_pc_ b_st_ b_pa_ b_ta b_ow b_of_ b_ot b_rl b_hb b_bs b_se; omega) | omega)) (Int.le_trans b_k1.2 (by decide)) dX12_number_75 ?_
              refine g_nameI (fun y9 ey9 => ?_)
              have by9 : (-128) ≤ y9 ∧ y9 ≤ 127 := by rw [ey9]; exact h_Mt _ (by (first | (clear b_nr b_va b_np b_tn b_pc_ b_st_ b_pa_ b_ta b_ow b_of_ b_ot b_rl b_hb b_bs b_se; omega) | omega))
              have ty9 : 48 ≤ y9 ∧ y9 ≤ 57 := by rw [ey9]; exact aE_dig hT (by (first | (clear b_nr b_va b_np b_tn b_pc_ b_st_ b_pa_ b_ta b_ow b_of_ b_ot b_rl b_hb b_bs b_se; omega) | omega)) (show aK ti.toNat = 6 by (first | (clear b_nr b_va b_np b_tn b_pc_ b_st_ b_pa_ b_ta b_ow b_of_ b_ot b_rl b_hb b_bs b_se; omega) | omega)) _ (by (first | (clear b_nr b_va b_np b_tn b_pc_ b_st_ b_pa_ b_ta b_ow b_of_ b_ot b_rl b_hb b_bs b_se; omega) | omega)) (by (first | (clear b_nr b_va b_np b_tn b_pc_ b_st_ b_pa_ b_ta b_ow b_of_ b_ot b_rl b_hb b_bs b_se; omega) | omega))
              refine g_iaddI (pc := 76) X dX12_number_76 ?_
              refine g_bipush (pc := 77) X (iI 48) (by decide) dX12_number_77 ?_
              refine g_isubI (pc := 79) X dX12_number_79 ?_
              refine g_put (pc := 80) X inlX12 tyX12_ok nmX12 0 rfl rfl 24 (by decide) mw_20_22 rfl rfl rfl (Nat.le_of_ble_eq_true rfl) (ws' := [(g0, .inr (12, mO gA nr tm (aA ti.toNat) (aE ti.toNat) (-1) (((10 * va1) + y9) - 48) np tn pc_ st_ pa_ ta ow of_ ot rl hb bs se)), cA Z (gA 19) 1 400 Mt]) rfl dX12_number_80 ?_
              refine g_iincI (pc := 83) X 0 rfl (by decide) (lv' := [(3, .int (iI (k1 + 1))), (0, .ref g0), (1, .int (iI lw)), (2, .int (iI tp))]) rfl dX12_number_83 ?_
              refine g_goto (pc := 86) X 29 (by decide) dX12_number_86 ?_
              exact ih (k1 + 1) (((10 * va1) + y9) - 48) (by (first | (clear b_nr b_va b_np b_tn b_pc_ b_st_ b_pa_ b_ta b_ow b_of_ b_ot b_rl b_hb b_bs b_se; omega) | omega)) (by (first | (clear b_nr b_va b_np b_tn b_pc_ b_st_ b_pa_ b_ta b_ow b_of_ b_ot b_rl b_hb b_bs b_se; omega) | omega)) (by (first | (clear b_nr b_va b_np b_tn b_pc_ b_st_ b_pa_ b_ta b_ow b_of_ b_ot b_rl b_hb b_bs b_se; omega) | omega)) (by (first | (clear b_nr b_va b_np b_tn b_pc_ b_st_ b_pa_ b_ta b_ow b_of_ b_ot b_rl b_hb b_bs b_se; omega) | omega)) (Or.inr ⟨by (first | (clear b_nr b_va b_np b_tn b_pc_ b_st_ b_pa_ b_ta b_ow b_of_ b_ot b_rl b_hb b_bs b_se; omega) | omega), by (first | (clear b_nr b_va b_np b_tn b_pc_ b_st_ b_pa_ b_ta b_ow b_of_ b_ot b_rl b_hb b_bs b_se; omega) | omega), mvl_s2 (by (first | (clear b_nr b_va b_np b_tn b_pc_ b_st_ b_pa_ b_ta b_ow b_of_ b_ot b_rl b_hb b_bs b_se; omega) | omega)) (by (first | (clear b_nr b_va b_np b_tn b_pc_ b_st_ b_pa_ b_ta b_ow b_of_ b_ot b_rl b_hb b_bs b_se; omega) | omega)) (by (first | (clear b_nr b_va b_np b_tn b_pc_ b_st_ b_pa_ b_ta b_ow b_of_ b_ot b_rl b_hb b_bs b_se; omega) | omega)) (by (first | (clear b_nr b_va b_np b_tn b_pc_ b_st_ b_pa_ b_ta b_ow b_of_ b_ot b_rl b_hb b_bs b_se; omega) | omega)) ey9⟩) (by (first | (clear b_nr b_va b_np b_tn b_pc_ b_st_ b_pa_ b_ta b_ow b_of_ b_ot b_rl b_hb b_bs b_se; omega) | omega))
            · refine g_aload_n (pc := 56) X 1 rfl dX12_number_56 ?_
              refine g_get (pc := 57) X inlX12 0 rfl rfl 24 (by decide) mw_20_22 rfl dX12_number_57 ?_
              refine g_goto (pc := 60) X 80 (by decide) dX12_number_60 ?_
              refine g_put (pc := 80) X inlX12 tyX12_ok nmX12 0 rfl rfl 24 (by decide) mw_20_22 rfl rfl rfl (Nat.le_of_ble_eq_true rfl) (ws' := [(g0, .inr (12, mO gA nr tm (aA ti.toNat) (aE ti.toNat) (-1) va1 np tn pc_ st_ pa_ ta ow of_ ot rl hb bs se)), cA Z (gA 19) 1 400 Mt]) rfl dX12_number_80 ?_
              refine g_iincI (pc := 83) X 0 rfl (by decide) (lv' := [(3, .int (iI (k1 + 1))), (0, .ref g0), (1, .int (iI lw)), (2, .int (iI tp))]) rfl dX12_number_83 ?_
              refine g_goto (pc := 86) X 29 (by decide) dX12_number_86 ?_
              exact ih (k1 + 1) va1 (by (first | (clear b_nr b_va b_np b_tn b_pc_ b_st_ b_pa_ b_ta b_ow b_of_ b_ot b_rl b_hb b_bs b_se; omega) | omega)) (b_va1) (by (first | (clear b_nr b_va b_np b_tn b_pc_ b_st_ b_pa_ b_ta b_ow b_of_ b_ot b_rl b_hb b_bs b_se; omega) | omega)) (by (first | (clear b_nr b_va b_np b_tn b_pc_ b_st_ b_pa_ b_ta b_ow b_of_ b_ot b_rl b_hb b_bs b_se; omega) | omega)) (Or.inr ⟨by (first | (clear b_nr b_va b_np b_tn b_pc_ b_st_ b_pa_ b_ta b_ow b_of_ b_ot b_rl b_hb b_bs b_se; omega) | omega), by (first | (clear b_nr b_va b_np b_tn b_pc_ b_st_ b_pa_ b_ta b_ow b_of_ b_ot b_rl b_hb b_bs b_se; omega) | omega), mvl_s1 (by (first | (clear b_nr b_va b_np b_tn b_pc_ b_st_ b_pa_ b_ta b_ow b_of_ b_ot b_rl b_hb b_bs b_se; omega) | omega)) (by (first | (clear b_nr b_va b_np b_tn b_pc_ b_st_ b_pa_ b_ta b_ow b_of_ b_ot b_rl b_hb b_bs b_se; omega) | omega)) (by (first | (clear b_nr b_va b_np b_tn b_pc_ b_st_ b_pa_ b_ta b_ow b_of_ b_ot b_rl b_hb b_bs b_se; omega) | omega)) (by (first | (clear b_nr b_va b_np b_tn b_pc_ b_st_ b_pa_ b_ta b_ow b_of_ b_ot b_rl b_hb b_bs b_se; omega) | omega))⟩) (by (first | (clear b_nr b_va b_np b_tn b_pc_ b_st_ b_pa_ b_ta b_ow b_of_ b_ot b_rl b_hb b_bs b_se; omega) | omega))
    exact loop29 _ (aA ti.toNat) v0 (by (first | (clear b_nr b_va b_np b_tn b_pc_ b_st_ b_pa_ b_ta b_ow b_of_ b_ot b_rl b_hb b_bs b_se; omega) | omega)) (by (first | (clear b_nr b_va b_np b_tn b_pc_ b_st_ b_pa_ b_ta b_ow b_of_ b_ot b_rl b_hb b_bs b_se; omega) | omega)) (by (first | (clear b_nr b_va b_np b_tn b_pc_ b_st_ b_pa_ b_ta b_ow b_of_ b_ot b_rl b_hb b_bs b_se; omega) | omega)) (by (first | (clear b_nr b_va b_np b_tn b_pc_ b_st_ b_pa_ b_ta b_ow b_of_ b_ot b_rl b_hb b_bs b_se; omega) | omega)) (by rw [show (aA ti.toNat - aA ti.toNat).toNat = 0 by (first | (clear b_nr b_va b_np b_tn b_pc_ b_st_ b_pa_ b_ta b_ow b_of_ b_ot b_rl b_hb b_bs b_se; omega) | omega)]; show (v0 = -1 ∧ v0 = -1) ∨ (v0 = 0 ∧ 0 ≤ v0 ∧ v0 = 0); omega) (Nat.lt_succ_self _)
  refine g_bipush (pc := 8) X (iI 57) (by decide) dX12_number_8 ?_
  refine g_callV (pc := 10) X (k_X12_between l Z g0 gA Mt (aA ti.toNat) 48 57 nr tm (aA ti.toNat) (aE ti.toNat) (-1) va np tn pc_ st_ pa_ ta ow of_ ot rl hb bs se (by (first | (clear b_nr b_va b_np b_tn b_pc_ b_st_ b_pa_ b_ta b_ow b_of_ b_ot b_rl b_hb b_bs b_se; omega) | omega)) (by decide) (by decide) b_nr b_tm (by (first | (clear b_nr b_va b_np b_tn b_pc_ b_st_ b_pa_ b_ta b_ow b_of_ b_ot b_rl b_hb b_bs b_se; omega) | omega)) (by (first | (clear b_nr b_va b_np b_tn b_pc_ b_st_ b_pa_ b_ta b_ow b_of_ b_ot b_rl b_hb b_bs b_se; omega) | omega)) (by decide) b_va b_np b_tn b_pc_ b_st_ b_pa_ b_ta b_ow b_of_ b_ot b_rl b_hb b_bs b_se (h_Mt)) iM_X12_between mw_20_4 mw_20_5 mw_20_6 0 rfl rfl [0, 1] [] rfl (wr := []) rfl (by decide) rfl rfl (Nat.le_of_ble_eq_true rfl) (by decide) dX12_number_10 (fun r w' hpo => ?_)
  obtain ⟨rfl, rfl⟩ := hpo
  refine g_as (pc' := 13) (lv' := [(0, .ref g0), (1, .int (iI lw)), (2, .int (iI tp))]) (st' := [.int (iI (bI ((aA ti.toNat) < tm ∧ 48 ≤ Mt (aA ti.toNat).toNat ∧ Mt (aA ti.toNat).toNat ≤ 57))), .ref g0]) (ws' := [(g0, .inr (12, mO gA nr tm (aA ti.toNat) (aE ti.toNat) (-1) va np tn pc_ st_ pa_ ta ow of_ ot rl hb bs se)), cA Z (gA 19) 1 400 Mt]) rfl rfl rfl rfl ?_
  refine g_if_eqB (pc := 13) X 20 (by decide) dX12_number_13 (fun c13 => ?_) (fun c13 => ?_)
  · refine g_iconst (pc := 20) X (iI (-1)) (by rfl) dX12_number_20 ?_
    exact join21 (-1) (by (first | (clear b_nr b_va b_np b_tn b_pc_ b_st_ b_pa_ b_ta b_ow b_of_ b_ot b_rl b_hb b_bs b_se; omega) | omega)) (by (first | (clear b_nr b_va b_np b_tn b_pc_ b_st_ b_pa_ b_ta b_ow b_of_ b_ot b_rl b_hb b_bs b_se; omega) | omega))
  · refine g_iconst (pc := 16) X (iI 0) (by rfl) dX12_number_16 ?_
    refine g_goto (pc := 17) X 21 (by decide) dX12_number_17 ?_
    exact join21 0 (by (first | (clear b_nr b_va b_np b_tn b_pc_ b_st_ b_pa_ b_ta b_ow b_of_ b_ot b_rl b_hb b_bs b_se; omega) | omega)) (by (first | (clear b_nr b_va b_np b_tn b_pc_ b_st_ b_pa_ b_ta b_ow b_of_ b_ot b_rl b_hb b_bs b_se; omega) | omega))

set_option maxHeartbeats 4000000 in
set_option maxRecDepth 100000 in
theorem kx_X12_lesser (l : Launch) (Z : gZ) (g0 : Nat) (gA : Nat → Nat) (gG : Nat → Nat → Option Nat) (xA : Nat → Nat) (Mh : Nat → Int) (Mk : Nat → Int) (rm : Int) (w : Int) (nr : Int) (tm : Int) (at_ : Int) (to_ : Int) (fa : Int) (va : Int) (np : Int) (tn : Int) (pc_ : Int) (st_ : Int) (pa_ : Int) (ta : Int) (ow : Int) (of_ : Int) (ot : Int) (rl : Int) (hb : Int) (bs : Int) (se : Int) (b_rm : 0 ≤ rm ∧ rm ≤ 6) (b_w : 0 ≤ w ∧ w ≤ 7) (b_nr : 0 ≤ nr ∧ nr ≤ 6) (b_tm : 0 ≤ tm ∧ tm ≤ 400) (b_at_ : 0 ≤ at_ ∧ at_ ≤ 400) (b_to_ : 0 ≤ to_ ∧ to_ ≤ 400) (b_fa : (-1) ≤ fa ∧ fa ≤ 400) (b_va : (-2147483648) ≤ va ∧ va ≤ 2147483647) (b_np : 0 ≤ np ∧ np ≤ 4) (b_tn : 0 ≤ tn ∧ tn ≤ 20) (b_pc_ : 0 ≤ pc_ ∧ pc_ ≤ 480) (b_st_ : 0 ≤ st_ ∧ st_ ≤ 240) (b_pa_ : (-1) ≤ pa_ ∧ pa_ ≤ 3) (b_ta : (-2147483648) ≤ ta ∧ ta ≤ 2147483647) (b_ow : (-2147483648) ≤ ow ∧ ow ≤ 2147483647) (b_of_ : (-2147483648) ≤ of_ ∧ of_ ≤ 2147483647) (b_ot : (-2147483648) ≤ ot ∧ ot ≤ 2147483647) (b_rl : 0 ≤ rl ∧ rl ≤ 2880) (b_hb : 0 ≤ hb ∧ hb ≤ 4) (b_bs : (-2147483648) ≤ bs ∧ bs ≤ 2147483647) (b_se : 0 ≤ se ∧ se ≤ 10) (hG : ∀ k, gG k rm.toNat = some (xA k)) (h_Mh : ∀ j, j < 8 → 0 ≤ Mh j ∧ Mh j ≤ 400) (h_Mk : ∀ j, j < 8 → 0 ≤ Mk j ∧ Mk j ≤ 400) : Con l Z yX12_lesser cX12_lesser 3 (some .int) 1 24 0 0 [.ref g0, .int (iI rm), .int (iI w)] [(g0, .inr (12, mO gA nr tm at_ to_ fa va np tn pc_ st_ pa_ ta ow of_ ot rl hb bs se)), cR Z (gA 1) 6 7 (gG 1), cR Z (gA 2) 6 7 (gG 2), cA Z (xA 1) 0 8 Mh, cA Z (xA 2) 0 8 Mk] (fun r w' => (r = some (.int (iI (les Mh Mk w)))) ∧ (w' = [(g0, .inr (12, mO gA nr tm at_ to_ fa va np tn pc_ st_ pa_ ta ow of_ ot rl hb bs se)), cR Z (gA 1) 6 7 (gG 1), cR Z (gA 2) 6 7 (gG 2), cA Z (xA 1) 0 8 Mh, cA Z (xA 2) 0 8 Mk]) ∧ (0 ≤ les Mh Mk w ∧ les Mh Mk w ≤ 400)) := by
  refine enter (by decide) (Nat.le_of_ble_eq_true rfl) ?_
  intro p e s m args below meth c A X hnm hA
  have X : Cx p s m args meth c cX12_lesser 3 (some .int) RX12 Z A := X
  refine g_as (pc' := 0) (lv' := [(0, .ref g0), (1, .int (iI rm)), (2, .int (iI w))]) (st' := []) (ws' := [(g0, .inr (12, mO gA nr tm at_ to_ fa va np tn pc_ st_ pa_ ta ow of_ ot rl hb bs se)), cR Z (gA 1) 6 7 (gG 1), cR Z (gA 2) 6 7 (gG 2), cA Z (xA 1) 0 8 Mh, cA Z (xA 2) 0 8 Mk]) rfl rfl rfl rfl ?_
  refine g_aload_n (pc := 0) X 0 rfl dX12_lesser_0 ?_
  refine g_get (pc := 1) X inlX12 0 rfl rfl 1 (by decide) mw_7_13 rfl dX12_lesser_1 ?_
  refine g_iload_n (pc := 4) X 1 rfl dX12_lesser_4 ?_
  refine g_aaldG (pc := 5) X 1 rfl (b_rm.1) (Int.lt_of_le_of_lt b_rm.2 (by decide)) (Int.le_trans b_rm.2 (by decide)) (hG 1) dX12_lesser_5 ?_
  refine g_iload_n (pc := 6) X 2 rfl dX12_lesser_6 ?_
  refine g_ialdI (pc := 7) X 3 rfl (b_w.1) (Int.lt_of_le_of_lt b_w.2 (by decide)) (Int.le_trans b_w.2 (by decide)) dX12_lesser_7 ?_
  refine g_nameI (fun y1 ey1 => ?_)
  have by1 : 0 ≤ y1 ∧ y1 ≤ 400 := by rw [ey1]; exact h_Mh _ (by (first | (clear b_nr b_tm b_at_ b_to_ b_fa b_va b_np b_tn b_pc_ b_st_ b_pa_ b_ta b_ow b_of_ b_ot b_rl b_hb b_bs b_se; omega) | omega))
  refine g_aload_n (pc := 8) X 0 rfl dX12_lesser_8 ?_
  refine g_get (pc := 9) X inlX12 0 rfl rfl 2 (by decide) mw_7_14 rfl dX12_lesser_9 ?_
  refine g_iload_n (pc := 12) X 1 rfl dX12_lesser_12 ?_
  refine g_aaldG (pc := 13) X 2 rfl (b_rm.1) (Int.lt_of_le_of_lt b_rm.2 (by decide)) (Int.le_trans b_rm.2 (by decide)) (hG 2) dX12_lesser_13 ?_
  refine g_iload_n (pc := 14) X 2 rfl dX12_lesser_14 ?_
  refine g_ialdI (pc := 15) X 4 rfl (b_w.1) (Int.lt_of_le_of_lt b_w.2 (by decide)) (Int.le_trans b_w.2 (by decide)) dX12_lesser_15 ?_
  refine g_nameI (fun y2 ey2 => ?_)
  have by2 : 0 ≤ y2 ∧ y2 ≤ 400 := by rw [ey2]; exact h_Mk _ (by (first | (clear b_nr b_tm b_at_ b_to_ b_fa b_va b_np b_tn b_pc_ b_st_ b_pa_ b_ta b_ow b_of_ b_ot b_rl b_hb b_bs b_se; omega) | omega))
  refine g_minI (pc := 16) X mw_21_19 mw_15_13 mw_25_23 mw_15_14 (by decide) (Nat.le_of_ble_eq_true rfl) (by decide) (by decide) (inRb by1 (by decide) (by decide)) (inRb by2 (by decide) (by decide)) dX12_lesser_16 ?_
  refine g_nameI (fun y3 ey3 => ?_)
  have my3 : y3 ≤ y1 ∧ y3 ≤ y2 ∧ (y3 = y1 ∨ y3 = y2) := by rw [ey3]; exact minF _ _
  clear ey3
  exact g_iret (pc := 19) X hA (⟨congrArg (fun z => some (Value.int (iI z))) (les_of (by (first | (clear b_nr b_tm b_at_ b_to_ b_fa b_va b_np b_tn b_pc_ b_st_ b_pa_ b_ta b_ow b_of_ b_ot b_rl b_hb b_bs b_se; omega) | omega))), rfl, (les_B (h_Mh _ (by (first | (clear b_nr b_tm b_at_ b_to_ b_fa b_va b_np b_tn b_pc_ b_st_ b_pa_ b_ta b_ow b_of_ b_ot b_rl b_hb b_bs b_se; omega) | omega))) (h_Mk _ (by (first | (clear b_nr b_tm b_at_ b_to_ b_fa b_va b_np b_tn b_pc_ b_st_ b_pa_ b_ta b_ow b_of_ b_ot b_rl b_hb b_bs b_se; omega) | omega))))⟩) (by decide) (by decide) dX12_lesser_19
