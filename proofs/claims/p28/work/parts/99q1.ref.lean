set_option maxHeartbeats 4000000 in
set_option maxRecDepth 100000 in
theorem kx_X12_highAt (l : Launch) (Z : gZ) (g0 : Nat) (gA : Nat → Nat) (gG : Nat → Nat → Option Nat) (xA : Nat → Nat) (Ml : Nat → Int) (Mh : Nat → Int) (Mk : Nat → Int) (rm : Int) (w : Int) (px : Int) (nr : Int) (tm : Int) (at_ : Int) (to_ : Int) (fa : Int) (va : Int) (np : Int) (tn : Int) (pc_ : Int) (st_ : Int) (pa_ : Int) (ta : Int) (ow : Int) (of_ : Int) (ot : Int) (rl : Int) (hb : Int) (bs : Int) (se : Int) (b_rm : 0 ≤ rm ∧ rm ≤ 6) (b_w : 0 ≤ w ∧ w ≤ 7) (b_px : 0 ≤ px ∧ px ≤ 600) (b_nr : 0 ≤ nr ∧ nr ≤ 6) (b_tm : 0 ≤ tm ∧ tm ≤ 400) (b_at_ : 0 ≤ at_ ∧ at_ ≤ 400) (b_to_ : 0 ≤ to_ ∧ to_ ≤ 400) (b_fa : (-1) ≤ fa ∧ fa ≤ 400) (b_va : (-2147483648) ≤ va ∧ va ≤ 2147483647) (b_np : 0 ≤ np ∧ np ≤ 4) (b_tn : 0 ≤ tn ∧ tn ≤ 20) (b_pc_ : 0 ≤ pc_ ∧ pc_ ≤ 480) (b_st_ : 0 ≤ st_ ∧ st_ ≤ 240) (b_pa_ : (-1) ≤ pa_ ∧ pa_ ≤ 3) (b_ta : (-2147483648) ≤ ta ∧ ta ≤ 2147483647) (b_ow : (-2147483648) ≤ ow ∧ ow ≤ 2147483647) (b_of_ : (-2147483648) ≤ of_ ∧ of_ ≤ 2147483647) (b_ot : (-2147483648) ≤ ot ∧ ot ≤ 2147483647) (b_rl : 0 ≤ rl ∧ rl ≤ 2880) (b_hb : 0 ≤ hb ∧ hb ≤ 4) (b_bs : (-2147483648) ≤ bs ∧ bs ≤ 2147483647) (b_se : 0 ≤ se ∧ se ≤ 10) (hG : ∀ k, gG k rm.toNat = some (xA k)) (hl : 50 ≤ Ml w.toNat) (h_Ml : ∀ j, j < 8 → 0 ≤ Ml j ∧ Ml j ≤ 600) (h_Mh : ∀ j, j < 8 → 0 ≤ Mh j ∧ Mh j ≤ 400) (h_Mk : ∀ j, j < 8 → 0 ≤ Mk j ∧ Mk j ≤ 400) : Con l Z yX12_highAt cX12_highAt 4 (some .int) 1 22 0 0 [.ref g0, .int (iI rm), .int (iI w), .int (iI px)] [(g0, .inr (12, mO gA nr tm at_ to_ fa va np tn pc_ st_ pa_ ta ow of_ ot rl hb bs se)), ((gA 0), .inl (Z.2.1 6, 7, .inr (.inr (.inr (.inr (gG 0)))))), ((gA 1), .inl (Z.2.1 6, 7, .inr (.inr (.inr (.inr (gG 1)))))), ((gA 2), .inl (Z.2.1 6, 7, .inr (.inr (.inr (.inr (gG 2)))))), ((xA 0), .inl (Z.2.1 0, 8, .inl (fun j => iI (Ml j)))), ((xA 1), .inl (Z.2.1 0, 8, .inl (fun j => iI (Mh j)))), ((xA 2), .inl (Z.2.1 0, 8, .inl (fun j => iI (Mk j))))] (fun r w' => ∃ (y : Int), (r = some (.int (iI y))) ∧ (w' = [(g0, .inr (12, mO gA nr tm at_ to_ fa va np tn pc_ st_ pa_ ta ow of_ ot rl hb bs se)), ((gA 0), .inl (Z.2.1 6, 7, .inr (.inr (.inr (.inr (gG 0)))))), ((gA 1), .inl (Z.2.1 6, 7, .inr (.inr (.inr (.inr (gG 1)))))), ((gA 2), .inl (Z.2.1 6, 7, .inr (.inr (.inr (.inr (gG 2)))))), ((xA 0), .inl (Z.2.1 0, 8, .inl (fun j => iI (Ml j)))), ((xA 1), .inl (Z.2.1 0, 8, .inl (fun j => iI (Mh j)))), ((xA 2), .inl (Z.2.1 0, 8, .inl (fun j => iI (Mk j))))]) ∧ ((-3000000) ≤ y ∧ y ≤ 3000000) ∧ (y = hgq Ml Mh Mk w px)) := by
  refine enter (by decide) (Nat.le_of_ble_eq_true rfl) ?_
  intro p e s m args below meth c A X hnm hA
  have X : Cx p s m args meth c cX12_highAt 4 (some .int) RX12 Z A := X
  refine g_as (pc' := 0) (lv' := [(0, .ref g0), (1, .int (iI rm)), (2, .int (iI w)), (3, .int (iI px))]) (st' := []) (ws' := [(g0, .inr (12, mO gA nr tm at_ to_ fa va np tn pc_ st_ pa_ ta ow of_ ot rl hb bs se)), ((gA 0), .inl (Z.2.1 6, 7, .inr (.inr (.inr (.inr (gG 0)))))), ((gA 1), .inl (Z.2.1 6, 7, .inr (.inr (.inr (.inr (gG 1)))))), ((gA 2), .inl (Z.2.1 6, 7, .inr (.inr (.inr (.inr (gG 2)))))), ((xA 0), .inl (Z.2.1 0, 8, .inl (fun j => iI (Ml j)))), ((xA 1), .inl (Z.2.1 0, 8, .inl (fun j => iI (Mh j)))), ((xA 2), .inl (Z.2.1 0, 8, .inl (fun j => iI (Mk j))))]) rfl rfl rfl rfl ?_
  refine g_aload_n (pc := 0) X 0 rfl dX12_highAt_0 ?_
  refine g_get (pc := 1) X inlX12 0 rfl rfl 1 (by decide) mw_7_13 rfl dX12_highAt_1 ?_
  refine g_iload_n (pc := 4) X 1 rfl dX12_highAt_4 ?_
  refine g_aaldG (pc := 5) X 2 rfl (b_rm.1) (Int.lt_of_le_of_lt b_rm.2 (by decide)) (Int.le_trans b_rm.2 (by decide)) (hG 1) dX12_highAt_5 ?_
  refine g_iload_n (pc := 6) X 2 rfl dX12_highAt_6 ?_
  refine g_ialdI (pc := 7) X 5 rfl (b_w.1) (Int.lt_of_le_of_lt b_w.2 (by decide)) (Int.le_trans b_w.2 (by decide)) dX12_highAt_7 ?_
  refine g_nameI (fun y1 ey1 => ?_)
  have by1 : 0 ≤ y1 ∧ y1 ≤ 400 := by rw [ey1]; exact h_Mh _ (by omega)
  refine g_aload_n (pc := 8) X 0 rfl dX12_highAt_8 ?_
  refine g_get (pc := 9) X inlX12 0 rfl rfl 2 (by decide) mw_7_14 rfl dX12_highAt_9 ?_
  refine g_iload_n (pc := 12) X 1 rfl dX12_highAt_12 ?_
  refine g_aaldG (pc := 13) X 3 rfl (b_rm.1) (Int.lt_of_le_of_lt b_rm.2 (by decide)) (Int.le_trans b_rm.2 (by decide)) (hG 2) dX12_highAt_13 ?_
  refine g_iload_n (pc := 14) X 2 rfl dX12_highAt_14 ?_
  refine g_ialdI (pc := 15) X 6 rfl (b_w.1) (Int.lt_of_le_of_lt b_w.2 (by decide)) (Int.le_trans b_w.2 (by decide)) dX12_highAt_15 ?_
  refine g_nameI (fun y2 ey2 => ?_)
  have by2 : 0 ≤ y2 ∧ y2 ≤ 400 := by rw [ey2]; exact h_Mk _ (by omega)
  refine g_aload_n (pc := 16) X 0 rfl dX12_highAt_16 ?_
  refine g_get (pc := 17) X inlX12 0 rfl rfl 1 (by decide) mw_7_13 rfl dX12_highAt_17 ?_
  refine g_iload_n (pc := 20) X 1 rfl dX12_highAt_20 ?_
  refine g_aaldG (pc := 21) X 2 rfl (b_rm.1) (Int.lt_of_le_of_lt b_rm.2 (by decide)) (Int.le_trans b_rm.2 (by decide)) (hG 1) dX12_highAt_21 ?_
  refine g_iload_n (pc := 22) X 2 rfl dX12_highAt_22 ?_
  refine g_ialdI (pc := 23) X 5 rfl (b_w.1) (Int.lt_of_le_of_lt b_w.2 (by decide)) (Int.le_trans b_w.2 (by decide)) dX12_highAt_23 ?_
  refine g_nameI (fun y3 ey3 => ?_)
  have by3 : 0 ≤ y3 ∧ y3 ≤ 400 := by rw [ey3]; exact h_Mh _ (by omega)
  refine g_isubI (pc := 24) X dX12_highAt_24 ?_
  refine g_iload_n (pc := 25) X 3 rfl dX12_highAt_25 ?_
  refine g_imulI (pc := 26) X dX12_highAt_26 ?_
  refine g_nameI (fun y4 ey4 => ?_)
  have by4 : (-240000) ≤ y4 ∧ y4 ≤ 240000 := by rw [ey4]; exact mulB (show (-400) ≤ y2 - y3 ∧ y2 - y3 ≤ 400 by omega) (show (-600) ≤ px ∧ px ≤ 600 by omega) (by decide)
  refine g_aload_n (pc := 27) X 0 rfl dX12_highAt_27 ?_
  refine g_get (pc := 28) X inlX12 0 rfl rfl 0 (by decide) mw_7_12 rfl dX12_highAt_28 ?_
  refine g_iload_n (pc := 31) X 1 rfl dX12_highAt_31 ?_
  refine g_aaldG (pc := 32) X 1 rfl (b_rm.1) (Int.lt_of_le_of_lt b_rm.2 (by decide)) (Int.le_trans b_rm.2 (by decide)) (hG 0) dX12_highAt_32 ?_
  refine g_iload_n (pc := 33) X 2 rfl dX12_highAt_33 ?_
  refine g_ialdI (pc := 34) X 4 rfl (b_w.1) (Int.lt_of_le_of_lt b_w.2 (by decide)) (Int.le_trans b_w.2 (by decide)) dX12_highAt_34 ?_
  refine g_nameI (fun y5 ey5 => ?_)
  have by5 : 0 ≤ y5 ∧ y5 ≤ 600 := by rw [ey5]; exact h_Ml _ (by omega)
  have ty5 : 50 ≤ y5 ∧ y5 ≤ 600 := by rw [ey5]; exact ⟨hl, (h_Ml _ (by omega)).2⟩
  refine g_callS (pc := 35) X (kx_floorDiv l Z y4 y5 (by omega) (by omega)) iM_J9_floorDiv_7cf53 mw_29_22 mw_25_22 [] [0, 1, 2, 3, 4, 5, 6] rfl (wr := [(g0, .inr (12, mO gA nr tm at_ to_ fa va np tn pc_ st_ pa_ ta ow of_ ot rl hb bs se)), ((gA 0), .inl (Z.2.1 6, 7, .inr (.inr (.inr (.inr (gG 0)))))), ((gA 1), .inl (Z.2.1 6, 7, .inr (.inr (.inr (.inr (gG 1)))))), ((gA 2), .inl (Z.2.1 6, 7, .inr (.inr (.inr (.inr (gG 2)))))), ((xA 0), .inl (Z.2.1 0, 8, .inl (fun j => iI (Ml j)))), ((xA 1), .inl (Z.2.1 0, 8, .inl (fun j => iI (Mh j)))), ((xA 2), .inl (Z.2.1 0, 8, .inl (fun j => iI (Mk j))))]) rfl (by decide) rfl rfl (Nat.le_of_ble_eq_true rfl) (by decide) dX12_highAt_35 (fun r w' hpo => ?_)
  refine exN_1 hpo fun y6 hz => anD_4 hz fun e_r e_w hf35_b_y hf35_f1 => ?_; clear hz hpo; subst e_r; subst e_w
  refine g_as (pc' := 38) (lv' := [(0, .ref g0), (1, .int (iI rm)), (2, .int (iI w)), (3, .int (iI px))]) (st' := [.int (iI y6), .int (iI y1)]) (ws' := [(g0, .inr (12, mO gA nr tm at_ to_ fa va np tn pc_ st_ pa_ ta ow of_ ot rl hb bs se)), ((gA 0), .inl (Z.2.1 6, 7, .inr (.inr (.inr (.inr (gG 0)))))), ((gA 1), .inl (Z.2.1 6, 7, .inr (.inr (.inr (.inr (gG 1)))))), ((gA 2), .inl (Z.2.1 6, 7, .inr (.inr (.inr (.inr (gG 2)))))), ((xA 0), .inl (Z.2.1 0, 8, .inl (fun j => iI (Ml j)))), ((xA 1), .inl (Z.2.1 0, 8, .inl (fun j => iI (Mh j)))), ((xA 2), .inl (Z.2.1 0, 8, .inl (fun j => iI (Mk j))))]) rfl rfl rfl rfl ?_
  refine g_iaddI (pc := 38) X dX12_highAt_38 ?_
  exact g_iret (pc := 39) X hA (⟨(y1 + y6), rfl, rfl, (by omega), (by rw [hf35_f1, ey4, ey2, ey3, ey5, ey1]; rfl)⟩) (by decide) (by decide) dX12_highAt_39

set_option maxHeartbeats 4000000 in
set_option maxRecDepth 100000 in
theorem kx_X12_height_S (l : Launch) (Z : gZ) (g0 : Nat) (gA : Nat → Nat) (gG : Nat → Nat → Option Nat) (xA : Nat → Nat) (Mw : Nat → Int) (Mr : Nat → Int) (Ml : Nat → Int) (Mh : Nat → Int) (Mk : Nat → Int) (rm : Int) (b1 : Int) (nr : Int) (tm : Int) (at_ : Int) (to_ : Int) (fa : Int) (va : Int) (np : Int) (tn : Int) (pc_ : Int) (st_ : Int) (pa_ : Int) (ta : Int) (ow : Int) (of_ : Int) (ot : Int) (rl : Int) (hb : Int) (bs : Int) (se : Int) (b_rm : (-2147483648) ≤ rm ∧ rm ≤ 2147483647) (b_b1 : (-2147483648) ≤ b1 ∧ b1 ≤ 2147483647) (b_nr : 0 ≤ nr ∧ nr ≤ 6) (b_tm : 0 ≤ tm ∧ tm ≤ 400) (b_at_ : 0 ≤ at_ ∧ at_ ≤ 400) (b_to_ : 0 ≤ to_ ∧ to_ ≤ 400) (b_fa : (-1) ≤ fa ∧ fa ≤ 400) (b_va : (-2147483648) ≤ va ∧ va ≤ 2147483647) (b_np : 0 ≤ np ∧ np ≤ 4) (b_tn : 0 ≤ tn ∧ tn ≤ 20) (b_pc_ : 0 ≤ pc_ ∧ pc_ ≤ 480) (b_st_ : 0 ≤ st_ ∧ st_ ≤ 240) (b_pa_ : (-1) ≤ pa_ ∧ pa_ ≤ 3) (b_ta : (-2147483648) ≤ ta ∧ ta ≤ 2147483647) (b_ow : (-2147483648) ≤ ow ∧ ow ≤ 2147483647) (b_of_ : (-2147483648) ≤ of_ ∧ of_ ≤ 2147483647) (b_ot : (-2147483648) ≤ ot ∧ ot ≤ 2147483647) (b_rl : 0 ≤ rl ∧ rl ≤ 2880) (b_hb : 0 ≤ hb ∧ hb ≤ 4) (b_bs : (-2147483648) ≤ bs ∧ bs ≤ 2147483647) (b_se : 0 ≤ se ∧ se ≤ 10) (hk : 0 ≤ rm ∧ rm < nr) (hG : ∀ k, gG k rm.toNat = some (xA k)) (hwn : 1 ≤ Mw rm.toNat ∧ Mw rm.toNat ≤ 8) (vL : ∀ j : Nat, (j : Int) < Mw rm.toNat → 50 ≤ Ml j) (hR : Mr rm.toNat = psum Ml (Mw rm.toNat).toNat) (hR5 : 50 ≤ Mr rm.toNat ∧ Mr rm.toNat ≤ 4800) (h_Mw : ∀ j, j < 7 → 0 ≤ Mw j ∧ Mw j ≤ 8) (h_Mr : ∀ j, j < 7 → 0 ≤ Mr j ∧ Mr j ≤ 4800) (h_Ml : ∀ j, j < 8 → 0 ≤ Ml j ∧ Ml j ≤ 600) (h_Mh : ∀ j, j < 8 → 0 ≤ Mh j ∧ Mh j ≤ 400) (h_Mk : ∀ j, j < 8 → 0 ≤ Mk j ∧ Mk j ≤ 400) : Con l Z yX12_height cX12_height 4 (some .int) 2 46 0 0 [.ref g0, .int (iI rm), .int (iI b1)] [(g0, .inr (12, mO gA nr tm at_ to_ fa va np tn pc_ st_ pa_ ta ow of_ ot rl hb bs se)), ((gA 13), .inl (Z.2.1 0, 7, .inl (fun j => iI (Mw j)))), ((gA 17), .inl (Z.2.1 0, 7, .inl (fun j => iI (Mr j)))), ((gA 0), .inl (Z.2.1 6, 7, .inr (.inr (.inr (.inr (gG 0)))))), ((gA 1), .inl (Z.2.1 6, 7, .inr (.inr (.inr (.inr (gG 1)))))), ((gA 2), .inl (Z.2.1 6, 7, .inr (.inr (.inr (.inr (gG 2)))))), ((xA 0), .inl (Z.2.1 0, 8, .inl (fun j => iI (Ml j)))), ((xA 1), .inl (Z.2.1 0, 8, .inl (fun j => iI (Mh j)))), ((xA 2), .inl (Z.2.1 0, 8, .inl (fun j => iI (Mk j))))] (fun r w' => ((r = some (.int (iI (-1)))) ∧ (w' = [(g0, .inr (12, mO gA nr tm at_ to_ fa va np tn pc_ st_ pa_ ta ow of_ ot rl hb bs se)), ((gA 13), .inl (Z.2.1 0, 7, .inl (fun j => iI (Mw j)))), ((gA 17), .inl (Z.2.1 0, 7, .inl (fun j => iI (Mr j)))), ((gA 0), .inl (Z.2.1 6, 7, .inr (.inr (.inr (.inr (gG 0)))))), ((gA 1), .inl (Z.2.1 6, 7, .inr (.inr (.inr (.inr (gG 1)))))), ((gA 2), .inl (Z.2.1 6, 7, .inr (.inr (.inr (.inr (gG 2)))))), ((xA 0), .inl (Z.2.1 0, 8, .inl (fun j => iI (Ml j)))), ((xA 1), .inl (Z.2.1 0, 8, .inl (fun j => iI (Mh j)))), ((xA 2), .inl (Z.2.1 0, 8, .inl (fun j => iI (Mk j))))]) ∧ (¬ (0 ≤ b1 ∧ b1 < Mr rm.toNat))) ∨ (∃ (y : Int), (r = some (.int (iI y))) ∧ (w' = [(g0, .inr (12, mO gA nr tm at_ to_ fa va np tn pc_ st_ pa_ ta ow of_ ot rl hb bs se)), ((gA 13), .inl (Z.2.1 0, 7, .inl (fun j => iI (Mw j)))), ((gA 17), .inl (Z.2.1 0, 7, .inl (fun j => iI (Mr j)))), ((gA 0), .inl (Z.2.1 6, 7, .inr (.inr (.inr (.inr (gG 0)))))), ((gA 1), .inl (Z.2.1 6, 7, .inr (.inr (.inr (.inr (gG 1)))))), ((gA 2), .inl (Z.2.1 6, 7, .inr (.inr (.inr (.inr (gG 2)))))), ((xA 0), .inl (Z.2.1 0, 8, .inl (fun j => iI (Ml j)))), ((xA 1), .inl (Z.2.1 0, 8, .inl (fun j => iI (Mh j)))), ((xA 2), .inl (Z.2.1 0, 8, .inl (fun j => iI (Mk j))))]) ∧ ((-2147483648) ≤ y ∧ y ≤ 2147483647) ∧ (0 ≤ b1 ∧ b1 < Mr rm.toNat) ∧ (y = hgq Ml Mh Mk (wq Ml b1 (Mw rm.toNat).toNat) (b1 - psum Ml (wq Ml b1 (Mw rm.toNat).toNat).toNat)))) := by
  refine enter (by decide) (Nat.le_of_ble_eq_true rfl) ?_
  intro p e s m args below meth c A X hnm hA
  have X : Cx p s m args meth c cX12_height 4 (some .int) RX12 Z A := X
  refine g_as (pc' := 0) (lv' := [(0, .ref g0), (1, .int (iI rm)), (2, .int (iI b1))]) (st' := []) (ws' := [(g0, .inr (12, mO gA nr tm at_ to_ fa va np tn pc_ st_ pa_ ta ow of_ ot rl hb bs se)), ((gA 13), .inl (Z.2.1 0, 7, .inl (fun j => iI (Mw j)))), ((gA 17), .inl (Z.2.1 0, 7, .inl (fun j => iI (Mr j)))), ((gA 0), .inl (Z.2.1 6, 7, .inr (.inr (.inr (.inr (gG 0)))))), ((gA 1), .inl (Z.2.1 6, 7, .inr (.inr (.inr (.inr (gG 1)))))), ((gA 2), .inl (Z.2.1 6, 7, .inr (.inr (.inr (.inr (gG 2)))))), ((xA 0), .inl (Z.2.1 0, 8, .inl (fun j => iI (Ml j)))), ((xA 1), .inl (Z.2.1 0, 8, .inl (fun j => iI (Mh j)))), ((xA 2), .inl (Z.2.1 0, 8, .inl (fun j => iI (Mk j))))]) rfl rfl rfl rfl ?_
  refine g_aload_n (pc := 0) X 0 rfl dX12_height_0 ?_
  refine g_iload_n (pc := 1) X 1 rfl dX12_height_1 ?_
  refine g_callV (pc := 2) X (k_X12_isRoom l Z g0 gA rm nr tm at_ to_ fa va np tn pc_ st_ pa_ ta ow of_ ot rl hb bs se b_rm b_nr b_tm b_at_ b_to_ b_fa b_va b_np b_tn b_pc_ b_st_ b_pa_ b_ta b_ow b_of_ b_ot b_rl b_hb b_bs b_se) iM_X12_isRoom mw_28_5 mw_28_6 mw_28_7 0 rfl rfl [0] [1, 2, 3, 4, 5, 6, 7, 8] rfl (wr := [((gA 13), .inl (Z.2.1 0, 7, .inl (fun j => iI (Mw j)))), ((gA 17), .inl (Z.2.1 0, 7, .inl (fun j => iI (Mr j)))), ((gA 0), .inl (Z.2.1 6, 7, .inr (.inr (.inr (.inr (gG 0)))))), ((gA 1), .inl (Z.2.1 6, 7, .inr (.inr (.inr (.inr (gG 1)))))), ((gA 2), .inl (Z.2.1 6, 7, .inr (.inr (.inr (.inr (gG 2)))))), ((xA 0), .inl (Z.2.1 0, 8, .inl (fun j => iI (Ml j)))), ((xA 1), .inl (Z.2.1 0, 8, .inl (fun j => iI (Mh j)))), ((xA 2), .inl (Z.2.1 0, 8, .inl (fun j => iI (Mk j))))]) rfl (by decide) rfl rfl (Nat.le_of_ble_eq_true rfl) (by decide) dX12_height_2 (fun r w' hpo => ?_)
  obtain ⟨rfl, rfl⟩ := hpo
  refine g_as (pc' := 5) (lv' := [(0, .ref g0), (1, .int (iI rm)), (2, .int (iI b1))]) (st' := [.int (iI (bI (0 ≤ rm ∧ rm ≤ nr - 1)))]) (ws' := [((gA 13), .inl (Z.2.1 0, 7, .inl (fun j => iI (Mw j)))), ((gA 17), .inl (Z.2.1 0, 7, .inl (fun j => iI (Mr j)))), ((gA 0), .inl (Z.2.1 6, 7, .inr (.inr (.inr (.inr (gG 0)))))), ((gA 1), .inl (Z.2.1 6, 7, .inr (.inr (.inr (.inr (gG 1)))))), ((gA 2), .inl (Z.2.1 6, 7, .inr (.inr (.inr (.inr (gG 2)))))), ((xA 0), .inl (Z.2.1 0, 8, .inl (fun j => iI (Ml j)))), ((xA 1), .inl (Z.2.1 0, 8, .inl (fun j => iI (Mh j)))), ((xA 2), .inl (Z.2.1 0, 8, .inl (fun j => iI (Mk j)))), (g0, .inr (12, mO gA nr tm at_ to_ fa va np tn pc_ st_ pa_ ta ow of_ ot rl hb bs se))]) rfl rfl rfl rfl ?_
  refine g_if_eqB (pc := 5) X 26 (by decide) dX12_height_5 (fun h => absurd h (by omega)) (fun c5 => ?_)
  refine g_iload_n (pc := 8) X 2 rfl dX12_height_8 ?_
  refine g_i2lI (pc := 9) X b_b1 dX12_height_9 ?_
  refine g_lconst (pc := 10) X (lI 0) (by decide) dX12_height_10 ?_
  refine g_aload_n (pc := 11) X 0 rfl dX12_height_11 ?_
  refine g_get (pc := 12) X inlX12 8 rfl rfl 17 (by decide) mw_8_5 rfl dX12_height_12 ?_
  refine g_iload_n (pc := 15) X 1 rfl dX12_height_15 ?_
  refine g_ialdI (pc := 16) X 1 rfl (by omega) (by omega) (Int.le_trans b_rm.2 (by decide)) dX12_height_16 ?_
  refine g_nameI (fun y2 ey2 => ?_)
  have by2 : 0 ≤ y2 ∧ y2 ≤ 4800 := by rw [ey2]; exact h_Mr _ (by omega)
  refine g_iconst (pc := 17) X (iI 1) (by rfl) dX12_height_17 ?_
  refine g_isubI (pc := 18) X dX12_height_18 ?_
  refine g_i2lI (pc := 19) X ⟨by omega, by omega⟩ dX12_height_19 ?_
  refine g_callS (pc := 20) X (k_X12_in l Z b1 0 (y2 - 1) (by omega) (by decide) (by omega)) iM_X12_in mw_11_13 mw_11_14 [] [0, 1, 2, 3, 4, 5, 6, 7, 8] rfl (wr := [((gA 13), .inl (Z.2.1 0, 7, .inl (fun j => iI (Mw j)))), ((gA 17), .inl (Z.2.1 0, 7, .inl (fun j => iI (Mr j)))), ((gA 0), .inl (Z.2.1 6, 7, .inr (.inr (.inr (.inr (gG 0)))))), ((gA 1), .inl (Z.2.1 6, 7, .inr (.inr (.inr (.inr (gG 1)))))), ((gA 2), .inl (Z.2.1 6, 7, .inr (.inr (.inr (.inr (gG 2)))))), ((xA 0), .inl (Z.2.1 0, 8, .inl (fun j => iI (Ml j)))), ((xA 1), .inl (Z.2.1 0, 8, .inl (fun j => iI (Mh j)))), ((xA 2), .inl (Z.2.1 0, 8, .inl (fun j => iI (Mk j)))), (g0, .inr (12, mO gA nr tm at_ to_ fa va np tn pc_ st_ pa_ ta ow of_ ot rl hb bs se))]) rfl (by decide) rfl rfl (Nat.le_of_ble_eq_true rfl) (by decide) dX12_height_20 (fun r w' hpo => ?_)
  obtain ⟨rfl, rfl⟩ := hpo
  refine g_as (pc' := 23) (lv' := [(0, .ref g0), (1, .int (iI rm)), (2, .int (iI b1))]) (st' := [.int (iI (bI (0 ≤ b1 ∧ b1 ≤ (y2 - 1))))]) (ws' := [((gA 13), .inl (Z.2.1 0, 7, .inl (fun j => iI (Mw j)))), ((gA 17), .inl (Z.2.1 0, 7, .inl (fun j => iI (Mr j)))), ((gA 0), .inl (Z.2.1 6, 7, .inr (.inr (.inr (.inr (gG 0)))))), ((gA 1), .inl (Z.2.1 6, 7, .inr (.inr (.inr (.inr (gG 1)))))), ((gA 2), .inl (Z.2.1 6, 7, .inr (.inr (.inr (.inr (gG 2)))))), ((xA 0), .inl (Z.2.1 0, 8, .inl (fun j => iI (Ml j)))), ((xA 1), .inl (Z.2.1 0, 8, .inl (fun j => iI (Mh j)))), ((xA 2), .inl (Z.2.1 0, 8, .inl (fun j => iI (Mk j)))), (g0, .inr (12, mO gA nr tm at_ to_ fa va np tn pc_ st_ pa_ ta ow of_ ot rl hb bs se))]) rfl rfl rfl rfl ?_
  refine g_if_neB (pc := 23) X 28 (by decide) dX12_height_23 (fun c23 => ?_) (fun c23 => ?_)
  · refine g_aload_n (pc := 28) X 0 rfl dX12_height_28 ?_
    refine g_iload_n (pc := 29) X 1 rfl dX12_height_29 ?_
    refine g_iload_n (pc := 30) X 2 rfl dX12_height_30 ?_
    refine g_callV (pc := 31) X (k_X12_wallAt l Z g0 gA gG xA (Mw rm.toNat) Ml rm b1 nr tm at_ to_ fa va np tn pc_ st_ pa_ ta ow of_ ot rl hb bs se (by omega) b_b1 b_nr b_tm b_at_ b_to_ b_fa b_va b_np b_tn b_pc_ b_st_ b_pa_ b_ta b_ow b_of_ b_ot b_rl b_hb b_bs b_se (hG) (by omega) (vL) (by omega) (h_Ml)) iM_X12_wallAt mw_29_10 mw_29_11 mw_29_12 8 rfl rfl [8, 2, 5] [0, 1, 3, 4, 6, 7] rfl (wr := [((gA 13), .inl (Z.2.1 0, 7, .inl (fun j => iI (Mw j)))), ((gA 17), .inl (Z.2.1 0, 7, .inl (fun j => iI (Mr j)))), ((gA 1), .inl (Z.2.1 6, 7, .inr (.inr (.inr (.inr (gG 1)))))), ((gA 2), .inl (Z.2.1 6, 7, .inr (.inr (.inr (.inr (gG 2)))))), ((xA 1), .inl (Z.2.1 0, 8, .inl (fun j => iI (Mh j)))), ((xA 2), .inl (Z.2.1 0, 8, .inl (fun j => iI (Mk j))))]) rfl (by decide) rfl rfl (Nat.le_of_ble_eq_true rfl) (by decide) dX12_height_31 (fun r w' hpo => ?_)
    refine exN_1 hpo fun y4 hz => anD_7 hz fun e_r e_w hf31_b_y hf31_f0 hf31_f1 hf31_f2 hf31_f3 => ?_; clear hz hpo; subst e_r; subst e_w
    refine g_as (pc' := 34) (lv' := [(0, .ref g0), (1, .int (iI rm)), (2, .int (iI b1))]) (st' := [.int (iI y4)]) (ws' := [((gA 13), .inl (Z.2.1 0, 7, .inl (fun j => iI (Mw j)))), ((gA 17), .inl (Z.2.1 0, 7, .inl (fun j => iI (Mr j)))), ((gA 1), .inl (Z.2.1 6, 7, .inr (.inr (.inr (.inr (gG 1)))))), ((gA 2), .inl (Z.2.1 6, 7, .inr (.inr (.inr (.inr (gG 2)))))), ((xA 1), .inl (Z.2.1 0, 8, .inl (fun j => iI (Mh j)))), ((xA 2), .inl (Z.2.1 0, 8, .inl (fun j => iI (Mk j)))), (g0, .inr (12, mO gA nr tm at_ to_ fa va np tn pc_ st_ pa_ ta ow of_ ot rl hb bs se)), ((gA 0), .inl (Z.2.1 6, 7, .inr (.inr (.inr (.inr (gG 0)))))), ((xA 0), .inl (Z.2.1 0, 8, .inl (fun j => iI (Ml j))))]) rfl rfl rfl rfl ?_
    refine g_istore_n (pc := 34) X (i := 3) rfl (by decide) (lv' := [(3, .int (iI y4)), (0, .ref g0), (1, .int (iI rm)), (2, .int (iI b1))]) rfl dX12_height_34 ?_
    refine g_aload_n (pc := 35) X 1 rfl dX12_height_35 ?_
    refine g_iload_n (pc := 36) X 2 rfl dX12_height_36 ?_
    refine g_iload_n (pc := 37) X 0 rfl dX12_height_37 ?_
    refine g_iload_n (pc := 38) X 3 rfl dX12_height_38 ?_
    refine g_aload_n (pc := 39) X 1 rfl dX12_height_39 ?_
    refine g_iload_n (pc := 40) X 2 rfl dX12_height_40 ?_
    refine g_iload_n (pc := 41) X 0 rfl dX12_height_41 ?_
    refine g_callV (pc := 42) X (k_X12_beginOf l Z g0 gA gG xA Ml rm y4 nr tm at_ to_ fa va np tn pc_ st_ pa_ ta ow of_ ot rl hb bs se (by omega) (by omega) b_nr b_tm b_at_ b_to_ b_fa b_va b_np b_tn b_pc_ b_st_ b_pa_ b_ta b_ow b_of_ b_ot b_rl b_hb b_bs b_se (hG) (h_Ml)) iM_X12_beginOf mw_29_14 mw_29_15 mw_29_16 6 rfl rfl [6, 7, 8] [0, 1, 2, 3, 4, 5] rfl (wr := [((gA 13), .inl (Z.2.1 0, 7, .inl (fun j => iI (Mw j)))), ((gA 17), .inl (Z.2.1 0, 7, .inl (fun j => iI (Mr j)))), ((gA 1), .inl (Z.2.1 6, 7, .inr (.inr (.inr (.inr (gG 1)))))), ((gA 2), .inl (Z.2.1 6, 7, .inr (.inr (.inr (.inr (gG 2)))))), ((xA 1), .inl (Z.2.1 0, 8, .inl (fun j => iI (Mh j)))), ((xA 2), .inl (Z.2.1 0, 8, .inl (fun j => iI (Mk j))))]) rfl (by decide) rfl rfl (Nat.le_of_ble_eq_true rfl) (by decide) dX12_height_42 (fun r w' hpo => ?_)
    refine exN_1 hpo fun y6 hz => anD_4 hz fun e_r e_w hf42_b_y hf42_f1 => ?_; clear hz hpo; subst e_r; subst e_w
    refine g_as (pc' := 45) (lv' := [(3, .int (iI y4)), (0, .ref g0), (1, .int (iI rm)), (2, .int (iI b1))]) (st' := [.int (iI y6), .int (iI b1), .int (iI y4), .int (iI rm), .ref g0]) (ws' := [((gA 13), .inl (Z.2.1 0, 7, .inl (fun j => iI (Mw j)))), ((gA 17), .inl (Z.2.1 0, 7, .inl (fun j => iI (Mr j)))), ((gA 1), .inl (Z.2.1 6, 7, .inr (.inr (.inr (.inr (gG 1)))))), ((gA 2), .inl (Z.2.1 6, 7, .inr (.inr (.inr (.inr (gG 2)))))), ((xA 1), .inl (Z.2.1 0, 8, .inl (fun j => iI (Mh j)))), ((xA 2), .inl (Z.2.1 0, 8, .inl (fun j => iI (Mk j)))), (g0, .inr (12, mO gA nr tm at_ to_ fa va np tn pc_ st_ pa_ ta ow of_ ot rl hb bs se)), ((gA 0), .inl (Z.2.1 6, 7, .inr (.inr (.inr (.inr (gG 0)))))), ((xA 0), .inl (Z.2.1 0, 8, .inl (fun j => iI (Ml j))))]) rfl rfl rfl rfl ?_
    refine g_isubI (pc := 45) X dX12_height_45 ?_
    have qL := h_Ml (y4).toNat (by omega)
    refine g_callV (pc := 46) X (kx_X12_highAt l Z g0 gA gG xA Ml Mh Mk rm y4 (b1 - y6) nr tm at_ to_ fa va np tn pc_ st_ pa_ ta ow of_ ot rl hb bs se (by omega) hf31_b_y (by omega) b_nr b_tm b_at_ b_to_ b_fa b_va b_np b_tn b_pc_ b_st_ b_pa_ b_ta b_ow b_of_ b_ot b_rl b_hb b_bs b_se (hG) (hf31_f3) (h_Ml) (h_Mh) (h_Mk)) iM_X12_highAt mw_29_18 mw_29_19 mw_29_20 6 rfl rfl [6, 7, 2, 3, 8, 4, 5] [0, 1] rfl (wr := [((gA 13), .inl (Z.2.1 0, 7, .inl (fun j => iI (Mw j)))), ((gA 17), .inl (Z.2.1 0, 7, .inl (fun j => iI (Mr j))))]) rfl (by decide) rfl rfl (Nat.le_of_ble_eq_true rfl) (by decide) dX12_height_46 (fun r w' hpo => ?_)
    refine exN_1 hpo fun y8 hz => anD_4 hz fun e_r e_w hf46_b_y hf46_fH => ?_; clear hz hpo; subst e_r; subst e_w
    refine g_as (pc' := 49) (lv' := [(3, .int (iI y4)), (0, .ref g0), (1, .int (iI rm)), (2, .int (iI b1))]) (st' := [.int (iI y8)]) (ws' := [((gA 13), .inl (Z.2.1 0, 7, .inl (fun j => iI (Mw j)))), ((gA 17), .inl (Z.2.1 0, 7, .inl (fun j => iI (Mr j)))), (g0, .inr (12, mO gA nr tm at_ to_ fa va np tn pc_ st_ pa_ ta ow of_ ot rl hb bs se)), ((gA 0), .inl (Z.2.1 6, 7, .inr (.inr (.inr (.inr (gG 0)))))), ((gA 1), .inl (Z.2.1 6, 7, .inr (.inr (.inr (.inr (gG 1)))))), ((gA 2), .inl (Z.2.1 6, 7, .inr (.inr (.inr (.inr (gG 2)))))), ((xA 0), .inl (Z.2.1 0, 8, .inl (fun j => iI (Ml j)))), ((xA 1), .inl (Z.2.1 0, 8, .inl (fun j => iI (Mh j)))), ((xA 2), .inl (Z.2.1 0, 8, .inl (fun j => iI (Mk j))))]) rfl rfl rfl rfl ?_
    refine g_ws (ws' := [(g0, .inr (12, mO gA nr tm at_ to_ fa va np tn pc_ st_ pa_ ta ow of_ ot rl hb bs se)), ((gA 13), .inl (Z.2.1 0, 7, .inl (fun j => iI (Mw j)))), ((gA 17), .inl (Z.2.1 0, 7, .inl (fun j => iI (Mr j)))), ((gA 0), .inl (Z.2.1 6, 7, .inr (.inr (.inr (.inr (gG 0)))))), ((gA 1), .inl (Z.2.1 6, 7, .inr (.inr (.inr (.inr (gG 1)))))), ((gA 2), .inl (Z.2.1 6, 7, .inr (.inr (.inr (.inr (gG 2)))))), ((xA 0), .inl (Z.2.1 0, 8, .inl (fun j => iI (Ml j)))), ((xA 1), .inl (Z.2.1 0, 8, .inl (fun j => iI (Mh j)))), ((xA 2), .inl (Z.2.1 0, 8, .inl (fun j => iI (Mk j))))]) [2, 0, 1, 3, 4, 5, 6, 7, 8] (by decide) rfl ?_
    exact g_iret (pc := 49) X hA (Or.inr (⟨y8, rfl, rfl, (by omega), (by omega), (by rw [wq_eq (L := Ml) (pl := b1) (w := y4) (by omega) hf31_f1 hf31_f2 (Mw rm.toNat).toNat (by omega) (fun j hj => (h_Ml j (by omega)).1), ← hf42_f1]; exact hf46_fH)⟩)) (by decide) (by decide) dX12_height_49
  · refine g_iconst (pc := 26) X (iI (-1)) (by rfl) dX12_height_26 ?_
    refine g_ws (ws' := [(g0, .inr (12, mO gA nr tm at_ to_ fa va np tn pc_ st_ pa_ ta ow of_ ot rl hb bs se)), ((gA 13), .inl (Z.2.1 0, 7, .inl (fun j => iI (Mw j)))), ((gA 17), .inl (Z.2.1 0, 7, .inl (fun j => iI (Mr j)))), ((gA 0), .inl (Z.2.1 6, 7, .inr (.inr (.inr (.inr (gG 0)))))), ((gA 1), .inl (Z.2.1 6, 7, .inr (.inr (.inr (.inr (gG 1)))))), ((gA 2), .inl (Z.2.1 6, 7, .inr (.inr (.inr (.inr (gG 2)))))), ((xA 0), .inl (Z.2.1 0, 8, .inl (fun j => iI (Ml j)))), ((xA 1), .inl (Z.2.1 0, 8, .inl (fun j => iI (Mh j)))), ((xA 2), .inl (Z.2.1 0, 8, .inl (fun j => iI (Mk j))))]) [8, 0, 1, 2, 3, 4, 5, 6, 7] (by decide) rfl ?_
    exact g_iret (pc := 27) X hA (Or.inl (⟨rfl, rfl, (by omega)⟩)) (by decide) (by decide) dX12_height_27

set_option maxHeartbeats 4000000 in
set_option maxRecDepth 100000 in
theorem kx_X12_runsOf (l : Launch) (Z : gZ) (g0 : Nat) (gA : Nat → Nat) (gG : Nat → Nat → Option Nat) (xA : Nat → Nat) (Mw : Nat → Int) (Mk : Nat → Int) (Mm : Nat → Int) (Ru : Nat → Int) (rm : Int) (cu : Int) (nr : Int) (tm : Int) (at_ : Int) (to_ : Int) (fa : Int) (va : Int) (np : Int) (tn : Int) (pc_ : Int) (st_ : Int) (pa_ : Int) (ta : Int) (ow : Int) (of_ : Int) (ot : Int) (rl : Int) (hb : Int) (bs : Int) (se : Int) (b_rm : 0 ≤ rm ∧ rm ≤ 5) (b_cu : (-2147483648) ≤ cu ∧ cu ≤ 2147483647) (b_nr : 0 ≤ nr ∧ nr ≤ 6) (b_tm : 0 ≤ tm ∧ tm ≤ 400) (b_at_ : 0 ≤ at_ ∧ at_ ≤ 400) (b_to_ : 0 ≤ to_ ∧ to_ ≤ 400) (b_fa : (-1) ≤ fa ∧ fa ≤ 400) (b_va : (-2147483648) ≤ va ∧ va ≤ 2147483647) (b_np : 0 ≤ np ∧ np ≤ 4) (b_tn : 0 ≤ tn ∧ tn ≤ 20) (b_pc_ : 0 ≤ pc_ ∧ pc_ ≤ 480) (b_st_ : 0 ≤ st_ ∧ st_ ≤ 240) (b_pa_ : (-1) ≤ pa_ ∧ pa_ ≤ 3) (b_ta : (-2147483648) ≤ ta ∧ ta ≤ 2147483647) (b_ow : (-2147483648) ≤ ow ∧ ow ≤ 2147483647) (b_of_ : (-2147483648) ≤ of_ ∧ of_ ≤ 2147483647) (b_ot : (-2147483648) ≤ ot ∧ ot ≤ 2147483647) (b_rl : 0 ≤ rl ∧ rl ≤ 2880) (b_hb : 0 ≤ hb ∧ hb ≤ 4) (b_bs : (-2147483648) ≤ bs ∧ bs ≤ 2147483647) (b_se : 0 ≤ se ∧ se ≤ 10) (hG : ∀ k, gG k rm.toNat = some (xA k)) (h_Mw : ∀ j, j < 7 → 0 ≤ Mw j ∧ Mw j ≤ 8) (h_Mk : ∀ j, j < 8 → 0 ≤ Mk j ∧ Mk j ≤ 400) (h_Mm : ∀ j, j < 8 → (-50) ≤ Mm j ∧ Mm j ≤ 50) (h_Ru : ∀ j, j < 8 → (-2147483648) ≤ Ru j ∧ Ru j ≤ 2147483647) : Con l Z yX12_runsOf cX12_runsOf 6 (some .int) 1 24 0 0 [.ref g0, .int (iI rm), .int (iI cu)] [(g0, .inr (12, mO gA nr tm at_ to_ fa va np tn pc_ st_ pa_ ta ow of_ ot rl hb bs se)), ((gA 13), .inl (Z.2.1 0, 7, .inl (fun j => iI (Mw j)))), ((gA 2), .inl (Z.2.1 6, 7, .inr (.inr (.inr (.inr (gG 2)))))), ((gA 3), .inl (Z.2.1 6, 7, .inr (.inr (.inr (.inr (gG 3)))))), ((xA 2), .inl (Z.2.1 0, 8, .inl (fun j => iI (Mk j)))), ((xA 3), .inl (Z.2.1 0, 8, .inl (fun j => iI (Mm j)))), ((gA 57), .inl (Z.2.1 0, 8, .inl (fun j => iI (Ru j))))] (fun r w' => ∃ (Ru2 : Nat → Int) (y : Int), (r = some (.int (iI y))) ∧ (w' = [(g0, .inr (12, mO gA nr tm at_ to_ fa va np tn pc_ st_ pa_ ta ow of_ ot rl hb bs se)), ((gA 13), .inl (Z.2.1 0, 7, .inl (fun j => iI (Mw j)))), ((gA 2), .inl (Z.2.1 6, 7, .inr (.inr (.inr (.inr (gG 2)))))), ((gA 3), .inl (Z.2.1 6, 7, .inr (.inr (.inr (.inr (gG 3)))))), ((xA 2), .inl (Z.2.1 0, 8, .inl (fun j => iI (Mk j)))), ((xA 3), .inl (Z.2.1 0, 8, .inl (fun j => iI (Mm j)))), ((gA 57), .inl (Z.2.1 0, 8, .inl (fun j => iI (Ru2 j))))]) ∧ (0 ≤ y ∧ y ≤ 100000) ∧ (∀ j, j < 8 → (-2147483648) ≤ Ru2 j ∧ Ru2 j ≤ 2147483647) ∧ (y = shF Mm Mk (Mw rm.toNat - 1).toNat cu) ∧ (∀ j : Nat, (j : Int) < Mw rm.toNat → Ru2 j = rnR Mm Mk cu j)) := by
  refine enter (by decide) (Nat.le_of_ble_eq_true rfl) ?_
  intro p e s m args below meth c A X hnm hA
  have X : Cx p s m args meth c cX12_runsOf 6 (some .int) RX12 Z A := X
  refine g_as (pc' := 0) (lv' := [(0, .ref g0), (1, .int (iI rm)), (2, .int (iI cu))]) (st' := []) (ws' := [(g0, .inr (12, mO gA nr tm at_ to_ fa va np tn pc_ st_ pa_ ta ow of_ ot rl hb bs se)), ((gA 13), .inl (Z.2.1 0, 7, .inl (fun j => iI (Mw j)))), ((gA 2), .inl (Z.2.1 6, 7, .inr (.inr (.inr (.inr (gG 2)))))), ((gA 3), .inl (Z.2.1 6, 7, .inr (.inr (.inr (.inr (gG 3)))))), ((xA 2), .inl (Z.2.1 0, 8, .inl (fun j => iI (Mk j)))), ((xA 3), .inl (Z.2.1 0, 8, .inl (fun j => iI (Mm j)))), ((gA 57), .inl (Z.2.1 0, 8, .inl (fun j => iI (Ru j))))]) rfl rfl rfl rfl ?_
  refine g_iconst (pc := 0) X (iI 0) (by rfl) dX12_runsOf_0 ?_
  refine g_istore_n (pc := 1) X (i := 3) rfl (by decide) (lv' := [(3, .int (iI 0)), (0, .ref g0), (1, .int (iI rm)), (2, .int (iI cu))]) rfl dX12_runsOf_1 ?_
  refine g_iconst (pc := 2) X (iI 0) (by rfl) dX12_runsOf_2 ?_
  refine g_istore (pc := 3) X (by decide) (lv' := [(4, .int (iI 0)), (3, .int (iI 0)), (0, .ref g0), (1, .int (iI rm)), (2, .int (iI cu))]) rfl dX12_runsOf_3 ?_
  refine g_iconst (pc := 5) X (iI 0) (by rfl) dX12_runsOf_5 ?_
  refine g_istore (pc := 6) X (by decide) (lv' := [(5, .int (iI 0)), (4, .int (iI 0)), (3, .int (iI 0)), (0, .ref g0), (1, .int (iI rm)), (2, .int (iI cu))]) rfl dX12_runsOf_6 ?_
  have loop8 : ∀ (fuel : Nat) (n1 : Int) (ru1 : Int) (w1 : Int) (Ru1 : Nat → Int), (0 ≤ n1 ∧ n1 ≤ 40000) → ((-1600) ≤ ru1 ∧ ru1 ≤ 1600) → (0 ≤ w1 ∧ w1 ≤ 8) → (∀ j, j < 8 → (-2147483648) ≤ Ru1 j ∧ Ru1 j ≤ 2147483647) → (-200 * w1 ≤ ru1 ∧ ru1 ≤ 200 * w1) → (n1 ≤ 4800 * w1) → (w1 ≤ Mw rm.toNat) → (ru1 = rnR Mm Mk cu (w1 - 1).toNat) → (n1 = rnN Mm Mk cu (w1 - 1).toNat) → (∀ j : Nat, (j : Int) < w1 → Ru1 j = rnR Mm Mk cu j) → (9 - w1).toNat < fuel → Gs p l e ({ frames := 1, cells := 0, slots := 0, locals := 24 } : Room) s m args below meth c (MQ below (gPost Z [(g0, .inr (12, mO gA nr tm at_ to_ fa va np tn pc_ st_ pa_ ta ow of_ ot rl hb bs se)), ((gA 13), .inl (Z.2.1 0, 7, .inl (fun j => iI (Mw j)))), ((gA 2), .inl (Z.2.1 6, 7, .inr (.inr (.inr (.inr (gG 2)))))), ((gA 3), .inl (Z.2.1 6, 7, .inr (.inr (.inr (.inr (gG 3)))))), ((xA 2), .inl (Z.2.1 0, 8, .inl (fun j => iI (Mk j)))), ((xA 3), .inl (Z.2.1 0, 8, .inl (fun j => iI (Mm j)))), ((gA 57), .inl (Z.2.1 0, 8, .inl (fun j => iI (Ru j))))] s.heap.size (fun r w' => ∃ (Ru2 : Nat → Int) (y : Int), (r = some (.int (iI y))) ∧ (w' = [(g0, .inr (12, mO gA nr tm at_ to_ fa va np tn pc_ st_ pa_ ta ow of_ ot rl hb bs se)), ((gA 13), .inl (Z.2.1 0, 7, .inl (fun j => iI (Mw j)))), ((gA 2), .inl (Z.2.1 6, 7, .inr (.inr (.inr (.inr (gG 2)))))), ((gA 3), .inl (Z.2.1 6, 7, .inr (.inr (.inr (.inr (gG 3)))))), ((xA 2), .inl (Z.2.1 0, 8, .inl (fun j => iI (Mk j)))), ((xA 3), .inl (Z.2.1 0, 8, .inl (fun j => iI (Mm j)))), ((gA 57), .inl (Z.2.1 0, 8, .inl (fun j => iI (Ru2 j))))]) ∧ (0 ≤ y ∧ y ≤ 100000) ∧ (∀ j, j < 8 → (-2147483648) ≤ Ru2 j ∧ Ru2 j ≤ 2147483647) ∧ (y = shF Mm Mk (Mw rm.toNat - 1).toNat cu) ∧ (∀ j : Nat, (j : Int) < Mw rm.toNat → Ru2 j = rnR Mm Mk cu j))) args s 0 0 (va_A [(g0, .inr (12, mO gA nr tm at_ to_ fa va np tn pc_ st_ pa_ ta ow of_ ot rl hb bs se)), ((gA 13), .inl (Z.2.1 0, 7, .inl (fun j => iI (Mw j)))), ((gA 2), .inl (Z.2.1 6, 7, .inr (.inr (.inr (.inr (gG 2)))))), ((gA 3), .inl (Z.2.1 6, 7, .inr (.inr (.inr (.inr (gG 3)))))), ((xA 2), .inl (Z.2.1 0, 8, .inl (fun j => iI (Mk j)))), ((xA 3), .inl (Z.2.1 0, 8, .inl (fun j => iI (Mm j)))), ((gA 57), .inl (Z.2.1 0, 8, .inl (fun j => iI (Ru j))))] s.heap.size)) Z A 6 0 0 8 [(5, .int (iI w1)), (4, .int (iI ru1)), (3, .int (iI n1)), (0, .ref g0), (1, .int (iI rm)), (2, .int (iI cu))] [] [(g0, .inr (12, mO gA nr tm at_ to_ fa va np tn pc_ st_ pa_ ta ow of_ ot rl hb bs se)), ((gA 13), .inl (Z.2.1 0, 7, .inl (fun j => iI (Mw j)))), ((gA 2), .inl (Z.2.1 6, 7, .inr (.inr (.inr (.inr (gG 2)))))), ((gA 3), .inl (Z.2.1 6, 7, .inr (.inr (.inr (.inr (gG 3)))))), ((xA 2), .inl (Z.2.1 0, 8, .inl (fun j => iI (Mk j)))), ((xA 3), .inl (Z.2.1 0, 8, .inl (fun j => iI (Mm j)))), ((gA 57), .inl (Z.2.1 0, 8, .inl (fun j => iI (Ru1 j))))] := by
    intro fuel
    induction fuel with
    | zero => intro n1 ru1 w1 Ru1 _ _ _ _ _ _ _ _ _ _ hm; exact absurd hm (Nat.not_lt_zero _)
    | succ fuel ih =>
      intro n1 ru1 w1 Ru1 b_n1 b_ru1 b_w1 h_Ru1 iv iv2 ivw ivr ivt ivR hm
      refine g_iload (pc := 8) X 0 rfl dX12_runsOf_8 ?_
      refine g_aload_n (pc := 10) X 3 rfl dX12_runsOf_10 ?_
      refine g_get (pc := 11) X inlX12 0 rfl rfl 13 (by decide) mw_8_1 rfl dX12_runsOf_11 ?_
      refine g_iload_n (pc := 14) X 4 rfl dX12_runsOf_14 ?_
      refine g_ialdI (pc := 15) X 1 rfl (b_rm.1) (Int.lt_of_le_of_lt b_rm.2 (by decide)) (Int.le_trans b_rm.2 (by decide)) dX12_runsOf_15 ?_
      refine g_nameI (fun y1 ey1 => ?_)
      have by1 : 0 ≤ y1 ∧ y1 ≤ 8 := by rw [ey1]; exact h_Mw _ (by omega)
      refine g_icmp_geI (pc := 16) X 103 (by decide) (inRb b_w1 (by decide) (by decide)) (inRb by1 (by decide) (by decide)) dX12_runsOf_16 (fun c16 => ?_) (fun c16 => ?_)
      · refine g_iload_n (pc := 103) X 2 rfl dX12_runsOf_103 ?_
        exact g_iret (pc := 104) X hA (⟨Ru1, n1, rfl, rfl, (by omega), (h_Ru1), (by unfold shF; rw [show (Mw rm.toNat - 1).toNat = (w1 - 1).toNat by omega]; exact ivt), (fun j hj => ivR j (by omega))⟩) (by decide) (by decide) dX12_runsOf_104
      · refine g_iload (pc := 19) X 0 rfl dX12_runsOf_19 ?_
        refine g_if_leI (pc := 21) X 80 (by decide) (inRb b_w1 (by decide) (by decide)) dX12_runsOf_21 (fun c21 => ?_) (fun c21 => ?_)
        · refine g_aload_n (pc := 80) X 3 rfl dX12_runsOf_80 ?_
          refine g_get (pc := 81) X inlX12 0 rfl rfl 57 (by decide) mw_9_8 rfl dX12_runsOf_81 ?_
          refine g_iload (pc := 84) X 0 rfl dX12_runsOf_84 ?_
          refine g_iload (pc := 86) X 1 rfl dX12_runsOf_86 ?_
          refine g_iastG (pc := 88) X 6 rfl (b_w1.1) (by omega) (Int.le_trans b_w1.2 (by decide)) (ws' := fun F2 => [(g0, .inr (12, mO gA nr tm at_ to_ fa va np tn pc_ st_ pa_ ta ow of_ ot rl hb bs se)), ((gA 13), .inl (Z.2.1 0, 7, .inl (fun j => iI (Mw j)))), ((gA 2), .inl (Z.2.1 6, 7, .inr (.inr (.inr (.inr (gG 2)))))), ((gA 3), .inl (Z.2.1 6, 7, .inr (.inr (.inr (.inr (gG 3)))))), ((xA 2), .inl (Z.2.1 0, 8, .inl (fun j => iI (Mk j)))), ((xA 3), .inl (Z.2.1 0, 8, .inl (fun j => iI (Mm j)))), ((gA 57), .inl (Z.2.1 0, 8, .inl (fun j => iI (F2 j))))]) (fun _ => rfl) dX12_runsOf_88 (fun F2 eF2 => ?_)
          have hF2 : ∀ j, j < 8 → (-2147483648) ≤ F2 j ∧ F2 j ≤ 2147483647 := by rw [eF2]; exact updI_B h_Ru1 (by omega)
          refine g_iload_n (pc := 89) X 2 rfl dX12_runsOf_89 ?_
          refine g_iload (pc := 90) X 1 rfl dX12_runsOf_90 ?_
          refine g_absI (pc := 92) X mw_45_18 mw_44_21 mw_25_23 mw_44_22 (by decide) (Nat.le_of_ble_eq_true rfl) (by decide) (by decide) (by omega) (by omega) dX12_runsOf_92 ?_
          refine g_nameI (fun y3 ey3 => ?_)
          have my3 : 0 ≤ y3 ∧ (y3 = ru1 ∨ y3 = -ru1) ∧ ru1 ≤ y3 ∧ -ru1 ≤ y3 := by rw [ey3]; exact absF _
          clear ey3
          refine g_iaddI (pc := 95) X dX12_runsOf_95 ?_
          refine g_istore_n (pc := 96) X (i := 3) rfl (by decide) (lv' := [(3, .int (iI (n1 + y3))), (5, .int (iI w1)), (4, .int (iI ru1)), (0, .ref g0), (1, .int (iI rm)), (2, .int (iI cu))]) rfl dX12_runsOf_96 ?_
          refine g_iincI (pc := 97) X 1 rfl (by decide) (lv' := [(5, .int (iI (w1 + 1))), (3, .int (iI (n1 + y3))), (4, .int (iI ru1)), (0, .ref g0), (1, .int (iI rm)), (2, .int (iI cu))]) rfl dX12_runsOf_97 ?_
          refine g_goto (pc := 100) X 8 (by decide) dX12_runsOf_100 ?_
          refine g_lv (lv' := [(5, .int (iI (w1 + 1))), (4, .int (iI ru1)), (3, .int (iI (n1 + y3))), (0, .ref g0), (1, .int (iI rm)), (2, .int (iI cu))]) [0, 2, 1, 3, 4, 5] rfl ?_
          exact ih (n1 + y3) ru1 (w1 + 1) F2 (by omega) (b_ru1) (by omega) (hF2) (by omega) (by omega) (by omega) (by rw [show (w1 + 1 - 1).toNat = (w1 - 1).toNat by omega]; exact ivr) (by have z : ru1 = 0 := (by rw [ivr, show (w1 - 1).toNat = 0 by omega]; rfl); rw [show (w1 + 1 - 1).toNat = (w1 - 1).toNat by omega]; omega) (cpy (F := rnR Mm Mk cu) ivR eF2 (by have z : ru1 = rnR Mm Mk cu (w1 + 1 - 1).toNat := (by rw [show (w1 + 1 - 1).toNat = (w1 - 1).toNat by omega]; exact ivr); rw [show (w1 + 1 - 1).toNat = w1.toNat by omega] at z; exact z) (by omega)) (by omega)
        · refine g_iload (pc := 24) X 1 rfl dX12_runsOf_24 ?_
          refine g_aload_n (pc := 26) X 3 rfl dX12_runsOf_26 ?_
          refine g_get (pc := 27) X inlX12 0 rfl rfl 3 (by decide) mw_7_15 rfl dX12_runsOf_27 ?_
          refine g_iload_n (pc := 30) X 4 rfl dX12_runsOf_30 ?_
          refine g_aaldG (pc := 31) X 3 rfl (b_rm.1) (Int.lt_of_le_of_lt b_rm.2 (by decide)) (Int.le_trans b_rm.2 (by decide)) (hG 3) dX12_runsOf_31 ?_
          refine g_iload (pc := 32) X 0 rfl dX12_runsOf_32 ?_
          refine g_iconst (pc := 34) X (iI 1) (by rfl) dX12_runsOf_34 ?_
          refine g_isubI (pc := 35) X dX12_runsOf_35 ?_
          refine g_ialdI (pc := 36) X 5 rfl (by omega) (by omega) (by omega) dX12_runsOf_36 ?_
          refine g_nameI (fun y4 ey4 => ?_)
          have by4 : (-50) ≤ y4 ∧ y4 ≤ 50 := by rw [ey4]; exact h_Mm _ (by omega)
          refine g_aload_n (pc := 37) X 3 rfl dX12_runsOf_37 ?_
          refine g_get (pc := 38) X inlX12 0 rfl rfl 2 (by decide) mw_7_14 rfl dX12_runsOf_38 ?_
          refine g_iload_n (pc := 41) X 4 rfl dX12_runsOf_41 ?_
          refine g_aaldG (pc := 42) X 2 rfl (b_rm.1) (Int.lt_of_le_of_lt b_rm.2 (by decide)) (Int.le_trans b_rm.2 (by decide)) (hG 2) dX12_runsOf_42 ?_
          refine g_iload (pc := 43) X 0 rfl dX12_runsOf_43 ?_
          refine g_iconst (pc := 45) X (iI 1) (by rfl) dX12_runsOf_45 ?_
          refine g_isubI (pc := 46) X dX12_runsOf_46 ?_
          refine g_ialdI (pc := 47) X 4 rfl (by omega) (by omega) (by omega) dX12_runsOf_47 ?_
          refine g_nameI (fun y5 ey5 => ?_)
          have by5 : 0 ≤ y5 ∧ y5 ≤ 400 := by rw [ey5]; exact h_Mk _ (by omega)
          refine g_imulI (pc := 48) X dX12_runsOf_48 ?_
          refine g_nameI (fun y6 ey6 => ?_)
          have by6 : (-20000) ≤ y6 ∧ y6 ≤ 20000 := by rw [ey6]; exact mulB (show (-50) ≤ y4 ∧ y4 ≤ 50 by omega) (show (-400) ≤ y5 ∧ y5 ≤ 400 by omega) (by decide)
          refine g_bipush (pc := 49) X (iI 100) (by decide) dX12_runsOf_49 ?_
          refine g_idivI (pc := 51) X ⟨by omega, by omega⟩ ⟨by decide, by decide⟩ (by decide) (by decide) dX12_runsOf_51 ?_
          refine g_nameI (fun y7 ey7 => ?_)
          have by7 : (-200) ≤ y7 ∧ y7 ≤ 200 := by rw [ey7]; exact tdivB2 (by decide) (by omega)
          have hoff : y7 = ofq Mm Mk (w1 - 1).toNat := by rw [ey7, ey6, ey4, ey5]; rfl
          refine g_iaddI (pc := 52) X dX12_runsOf_52 ?_
          refine g_istore (pc := 53) X (by decide) (lv' := [(4, .int (iI (ru1 + y7))), (5, .int (iI w1)), (3, .int (iI n1)), (0, .ref g0), (1, .int (iI rm)), (2, .int (iI cu))]) rfl dX12_runsOf_53 ?_
          refine g_iload_n (pc := 55) X 5 rfl dX12_runsOf_55 ?_
          refine g_iload (pc := 56) X 1 rfl dX12_runsOf_56 ?_
          refine g_iconst (pc := 58) X (iI 1) (by rfl) dX12_runsOf_58 ?_
          refine g_isubI (pc := 59) X dX12_runsOf_59 ?_
          refine g_ishr (pc := 60) X dX12_runsOf_60 ?_
          refine g_lit (y := iI (srq (cu) (w1 - 1))) (srq_e _ _) ?_
          refine g_iconst (pc := 61) X (iI 1) (by rfl) dX12_runsOf_61 ?_
          refine g_iand (pc := 62) X dX12_runsOf_62 ?_
          refine g_lit (y := iI (bq cu (w1 - 1))) (bq_e _ _) ?_
          have bb := bq_01 cu (w1 - 1)
          refine g_iconst (pc := 63) X (iI 1) (by rfl) dX12_runsOf_63 ?_
          refine g_icmp_neI (pc := 64) X 80 (by decide) ⟨by omega, by omega⟩ ⟨by decide, by decide⟩ dX12_runsOf_64 (fun c64 => ?_) (fun c64 => ?_)
          · refine g_aload_n (pc := 80) X 3 rfl dX12_runsOf_80 ?_
            refine g_get (pc := 81) X inlX12 0 rfl rfl 57 (by decide) mw_9_8 rfl dX12_runsOf_81 ?_
            refine g_iload (pc := 84) X 1 rfl dX12_runsOf_84 ?_
            refine g_iload (pc := 86) X 0 rfl dX12_runsOf_86 ?_
            refine g_iastG (pc := 88) X 6 rfl (b_w1.1) (by omega) (Int.le_trans b_w1.2 (by decide)) (ws' := fun F8 => [(g0, .inr (12, mO gA nr tm at_ to_ fa va np tn pc_ st_ pa_ ta ow of_ ot rl hb bs se)), ((gA 13), .inl (Z.2.1 0, 7, .inl (fun j => iI (Mw j)))), ((gA 2), .inl (Z.2.1 6, 7, .inr (.inr (.inr (.inr (gG 2)))))), ((gA 3), .inl (Z.2.1 6, 7, .inr (.inr (.inr (.inr (gG 3)))))), ((xA 2), .inl (Z.2.1 0, 8, .inl (fun j => iI (Mk j)))), ((xA 3), .inl (Z.2.1 0, 8, .inl (fun j => iI (Mm j)))), ((gA 57), .inl (Z.2.1 0, 8, .inl (fun j => iI (F8 j))))]) (fun _ => rfl) dX12_runsOf_88 (fun F8 eF8 => ?_)
            have hF8 : ∀ j, j < 8 → (-2147483648) ≤ F8 j ∧ F8 j ≤ 2147483647 := by rw [eF8]; exact updI_B h_Ru1 (by omega)
            refine g_iload_n (pc := 89) X 2 rfl dX12_runsOf_89 ?_
            refine g_iload (pc := 90) X 0 rfl dX12_runsOf_90 ?_
            refine g_absI (pc := 92) X mw_45_18 mw_44_21 mw_25_23 mw_44_22 (by decide) (Nat.le_of_ble_eq_true rfl) (by decide) (by decide) (by omega) (by omega) dX12_runsOf_92 ?_
            refine g_nameI (fun y9 ey9 => ?_)
            have my9 : 0 ≤ y9 ∧ (y9 = ru1 + y7 ∨ y9 = -(ru1 + y7)) ∧ ru1 + y7 ≤ y9 ∧ -(ru1 + y7) ≤ y9 := by rw [ey9]; exact absF _
            clear ey9
            refine g_iaddI (pc := 95) X dX12_runsOf_95 ?_
            refine g_istore_n (pc := 96) X (i := 3) rfl (by decide) (lv' := [(3, .int (iI (n1 + y9))), (4, .int (iI (ru1 + y7))), (5, .int (iI w1)), (0, .ref g0), (1, .int (iI rm)), (2, .int (iI cu))]) rfl dX12_runsOf_96 ?_
            refine g_iincI (pc := 97) X 2 rfl (by decide) (lv' := [(5, .int (iI (w1 + 1))), (3, .int (iI (n1 + y9))), (4, .int (iI (ru1 + y7))), (0, .ref g0), (1, .int (iI rm)), (2, .int (iI cu))]) rfl dX12_runsOf_97 ?_
            refine g_goto (pc := 100) X 8 (by decide) dX12_runsOf_100 ?_
            refine g_lv (lv' := [(5, .int (iI (w1 + 1))), (4, .int (iI (ru1 + y7))), (3, .int (iI (n1 + y9))), (0, .ref g0), (1, .int (iI rm)), (2, .int (iI cu))]) [0, 2, 1, 3, 4, 5] rfl ?_
            exact ih (n1 + y9) (ru1 + y7) (w1 + 1) F8 (by omega) (by omega) (by omega) (hF8) (by omega) (by omega) (by omega) (by rw [show (w1 + 1 - 1).toNat = (w1 - 1 + 1).toNat by omega, rnR_s (by omega), if_neg c64, ← ivr, ← hoff]) (by rw [show (w1 + 1 - 1).toNat = (w1 - 1 + 1).toNat by omega, rnN_s (by omega), if_neg c64, ← ivr, ← hoff, ← ivt]; unfold abq; split <;> omega) (cpy (F := rnR Mm Mk cu) ivR eF8 (by have z : ru1 + y7 = rnR Mm Mk cu (w1 + 1 - 1).toNat := (by rw [show (w1 + 1 - 1).toNat = (w1 - 1 + 1).toNat by omega, rnR_s (by omega), if_neg c64, ← ivr, ← hoff]); rw [show (w1 + 1 - 1).toNat = w1.toNat by omega] at z; exact z) (by omega)) (by omega)
          · refine g_iload_n (pc := 67) X 2 rfl dX12_runsOf_67 ?_
            refine g_iconst (pc := 68) X (iI 2) (by rfl) dX12_runsOf_68 ?_
            refine g_iload (pc := 69) X 0 rfl dX12_runsOf_69 ?_
            refine g_absI (pc := 71) X mw_45_18 mw_44_21 mw_25_23 mw_44_22 (by decide) (Nat.le_of_ble_eq_true rfl) (by decide) (by decide) (by omega) (by omega) dX12_runsOf_71 ?_
            refine g_nameI (fun y10 ey10 => ?_)
            have my10 : 0 ≤ y10 ∧ (y10 = ru1 + y7 ∨ y10 = -(ru1 + y7)) ∧ ru1 + y7 ≤ y10 ∧ -(ru1 + y7) ≤ y10 := by rw [ey10]; exact absF _
            clear ey10
            refine g_imulI (pc := 74) X dX12_runsOf_74 ?_
            refine g_iaddI (pc := 75) X dX12_runsOf_75 ?_
            refine g_istore_n (pc := 76) X (i := 3) rfl (by decide) (lv' := [(3, .int (iI (n1 + (2 * y10)))), (4, .int (iI (ru1 + y7))), (5, .int (iI w1)), (0, .ref g0), (1, .int (iI rm)), (2, .int (iI cu))]) rfl dX12_runsOf_76 ?_
            refine g_iconst (pc := 77) X (iI 0) (by rfl) dX12_runsOf_77 ?_
            refine g_istore (pc := 78) X (by decide) (lv' := [(4, .int (iI 0)), (3, .int (iI (n1 + (2 * y10)))), (5, .int (iI w1)), (0, .ref g0), (1, .int (iI rm)), (2, .int (iI cu))]) rfl dX12_runsOf_78 ?_
            refine g_aload_n (pc := 80) X 3 rfl dX12_runsOf_80 ?_
            refine g_get (pc := 81) X inlX12 0 rfl rfl 57 (by decide) mw_9_8 rfl dX12_runsOf_81 ?_
            refine g_iload (pc := 84) X 2 rfl dX12_runsOf_84 ?_
            refine g_iload (pc := 86) X 0 rfl dX12_runsOf_86 ?_
            refine g_iastG (pc := 88) X 6 rfl (b_w1.1) (by omega) (Int.le_trans b_w1.2 (by decide)) (ws' := fun F11 => [(g0, .inr (12, mO gA nr tm at_ to_ fa va np tn pc_ st_ pa_ ta ow of_ ot rl hb bs se)), ((gA 13), .inl (Z.2.1 0, 7, .inl (fun j => iI (Mw j)))), ((gA 2), .inl (Z.2.1 6, 7, .inr (.inr (.inr (.inr (gG 2)))))), ((gA 3), .inl (Z.2.1 6, 7, .inr (.inr (.inr (.inr (gG 3)))))), ((xA 2), .inl (Z.2.1 0, 8, .inl (fun j => iI (Mk j)))), ((xA 3), .inl (Z.2.1 0, 8, .inl (fun j => iI (Mm j)))), ((gA 57), .inl (Z.2.1 0, 8, .inl (fun j => iI (F11 j))))]) (fun _ => rfl) dX12_runsOf_88 (fun F11 eF11 => ?_)
            have hF11 : ∀ j, j < 8 → (-2147483648) ≤ F11 j ∧ F11 j ≤ 2147483647 := by rw [eF11]; exact updI_B h_Ru1 (by omega)
            refine g_iload_n (pc := 89) X 1 rfl dX12_runsOf_89 ?_
            refine g_iload (pc := 90) X 0 rfl dX12_runsOf_90 ?_
            refine g_absI (pc := 92) X mw_45_18 mw_44_21 mw_25_23 mw_44_22 (by decide) (Nat.le_of_ble_eq_true rfl) (by decide) (by decide) (by omega) (by omega) dX12_runsOf_92 ?_
            refine g_nameI (fun y12 ey12 => ?_)
            have my12 : 0 ≤ y12 ∧ (y12 = 0 ∨ y12 = -0) ∧ 0 ≤ y12 ∧ -0 ≤ y12 := by rw [ey12]; exact absF _
            clear ey12
            refine g_iaddI (pc := 95) X dX12_runsOf_95 ?_
            refine g_istore_n (pc := 96) X (i := 3) rfl (by decide) (lv' := [(3, .int (iI ((n1 + (2 * y10)) + y12))), (4, .int (iI 0)), (5, .int (iI w1)), (0, .ref g0), (1, .int (iI rm)), (2, .int (iI cu))]) rfl dX12_runsOf_96 ?_
            refine g_iincI (pc := 97) X 2 rfl (by decide) (lv' := [(5, .int (iI (w1 + 1))), (3, .int (iI ((n1 + (2 * y10)) + y12))), (4, .int (iI 0)), (0, .ref g0), (1, .int (iI rm)), (2, .int (iI cu))]) rfl dX12_runsOf_97 ?_
            refine g_goto (pc := 100) X 8 (by decide) dX12_runsOf_100 ?_
            refine g_lv (lv' := [(5, .int (iI (w1 + 1))), (4, .int (iI 0)), (3, .int (iI ((n1 + (2 * y10)) + y12))), (0, .ref g0), (1, .int (iI rm)), (2, .int (iI cu))]) [0, 2, 1, 3, 4, 5] rfl ?_
            exact ih ((n1 + (2 * y10)) + y12) 0 (w1 + 1) F11 (by omega) (by omega) (by omega) (hF11) (by omega) (by omega) (by omega) (by rw [show (w1 + 1 - 1).toNat = (w1 - 1 + 1).toNat by omega, rnR_s (by omega), if_pos c64]) (by rw [show (w1 + 1 - 1).toNat = (w1 - 1 + 1).toNat by omega, rnN_s (by omega), if_pos c64, ← ivr, ← hoff, ← ivt]; unfold abq; split <;> omega) (cpy (F := rnR Mm Mk cu) ivR eF11 (by have z : 0 = rnR Mm Mk cu (w1 + 1 - 1).toNat := (by rw [show (w1 + 1 - 1).toNat = (w1 - 1 + 1).toNat by omega, rnR_s (by omega), if_pos c64]); rw [show (w1 + 1 - 1).toNat = w1.toNat by omega] at z; exact z) (by omega)) (by omega)
  exact loop8 _ 0 0 0 Ru (by omega) (by omega) (by omega) (h_Ru) (by omega) (by omega) ((h_Mw rm.toNat (by omega)).1) (rfl) (rfl) (fun j h => absurd h (by omega)) (Nat.lt_succ_self _)

set_option maxHeartbeats 4000000 in
set_option maxRecDepth 100000 in
theorem kx_X12_areCuts_S (l : Launch) (Z : gZ) (g0 : Nat) (gA : Nat → Nat) (Mw : Nat → Int) (rm : Int) (b1 : Int) (nr : Int) (tm : Int) (at_ : Int) (to_ : Int) (fa : Int) (va : Int) (np : Int) (tn : Int) (pc_ : Int) (st_ : Int) (pa_ : Int) (ta : Int) (ow : Int) (of_ : Int) (ot : Int) (rl : Int) (hb : Int) (bs : Int) (se : Int) (b_rm : (-2147483648) ≤ rm ∧ rm ≤ 2147483647) (b_b1 : (-2147483648) ≤ b1 ∧ b1 ≤ 2147483647) (b_nr : 0 ≤ nr ∧ nr ≤ 6) (b_tm : 0 ≤ tm ∧ tm ≤ 400) (b_at_ : 0 ≤ at_ ∧ at_ ≤ 400) (b_to_ : 0 ≤ to_ ∧ to_ ≤ 400) (b_fa : (-1) ≤ fa ∧ fa ≤ 400) (b_va : (-2147483648) ≤ va ∧ va ≤ 2147483647) (b_np : 0 ≤ np ∧ np ≤ 4) (b_tn : 0 ≤ tn ∧ tn ≤ 20) (b_pc_ : 0 ≤ pc_ ∧ pc_ ≤ 480) (b_st_ : 0 ≤ st_ ∧ st_ ≤ 240) (b_pa_ : (-1) ≤ pa_ ∧ pa_ ≤ 3) (b_ta : (-2147483648) ≤ ta ∧ ta ≤ 2147483647) (b_ow : (-2147483648) ≤ ow ∧ ow ≤ 2147483647) (b_of_ : (-2147483648) ≤ of_ ∧ of_ ≤ 2147483647) (b_ot : (-2147483648) ≤ ot ∧ ot ≤ 2147483647) (b_rl : 0 ≤ rl ∧ rl ≤ 2880) (b_hb : 0 ≤ hb ∧ hb ≤ 4) (b_bs : (-2147483648) ≤ bs ∧ bs ≤ 2147483647) (b_se : 0 ≤ se ∧ se ≤ 10) (hk : 0 ≤ rm ∧ rm < nr) (hwn : 1 ≤ Mw rm.toNat ∧ Mw rm.toNat ≤ 8) (h_Mw : ∀ j, j < 7 → 0 ≤ Mw j ∧ Mw j ≤ 8) : Con l Z yX12_areCuts cX12_areCuts 3 (some .boolean) 2 46 0 0 [.ref g0, .int (iI rm), .int (iI b1)] [(g0, .inr (12, mO gA nr tm at_ to_ fa va np tn pc_ st_ pa_ ta ow of_ ot rl hb bs se)), ((gA 13), .inl (Z.2.1 0, 7, .inl (fun j => iI (Mw j))))] (fun r w' => (r = some (.int (iI (bI (0 ≤ b1 ∧ b1 ≤ pw2 (Mw rm.toNat - 1).toNat - 1))))) ∧ (w' = [(g0, .inr (12, mO gA nr tm at_ to_ fa va np tn pc_ st_ pa_ ta ow of_ ot rl hb bs se)), ((gA 13), .inl (Z.2.1 0, 7, .inl (fun j => iI (Mw j))))])) := by
  refine enter (by decide) (Nat.le_of_ble_eq_true rfl) ?_
  intro p e s m args below meth c A X hnm hA
  have X : Cx p s m args meth c cX12_areCuts 3 (some .boolean) RX12 Z A := X
  refine g_as (pc' := 0) (lv' := [(0, .ref g0), (1, .int (iI rm)), (2, .int (iI b1))]) (st' := []) (ws' := [(g0, .inr (12, mO gA nr tm at_ to_ fa va np tn pc_ st_ pa_ ta ow of_ ot rl hb bs se)), ((gA 13), .inl (Z.2.1 0, 7, .inl (fun j => iI (Mw j))))]) rfl rfl rfl rfl ?_
  refine g_aload_n (pc := 0) X 0 rfl dX12_areCuts_0 ?_
  refine g_iload_n (pc := 1) X 1 rfl dX12_areCuts_1 ?_
  refine g_callV (pc := 2) X (k_X12_isRoom l Z g0 gA rm nr tm at_ to_ fa va np tn pc_ st_ pa_ ta ow of_ ot rl hb bs se b_rm b_nr b_tm b_at_ b_to_ b_fa b_va b_np b_tn b_pc_ b_st_ b_pa_ b_ta b_ow b_of_ b_ot b_rl b_hb b_bs b_se) iM_X12_isRoom mw_28_5 mw_28_6 mw_28_7 0 rfl rfl [0] [1] rfl (wr := [((gA 13), .inl (Z.2.1 0, 7, .inl (fun j => iI (Mw j))))]) rfl (by decide) rfl rfl (Nat.le_of_ble_eq_true rfl) (by decide) dX12_areCuts_2 (fun r w' hpo => ?_)
  obtain ⟨rfl, rfl⟩ := hpo
  refine g_as (pc' := 5) (lv' := [(0, .ref g0), (1, .int (iI rm)), (2, .int (iI b1))]) (st' := [.int (iI (bI (0 ≤ rm ∧ rm ≤ nr - 1)))]) (ws' := [((gA 13), .inl (Z.2.1 0, 7, .inl (fun j => iI (Mw j)))), (g0, .inr (12, mO gA nr tm at_ to_ fa va np tn pc_ st_ pa_ ta ow of_ ot rl hb bs se))]) rfl rfl rfl rfl ?_
  refine g_if_eqB (pc := 5) X 34 (by decide) dX12_areCuts_5 (fun h => absurd h (by omega)) (fun c5 => ?_)
  refine g_iload_n (pc := 8) X 2 rfl dX12_areCuts_8 ?_
  refine g_i2lI (pc := 9) X b_b1 dX12_areCuts_9 ?_
  refine g_lconst (pc := 10) X (lI 0) (by decide) dX12_areCuts_10 ?_
  refine g_iconst (pc := 11) X (iI 1) (by rfl) dX12_areCuts_11 ?_
  refine g_aload_n (pc := 12) X 0 rfl dX12_areCuts_12 ?_
  refine g_get (pc := 13) X inlX12 1 rfl rfl 13 (by decide) mw_8_1 rfl dX12_areCuts_13 ?_
  refine g_iload_n (pc := 16) X 1 rfl dX12_areCuts_16 ?_
  refine g_ialdI (pc := 17) X 0 rfl (by omega) (by omega) (Int.le_trans b_rm.2 (by decide)) dX12_areCuts_17 ?_
  refine g_nameI (fun y2 ey2 => ?_)
  have by2 : 0 ≤ y2 ∧ y2 ≤ 8 := by rw [ey2]; exact h_Mw _ (by omega)
  have ty2 : 1 ≤ y2 ∧ y2 ≤ 8 := by rw [ey2]; exact hwn
  refine g_iconst (pc := 18) X (iI 1) (by rfl) dX12_areCuts_18 ?_
  refine g_isubI (pc := 19) X dX12_areCuts_19 ?_
  refine g_shl1 (pc := 20) X (by omega) (by omega) dX12_areCuts_20 (fun y3 ey3 => ?_)
  have by3 : 1 ≤ y3 ∧ y3 ≤ 128 := pow2B 7 (by decide) (by omega) (by omega) ey3
  have pw_y3 : y3 = pw2 (Mw rm.toNat - 1).toNat := by rw [ey3, ey2]; rfl
  refine g_iconst (pc := 21) X (iI 1) (by rfl) dX12_areCuts_21 ?_
  refine g_isubI (pc := 22) X dX12_areCuts_22 ?_
  refine g_i2lI (pc := 23) X ⟨by omega, by omega⟩ dX12_areCuts_23 ?_
  refine g_callS (pc := 24) X (k_X12_in l Z b1 0 (y3 - 1) (by omega) (by decide) (by omega)) iM_X12_in mw_11_13 mw_11_14 [] [0, 1] rfl (wr := [((gA 13), .inl (Z.2.1 0, 7, .inl (fun j => iI (Mw j)))), (g0, .inr (12, mO gA nr tm at_ to_ fa va np tn pc_ st_ pa_ ta ow of_ ot rl hb bs se))]) rfl (by decide) rfl rfl (Nat.le_of_ble_eq_true rfl) (by decide) dX12_areCuts_24 (fun r w' hpo => ?_)
  obtain ⟨rfl, rfl⟩ := hpo
  refine g_as (pc' := 27) (lv' := [(0, .ref g0), (1, .int (iI rm)), (2, .int (iI b1))]) (st' := [.int (iI (bI (0 ≤ b1 ∧ b1 ≤ (y3 - 1))))]) (ws' := [((gA 13), .inl (Z.2.1 0, 7, .inl (fun j => iI (Mw j)))), (g0, .inr (12, mO gA nr tm at_ to_ fa va np tn pc_ st_ pa_ ta ow of_ ot rl hb bs se))]) rfl rfl rfl rfl ?_
  refine g_if_eqB (pc := 27) X 34 (by decide) dX12_areCuts_27 (fun c27 => ?_) (fun c27 => ?_)
  · refine g_iconst (pc := 34) X (iI 0) (by rfl) dX12_areCuts_34 ?_
    refine g_ws (ws' := [(g0, .inr (12, mO gA nr tm at_ to_ fa va np tn pc_ st_ pa_ ta ow of_ ot rl hb bs se)), ((gA 13), .inl (Z.2.1 0, 7, .inl (fun j => iI (Mw j))))]) [1, 0] (by decide) rfl ?_
    exact g_zret (pc := 35) X hA (rfl) (⟨congrArg (fun z => some (Value.int (iI z))) ((bI_f (by omega)).symm), rfl⟩) (by decide) (by decide) dX12_areCuts_35
  · refine g_iconst (pc := 30) X (iI 1) (by rfl) dX12_areCuts_30 ?_
    refine g_goto (pc := 31) X 35 (by decide) dX12_areCuts_31 ?_
    refine g_ws (ws' := [(g0, .inr (12, mO gA nr tm at_ to_ fa va np tn pc_ st_ pa_ ta ow of_ ot rl hb bs se)), ((gA 13), .inl (Z.2.1 0, 7, .inl (fun j => iI (Mw j))))]) [1, 0] (by decide) rfl ?_
    exact g_zret (pc := 35) X hA (rfl) (⟨congrArg (fun z => some (Value.int (iI z))) ((bI_t (by omega)).symm), rfl⟩) (by decide) (by decide) dX12_areCuts_35

set_option maxHeartbeats 4000000 in
set_option maxRecDepth 100000 in
theorem kx_X12_shown_S (l : Launch) (Z : gZ) (g0 : Nat) (gA : Nat → Nat) (gG : Nat → Nat → Option Nat) (xA : Nat → Nat) (Mw : Nat → Int) (Mk : Nat → Int) (Mm : Nat → Int) (Ru : Nat → Int) (rm : Int) (b1 : Int) (nr : Int) (tm : Int) (at_ : Int) (to_ : Int) (fa : Int) (va : Int) (np : Int) (tn : Int) (pc_ : Int) (st_ : Int) (pa_ : Int) (ta : Int) (ow : Int) (of_ : Int) (ot : Int) (rl : Int) (hb : Int) (bs : Int) (se : Int) (b_rm : (-2147483648) ≤ rm ∧ rm ≤ 2147483647) (b_b1 : (-2147483648) ≤ b1 ∧ b1 ≤ 2147483647) (b_nr : 0 ≤ nr ∧ nr ≤ 6) (b_tm : 0 ≤ tm ∧ tm ≤ 400) (b_at_ : 0 ≤ at_ ∧ at_ ≤ 400) (b_to_ : 0 ≤ to_ ∧ to_ ≤ 400) (b_fa : (-1) ≤ fa ∧ fa ≤ 400) (b_va : (-2147483648) ≤ va ∧ va ≤ 2147483647) (b_np : 0 ≤ np ∧ np ≤ 4) (b_tn : 0 ≤ tn ∧ tn ≤ 20) (b_pc_ : 0 ≤ pc_ ∧ pc_ ≤ 480) (b_st_ : 0 ≤ st_ ∧ st_ ≤ 240) (b_pa_ : (-1) ≤ pa_ ∧ pa_ ≤ 3) (b_ta : (-2147483648) ≤ ta ∧ ta ≤ 2147483647) (b_ow : (-2147483648) ≤ ow ∧ ow ≤ 2147483647) (b_of_ : (-2147483648) ≤ of_ ∧ of_ ≤ 2147483647) (b_ot : (-2147483648) ≤ ot ∧ ot ≤ 2147483647) (b_rl : 0 ≤ rl ∧ rl ≤ 2880) (b_hb : 0 ≤ hb ∧ hb ≤ 4) (b_bs : (-2147483648) ≤ bs ∧ bs ≤ 2147483647) (b_se : 0 ≤ se ∧ se ≤ 10) (hk : 0 ≤ rm ∧ rm < nr) (hG : ∀ k, gG k rm.toNat = some (xA k)) (hwn : 1 ≤ Mw rm.toNat ∧ Mw rm.toNat ≤ 8) (h_Mw : ∀ j, j < 7 → 0 ≤ Mw j ∧ Mw j ≤ 8) (h_Mk : ∀ j, j < 8 → 0 ≤ Mk j ∧ Mk j ≤ 400) (h_Mm : ∀ j, j < 8 → (-50) ≤ Mm j ∧ Mm j ≤ 50) (h_Ru : ∀ j, j < 8 → (-2147483648) ≤ Ru j ∧ Ru j ≤ 2147483647) : Con l Z yX12_shown cX12_shown 3 (some .int) 3 68 0 0 [.ref g0, .int (iI rm), .int (iI b1)] [(g0, .inr (12, mO gA nr tm at_ to_ fa va np tn pc_ st_ pa_ ta ow of_ ot rl hb bs se)), ((gA 13), .inl (Z.2.1 0, 7, .inl (fun j => iI (Mw j)))), ((gA 2), .inl (Z.2.1 6, 7, .inr (.inr (.inr (.inr (gG 2)))))), ((gA 3), .inl (Z.2.1 6, 7, .inr (.inr (.inr (.inr (gG 3)))))), ((xA 2), .inl (Z.2.1 0, 8, .inl (fun j => iI (Mk j)))), ((xA 3), .inl (Z.2.1 0, 8, .inl (fun j => iI (Mm j)))), ((gA 57), .inl (Z.2.1 0, 8, .inl (fun j => iI (Ru j))))] (fun r w' => ((r = some (.int (iI (-1)))) ∧ (w' = [(g0, .inr (12, mO gA nr tm at_ to_ fa va np tn pc_ st_ pa_ ta ow of_ ot rl hb bs se)), ((gA 13), .inl (Z.2.1 0, 7, .inl (fun j => iI (Mw j)))), ((gA 2), .inl (Z.2.1 6, 7, .inr (.inr (.inr (.inr (gG 2)))))), ((gA 3), .inl (Z.2.1 6, 7, .inr (.inr (.inr (.inr (gG 3)))))), ((xA 2), .inl (Z.2.1 0, 8, .inl (fun j => iI (Mk j)))), ((xA 3), .inl (Z.2.1 0, 8, .inl (fun j => iI (Mm j)))), ((gA 57), .inl (Z.2.1 0, 8, .inl (fun j => iI (Ru j))))]) ∧ (¬ (0 ≤ b1 ∧ b1 ≤ pw2 (Mw rm.toNat - 1).toNat - 1))) ∨ (∃ (Ru2 : Nat → Int) (y : Int), (r = some (.int (iI y))) ∧ (w' = [(g0, .inr (12, mO gA nr tm at_ to_ fa va np tn pc_ st_ pa_ ta ow of_ ot rl hb bs se)), ((gA 13), .inl (Z.2.1 0, 7, .inl (fun j => iI (Mw j)))), ((gA 2), .inl (Z.2.1 6, 7, .inr (.inr (.inr (.inr (gG 2)))))), ((gA 3), .inl (Z.2.1 6, 7, .inr (.inr (.inr (.inr (gG 3)))))), ((xA 2), .inl (Z.2.1 0, 8, .inl (fun j => iI (Mk j)))), ((xA 3), .inl (Z.2.1 0, 8, .inl (fun j => iI (Mm j)))), ((gA 57), .inl (Z.2.1 0, 8, .inl (fun j => iI (Ru2 j))))]) ∧ ((-2147483648) ≤ y ∧ y ≤ 2147483647) ∧ (∀ j, j < 8 → (-2147483648) ≤ Ru2 j ∧ Ru2 j ≤ 2147483647) ∧ (0 ≤ b1 ∧ b1 ≤ pw2 (Mw rm.toNat - 1).toNat - 1) ∧ (y = shF Mm Mk (Mw rm.toNat - 1).toNat b1))) := by
  refine enter (by decide) (Nat.le_of_ble_eq_true rfl) ?_
  intro p e s m args below meth c A X hnm hA
  have X : Cx p s m args meth c cX12_shown 3 (some .int) RX12 Z A := X
  refine g_as (pc' := 0) (lv' := [(0, .ref g0), (1, .int (iI rm)), (2, .int (iI b1))]) (st' := []) (ws' := [(g0, .inr (12, mO gA nr tm at_ to_ fa va np tn pc_ st_ pa_ ta ow of_ ot rl hb bs se)), ((gA 13), .inl (Z.2.1 0, 7, .inl (fun j => iI (Mw j)))), ((gA 2), .inl (Z.2.1 6, 7, .inr (.inr (.inr (.inr (gG 2)))))), ((gA 3), .inl (Z.2.1 6, 7, .inr (.inr (.inr (.inr (gG 3)))))), ((xA 2), .inl (Z.2.1 0, 8, .inl (fun j => iI (Mk j)))), ((xA 3), .inl (Z.2.1 0, 8, .inl (fun j => iI (Mm j)))), ((gA 57), .inl (Z.2.1 0, 8, .inl (fun j => iI (Ru j))))]) rfl rfl rfl rfl ?_
  refine g_aload_n (pc := 0) X 0 rfl dX12_shown_0 ?_
  refine g_iload_n (pc := 1) X 1 rfl dX12_shown_1 ?_
  refine g_iload_n (pc := 2) X 2 rfl dX12_shown_2 ?_
  refine g_callV (pc := 3) X (kx_X12_areCuts_S l Z g0 gA Mw rm b1 nr tm at_ to_ fa va np tn pc_ st_ pa_ ta ow of_ ot rl hb bs se b_rm b_b1 b_nr b_tm b_at_ b_to_ b_fa b_va b_np b_tn b_pc_ b_st_ b_pa_ b_ta b_ow b_of_ b_ot b_rl b_hb b_bs b_se (by omega) (by omega) (h_Mw)) iM_X12_areCuts mw_45_10 mw_45_11 mw_45_12 0 rfl rfl [0, 1] [2, 3, 4, 5, 6] rfl (wr := [((gA 2), .inl (Z.2.1 6, 7, .inr (.inr (.inr (.inr (gG 2)))))), ((gA 3), .inl (Z.2.1 6, 7, .inr (.inr (.inr (.inr (gG 3)))))), ((xA 2), .inl (Z.2.1 0, 8, .inl (fun j => iI (Mk j)))), ((xA 3), .inl (Z.2.1 0, 8, .inl (fun j => iI (Mm j)))), ((gA 57), .inl (Z.2.1 0, 8, .inl (fun j => iI (Ru j))))]) rfl (by decide) rfl rfl (Nat.le_of_ble_eq_true rfl) (by decide) dX12_shown_3 (fun r w' hpo => ?_)
  obtain ⟨rfl, rfl⟩ := hpo
  refine g_as (pc' := 6) (lv' := [(0, .ref g0), (1, .int (iI rm)), (2, .int (iI b1))]) (st' := [.int (iI (bI (0 ≤ b1 ∧ b1 ≤ pw2 (Mw rm.toNat - 1).toNat - 1)))]) (ws' := [((gA 2), .inl (Z.2.1 6, 7, .inr (.inr (.inr (.inr (gG 2)))))), ((gA 3), .inl (Z.2.1 6, 7, .inr (.inr (.inr (.inr (gG 3)))))), ((xA 2), .inl (Z.2.1 0, 8, .inl (fun j => iI (Mk j)))), ((xA 3), .inl (Z.2.1 0, 8, .inl (fun j => iI (Mm j)))), ((gA 57), .inl (Z.2.1 0, 8, .inl (fun j => iI (Ru j)))), (g0, .inr (12, mO gA nr tm at_ to_ fa va np tn pc_ st_ pa_ ta ow of_ ot rl hb bs se)), ((gA 13), .inl (Z.2.1 0, 7, .inl (fun j => iI (Mw j))))]) rfl rfl rfl rfl ?_
  refine g_if_eqB (pc := 6) X 18 (by decide) dX12_shown_6 (fun c6 => ?_) (fun c6 => ?_)
  · refine g_iconst (pc := 18) X (iI (-1)) (by rfl) dX12_shown_18 ?_
    refine g_ws (ws' := [(g0, .inr (12, mO gA nr tm at_ to_ fa va np tn pc_ st_ pa_ ta ow of_ ot rl hb bs se)), ((gA 13), .inl (Z.2.1 0, 7, .inl (fun j => iI (Mw j)))), ((gA 2), .inl (Z.2.1 6, 7, .inr (.inr (.inr (.inr (gG 2)))))), ((gA 3), .inl (Z.2.1 6, 7, .inr (.inr (.inr (.inr (gG 3)))))), ((xA 2), .inl (Z.2.1 0, 8, .inl (fun j => iI (Mk j)))), ((xA 3), .inl (Z.2.1 0, 8, .inl (fun j => iI (Mm j)))), ((gA 57), .inl (Z.2.1 0, 8, .inl (fun j => iI (Ru j))))]) [5, 6, 0, 1, 2, 3, 4] (by decide) rfl ?_
    exact g_iret (pc := 19) X hA (Or.inl (⟨rfl, rfl, (by omega)⟩)) (by decide) (by decide) dX12_shown_19
  · refine g_aload_n (pc := 9) X 0 rfl dX12_shown_9 ?_
    refine g_iload_n (pc := 10) X 1 rfl dX12_shown_10 ?_
    refine g_iload_n (pc := 11) X 2 rfl dX12_shown_11 ?_
    refine g_callV (pc := 12) X (kx_X12_runsOf l Z g0 gA gG xA Mw Mk Mm Ru rm b1 nr tm at_ to_ fa va np tn pc_ st_ pa_ ta ow of_ ot rl hb bs se (by omega) b_b1 b_nr b_tm b_at_ b_to_ b_fa b_va b_np b_tn b_pc_ b_st_ b_pa_ b_ta b_ow b_of_ b_ot b_rl b_hb b_bs b_se (hG) (h_Mw) (h_Mk) (h_Mm) (h_Ru)) iM_X12_runsOf mw_45_14 mw_45_15 mw_45_16 5 rfl rfl [5, 6, 0, 1, 2, 3, 4] [] rfl (wr := []) rfl (by decide) rfl rfl (Nat.le_of_ble_eq_true rfl) (by decide) dX12_shown_12 (fun r w' hpo => ?_)
    refine exN_2 hpo fun F2 y3 hz => anD_6 hz fun e_r e_w hf12_b_y hf12_h_Ru2 hf12_f1 hf12_fR => ?_; clear hz hpo; subst e_r; subst e_w
    refine g_as (pc' := 15) (lv' := [(0, .ref g0), (1, .int (iI rm)), (2, .int (iI b1))]) (st' := [.int (iI y3)]) (ws' := [(g0, .inr (12, mO gA nr tm at_ to_ fa va np tn pc_ st_ pa_ ta ow of_ ot rl hb bs se)), ((gA 13), .inl (Z.2.1 0, 7, .inl (fun j => iI (Mw j)))), ((gA 2), .inl (Z.2.1 6, 7, .inr (.inr (.inr (.inr (gG 2)))))), ((gA 3), .inl (Z.2.1 6, 7, .inr (.inr (.inr (.inr (gG 3)))))), ((xA 2), .inl (Z.2.1 0, 8, .inl (fun j => iI (Mk j)))), ((xA 3), .inl (Z.2.1 0, 8, .inl (fun j => iI (Mm j)))), ((gA 57), .inl (Z.2.1 0, 8, .inl (fun j => iI (F2 j))))]) rfl rfl rfl rfl ?_
    refine g_goto (pc := 15) X 19 (by decide) dX12_shown_15 ?_
    exact g_iret (pc := 19) X hA (Or.inr (⟨F2, y3, rfl, rfl, (by omega), (hf12_h_Ru2), (by omega), (hf12_f1)⟩)) (by decide) (by decide) dX12_shown_19

set_option maxHeartbeats 4000000 in
set_option maxRecDepth 100000 in
theorem kx_X12_run_S (l : Launch) (Z : gZ) (g0 : Nat) (gA : Nat → Nat) (gG : Nat → Nat → Option Nat) (xA : Nat → Nat) (Mw : Nat → Int) (Mk : Nat → Int) (Mm : Nat → Int) (Ru : Nat → Int) (rm : Int) (b1 : Int) (b2 : Int) (nr : Int) (tm : Int) (at_ : Int) (to_ : Int) (fa : Int) (va : Int) (np : Int) (tn : Int) (pc_ : Int) (st_ : Int) (pa_ : Int) (ta : Int) (ow : Int) (of_ : Int) (ot : Int) (rl : Int) (hb : Int) (bs : Int) (se : Int) (b_rm : (-2147483648) ≤ rm ∧ rm ≤ 2147483647) (b_b1 : (-2147483648) ≤ b1 ∧ b1 ≤ 2147483647) (b_b2 : (-2147483648) ≤ b2 ∧ b2 ≤ 2147483647) (b_nr : 0 ≤ nr ∧ nr ≤ 6) (b_tm : 0 ≤ tm ∧ tm ≤ 400) (b_at_ : 0 ≤ at_ ∧ at_ ≤ 400) (b_to_ : 0 ≤ to_ ∧ to_ ≤ 400) (b_fa : (-1) ≤ fa ∧ fa ≤ 400) (b_va : (-2147483648) ≤ va ∧ va ≤ 2147483647) (b_np : 0 ≤ np ∧ np ≤ 4) (b_tn : 0 ≤ tn ∧ tn ≤ 20) (b_pc_ : 0 ≤ pc_ ∧ pc_ ≤ 480) (b_st_ : 0 ≤ st_ ∧ st_ ≤ 240) (b_pa_ : (-1) ≤ pa_ ∧ pa_ ≤ 3) (b_ta : (-2147483648) ≤ ta ∧ ta ≤ 2147483647) (b_ow : (-2147483648) ≤ ow ∧ ow ≤ 2147483647) (b_of_ : (-2147483648) ≤ of_ ∧ of_ ≤ 2147483647) (b_ot : (-2147483648) ≤ ot ∧ ot ≤ 2147483647) (b_rl : 0 ≤ rl ∧ rl ≤ 2880) (b_hb : 0 ≤ hb ∧ hb ≤ 4) (b_bs : (-2147483648) ≤ bs ∧ bs ≤ 2147483647) (b_se : 0 ≤ se ∧ se ≤ 10) (hk : 0 ≤ rm ∧ rm < nr) (hG : ∀ k, gG k rm.toNat = some (xA k)) (hwn : 1 ≤ Mw rm.toNat ∧ Mw rm.toNat ≤ 8) (h_Mw : ∀ j, j < 7 → 0 ≤ Mw j ∧ Mw j ≤ 8) (h_Mk : ∀ j, j < 8 → 0 ≤ Mk j ∧ Mk j ≤ 400) (h_Mm : ∀ j, j < 8 → (-50) ≤ Mm j ∧ Mm j ≤ 50) (h_Ru : ∀ j, j < 8 → (-2147483648) ≤ Ru j ∧ Ru j ≤ 2147483647) : Con l Z yX12_run cX12_run 5 (some .int) 3 68 0 0 [.ref g0, .int (iI rm), .int (iI b1), .int (iI b2)] [(g0, .inr (12, mO gA nr tm at_ to_ fa va np tn pc_ st_ pa_ ta ow of_ ot rl hb bs se)), ((gA 13), .inl (Z.2.1 0, 7, .inl (fun j => iI (Mw j)))), ((gA 2), .inl (Z.2.1 6, 7, .inr (.inr (.inr (.inr (gG 2)))))), ((gA 3), .inl (Z.2.1 6, 7, .inr (.inr (.inr (.inr (gG 3)))))), ((xA 2), .inl (Z.2.1 0, 8, .inl (fun j => iI (Mk j)))), ((xA 3), .inl (Z.2.1 0, 8, .inl (fun j => iI (Mm j)))), ((gA 57), .inl (Z.2.1 0, 8, .inl (fun j => iI (Ru j))))] (fun r w' => ((r = some (.int (iI (-2147483648)))) ∧ (w' = [(g0, .inr (12, mO gA nr tm at_ to_ fa va np tn pc_ st_ pa_ ta ow of_ ot rl hb bs se)), ((gA 13), .inl (Z.2.1 0, 7, .inl (fun j => iI (Mw j)))), ((gA 2), .inl (Z.2.1 6, 7, .inr (.inr (.inr (.inr (gG 2)))))), ((gA 3), .inl (Z.2.1 6, 7, .inr (.inr (.inr (.inr (gG 3)))))), ((xA 2), .inl (Z.2.1 0, 8, .inl (fun j => iI (Mk j)))), ((xA 3), .inl (Z.2.1 0, 8, .inl (fun j => iI (Mm j)))), ((gA 57), .inl (Z.2.1 0, 8, .inl (fun j => iI (Ru j))))]) ∧ (¬ ((0 ≤ b1 ∧ b1 ≤ pw2 (Mw rm.toNat - 1).toNat - 1) ∧ 0 ≤ b2 ∧ b2 < Mw rm.toNat))) ∨ (∃ (Ru2 : Nat → Int) (y : Int), (r = some (.int (iI y))) ∧ (w' = [(g0, .inr (12, mO gA nr tm at_ to_ fa va np tn pc_ st_ pa_ ta ow of_ ot rl hb bs se)), ((gA 13), .inl (Z.2.1 0, 7, .inl (fun j => iI (Mw j)))), ((gA 2), .inl (Z.2.1 6, 7, .inr (.inr (.inr (.inr (gG 2)))))), ((gA 3), .inl (Z.2.1 6, 7, .inr (.inr (.inr (.inr (gG 3)))))), ((xA 2), .inl (Z.2.1 0, 8, .inl (fun j => iI (Mk j)))), ((xA 3), .inl (Z.2.1 0, 8, .inl (fun j => iI (Mm j)))), ((gA 57), .inl (Z.2.1 0, 8, .inl (fun j => iI (Ru2 j))))]) ∧ ((-2147483648) ≤ y ∧ y ≤ 2147483647) ∧ (∀ j, j < 8 → (-2147483648) ≤ Ru2 j ∧ Ru2 j ≤ 2147483647) ∧ ((0 ≤ b1 ∧ b1 ≤ pw2 (Mw rm.toNat - 1).toNat - 1) ∧ 0 ≤ b2 ∧ b2 < Mw rm.toNat) ∧ (y = rnR Mm Mk b1 b2.toNat))) := by
  refine enter (by decide) (Nat.le_of_ble_eq_true rfl) ?_
  intro p e s m args below meth c A X hnm hA
  have X : Cx p s m args meth c cX12_run 5 (some .int) RX12 Z A := X
  refine g_as (pc' := 0) (lv' := [(0, .ref g0), (1, .int (iI rm)), (2, .int (iI b1)), (3, .int (iI b2))]) (st' := []) (ws' := [(g0, .inr (12, mO gA nr tm at_ to_ fa va np tn pc_ st_ pa_ ta ow of_ ot rl hb bs se)), ((gA 13), .inl (Z.2.1 0, 7, .inl (fun j => iI (Mw j)))), ((gA 2), .inl (Z.2.1 6, 7, .inr (.inr (.inr (.inr (gG 2)))))), ((gA 3), .inl (Z.2.1 6, 7, .inr (.inr (.inr (.inr (gG 3)))))), ((xA 2), .inl (Z.2.1 0, 8, .inl (fun j => iI (Mk j)))), ((xA 3), .inl (Z.2.1 0, 8, .inl (fun j => iI (Mm j)))), ((gA 57), .inl (Z.2.1 0, 8, .inl (fun j => iI (Ru j))))]) rfl rfl rfl rfl ?_
  refine g_aload_n (pc := 0) X 0 rfl dX12_run_0 ?_
  refine g_iload_n (pc := 1) X 1 rfl dX12_run_1 ?_
  refine g_iload_n (pc := 2) X 2 rfl dX12_run_2 ?_
  refine g_callV (pc := 3) X (kx_X12_areCuts_S l Z g0 gA Mw rm b1 nr tm at_ to_ fa va np tn pc_ st_ pa_ ta ow of_ ot rl hb bs se b_rm b_b1 b_nr b_tm b_at_ b_to_ b_fa b_va b_np b_tn b_pc_ b_st_ b_pa_ b_ta b_ow b_of_ b_ot b_rl b_hb b_bs b_se (by omega) (by omega) (h_Mw)) iM_X12_areCuts mw_45_10 mw_45_11 mw_45_12 0 rfl rfl [0, 1] [2, 3, 4, 5, 6] rfl (wr := [((gA 2), .inl (Z.2.1 6, 7, .inr (.inr (.inr (.inr (gG 2)))))), ((gA 3), .inl (Z.2.1 6, 7, .inr (.inr (.inr (.inr (gG 3)))))), ((xA 2), .inl (Z.2.1 0, 8, .inl (fun j => iI (Mk j)))), ((xA 3), .inl (Z.2.1 0, 8, .inl (fun j => iI (Mm j)))), ((gA 57), .inl (Z.2.1 0, 8, .inl (fun j => iI (Ru j))))]) rfl (by decide) rfl rfl (Nat.le_of_ble_eq_true rfl) (by decide) dX12_run_3 (fun r w' hpo => ?_)
  obtain ⟨rfl, rfl⟩ := hpo
  refine g_as (pc' := 6) (lv' := [(0, .ref g0), (1, .int (iI rm)), (2, .int (iI b1)), (3, .int (iI b2))]) (st' := [.int (iI (bI (0 ≤ b1 ∧ b1 ≤ pw2 (Mw rm.toNat - 1).toNat - 1)))]) (ws' := [((gA 2), .inl (Z.2.1 6, 7, .inr (.inr (.inr (.inr (gG 2)))))), ((gA 3), .inl (Z.2.1 6, 7, .inr (.inr (.inr (.inr (gG 3)))))), ((xA 2), .inl (Z.2.1 0, 8, .inl (fun j => iI (Mk j)))), ((xA 3), .inl (Z.2.1 0, 8, .inl (fun j => iI (Mm j)))), ((gA 57), .inl (Z.2.1 0, 8, .inl (fun j => iI (Ru j)))), (g0, .inr (12, mO gA nr tm at_ to_ fa va np tn pc_ st_ pa_ ta ow of_ ot rl hb bs se)), ((gA 13), .inl (Z.2.1 0, 7, .inl (fun j => iI (Mw j))))]) rfl rfl rfl rfl ?_
  refine g_if_eqB (pc := 6) X 27 (by decide) dX12_run_6 (fun c6 => ?_) (fun c6 => ?_)
  · refine g_ldcw (pc := 27) X mw_46_8 dX12_run_27 ?_
    refine g_lit (y := iI (-2147483648)) (by decide) ?_
    refine g_ws (ws' := [(g0, .inr (12, mO gA nr tm at_ to_ fa va np tn pc_ st_ pa_ ta ow of_ ot rl hb bs se)), ((gA 13), .inl (Z.2.1 0, 7, .inl (fun j => iI (Mw j)))), ((gA 2), .inl (Z.2.1 6, 7, .inr (.inr (.inr (.inr (gG 2)))))), ((gA 3), .inl (Z.2.1 6, 7, .inr (.inr (.inr (.inr (gG 3)))))), ((xA 2), .inl (Z.2.1 0, 8, .inl (fun j => iI (Mk j)))), ((xA 3), .inl (Z.2.1 0, 8, .inl (fun j => iI (Mm j)))), ((gA 57), .inl (Z.2.1 0, 8, .inl (fun j => iI (Ru j))))]) [5, 6, 0, 1, 2, 3, 4] (by decide) rfl ?_
    exact g_iret (pc := 30) X hA (Or.inl (⟨rfl, rfl, (by omega)⟩)) (by decide) (by decide) dX12_run_30
  · refine g_iload_n (pc := 9) X 3 rfl dX12_run_9 ?_
    refine g_i2lI (pc := 10) X b_b2 dX12_run_10 ?_
    refine g_lconst (pc := 11) X (lI 0) (by decide) dX12_run_11 ?_
    refine g_aload_n (pc := 12) X 0 rfl dX12_run_12 ?_
    refine g_get (pc := 13) X inlX12 5 rfl rfl 13 (by decide) mw_8_1 rfl dX12_run_13 ?_
    refine g_iload_n (pc := 16) X 1 rfl dX12_run_16 ?_
    refine g_ialdI (pc := 17) X 6 rfl (by omega) (by omega) (Int.le_trans b_rm.2 (by decide)) dX12_run_17 ?_
    refine g_nameI (fun y2 ey2 => ?_)
    have by2 : 0 ≤ y2 ∧ y2 ≤ 8 := by rw [ey2]; exact h_Mw _ (by omega)
    have ty2 : 1 ≤ y2 ∧ y2 ≤ 8 := by rw [ey2]; exact hwn
    refine g_iconst (pc := 18) X (iI 1) (by rfl) dX12_run_18 ?_
    refine g_isubI (pc := 19) X dX12_run_19 ?_
    refine g_i2lI (pc := 20) X ⟨by omega, by omega⟩ dX12_run_20 ?_
    refine g_callS (pc := 21) X (k_X12_in l Z b2 0 (y2 - 1) (by omega) (by decide) (by omega)) iM_X12_in mw_11_13 mw_11_14 [] [0, 1, 2, 3, 4, 5, 6] rfl (wr := [((gA 2), .inl (Z.2.1 6, 7, .inr (.inr (.inr (.inr (gG 2)))))), ((gA 3), .inl (Z.2.1 6, 7, .inr (.inr (.inr (.inr (gG 3)))))), ((xA 2), .inl (Z.2.1 0, 8, .inl (fun j => iI (Mk j)))), ((xA 3), .inl (Z.2.1 0, 8, .inl (fun j => iI (Mm j)))), ((gA 57), .inl (Z.2.1 0, 8, .inl (fun j => iI (Ru j)))), (g0, .inr (12, mO gA nr tm at_ to_ fa va np tn pc_ st_ pa_ ta ow of_ ot rl hb bs se)), ((gA 13), .inl (Z.2.1 0, 7, .inl (fun j => iI (Mw j))))]) rfl (by decide) rfl rfl (Nat.le_of_ble_eq_true rfl) (by decide) dX12_run_21 (fun r w' hpo => ?_)
    obtain ⟨rfl, rfl⟩ := hpo
    refine g_as (pc' := 24) (lv' := [(0, .ref g0), (1, .int (iI rm)), (2, .int (iI b1)), (3, .int (iI b2))]) (st' := [.int (iI (bI (0 ≤ b2 ∧ b2 ≤ (y2 - 1))))]) (ws' := [((gA 2), .inl (Z.2.1 6, 7, .inr (.inr (.inr (.inr (gG 2)))))), ((gA 3), .inl (Z.2.1 6, 7, .inr (.inr (.inr (.inr (gG 3)))))), ((xA 2), .inl (Z.2.1 0, 8, .inl (fun j => iI (Mk j)))), ((xA 3), .inl (Z.2.1 0, 8, .inl (fun j => iI (Mm j)))), ((gA 57), .inl (Z.2.1 0, 8, .inl (fun j => iI (Ru j)))), (g0, .inr (12, mO gA nr tm at_ to_ fa va np tn pc_ st_ pa_ ta ow of_ ot rl hb bs se)), ((gA 13), .inl (Z.2.1 0, 7, .inl (fun j => iI (Mw j))))]) rfl rfl rfl rfl ?_
    refine g_if_neB (pc := 24) X 31 (by decide) dX12_run_24 (fun c24 => ?_) (fun c24 => ?_)
    · refine g_aload_n (pc := 31) X 0 rfl dX12_run_31 ?_
      refine g_iload_n (pc := 32) X 1 rfl dX12_run_32 ?_
      refine g_iload_n (pc := 33) X 2 rfl dX12_run_33 ?_
      refine g_callV (pc := 34) X (kx_X12_runsOf l Z g0 gA gG xA Mw Mk Mm Ru rm b1 nr tm at_ to_ fa va np tn pc_ st_ pa_ ta ow of_ ot rl hb bs se (by omega) b_b1 b_nr b_tm b_at_ b_to_ b_fa b_va b_np b_tn b_pc_ b_st_ b_pa_ b_ta b_ow b_of_ b_ot b_rl b_hb b_bs b_se (hG) (h_Mw) (h_Mk) (h_Mm) (h_Ru)) iM_X12_runsOf mw_45_14 mw_45_15 mw_45_16 5 rfl rfl [5, 6, 0, 1, 2, 3, 4] [] rfl (wr := []) rfl (by decide) rfl rfl (Nat.le_of_ble_eq_true rfl) (by decide) dX12_run_34 (fun r w' hpo => ?_)
      refine exN_2 hpo fun F4 y5 hz => anD_6 hz fun e_r e_w hf34_b_y hf34_h_Ru2 hf34_f1 hf34_fR => ?_; clear hz hpo; subst e_r; subst e_w
      refine g_as (pc' := 37) (lv' := [(0, .ref g0), (1, .int (iI rm)), (2, .int (iI b1)), (3, .int (iI b2))]) (st' := [.int (iI y5)]) (ws' := [(g0, .inr (12, mO gA nr tm at_ to_ fa va np tn pc_ st_ pa_ ta ow of_ ot rl hb bs se)), ((gA 13), .inl (Z.2.1 0, 7, .inl (fun j => iI (Mw j)))), ((gA 2), .inl (Z.2.1 6, 7, .inr (.inr (.inr (.inr (gG 2)))))), ((gA 3), .inl (Z.2.1 6, 7, .inr (.inr (.inr (.inr (gG 3)))))), ((xA 2), .inl (Z.2.1 0, 8, .inl (fun j => iI (Mk j)))), ((xA 3), .inl (Z.2.1 0, 8, .inl (fun j => iI (Mm j)))), ((gA 57), .inl (Z.2.1 0, 8, .inl (fun j => iI (F4 j))))]) rfl rfl rfl rfl ?_
      refine g_istore (pc := 37) X (by decide) (lv' := [(4, .int (iI y5)), (0, .ref g0), (1, .int (iI rm)), (2, .int (iI b1)), (3, .int (iI b2))]) rfl dX12_run_37 ?_
      refine g_aload_n (pc := 39) X 1 rfl dX12_run_39 ?_
      refine g_get (pc := 40) X inlX12 0 rfl rfl 57 (by decide) mw_9_8 rfl dX12_run_40 ?_
      refine g_iload_n (pc := 43) X 4 rfl dX12_run_43 ?_
      refine g_ialdI (pc := 44) X 6 rfl (by omega) (by omega) (Int.le_trans b_b2.2 (by decide)) dX12_run_44 ?_
      refine g_nameI (fun y7 ey7 => ?_)
      have by7 : (-2147483648) ≤ y7 ∧ y7 ≤ 2147483647 := by rw [ey7]; exact hf34_h_Ru2 _ (by omega)
      exact g_iret (pc := 45) X hA (Or.inr (⟨F4, y7, rfl, rfl, (by7), (hf34_h_Ru2), (by omega), (by rw [ey7]; exact hf34_fR _ (by omega))⟩)) (by decide) (by decide) dX12_run_45
    · refine g_ldcw (pc := 27) X mw_46_8 dX12_run_27 ?_
      refine g_lit (y := iI (-2147483648)) (by decide) ?_
      refine g_ws (ws' := [(g0, .inr (12, mO gA nr tm at_ to_ fa va np tn pc_ st_ pa_ ta ow of_ ot rl hb bs se)), ((gA 13), .inl (Z.2.1 0, 7, .inl (fun j => iI (Mw j)))), ((gA 2), .inl (Z.2.1 6, 7, .inr (.inr (.inr (.inr (gG 2)))))), ((gA 3), .inl (Z.2.1 6, 7, .inr (.inr (.inr (.inr (gG 3)))))), ((xA 2), .inl (Z.2.1 0, 8, .inl (fun j => iI (Mk j)))), ((xA 3), .inl (Z.2.1 0, 8, .inl (fun j => iI (Mm j)))), ((gA 57), .inl (Z.2.1 0, 8, .inl (fun j => iI (Ru j))))]) [5, 6, 0, 1, 2, 3, 4] (by decide) rfl ?_
      exact g_iret (pc := 30) X hA (Or.inl (⟨rfl, rfl, (by omega)⟩)) (by decide) (by decide) dX12_run_30

set_option maxHeartbeats 4000000 in
set_option maxRecDepth 100000 in
theorem kx_X12_cuts_S (l : Launch) (Z : gZ) (g0 : Nat) (gA : Nat → Nat) (gG : Nat → Nat → Option Nat) (xA : Nat → Nat) (Mw : Nat → Int) (Mk : Nat → Int) (Mm : Nat → Int) (Ru : Nat → Int) (rm : Int) (nr : Int) (tm : Int) (at_ : Int) (to_ : Int) (fa : Int) (va : Int) (np : Int) (tn : Int) (pc_ : Int) (st_ : Int) (pa_ : Int) (ta : Int) (ow : Int) (of_ : Int) (ot : Int) (rl : Int) (hb : Int) (bs : Int) (se : Int) (b_rm : (-2147483648) ≤ rm ∧ rm ≤ 2147483647) (b_nr : 0 ≤ nr ∧ nr ≤ 6) (b_tm : 0 ≤ tm ∧ tm ≤ 400) (b_at_ : 0 ≤ at_ ∧ at_ ≤ 400) (b_to_ : 0 ≤ to_ ∧ to_ ≤ 400) (b_fa : (-1) ≤ fa ∧ fa ≤ 400) (b_va : (-2147483648) ≤ va ∧ va ≤ 2147483647) (b_np : 0 ≤ np ∧ np ≤ 4) (b_tn : 0 ≤ tn ∧ tn ≤ 20) (b_pc_ : 0 ≤ pc_ ∧ pc_ ≤ 480) (b_st_ : 0 ≤ st_ ∧ st_ ≤ 240) (b_pa_ : (-1) ≤ pa_ ∧ pa_ ≤ 3) (b_ta : (-2147483648) ≤ ta ∧ ta ≤ 2147483647) (b_ow : (-2147483648) ≤ ow ∧ ow ≤ 2147483647) (b_of_ : (-2147483648) ≤ of_ ∧ of_ ≤ 2147483647) (b_ot : (-2147483648) ≤ ot ∧ ot ≤ 2147483647) (b_rl : 0 ≤ rl ∧ rl ≤ 2880) (b_hb : 0 ≤ hb ∧ hb ≤ 4) (b_bs : (-2147483648) ≤ bs ∧ bs ≤ 2147483647) (b_se : 0 ≤ se ∧ se ≤ 10) (hk : 0 ≤ rm ∧ rm < nr) (hG : ∀ k, gG k rm.toNat = some (xA k)) (hwn : 1 ≤ Mw rm.toNat ∧ Mw rm.toNat ≤ 8) (h_Mw : ∀ j, j < 7 → 0 ≤ Mw j ∧ Mw j ≤ 8) (h_Mk : ∀ j, j < 8 → 0 ≤ Mk j ∧ Mk j ≤ 400) (h_Mm : ∀ j, j < 8 → (-50) ≤ Mm j ∧ Mm j ≤ 50) (h_Ru : ∀ j, j < 8 → (-2147483648) ≤ Ru j ∧ Ru j ≤ 2147483647) : Con l Z yX12_cuts_ cX12_cuts_ 6 (some .int) 2 49 0 0 [.ref g0, .int (iI rm)] [(g0, .inr (12, mO gA nr tm at_ to_ fa va np tn pc_ st_ pa_ ta ow of_ ot rl hb bs se)), ((gA 13), .inl (Z.2.1 0, 7, .inl (fun j => iI (Mw j)))), ((gA 2), .inl (Z.2.1 6, 7, .inr (.inr (.inr (.inr (gG 2)))))), ((gA 3), .inl (Z.2.1 6, 7, .inr (.inr (.inr (.inr (gG 3)))))), ((xA 2), .inl (Z.2.1 0, 8, .inl (fun j => iI (Mk j)))), ((xA 3), .inl (Z.2.1 0, 8, .inl (fun j => iI (Mm j)))), ((gA 57), .inl (Z.2.1 0, 8, .inl (fun j => iI (Ru j))))] (fun r w' => ∃ (Ru2 : Nat → Int) (y : Int), (r = some (.int (iI y))) ∧ (w' = [(g0, .inr (12, mO gA nr tm at_ to_ fa va np tn pc_ st_ pa_ ta ow of_ ot rl hb bs se)), ((gA 13), .inl (Z.2.1 0, 7, .inl (fun j => iI (Mw j)))), ((gA 2), .inl (Z.2.1 6, 7, .inr (.inr (.inr (.inr (gG 2)))))), ((gA 3), .inl (Z.2.1 6, 7, .inr (.inr (.inr (.inr (gG 3)))))), ((xA 2), .inl (Z.2.1 0, 8, .inl (fun j => iI (Mk j)))), ((xA 3), .inl (Z.2.1 0, 8, .inl (fun j => iI (Mm j)))), ((gA 57), .inl (Z.2.1 0, 8, .inl (fun j => iI (Ru2 j))))]) ∧ ((-2147483648) ≤ y ∧ y ≤ 2147483647) ∧ (∀ j, j < 8 → (-2147483648) ≤ Ru2 j ∧ Ru2 j ≤ 2147483647) ∧ (y = lcq (shF Mm Mk (Mw rm.toNat - 1).toNat) bcn (pw2 (Mw rm.toNat - 1).toNat).toNat)) := by
  refine enter (by decide) (Nat.le_of_ble_eq_true rfl) ?_
  intro p e s m args below meth c A X hnm hA
  have X : Cx p s m args meth c cX12_cuts_ 6 (some .int) RX12 Z A := X
  refine g_as (pc' := 0) (lv' := [(0, .ref g0), (1, .int (iI rm))]) (st' := []) (ws' := [(g0, .inr (12, mO gA nr tm at_ to_ fa va np tn pc_ st_ pa_ ta ow of_ ot rl hb bs se)), ((gA 13), .inl (Z.2.1 0, 7, .inl (fun j => iI (Mw j)))), ((gA 2), .inl (Z.2.1 6, 7, .inr (.inr (.inr (.inr (gG 2)))))), ((gA 3), .inl (Z.2.1 6, 7, .inr (.inr (.inr (.inr (gG 3)))))), ((xA 2), .inl (Z.2.1 0, 8, .inl (fun j => iI (Mk j)))), ((xA 3), .inl (Z.2.1 0, 8, .inl (fun j => iI (Mm j)))), ((gA 57), .inl (Z.2.1 0, 8, .inl (fun j => iI (Ru j))))]) rfl rfl rfl rfl ?_
  refine g_aload_n (pc := 0) X 0 rfl dX12_cuts__0 ?_
  refine g_iload_n (pc := 1) X 1 rfl dX12_cuts__1 ?_
  refine g_callV (pc := 2) X (k_X12_isRoom l Z g0 gA rm nr tm at_ to_ fa va np tn pc_ st_ pa_ ta ow of_ ot rl hb bs se b_rm b_nr b_tm b_at_ b_to_ b_fa b_va b_np b_tn b_pc_ b_st_ b_pa_ b_ta b_ow b_of_ b_ot b_rl b_hb b_bs b_se) iM_X12_isRoom mw_28_5 mw_28_6 mw_28_7 0 rfl rfl [0] [1, 2, 3, 4, 5, 6] rfl (wr := [((gA 13), .inl (Z.2.1 0, 7, .inl (fun j => iI (Mw j)))), ((gA 2), .inl (Z.2.1 6, 7, .inr (.inr (.inr (.inr (gG 2)))))), ((gA 3), .inl (Z.2.1 6, 7, .inr (.inr (.inr (.inr (gG 3)))))), ((xA 2), .inl (Z.2.1 0, 8, .inl (fun j => iI (Mk j)))), ((xA 3), .inl (Z.2.1 0, 8, .inl (fun j => iI (Mm j)))), ((gA 57), .inl (Z.2.1 0, 8, .inl (fun j => iI (Ru j))))]) rfl (by decide) rfl rfl (Nat.le_of_ble_eq_true rfl) (by decide) dX12_cuts__2 (fun r w' hpo => ?_)
  obtain ⟨rfl, rfl⟩ := hpo
  refine g_as (pc' := 5) (lv' := [(0, .ref g0), (1, .int (iI rm))]) (st' := [.int (iI (bI (0 ≤ rm ∧ rm ≤ nr - 1)))]) (ws' := [((gA 13), .inl (Z.2.1 0, 7, .inl (fun j => iI (Mw j)))), ((gA 2), .inl (Z.2.1 6, 7, .inr (.inr (.inr (.inr (gG 2)))))), ((gA 3), .inl (Z.2.1 6, 7, .inr (.inr (.inr (.inr (gG 3)))))), ((xA 2), .inl (Z.2.1 0, 8, .inl (fun j => iI (Mk j)))), ((xA 3), .inl (Z.2.1 0, 8, .inl (fun j => iI (Mm j)))), ((gA 57), .inl (Z.2.1 0, 8, .inl (fun j => iI (Ru j)))), (g0, .inr (12, mO gA nr tm at_ to_ fa va np tn pc_ st_ pa_ ta ow of_ ot rl hb bs se))]) rfl rfl rfl rfl ?_
  refine g_if_neB (pc := 5) X 10 (by decide) dX12_cuts__5 (fun c5 => ?_) (fun h => absurd h (by omega))
  refine g_iconst (pc := 10) X (iI 0) (by rfl) dX12_cuts__10 ?_
  refine g_istore_n (pc := 11) X (i := 2) rfl (by decide) (lv' := [(2, .int (iI 0)), (0, .ref g0), (1, .int (iI rm))]) rfl dX12_cuts__11 ?_
  refine g_aload_n (pc := 12) X 1 rfl dX12_cuts__12 ?_
  refine g_iload_n (pc := 13) X 2 rfl dX12_cuts__13 ?_
  refine g_iconst (pc := 14) X (iI 0) (by rfl) dX12_cuts__14 ?_
  refine g_callV (pc := 15) X (kx_X12_runsOf l Z g0 gA gG xA Mw Mk Mm Ru rm 0 nr tm at_ to_ fa va np tn pc_ st_ pa_ ta ow of_ ot rl hb bs se (by omega) (by decide) b_nr b_tm b_at_ b_to_ b_fa b_va b_np b_tn b_pc_ b_st_ b_pa_ b_ta b_ow b_of_ b_ot b_rl b_hb b_bs b_se (hG) (h_Mw) (h_Mk) (h_Mm) (h_Ru)) iM_X12_runsOf mw_45_14 mw_45_15 mw_45_16 6 rfl rfl [6, 0, 1, 2, 3, 4, 5] [] rfl (wr := []) rfl (by decide) rfl rfl (Nat.le_of_ble_eq_true rfl) (by decide) dX12_cuts__15 (fun r w' hpo => ?_)
  refine exN_2 hpo fun F2 y3 hz => anD_6 hz fun e_r e_w hf15_b_y hf15_h_Ru2 hf15_f1 hf15_fR => ?_; clear hz hpo; subst e_r; subst e_w
  refine g_as (pc' := 18) (lv' := [(2, .int (iI 0)), (0, .ref g0), (1, .int (iI rm))]) (st' := [.int (iI y3)]) (ws' := [(g0, .inr (12, mO gA nr tm at_ to_ fa va np tn pc_ st_ pa_ ta ow of_ ot rl hb bs se)), ((gA 13), .inl (Z.2.1 0, 7, .inl (fun j => iI (Mw j)))), ((gA 2), .inl (Z.2.1 6, 7, .inr (.inr (.inr (.inr (gG 2)))))), ((gA 3), .inl (Z.2.1 6, 7, .inr (.inr (.inr (.inr (gG 3)))))), ((xA 2), .inl (Z.2.1 0, 8, .inl (fun j => iI (Mk j)))), ((xA 3), .inl (Z.2.1 0, 8, .inl (fun j => iI (Mm j)))), ((gA 57), .inl (Z.2.1 0, 8, .inl (fun j => iI (F2 j))))]) rfl rfl rfl rfl ?_
  refine g_istore_n (pc := 18) X (i := 3) rfl (by decide) (lv' := [(3, .int (iI y3)), (2, .int (iI 0)), (0, .ref g0), (1, .int (iI rm))]) rfl dX12_cuts__18 ?_
  refine g_iconst (pc := 19) X (iI 1) (by rfl) dX12_cuts__19 ?_
  refine g_istore (pc := 20) X (by decide) (lv' := [(4, .int (iI 1)), (3, .int (iI y3)), (2, .int (iI 0)), (0, .ref g0), (1, .int (iI rm))]) rfl dX12_cuts__20 ?_
  have loop22 : ∀ (fuel : Nat) (be : Int) (le : Int) (h1 : Int) (Ru3 : Nat → Int), (0 ≤ be ∧ be ≤ 128) → (0 ≤ le ∧ le ≤ 100000) → (1 ≤ h1 ∧ h1 ≤ 128) → (∀ j, j < 8 → (-2147483648) ≤ Ru3 j ∧ Ru3 j ≤ 2147483647) → (h1 ≤ pw2 (Mw rm.toNat - 1).toNat) → (be = lcq (shF Mm Mk (Mw rm.toNat - 1).toNat) bcn h1.toNat) → (le = shF Mm Mk (Mw rm.toNat - 1).toNat be) → (129 - h1).toNat < fuel → Gs p l e ({ frames := 2, cells := 0, slots := 0, locals := 49 } : Room) s m args below meth c (MQ below (gPost Z [(g0, .inr (12, mO gA nr tm at_ to_ fa va np tn pc_ st_ pa_ ta ow of_ ot rl hb bs se)), ((gA 13), .inl (Z.2.1 0, 7, .inl (fun j => iI (Mw j)))), ((gA 2), .inl (Z.2.1 6, 7, .inr (.inr (.inr (.inr (gG 2)))))), ((gA 3), .inl (Z.2.1 6, 7, .inr (.inr (.inr (.inr (gG 3)))))), ((xA 2), .inl (Z.2.1 0, 8, .inl (fun j => iI (Mk j)))), ((xA 3), .inl (Z.2.1 0, 8, .inl (fun j => iI (Mm j)))), ((gA 57), .inl (Z.2.1 0, 8, .inl (fun j => iI (Ru j))))] s.heap.size (fun r w' => ∃ (Ru2 : Nat → Int) (y : Int), (r = some (.int (iI y))) ∧ (w' = [(g0, .inr (12, mO gA nr tm at_ to_ fa va np tn pc_ st_ pa_ ta ow of_ ot rl hb bs se)), ((gA 13), .inl (Z.2.1 0, 7, .inl (fun j => iI (Mw j)))), ((gA 2), .inl (Z.2.1 6, 7, .inr (.inr (.inr (.inr (gG 2)))))), ((gA 3), .inl (Z.2.1 6, 7, .inr (.inr (.inr (.inr (gG 3)))))), ((xA 2), .inl (Z.2.1 0, 8, .inl (fun j => iI (Mk j)))), ((xA 3), .inl (Z.2.1 0, 8, .inl (fun j => iI (Mm j)))), ((gA 57), .inl (Z.2.1 0, 8, .inl (fun j => iI (Ru2 j))))]) ∧ ((-2147483648) ≤ y ∧ y ≤ 2147483647) ∧ (∀ j, j < 8 → (-2147483648) ≤ Ru2 j ∧ Ru2 j ≤ 2147483647) ∧ (y = lcq (shF Mm Mk (Mw rm.toNat - 1).toNat) bcn (pw2 (Mw rm.toNat - 1).toNat).toNat))) args s 0 0 (va_A [(g0, .inr (12, mO gA nr tm at_ to_ fa va np tn pc_ st_ pa_ ta ow of_ ot rl hb bs se)), ((gA 13), .inl (Z.2.1 0, 7, .inl (fun j => iI (Mw j)))), ((gA 2), .inl (Z.2.1 6, 7, .inr (.inr (.inr (.inr (gG 2)))))), ((gA 3), .inl (Z.2.1 6, 7, .inr (.inr (.inr (.inr (gG 3)))))), ((xA 2), .inl (Z.2.1 0, 8, .inl (fun j => iI (Mk j)))), ((xA 3), .inl (Z.2.1 0, 8, .inl (fun j => iI (Mm j)))), ((gA 57), .inl (Z.2.1 0, 8, .inl (fun j => iI (Ru j))))] s.heap.size)) Z A 6 0 0 22 [(4, .int (iI h1)), (3, .int (iI le)), (2, .int (iI be)), (0, .ref g0), (1, .int (iI rm))] [] [(g0, .inr (12, mO gA nr tm at_ to_ fa va np tn pc_ st_ pa_ ta ow of_ ot rl hb bs se)), ((gA 13), .inl (Z.2.1 0, 7, .inl (fun j => iI (Mw j)))), ((gA 2), .inl (Z.2.1 6, 7, .inr (.inr (.inr (.inr (gG 2)))))), ((gA 3), .inl (Z.2.1 6, 7, .inr (.inr (.inr (.inr (gG 3)))))), ((xA 2), .inl (Z.2.1 0, 8, .inl (fun j => iI (Mk j)))), ((xA 3), .inl (Z.2.1 0, 8, .inl (fun j => iI (Mm j)))), ((gA 57), .inl (Z.2.1 0, 8, .inl (fun j => iI (Ru3 j))))] := by
    intro fuel
    induction fuel with
    | zero => intro be le h1 Ru3 _ _ _ _ _ _ _ hm; exact absurd hm (Nat.not_lt_zero _)
    | succ fuel ih =>
      intro be le h1 Ru3 b_be b_le b_h1 h_Ru3 ivh ivl ivs hm
      refine g_iload (pc := 22) X 0 rfl dX12_cuts__22 ?_
      refine g_iconst (pc := 24) X (iI 1) (by rfl) dX12_cuts__24 ?_
      refine g_aload_n (pc := 25) X 3 rfl dX12_cuts__25 ?_
      refine g_get (pc := 26) X inlX12 0 rfl rfl 13 (by decide) mw_8_1 rfl dX12_cuts__26 ?_
      refine g_iload_n (pc := 29) X 4 rfl dX12_cuts__29 ?_
      refine g_ialdI (pc := 30) X 1 rfl (by omega) (by omega) (Int.le_trans b_rm.2 (by decide)) dX12_cuts__30 ?_
      refine g_nameI (fun y5 ey5 => ?_)
      have by5 : 0 ≤ y5 ∧ y5 ≤ 8 := by rw [ey5]; exact h_Mw _ (by omega)
      have ty5 : 1 ≤ y5 ∧ y5 ≤ 8 := by rw [ey5]; exact hwn
      refine g_iconst (pc := 31) X (iI 1) (by rfl) dX12_cuts__31 ?_
      refine g_isubI (pc := 32) X dX12_cuts__32 ?_
      refine g_shl1 (pc := 33) X (by omega) (by omega) dX12_cuts__33 (fun y6 ey6 => ?_)
      have by6 : 1 ≤ y6 ∧ y6 ≤ 128 := pow2B 7 (by decide) (by omega) (by omega) ey6
      have pw_y6 : y6 = pw2 (Mw rm.toNat - 1).toNat := by rw [ey6, ey5]; rfl
      refine g_icmp_geI (pc := 34) X 85 (by decide) (inRb b_h1 (by decide) (by decide)) ⟨by omega, by omega⟩ dX12_cuts__34 (fun c34 => ?_) (fun c34 => ?_)
      · refine g_iload_n (pc := 85) X 2 rfl dX12_cuts__85 ?_
        exact g_iret (pc := 86) X hA (⟨Ru3, be, rfl, rfl, (by omega), (h_Ru3), (by rw [show (pw2 (Mw rm.toNat - 1).toNat).toNat = h1.toNat by omega]; exact ivl)⟩) (by decide) (by decide) dX12_cuts__86
      · refine g_aload_n (pc := 37) X 3 rfl dX12_cuts__37 ?_
        refine g_iload_n (pc := 38) X 4 rfl dX12_cuts__38 ?_
        refine g_iload (pc := 39) X 0 rfl dX12_cuts__39 ?_
        refine g_callV (pc := 41) X (kx_X12_runsOf l Z g0 gA gG xA Mw Mk Mm Ru3 rm h1 nr tm at_ to_ fa va np tn pc_ st_ pa_ ta ow of_ ot rl hb bs se (by omega) (by omega) b_nr b_tm b_at_ b_to_ b_fa b_va b_np b_tn b_pc_ b_st_ b_pa_ b_ta b_ow b_of_ b_ot b_rl b_hb b_bs b_se (hG) (h_Mw) (h_Mk) (h_Mm) (h_Ru3)) iM_X12_runsOf mw_45_14 mw_45_15 mw_45_16 0 rfl rfl [0, 1, 2, 3, 4, 5, 6] [] rfl (wr := []) rfl (by decide) rfl rfl (Nat.le_of_ble_eq_true rfl) (by decide) dX12_cuts__41 (fun r w' hpo => ?_)
        refine exN_2 hpo fun F7 y8 hz => anD_6 hz fun e_r e_w hf41_b_y hf41_h_Ru2 hf41_f1 hf41_fR => ?_; clear hz hpo; subst e_r; subst e_w
        refine g_as (pc' := 44) (lv' := [(4, .int (iI h1)), (3, .int (iI le)), (2, .int (iI be)), (0, .ref g0), (1, .int (iI rm))]) (st' := [.int (iI y8)]) (ws' := [(g0, .inr (12, mO gA nr tm at_ to_ fa va np tn pc_ st_ pa_ ta ow of_ ot rl hb bs se)), ((gA 13), .inl (Z.2.1 0, 7, .inl (fun j => iI (Mw j)))), ((gA 2), .inl (Z.2.1 6, 7, .inr (.inr (.inr (.inr (gG 2)))))), ((gA 3), .inl (Z.2.1 6, 7, .inr (.inr (.inr (.inr (gG 3)))))), ((xA 2), .inl (Z.2.1 0, 8, .inl (fun j => iI (Mk j)))), ((xA 3), .inl (Z.2.1 0, 8, .inl (fun j => iI (Mm j)))), ((gA 57), .inl (Z.2.1 0, 8, .inl (fun j => iI (F7 j))))]) rfl rfl rfl rfl ?_
        refine g_istore (pc := 44) X (by decide) (lv' := [(5, .int (iI y8)), (4, .int (iI h1)), (3, .int (iI le)), (2, .int (iI be)), (0, .ref g0), (1, .int (iI rm))]) rfl dX12_cuts__44 ?_
        refine g_iload (pc := 46) X 0 rfl dX12_cuts__46 ?_
        refine g_iload_n (pc := 48) X 2 rfl dX12_cuts__48 ?_
        refine g_icmp_gtI (pc := 49) X 79 (by decide) (inRb hf41_b_y (by decide) (by decide)) (inRb b_le (by decide) (by decide)) dX12_cuts__49 (fun c49 => ?_) (fun c49 => ?_)
        · refine g_iincI (pc := 79) X 1 rfl (by decide) (lv' := [(4, .int (iI (h1 + 1))), (5, .int (iI y8)), (3, .int (iI le)), (2, .int (iI be)), (0, .ref g0), (1, .int (iI rm))]) rfl dX12_cuts__79 ?_
          refine g_goto (pc := 82) X 22 (by decide) dX12_cuts__82 ?_
          refine g_lv (lv' := [(4, .int (iI (h1 + 1))), (3, .int (iI le)), (2, .int (iI be)), (0, .ref g0), (1, .int (iI rm))]) [0, 2, 3, 4, 5] rfl ?_
          exact ih be le (h1 + 1) F7 (b_be) (b_le) (by omega) (hf41_h_Ru2) (by omega) (by rw [lcq_s (by omega), ← ivl, if_neg (by omega)]) (ivs) (by omega)
        · refine g_iload (pc := 52) X 0 rfl dX12_cuts__52 ?_
          refine g_iload_n (pc := 54) X 2 rfl dX12_cuts__54 ?_
          refine g_icmp_neI (pc := 55) X 73 (by decide) (inRb hf41_b_y (by decide) (by decide)) (inRb b_le (by decide) (by decide)) dX12_cuts__55 (fun c55 => ?_) (fun c55 => ?_)
          · refine g_iload (pc := 73) X 1 rfl dX12_cuts__73 ?_
            refine g_istore_n (pc := 75) X (i := 2) rfl (by decide) (lv' := [(2, .int (iI h1)), (5, .int (iI y8)), (4, .int (iI h1)), (3, .int (iI le)), (0, .ref g0), (1, .int (iI rm))]) rfl dX12_cuts__75 ?_
            refine g_iload (pc := 76) X 1 rfl dX12_cuts__76 ?_
            refine g_istore_n (pc := 78) X (i := 3) rfl (by decide) (lv' := [(3, .int (iI y8)), (2, .int (iI h1)), (5, .int (iI y8)), (4, .int (iI h1)), (0, .ref g0), (1, .int (iI rm))]) rfl dX12_cuts__78 ?_
            refine g_iincI (pc := 79) X 3 rfl (by decide) (lv' := [(4, .int (iI (h1 + 1))), (3, .int (iI y8)), (2, .int (iI h1)), (5, .int (iI y8)), (0, .ref g0), (1, .int (iI rm))]) rfl dX12_cuts__79 ?_
            refine g_goto (pc := 82) X 22 (by decide) dX12_cuts__82 ?_
            refine g_lv (lv' := [(4, .int (iI (h1 + 1))), (3, .int (iI y8)), (2, .int (iI h1)), (0, .ref g0), (1, .int (iI rm))]) [0, 1, 2, 4, 5] rfl ?_
            exact ih h1 y8 (h1 + 1) F7 (by omega) (hf41_b_y) (by omega) (hf41_h_Ru2) (by omega) (by rw [lcq_s (by omega), ← ivl, if_pos (by omega)]) (hf41_f1) (by omega)
          · refine g_iload (pc := 58) X 1 rfl dX12_cuts__58 ?_
            refine g_callS (pc := 60) X (kx_bitCount l Z h1 (by omega)) iM_J6_bitCount_0f7a4 mw_43_0 mw_41_17 [] [0, 1, 2, 3, 4, 5, 6] rfl (wr := [(g0, .inr (12, mO gA nr tm at_ to_ fa va np tn pc_ st_ pa_ ta ow of_ ot rl hb bs se)), ((gA 13), .inl (Z.2.1 0, 7, .inl (fun j => iI (Mw j)))), ((gA 2), .inl (Z.2.1 6, 7, .inr (.inr (.inr (.inr (gG 2)))))), ((gA 3), .inl (Z.2.1 6, 7, .inr (.inr (.inr (.inr (gG 3)))))), ((xA 2), .inl (Z.2.1 0, 8, .inl (fun j => iI (Mk j)))), ((xA 3), .inl (Z.2.1 0, 8, .inl (fun j => iI (Mm j)))), ((gA 57), .inl (Z.2.1 0, 8, .inl (fun j => iI (F7 j))))]) rfl (by decide) rfl rfl (Nat.le_of_ble_eq_true rfl) (by decide) dX12_cuts__60 (fun r w' hpo => ?_)
            refine exN_1 hpo fun y10 hz => anD_4 hz fun e_r e_w hf60_b_y hf60_f1 => ?_; clear hz hpo; subst e_r; subst e_w
            refine g_as (pc' := 63) (lv' := [(5, .int (iI y8)), (4, .int (iI h1)), (3, .int (iI le)), (2, .int (iI be)), (0, .ref g0), (1, .int (iI rm))]) (st' := [.int (iI y10)]) (ws' := [(g0, .inr (12, mO gA nr tm at_ to_ fa va np tn pc_ st_ pa_ ta ow of_ ot rl hb bs se)), ((gA 13), .inl (Z.2.1 0, 7, .inl (fun j => iI (Mw j)))), ((gA 2), .inl (Z.2.1 6, 7, .inr (.inr (.inr (.inr (gG 2)))))), ((gA 3), .inl (Z.2.1 6, 7, .inr (.inr (.inr (.inr (gG 3)))))), ((xA 2), .inl (Z.2.1 0, 8, .inl (fun j => iI (Mk j)))), ((xA 3), .inl (Z.2.1 0, 8, .inl (fun j => iI (Mm j)))), ((gA 57), .inl (Z.2.1 0, 8, .inl (fun j => iI (F7 j))))]) rfl rfl rfl rfl ?_
            refine g_iload_n (pc := 63) X 3 rfl dX12_cuts__63 ?_
            refine g_callS (pc := 64) X (kx_bitCount l Z be (by omega)) iM_J6_bitCount_0f7a4 mw_43_0 mw_41_17 [] [0, 1, 2, 3, 4, 5, 6] rfl (wr := [(g0, .inr (12, mO gA nr tm at_ to_ fa va np tn pc_ st_ pa_ ta ow of_ ot rl hb bs se)), ((gA 13), .inl (Z.2.1 0, 7, .inl (fun j => iI (Mw j)))), ((gA 2), .inl (Z.2.1 6, 7, .inr (.inr (.inr (.inr (gG 2)))))), ((gA 3), .inl (Z.2.1 6, 7, .inr (.inr (.inr (.inr (gG 3)))))), ((xA 2), .inl (Z.2.1 0, 8, .inl (fun j => iI (Mk j)))), ((xA 3), .inl (Z.2.1 0, 8, .inl (fun j => iI (Mm j)))), ((gA 57), .inl (Z.2.1 0, 8, .inl (fun j => iI (F7 j))))]) rfl (by decide) rfl rfl (Nat.le_of_ble_eq_true rfl) (by decide) dX12_cuts__64 (fun r w' hpo => ?_)
            refine exN_1 hpo fun y12 hz => anD_4 hz fun e_r e_w hf64_b_y hf64_f1 => ?_; clear hz hpo; subst e_r; subst e_w
            refine g_as (pc' := 67) (lv' := [(5, .int (iI y8)), (4, .int (iI h1)), (3, .int (iI le)), (2, .int (iI be)), (0, .ref g0), (1, .int (iI rm))]) (st' := [.int (iI y12), .int (iI y10)]) (ws' := [(g0, .inr (12, mO gA nr tm at_ to_ fa va np tn pc_ st_ pa_ ta ow of_ ot rl hb bs se)), ((gA 13), .inl (Z.2.1 0, 7, .inl (fun j => iI (Mw j)))), ((gA 2), .inl (Z.2.1 6, 7, .inr (.inr (.inr (.inr (gG 2)))))), ((gA 3), .inl (Z.2.1 6, 7, .inr (.inr (.inr (.inr (gG 3)))))), ((xA 2), .inl (Z.2.1 0, 8, .inl (fun j => iI (Mk j)))), ((xA 3), .inl (Z.2.1 0, 8, .inl (fun j => iI (Mm j)))), ((gA 57), .inl (Z.2.1 0, 8, .inl (fun j => iI (F7 j))))]) rfl rfl rfl rfl ?_
            refine g_icmp_ltI (pc := 67) X 73 (by decide) (inRb hf60_b_y (by decide) (by decide)) (inRb hf64_b_y (by decide) (by decide)) dX12_cuts__67 (fun c67 => ?_) (fun c67 => ?_)
            · refine g_iload (pc := 73) X 1 rfl dX12_cuts__73 ?_
              refine g_istore_n (pc := 75) X (i := 2) rfl (by decide) (lv' := [(2, .int (iI h1)), (5, .int (iI y8)), (4, .int (iI h1)), (3, .int (iI le)), (0, .ref g0), (1, .int (iI rm))]) rfl dX12_cuts__75 ?_
              refine g_iload (pc := 76) X 1 rfl dX12_cuts__76 ?_
              refine g_istore_n (pc := 78) X (i := 3) rfl (by decide) (lv' := [(3, .int (iI y8)), (2, .int (iI h1)), (5, .int (iI y8)), (4, .int (iI h1)), (0, .ref g0), (1, .int (iI rm))]) rfl dX12_cuts__78 ?_
              refine g_iincI (pc := 79) X 3 rfl (by decide) (lv' := [(4, .int (iI (h1 + 1))), (3, .int (iI y8)), (2, .int (iI h1)), (5, .int (iI y8)), (0, .ref g0), (1, .int (iI rm))]) rfl dX12_cuts__79 ?_
              refine g_goto (pc := 82) X 22 (by decide) dX12_cuts__82 ?_
              refine g_lv (lv' := [(4, .int (iI (h1 + 1))), (3, .int (iI y8)), (2, .int (iI h1)), (0, .ref g0), (1, .int (iI rm))]) [0, 1, 2, 4, 5] rfl ?_
              exact ih h1 y8 (h1 + 1) F7 (by omega) (hf41_b_y) (by omega) (hf41_h_Ru2) (by omega) (by rw [lcq_s (by omega), ← ivl, if_pos (by omega)]) (hf41_f1) (by omega)
            · refine g_goto (pc := 70) X 79 (by decide) dX12_cuts__70 ?_
              refine g_iincI (pc := 79) X 1 rfl (by decide) (lv' := [(4, .int (iI (h1 + 1))), (5, .int (iI y8)), (3, .int (iI le)), (2, .int (iI be)), (0, .ref g0), (1, .int (iI rm))]) rfl dX12_cuts__79 ?_
              refine g_goto (pc := 82) X 22 (by decide) dX12_cuts__82 ?_
              refine g_lv (lv' := [(4, .int (iI (h1 + 1))), (3, .int (iI le)), (2, .int (iI be)), (0, .ref g0), (1, .int (iI rm))]) [0, 2, 3, 4, 5] rfl ?_
              exact ih be le (h1 + 1) F7 (b_be) (b_le) (by omega) (hf41_h_Ru2) (by omega) (by rw [lcq_s (by omega), ← ivl, if_neg (by omega)]) (ivs) (by omega)
  exact loop22 _ 0 y3 1 F2 (by omega) (hf15_b_y) (by omega) (hf15_h_Ru2) (pw2_1 _) (lcq_1.symm) (hf15_f1) (Nat.lt_succ_self _)

set_option maxHeartbeats 4000000 in
set_option maxRecDepth 100000 in
theorem kx_X12_border_S (l : Launch) (Z : gZ) (g0 : Nat) (gA : Nat → Nat) (gG : Nat → Nat → Option Nat) (xA : Nat → Nat) (Mr : Nat → Int) (Mo : Nat → Int) (Mof : Nat → Int) (Mot : Nat → Int) (Moh : Nat → Int) (Md : Nat → Int) (rm : Int) (b1 : Int) (b2 : Int) (nr : Int) (tm : Int) (at_ : Int) (to_ : Int) (fa : Int) (va : Int) (np : Int) (tn : Int) (pc_ : Int) (st_ : Int) (pa_ : Int) (ta : Int) (ow : Int) (of_ : Int) (ot : Int) (rl : Int) (hb : Int) (bs : Int) (se : Int) (b_rm : (-2147483648) ≤ rm ∧ rm ≤ 2147483647) (b_b1 : (-2147483648) ≤ b1 ∧ b1 ≤ 2147483647) (b_b2 : (-2147483648) ≤ b2 ∧ b2 ≤ 2147483647) (b_nr : 0 ≤ nr ∧ nr ≤ 6) (b_tm : 0 ≤ tm ∧ tm ≤ 400) (b_at_ : 0 ≤ at_ ∧ at_ ≤ 400) (b_to_ : 0 ≤ to_ ∧ to_ ≤ 400) (b_fa : (-1) ≤ fa ∧ fa ≤ 400) (b_va : (-2147483648) ≤ va ∧ va ≤ 2147483647) (b_np : 0 ≤ np ∧ np ≤ 4) (b_tn : 0 ≤ tn ∧ tn ≤ 20) (b_pc_ : 0 ≤ pc_ ∧ pc_ ≤ 480) (b_st_ : 0 ≤ st_ ∧ st_ ≤ 240) (b_pa_ : (-1) ≤ pa_ ∧ pa_ ≤ 3) (b_ta : (-2147483648) ≤ ta ∧ ta ≤ 2147483647) (b_ow : (-2147483648) ≤ ow ∧ ow ≤ 2147483647) (b_of_ : (-2147483648) ≤ of_ ∧ of_ ≤ 2147483647) (b_ot : (-2147483648) ≤ ot ∧ ot ≤ 2147483647) (b_rl : 0 ≤ rl ∧ rl ≤ 2880) (b_hb : 0 ≤ hb ∧ hb ≤ 4) (b_bs : (-2147483648) ≤ bs ∧ bs ≤ 2147483647) (b_se : 0 ≤ se ∧ se ≤ 10) (hk : 0 ≤ rm ∧ rm < nr) (hG : ∀ k, gG k rm.toNat = some (xA k)) (h_Mr : ∀ j, j < 7 → 0 ≤ Mr j ∧ Mr j ≤ 4800) (h_Mo : ∀ j, j < 7 → 0 ≤ Mo j ∧ Mo j ≤ 8) (h_Mof : ∀ j, j < 8 → 0 ≤ Mof j ∧ Mof j ≤ 600) (h_Mot : ∀ j, j < 8 → 0 ≤ Mot j ∧ Mot j ≤ 600) (h_Moh : ∀ j, j < 8 → 0 ≤ Moh j ∧ Moh j ≤ 400) (h_Md : ∀ j, j < 8 → 0 ≤ Md j ∧ Md j ≤ 1) : Con l Z yX12_border cX12_border 6 (some .int) 2 46 0 0 [.ref g0, .int (iI rm), .int (iI b1), .int (iI b2)] [(g0, .inr (12, mO gA nr tm at_ to_ fa va np tn pc_ st_ pa_ ta ow of_ ot rl hb bs se)), ((gA 17), .inl (Z.2.1 0, 7, .inl (fun j => iI (Mr j)))), ((gA 14), .inl (Z.2.1 0, 7, .inl (fun j => iI (Mo j)))), ((gA 5), .inl (Z.2.1 6, 7, .inr (.inr (.inr (.inr (gG 5)))))), ((gA 6), .inl (Z.2.1 6, 7, .inr (.inr (.inr (.inr (gG 6)))))), ((gA 8), .inl (Z.2.1 6, 7, .inr (.inr (.inr (.inr (gG 8)))))), ((gA 9), .inl (Z.2.1 6, 7, .inr (.inr (.inr (.inr (gG 9)))))), ((xA 5), .inl (Z.2.1 0, 8, .inl (fun j => iI (Mof j)))), ((xA 6), .inl (Z.2.1 0, 8, .inl (fun j => iI (Mot j)))), ((xA 8), .inl (Z.2.1 0, 8, .inl (fun j => iI (Moh j)))), ((xA 9), .inl (Z.2.1 0, 8, .inl (fun j => iI (Md j))))] (fun r w' => ((r = some (.int (iI (-1)))) ∧ (w' = [(g0, .inr (12, mO gA nr tm at_ to_ fa va np tn pc_ st_ pa_ ta ow of_ ot rl hb bs se)), ((gA 17), .inl (Z.2.1 0, 7, .inl (fun j => iI (Mr j)))), ((gA 14), .inl (Z.2.1 0, 7, .inl (fun j => iI (Mo j)))), ((gA 5), .inl (Z.2.1 6, 7, .inr (.inr (.inr (.inr (gG 5)))))), ((gA 6), .inl (Z.2.1 6, 7, .inr (.inr (.inr (.inr (gG 6)))))), ((gA 8), .inl (Z.2.1 6, 7, .inr (.inr (.inr (.inr (gG 8)))))), ((gA 9), .inl (Z.2.1 6, 7, .inr (.inr (.inr (.inr (gG 9)))))), ((xA 5), .inl (Z.2.1 0, 8, .inl (fun j => iI (Mof j)))), ((xA 6), .inl (Z.2.1 0, 8, .inl (fun j => iI (Mot j)))), ((xA 8), .inl (Z.2.1 0, 8, .inl (fun j => iI (Moh j)))), ((xA 9), .inl (Z.2.1 0, 8, .inl (fun j => iI (Md j))))]) ∧ (¬ (0 ≤ b1 ∧ b1 ≤ 400 ∧ 50 ≤ b2 ∧ b2 ≤ 2000))) ∨ (∃ (y : Int), (r = some (.int (iI y))) ∧ (w' = [(g0, .inr (12, mO gA nr tm at_ to_ fa va np tn pc_ st_ pa_ ta ow of_ ot rl hb bs se)), ((gA 17), .inl (Z.2.1 0, 7, .inl (fun j => iI (Mr j)))), ((gA 14), .inl (Z.2.1 0, 7, .inl (fun j => iI (Mo j)))), ((gA 5), .inl (Z.2.1 6, 7, .inr (.inr (.inr (.inr (gG 5)))))), ((gA 6), .inl (Z.2.1 6, 7, .inr (.inr (.inr (.inr (gG 6)))))), ((gA 8), .inl (Z.2.1 6, 7, .inr (.inr (.inr (.inr (gG 8)))))), ((gA 9), .inl (Z.2.1 6, 7, .inr (.inr (.inr (.inr (gG 9)))))), ((xA 5), .inl (Z.2.1 0, 8, .inl (fun j => iI (Mof j)))), ((xA 6), .inl (Z.2.1 0, 8, .inl (fun j => iI (Mot j)))), ((xA 8), .inl (Z.2.1 0, 8, .inl (fun j => iI (Moh j)))), ((xA 9), .inl (Z.2.1 0, 8, .inl (fun j => iI (Md j))))]) ∧ ((-2147483648) ≤ y ∧ y ≤ 2147483647) ∧ (0 ≤ b1 ∧ b1 ≤ 400 ∧ 50 ≤ b2 ∧ b2 ≤ 2000) ∧ (y = ((if 0 ≤ Mr rm.toNat - dsm Mof Mot Moh Md b1 (Mo rm.toNat).toNat then Mr rm.toNat - dsm Mof Mot Moh Md b1 (Mo rm.toNat).toNat else 0) + b2 - 1) / b2))) := by
  refine enter (by decide) (Nat.le_of_ble_eq_true rfl) ?_
  intro p e s m args below meth c A X hnm hA
  have X : Cx p s m args meth c cX12_border 6 (some .int) RX12 Z A := X
  refine g_as (pc' := 0) (lv' := [(0, .ref g0), (1, .int (iI rm)), (2, .int (iI b1)), (3, .int (iI b2))]) (st' := []) (ws' := [(g0, .inr (12, mO gA nr tm at_ to_ fa va np tn pc_ st_ pa_ ta ow of_ ot rl hb bs se)), ((gA 17), .inl (Z.2.1 0, 7, .inl (fun j => iI (Mr j)))), ((gA 14), .inl (Z.2.1 0, 7, .inl (fun j => iI (Mo j)))), ((gA 5), .inl (Z.2.1 6, 7, .inr (.inr (.inr (.inr (gG 5)))))), ((gA 6), .inl (Z.2.1 6, 7, .inr (.inr (.inr (.inr (gG 6)))))), ((gA 8), .inl (Z.2.1 6, 7, .inr (.inr (.inr (.inr (gG 8)))))), ((gA 9), .inl (Z.2.1 6, 7, .inr (.inr (.inr (.inr (gG 9)))))), ((xA 5), .inl (Z.2.1 0, 8, .inl (fun j => iI (Mof j)))), ((xA 6), .inl (Z.2.1 0, 8, .inl (fun j => iI (Mot j)))), ((xA 8), .inl (Z.2.1 0, 8, .inl (fun j => iI (Moh j)))), ((xA 9), .inl (Z.2.1 0, 8, .inl (fun j => iI (Md j))))]) rfl rfl rfl rfl ?_
  refine g_aload_n (pc := 0) X 0 rfl dX12_border_0 ?_
  refine g_iload_n (pc := 1) X 1 rfl dX12_border_1 ?_
  refine g_callV (pc := 2) X (k_X12_isRoom l Z g0 gA rm nr tm at_ to_ fa va np tn pc_ st_ pa_ ta ow of_ ot rl hb bs se b_rm b_nr b_tm b_at_ b_to_ b_fa b_va b_np b_tn b_pc_ b_st_ b_pa_ b_ta b_ow b_of_ b_ot b_rl b_hb b_bs b_se) iM_X12_isRoom mw_28_5 mw_28_6 mw_28_7 0 rfl rfl [0] [1, 2, 3, 4, 5, 6, 7, 8, 9, 10] rfl (wr := [((gA 17), .inl (Z.2.1 0, 7, .inl (fun j => iI (Mr j)))), ((gA 14), .inl (Z.2.1 0, 7, .inl (fun j => iI (Mo j)))), ((gA 5), .inl (Z.2.1 6, 7, .inr (.inr (.inr (.inr (gG 5)))))), ((gA 6), .inl (Z.2.1 6, 7, .inr (.inr (.inr (.inr (gG 6)))))), ((gA 8), .inl (Z.2.1 6, 7, .inr (.inr (.inr (.inr (gG 8)))))), ((gA 9), .inl (Z.2.1 6, 7, .inr (.inr (.inr (.inr (gG 9)))))), ((xA 5), .inl (Z.2.1 0, 8, .inl (fun j => iI (Mof j)))), ((xA 6), .inl (Z.2.1 0, 8, .inl (fun j => iI (Mot j)))), ((xA 8), .inl (Z.2.1 0, 8, .inl (fun j => iI (Moh j)))), ((xA 9), .inl (Z.2.1 0, 8, .inl (fun j => iI (Md j))))]) rfl (by decide) rfl rfl (Nat.le_of_ble_eq_true rfl) (by decide) dX12_border_2 (fun r w' hpo => ?_)
  obtain ⟨rfl, rfl⟩ := hpo
  refine g_as (pc' := 5) (lv' := [(0, .ref g0), (1, .int (iI rm)), (2, .int (iI b1)), (3, .int (iI b2))]) (st' := [.int (iI (bI (0 ≤ rm ∧ rm ≤ nr - 1)))]) (ws' := [((gA 17), .inl (Z.2.1 0, 7, .inl (fun j => iI (Mr j)))), ((gA 14), .inl (Z.2.1 0, 7, .inl (fun j => iI (Mo j)))), ((gA 5), .inl (Z.2.1 6, 7, .inr (.inr (.inr (.inr (gG 5)))))), ((gA 6), .inl (Z.2.1 6, 7, .inr (.inr (.inr (.inr (gG 6)))))), ((gA 8), .inl (Z.2.1 6, 7, .inr (.inr (.inr (.inr (gG 8)))))), ((gA 9), .inl (Z.2.1 6, 7, .inr (.inr (.inr (.inr (gG 9)))))), ((xA 5), .inl (Z.2.1 0, 8, .inl (fun j => iI (Mof j)))), ((xA 6), .inl (Z.2.1 0, 8, .inl (fun j => iI (Mot j)))), ((xA 8), .inl (Z.2.1 0, 8, .inl (fun j => iI (Moh j)))), ((xA 9), .inl (Z.2.1 0, 8, .inl (fun j => iI (Md j)))), (g0, .inr (12, mO gA nr tm at_ to_ fa va np tn pc_ st_ pa_ ta ow of_ ot rl hb bs se))]) rfl rfl rfl rfl ?_
  refine g_if_eqB (pc := 5) X 34 (by decide) dX12_border_5 (fun h => absurd h (by omega)) (fun c5 => ?_)
  refine g_iload_n (pc := 8) X 2 rfl dX12_border_8 ?_
  refine g_i2lI (pc := 9) X b_b1 dX12_border_9 ?_
  refine g_lconst (pc := 10) X (lI 0) (by decide) dX12_border_10 ?_
  refine g_ldc2 (pc := 11) X mw_53_16 dX12_border_11 ?_
  refine g_litl (y := lI 400) (by decide) ?_
  refine g_callS (pc := 14) X (k_X12_in l Z b1 0 400 (by omega) (by decide) (by decide)) iM_X12_in mw_11_13 mw_11_14 [] [0, 1, 2, 3, 4, 5, 6, 7, 8, 9, 10] rfl (wr := [((gA 17), .inl (Z.2.1 0, 7, .inl (fun j => iI (Mr j)))), ((gA 14), .inl (Z.2.1 0, 7, .inl (fun j => iI (Mo j)))), ((gA 5), .inl (Z.2.1 6, 7, .inr (.inr (.inr (.inr (gG 5)))))), ((gA 6), .inl (Z.2.1 6, 7, .inr (.inr (.inr (.inr (gG 6)))))), ((gA 8), .inl (Z.2.1 6, 7, .inr (.inr (.inr (.inr (gG 8)))))), ((gA 9), .inl (Z.2.1 6, 7, .inr (.inr (.inr (.inr (gG 9)))))), ((xA 5), .inl (Z.2.1 0, 8, .inl (fun j => iI (Mof j)))), ((xA 6), .inl (Z.2.1 0, 8, .inl (fun j => iI (Mot j)))), ((xA 8), .inl (Z.2.1 0, 8, .inl (fun j => iI (Moh j)))), ((xA 9), .inl (Z.2.1 0, 8, .inl (fun j => iI (Md j)))), (g0, .inr (12, mO gA nr tm at_ to_ fa va np tn pc_ st_ pa_ ta ow of_ ot rl hb bs se))]) rfl (by decide) rfl rfl (Nat.le_of_ble_eq_true rfl) (by decide) dX12_border_14 (fun r w' hpo => ?_)
  obtain ⟨rfl, rfl⟩ := hpo
  refine g_as (pc' := 17) (lv' := [(0, .ref g0), (1, .int (iI rm)), (2, .int (iI b1)), (3, .int (iI b2))]) (st' := [.int (iI (bI (0 ≤ b1 ∧ b1 ≤ 400)))]) (ws' := [((gA 17), .inl (Z.2.1 0, 7, .inl (fun j => iI (Mr j)))), ((gA 14), .inl (Z.2.1 0, 7, .inl (fun j => iI (Mo j)))), ((gA 5), .inl (Z.2.1 6, 7, .inr (.inr (.inr (.inr (gG 5)))))), ((gA 6), .inl (Z.2.1 6, 7, .inr (.inr (.inr (.inr (gG 6)))))), ((gA 8), .inl (Z.2.1 6, 7, .inr (.inr (.inr (.inr (gG 8)))))), ((gA 9), .inl (Z.2.1 6, 7, .inr (.inr (.inr (.inr (gG 9)))))), ((xA 5), .inl (Z.2.1 0, 8, .inl (fun j => iI (Mof j)))), ((xA 6), .inl (Z.2.1 0, 8, .inl (fun j => iI (Mot j)))), ((xA 8), .inl (Z.2.1 0, 8, .inl (fun j => iI (Moh j)))), ((xA 9), .inl (Z.2.1 0, 8, .inl (fun j => iI (Md j)))), (g0, .inr (12, mO gA nr tm at_ to_ fa va np tn pc_ st_ pa_ ta ow of_ ot rl hb bs se))]) rfl rfl rfl rfl ?_
  refine g_if_eqB (pc := 17) X 34 (by decide) dX12_border_17 (fun c17 => ?_) (fun c17 => ?_)
  · refine g_iconst (pc := 34) X (iI (-1)) (by rfl) dX12_border_34 ?_
    refine g_ws (ws' := [(g0, .inr (12, mO gA nr tm at_ to_ fa va np tn pc_ st_ pa_ ta ow of_ ot rl hb bs se)), ((gA 17), .inl (Z.2.1 0, 7, .inl (fun j => iI (Mr j)))), ((gA 14), .inl (Z.2.1 0, 7, .inl (fun j => iI (Mo j)))), ((gA 5), .inl (Z.2.1 6, 7, .inr (.inr (.inr (.inr (gG 5)))))), ((gA 6), .inl (Z.2.1 6, 7, .inr (.inr (.inr (.inr (gG 6)))))), ((gA 8), .inl (Z.2.1 6, 7, .inr (.inr (.inr (.inr (gG 8)))))), ((gA 9), .inl (Z.2.1 6, 7, .inr (.inr (.inr (.inr (gG 9)))))), ((xA 5), .inl (Z.2.1 0, 8, .inl (fun j => iI (Mof j)))), ((xA 6), .inl (Z.2.1 0, 8, .inl (fun j => iI (Mot j)))), ((xA 8), .inl (Z.2.1 0, 8, .inl (fun j => iI (Moh j)))), ((xA 9), .inl (Z.2.1 0, 8, .inl (fun j => iI (Md j))))]) [10, 0, 1, 2, 3, 4, 5, 6, 7, 8, 9] (by decide) rfl ?_
    exact g_iret (pc := 35) X hA (Or.inl (⟨rfl, rfl, (by omega)⟩)) (by decide) (by decide) dX12_border_35
  · refine g_iload_n (pc := 20) X 3 rfl dX12_border_20 ?_
    refine g_i2lI (pc := 21) X b_b2 dX12_border_21 ?_
    refine g_ldc2 (pc := 22) X mw_44_7 dX12_border_22 ?_
    refine g_litl (y := lI 50) (by decide) ?_
    refine g_ldc2 (pc := 25) X mw_31_22 dX12_border_25 ?_
    refine g_litl (y := lI 2000) (by decide) ?_
    refine g_callS (pc := 28) X (k_X12_in l Z b2 50 2000 (by omega) (by decide) (by decide)) iM_X12_in mw_11_13 mw_11_14 [] [0, 1, 2, 3, 4, 5, 6, 7, 8, 9, 10] rfl (wr := [((gA 17), .inl (Z.2.1 0, 7, .inl (fun j => iI (Mr j)))), ((gA 14), .inl (Z.2.1 0, 7, .inl (fun j => iI (Mo j)))), ((gA 5), .inl (Z.2.1 6, 7, .inr (.inr (.inr (.inr (gG 5)))))), ((gA 6), .inl (Z.2.1 6, 7, .inr (.inr (.inr (.inr (gG 6)))))), ((gA 8), .inl (Z.2.1 6, 7, .inr (.inr (.inr (.inr (gG 8)))))), ((gA 9), .inl (Z.2.1 6, 7, .inr (.inr (.inr (.inr (gG 9)))))), ((xA 5), .inl (Z.2.1 0, 8, .inl (fun j => iI (Mof j)))), ((xA 6), .inl (Z.2.1 0, 8, .inl (fun j => iI (Mot j)))), ((xA 8), .inl (Z.2.1 0, 8, .inl (fun j => iI (Moh j)))), ((xA 9), .inl (Z.2.1 0, 8, .inl (fun j => iI (Md j)))), (g0, .inr (12, mO gA nr tm at_ to_ fa va np tn pc_ st_ pa_ ta ow of_ ot rl hb bs se))]) rfl (by decide) rfl rfl (Nat.le_of_ble_eq_true rfl) (by decide) dX12_border_28 (fun r w' hpo => ?_)
    obtain ⟨rfl, rfl⟩ := hpo
    refine g_as (pc' := 31) (lv' := [(0, .ref g0), (1, .int (iI rm)), (2, .int (iI b1)), (3, .int (iI b2))]) (st' := [.int (iI (bI (50 ≤ b2 ∧ b2 ≤ 2000)))]) (ws' := [((gA 17), .inl (Z.2.1 0, 7, .inl (fun j => iI (Mr j)))), ((gA 14), .inl (Z.2.1 0, 7, .inl (fun j => iI (Mo j)))), ((gA 5), .inl (Z.2.1 6, 7, .inr (.inr (.inr (.inr (gG 5)))))), ((gA 6), .inl (Z.2.1 6, 7, .inr (.inr (.inr (.inr (gG 6)))))), ((gA 8), .inl (Z.2.1 6, 7, .inr (.inr (.inr (.inr (gG 8)))))), ((gA 9), .inl (Z.2.1 6, 7, .inr (.inr (.inr (.inr (gG 9)))))), ((xA 5), .inl (Z.2.1 0, 8, .inl (fun j => iI (Mof j)))), ((xA 6), .inl (Z.2.1 0, 8, .inl (fun j => iI (Mot j)))), ((xA 8), .inl (Z.2.1 0, 8, .inl (fun j => iI (Moh j)))), ((xA 9), .inl (Z.2.1 0, 8, .inl (fun j => iI (Md j)))), (g0, .inr (12, mO gA nr tm at_ to_ fa va np tn pc_ st_ pa_ ta ow of_ ot rl hb bs se))]) rfl rfl rfl rfl ?_
    refine g_if_neB (pc := 31) X 36 (by decide) dX12_border_31 (fun c31 => ?_) (fun c31 => ?_)
    · refine g_aload_n (pc := 36) X 0 rfl dX12_border_36 ?_
      refine g_get (pc := 37) X inlX12 10 rfl rfl 17 (by decide) mw_8_5 rfl dX12_border_37 ?_
      refine g_iload_n (pc := 40) X 1 rfl dX12_border_40 ?_
      refine g_ialdI (pc := 41) X 0 rfl (by omega) (by omega) (Int.le_trans b_rm.2 (by decide)) dX12_border_41 ?_
      refine g_nameI (fun y4 ey4 => ?_)
      have by4 : 0 ≤ y4 ∧ y4 ≤ 4800 := by rw [ey4]; exact h_Mr _ (by omega)
      refine g_istore (pc := 42) X (by decide) (lv' := [(4, .int (iI y4)), (0, .ref g0), (1, .int (iI rm)), (2, .int (iI b1)), (3, .int (iI b2))]) rfl dX12_border_42 ?_
      refine g_iconst (pc := 44) X (iI 0) (by rfl) dX12_border_44 ?_
      refine g_istore (pc := 45) X (by decide) (lv' := [(5, .int (iI 0)), (4, .int (iI y4)), (0, .ref g0), (1, .int (iI rm)), (2, .int (iI b1)), (3, .int (iI b2))]) rfl dX12_border_45 ?_
      have loop47 : ∀ (fuel : Nat) (n1 : Int) (o1 : Int), ((-4800) ≤ n1 ∧ n1 ≤ 9600) → (0 ≤ o1 ∧ o1 ≤ 8) → (Mr rm.toNat - 600 * o1 ≤ n1 ∧ n1 ≤ Mr rm.toNat + 600 * o1) → (o1 ≤ Mo rm.toNat) → (n1 = Mr rm.toNat - dsm Mof Mot Moh Md b1 o1.toNat) → (9 - o1).toNat < fuel → Gs p l e ({ frames := 2, cells := 0, slots := 0, locals := 46 } : Room) s m args below meth c (MQ below (gPost Z [(g0, .inr (12, mO gA nr tm at_ to_ fa va np tn pc_ st_ pa_ ta ow of_ ot rl hb bs se)), ((gA 17), .inl (Z.2.1 0, 7, .inl (fun j => iI (Mr j)))), ((gA 14), .inl (Z.2.1 0, 7, .inl (fun j => iI (Mo j)))), ((gA 5), .inl (Z.2.1 6, 7, .inr (.inr (.inr (.inr (gG 5)))))), ((gA 6), .inl (Z.2.1 6, 7, .inr (.inr (.inr (.inr (gG 6)))))), ((gA 8), .inl (Z.2.1 6, 7, .inr (.inr (.inr (.inr (gG 8)))))), ((gA 9), .inl (Z.2.1 6, 7, .inr (.inr (.inr (.inr (gG 9)))))), ((xA 5), .inl (Z.2.1 0, 8, .inl (fun j => iI (Mof j)))), ((xA 6), .inl (Z.2.1 0, 8, .inl (fun j => iI (Mot j)))), ((xA 8), .inl (Z.2.1 0, 8, .inl (fun j => iI (Moh j)))), ((xA 9), .inl (Z.2.1 0, 8, .inl (fun j => iI (Md j))))] s.heap.size (fun r w' => ((r = some (.int (iI (-1)))) ∧ (w' = [(g0, .inr (12, mO gA nr tm at_ to_ fa va np tn pc_ st_ pa_ ta ow of_ ot rl hb bs se)), ((gA 17), .inl (Z.2.1 0, 7, .inl (fun j => iI (Mr j)))), ((gA 14), .inl (Z.2.1 0, 7, .inl (fun j => iI (Mo j)))), ((gA 5), .inl (Z.2.1 6, 7, .inr (.inr (.inr (.inr (gG 5)))))), ((gA 6), .inl (Z.2.1 6, 7, .inr (.inr (.inr (.inr (gG 6)))))), ((gA 8), .inl (Z.2.1 6, 7, .inr (.inr (.inr (.inr (gG 8)))))), ((gA 9), .inl (Z.2.1 6, 7, .inr (.inr (.inr (.inr (gG 9)))))), ((xA 5), .inl (Z.2.1 0, 8, .inl (fun j => iI (Mof j)))), ((xA 6), .inl (Z.2.1 0, 8, .inl (fun j => iI (Mot j)))), ((xA 8), .inl (Z.2.1 0, 8, .inl (fun j => iI (Moh j)))), ((xA 9), .inl (Z.2.1 0, 8, .inl (fun j => iI (Md j))))]) ∧ (¬ (0 ≤ b1 ∧ b1 ≤ 400 ∧ 50 ≤ b2 ∧ b2 ≤ 2000))) ∨ (∃ (y : Int), (r = some (.int (iI y))) ∧ (w' = [(g0, .inr (12, mO gA nr tm at_ to_ fa va np tn pc_ st_ pa_ ta ow of_ ot rl hb bs se)), ((gA 17), .inl (Z.2.1 0, 7, .inl (fun j => iI (Mr j)))), ((gA 14), .inl (Z.2.1 0, 7, .inl (fun j => iI (Mo j)))), ((gA 5), .inl (Z.2.1 6, 7, .inr (.inr (.inr (.inr (gG 5)))))), ((gA 6), .inl (Z.2.1 6, 7, .inr (.inr (.inr (.inr (gG 6)))))), ((gA 8), .inl (Z.2.1 6, 7, .inr (.inr (.inr (.inr (gG 8)))))), ((gA 9), .inl (Z.2.1 6, 7, .inr (.inr (.inr (.inr (gG 9)))))), ((xA 5), .inl (Z.2.1 0, 8, .inl (fun j => iI (Mof j)))), ((xA 6), .inl (Z.2.1 0, 8, .inl (fun j => iI (Mot j)))), ((xA 8), .inl (Z.2.1 0, 8, .inl (fun j => iI (Moh j)))), ((xA 9), .inl (Z.2.1 0, 8, .inl (fun j => iI (Md j))))]) ∧ ((-2147483648) ≤ y ∧ y ≤ 2147483647) ∧ (0 ≤ b1 ∧ b1 ≤ 400 ∧ 50 ≤ b2 ∧ b2 ≤ 2000) ∧ (y = ((if 0 ≤ Mr rm.toNat - dsm Mof Mot Moh Md b1 (Mo rm.toNat).toNat then Mr rm.toNat - dsm Mof Mot Moh Md b1 (Mo rm.toNat).toNat else 0) + b2 - 1) / b2)))) args s 0 0 (va_A [(g0, .inr (12, mO gA nr tm at_ to_ fa va np tn pc_ st_ pa_ ta ow of_ ot rl hb bs se)), ((gA 17), .inl (Z.2.1 0, 7, .inl (fun j => iI (Mr j)))), ((gA 14), .inl (Z.2.1 0, 7, .inl (fun j => iI (Mo j)))), ((gA 5), .inl (Z.2.1 6, 7, .inr (.inr (.inr (.inr (gG 5)))))), ((gA 6), .inl (Z.2.1 6, 7, .inr (.inr (.inr (.inr (gG 6)))))), ((gA 8), .inl (Z.2.1 6, 7, .inr (.inr (.inr (.inr (gG 8)))))), ((gA 9), .inl (Z.2.1 6, 7, .inr (.inr (.inr (.inr (gG 9)))))), ((xA 5), .inl (Z.2.1 0, 8, .inl (fun j => iI (Mof j)))), ((xA 6), .inl (Z.2.1 0, 8, .inl (fun j => iI (Mot j)))), ((xA 8), .inl (Z.2.1 0, 8, .inl (fun j => iI (Moh j)))), ((xA 9), .inl (Z.2.1 0, 8, .inl (fun j => iI (Md j))))] s.heap.size)) Z A 6 0 0 47 [(5, .int (iI o1)), (4, .int (iI n1)), (0, .ref g0), (1, .int (iI rm)), (2, .int (iI b1)), (3, .int (iI b2))] [] [((gA 17), .inl (Z.2.1 0, 7, .inl (fun j => iI (Mr j)))), ((gA 14), .inl (Z.2.1 0, 7, .inl (fun j => iI (Mo j)))), ((gA 5), .inl (Z.2.1 6, 7, .inr (.inr (.inr (.inr (gG 5)))))), ((gA 6), .inl (Z.2.1 6, 7, .inr (.inr (.inr (.inr (gG 6)))))), ((gA 8), .inl (Z.2.1 6, 7, .inr (.inr (.inr (.inr (gG 8)))))), ((gA 9), .inl (Z.2.1 6, 7, .inr (.inr (.inr (.inr (gG 9)))))), ((xA 5), .inl (Z.2.1 0, 8, .inl (fun j => iI (Mof j)))), ((xA 6), .inl (Z.2.1 0, 8, .inl (fun j => iI (Mot j)))), ((xA 8), .inl (Z.2.1 0, 8, .inl (fun j => iI (Moh j)))), ((xA 9), .inl (Z.2.1 0, 8, .inl (fun j => iI (Md j)))), (g0, .inr (12, mO gA nr tm at_ to_ fa va np tn pc_ st_ pa_ ta ow of_ ot rl hb bs se))] := by
        intro fuel
        induction fuel with
        | zero => intro n1 o1 _ _ _ _ _ hm; exact absurd hm (Nat.not_lt_zero _)
        | succ fuel ih =>
          intro n1 o1 b_n1 b_o1 ivb ivo ivd hm
          refine g_iload (pc := 47) X 0 rfl dX12_border_47 ?_
          refine g_aload_n (pc := 49) X 2 rfl dX12_border_49 ?_
          refine g_get (pc := 50) X inlX12 10 rfl rfl 14 (by decide) mw_8_2 rfl dX12_border_50 ?_
          refine g_iload_n (pc := 53) X 3 rfl dX12_border_53 ?_
          refine g_ialdI (pc := 54) X 1 rfl (by omega) (by omega) (Int.le_trans b_rm.2 (by decide)) dX12_border_54 ?_
          refine g_nameI (fun y5 ey5 => ?_)
          have by5 : 0 ≤ y5 ∧ y5 ≤ 8 := by rw [ey5]; exact h_Mo _ (by omega)
          refine g_icmp_geI (pc := 55) X 118 (by decide) (inRb b_o1 (by decide) (by decide)) (inRb by5 (by decide) (by decide)) dX12_border_55 (fun c55 => ?_) (fun c55 => ?_)
          · refine g_iconst (pc := 118) X (iI 0) (by rfl) dX12_border_118 ?_
            refine g_iload (pc := 119) X 1 rfl dX12_border_119 ?_
            refine g_maxI (pc := 121) X mw_29_8 mw_12_11 mw_25_23 mw_12_13 (by decide) (Nat.le_of_ble_eq_true rfl) (by decide) (by decide) ⟨by decide, by decide⟩ (inRb b_n1 (by decide) (by decide)) dX12_border_121 ?_
            refine g_nameI (fun y6 ey6 => ?_)
            have my6 : 0 ≤ y6 ∧ n1 ≤ y6 ∧ (y6 = 0 ∨ y6 = n1) := by rw [ey6]; exact maxF _ _
            clear ey6
            have hmx : y6 = (if 0 ≤ Mr rm.toNat - dsm Mof Mot Moh Md b1 (Mo rm.toNat).toNat then Mr rm.toNat - dsm Mof Mot Moh Md b1 (Mo rm.toNat).toNat else 0) := by rw [show (Mo rm.toNat).toNat = o1.toNat by omega, ← ivd]; split <;> omega
            refine g_iload_n (pc := 124) X 5 rfl dX12_border_124 ?_
            refine g_iaddI (pc := 125) X dX12_border_125 ?_
            refine g_iconst (pc := 126) X (iI 1) (by rfl) dX12_border_126 ?_
            refine g_isubI (pc := 127) X dX12_border_127 ?_
            refine g_iload_n (pc := 128) X 5 rfl dX12_border_128 ?_
            refine g_idivP (pc := 129) X (by omega) (by omega) (by omega) (by omega) dX12_border_129 ?_
            refine g_nameI (fun y7 ey7 => ?_)
            have by7 : 0 ≤ y7 ∧ y7 ≤ 11599 := by rw [ey7]; exact divB (by omega) (by omega) (by omega)
            refine g_ws (ws' := [(g0, .inr (12, mO gA nr tm at_ to_ fa va np tn pc_ st_ pa_ ta ow of_ ot rl hb bs se)), ((gA 17), .inl (Z.2.1 0, 7, .inl (fun j => iI (Mr j)))), ((gA 14), .inl (Z.2.1 0, 7, .inl (fun j => iI (Mo j)))), ((gA 5), .inl (Z.2.1 6, 7, .inr (.inr (.inr (.inr (gG 5)))))), ((gA 6), .inl (Z.2.1 6, 7, .inr (.inr (.inr (.inr (gG 6)))))), ((gA 8), .inl (Z.2.1 6, 7, .inr (.inr (.inr (.inr (gG 8)))))), ((gA 9), .inl (Z.2.1 6, 7, .inr (.inr (.inr (.inr (gG 9)))))), ((xA 5), .inl (Z.2.1 0, 8, .inl (fun j => iI (Mof j)))), ((xA 6), .inl (Z.2.1 0, 8, .inl (fun j => iI (Mot j)))), ((xA 8), .inl (Z.2.1 0, 8, .inl (fun j => iI (Moh j)))), ((xA 9), .inl (Z.2.1 0, 8, .inl (fun j => iI (Md j))))]) [10, 0, 1, 2, 3, 4, 5, 6, 7, 8, 9] (by decide) rfl ?_
            exact g_iret (pc := 130) X hA (Or.inr (⟨y7, rfl, rfl, (by omega), (by omega), (by rw [ey7, hmx])⟩)) (by decide) (by decide) dX12_border_130
          · refine g_iload (pc := 58) X 1 rfl dX12_border_58 ?_
            refine g_aload_n (pc := 60) X 2 rfl dX12_border_60 ?_
            refine g_get (pc := 61) X inlX12 10 rfl rfl 9 (by decide) mw_7_21 rfl dX12_border_61 ?_
            refine g_iload_n (pc := 64) X 3 rfl dX12_border_64 ?_
            refine g_aaldG (pc := 65) X 5 rfl (by omega) (by omega) (Int.le_trans b_rm.2 (by decide)) (hG 9) dX12_border_65 ?_
            refine g_iload (pc := 66) X 0 rfl dX12_border_66 ?_
            refine g_ialdI (pc := 68) X 9 rfl (b_o1.1) (by omega) (Int.le_trans b_o1.2 (by decide)) dX12_border_68 ?_
            refine g_nameI (fun y8 ey8 => ?_)
            have by8 : 0 ≤ y8 ∧ y8 ≤ 1 := by rw [ey8]; exact h_Md _ (by omega)
            refine g_iconst (pc := 69) X (iI 1) (by rfl) dX12_border_69 ?_
            refine g_icmp_neI (pc := 70) X 108 (by decide) (inRb by8 (by decide) (by decide)) ⟨by decide, by decide⟩ dX12_border_70 (fun c70 => ?_) (fun c70 => ?_)
            · refine g_iconst (pc := 108) X (iI 0) (by rfl) dX12_border_108 ?_
              refine g_isubI (pc := 109) X dX12_border_109 ?_
              refine g_istore (pc := 110) X (by decide) (lv' := [(4, .int (iI (n1 - 0))), (5, .int (iI o1)), (0, .ref g0), (1, .int (iI rm)), (2, .int (iI b1)), (3, .int (iI b2))]) rfl dX12_border_110 ?_
              refine g_iincI (pc := 112) X 1 rfl (by decide) (lv' := [(5, .int (iI (o1 + 1))), (4, .int (iI (n1 - 0))), (0, .ref g0), (1, .int (iI rm)), (2, .int (iI b1)), (3, .int (iI b2))]) rfl dX12_border_112 ?_
              refine g_goto (pc := 115) X 47 (by decide) dX12_border_115 ?_
              exact ih (n1 - 0) (o1 + 1) (by omega) (by omega) (by omega) (by omega) (by rw [dsm_s (by omega), if_neg (by omega)]; omega) (by omega)
            · refine g_aload_n (pc := 73) X 2 rfl dX12_border_73 ?_
              refine g_get (pc := 74) X inlX12 10 rfl rfl 8 (by decide) mw_7_20 rfl dX12_border_74 ?_
              refine g_iload_n (pc := 77) X 3 rfl dX12_border_77 ?_
              refine g_aaldG (pc := 78) X 4 rfl (by omega) (by omega) (Int.le_trans b_rm.2 (by decide)) (hG 8) dX12_border_78 ?_
              refine g_iload (pc := 79) X 0 rfl dX12_border_79 ?_
              refine g_ialdI (pc := 81) X 8 rfl (b_o1.1) (by omega) (Int.le_trans b_o1.2 (by decide)) dX12_border_81 ?_
              refine g_nameI (fun y9 ey9 => ?_)
              have by9 : 0 ≤ y9 ∧ y9 ≤ 400 := by rw [ey9]; exact h_Moh _ (by omega)
              refine g_iload_n (pc := 82) X 4 rfl dX12_border_82 ?_
              refine g_icmp_leI (pc := 83) X 108 (by decide) (inRb by9 (by decide) (by decide)) b_b1 dX12_border_83 (fun c83 => ?_) (fun c83 => ?_)
              · refine g_iconst (pc := 108) X (iI 0) (by rfl) dX12_border_108 ?_
                refine g_isubI (pc := 109) X dX12_border_109 ?_
                refine g_istore (pc := 110) X (by decide) (lv' := [(4, .int (iI (n1 - 0))), (5, .int (iI o1)), (0, .ref g0), (1, .int (iI rm)), (2, .int (iI b1)), (3, .int (iI b2))]) rfl dX12_border_110 ?_
                refine g_iincI (pc := 112) X 1 rfl (by decide) (lv' := [(5, .int (iI (o1 + 1))), (4, .int (iI (n1 - 0))), (0, .ref g0), (1, .int (iI rm)), (2, .int (iI b1)), (3, .int (iI b2))]) rfl dX12_border_112 ?_
                refine g_goto (pc := 115) X 47 (by decide) dX12_border_115 ?_
                exact ih (n1 - 0) (o1 + 1) (by omega) (by omega) (by omega) (by omega) (by rw [dsm_s (by omega), if_neg (by omega)]; omega) (by omega)
              · refine g_aload_n (pc := 86) X 2 rfl dX12_border_86 ?_
                refine g_get (pc := 87) X inlX12 10 rfl rfl 6 (by decide) mw_7_18 rfl dX12_border_87 ?_
                refine g_iload_n (pc := 90) X 3 rfl dX12_border_90 ?_
                refine g_aaldG (pc := 91) X 3 rfl (by omega) (by omega) (Int.le_trans b_rm.2 (by decide)) (hG 6) dX12_border_91 ?_
                refine g_iload (pc := 92) X 0 rfl dX12_border_92 ?_
                refine g_ialdI (pc := 94) X 7 rfl (b_o1.1) (by omega) (Int.le_trans b_o1.2 (by decide)) dX12_border_94 ?_
                refine g_nameI (fun y10 ey10 => ?_)
                have by10 : 0 ≤ y10 ∧ y10 ≤ 600 := by rw [ey10]; exact h_Mot _ (by omega)
                refine g_aload_n (pc := 95) X 2 rfl dX12_border_95 ?_
                refine g_get (pc := 96) X inlX12 10 rfl rfl 5 (by decide) mw_7_17 rfl dX12_border_96 ?_
                refine g_iload_n (pc := 99) X 3 rfl dX12_border_99 ?_
                refine g_aaldG (pc := 100) X 2 rfl (by omega) (by omega) (Int.le_trans b_rm.2 (by decide)) (hG 5) dX12_border_100 ?_
                refine g_iload (pc := 101) X 0 rfl dX12_border_101 ?_
                refine g_ialdI (pc := 103) X 6 rfl (b_o1.1) (by omega) (Int.le_trans b_o1.2 (by decide)) dX12_border_103 ?_
                refine g_nameI (fun y11 ey11 => ?_)
                have by11 : 0 ≤ y11 ∧ y11 ≤ 600 := by rw [ey11]; exact h_Mof _ (by omega)
                refine g_isubI (pc := 104) X dX12_border_104 ?_
                refine g_goto (pc := 105) X 109 (by decide) dX12_border_105 ?_
                refine g_isubI (pc := 109) X dX12_border_109 ?_
                refine g_istore (pc := 110) X (by decide) (lv' := [(4, .int (iI (n1 - (y10 - y11)))), (5, .int (iI o1)), (0, .ref g0), (1, .int (iI rm)), (2, .int (iI b1)), (3, .int (iI b2))]) rfl dX12_border_110 ?_
                refine g_iincI (pc := 112) X 1 rfl (by decide) (lv' := [(5, .int (iI (o1 + 1))), (4, .int (iI (n1 - (y10 - y11)))), (0, .ref g0), (1, .int (iI rm)), (2, .int (iI b1)), (3, .int (iI b2))]) rfl dX12_border_112 ?_
                refine g_goto (pc := 115) X 47 (by decide) dX12_border_115 ?_
                exact ih (n1 - (y10 - y11)) (o1 + 1) (by omega) (by omega) (by omega) (by omega) (by rw [dsm_s (by omega), if_pos (by omega)]; omega) (by omega)
      exact loop47 _ y4 0 (by omega) (by omega) (by omega) ((h_Mo rm.toNat (by omega)).1) (by show y4 = Mr rm.toNat - 0; omega) (Nat.lt_succ_self _)
    · refine g_iconst (pc := 34) X (iI (-1)) (by rfl) dX12_border_34 ?_
      refine g_ws (ws' := [(g0, .inr (12, mO gA nr tm at_ to_ fa va np tn pc_ st_ pa_ ta ow of_ ot rl hb bs se)), ((gA 17), .inl (Z.2.1 0, 7, .inl (fun j => iI (Mr j)))), ((gA 14), .inl (Z.2.1 0, 7, .inl (fun j => iI (Mo j)))), ((gA 5), .inl (Z.2.1 6, 7, .inr (.inr (.inr (.inr (gG 5)))))), ((gA 6), .inl (Z.2.1 6, 7, .inr (.inr (.inr (.inr (gG 6)))))), ((gA 8), .inl (Z.2.1 6, 7, .inr (.inr (.inr (.inr (gG 8)))))), ((gA 9), .inl (Z.2.1 6, 7, .inr (.inr (.inr (.inr (gG 9)))))), ((xA 5), .inl (Z.2.1 0, 8, .inl (fun j => iI (Mof j)))), ((xA 6), .inl (Z.2.1 0, 8, .inl (fun j => iI (Mot j)))), ((xA 8), .inl (Z.2.1 0, 8, .inl (fun j => iI (Moh j)))), ((xA 9), .inl (Z.2.1 0, 8, .inl (fun j => iI (Md j))))]) [10, 0, 1, 2, 3, 4, 5, 6, 7, 8, 9] (by decide) rfl ?_
      exact g_iret (pc := 35) X hA (Or.inl (⟨rfl, rfl, (by omega)⟩)) (by decide) (by decide) dX12_border_35
