set_option maxHeartbeats 4000000 in
set_option maxRecDepth 100000 in
theorem k_X12_runsOf (l : Launch) (Z : gZ) (g0 : Nat) (gA : Nat → Nat) (gG : Nat → Nat → Option Nat) (xA : Nat → Nat) (Mw : Nat → Int) (Mk : Nat → Int) (Mm : Nat → Int) (Ru : Nat → Int) (rm : Int) (cu : Int) (nr : Int) (tm : Int) (at_ : Int) (to_ : Int) (fa : Int) (va : Int) (np : Int) (tn : Int) (pc_ : Int) (st_ : Int) (pa_ : Int) (ta : Int) (ow : Int) (of_ : Int) (ot : Int) (rl : Int) (hb : Int) (bs : Int) (se : Int) (b_rm : 0 ≤ rm ∧ rm ≤ 5) (b_cu : (-2147483648) ≤ cu ∧ cu ≤ 2147483647) (b_nr : 0 ≤ nr ∧ nr ≤ 6) (b_tm : 0 ≤ tm ∧ tm ≤ 400) (b_at_ : 0 ≤ at_ ∧ at_ ≤ 400) (b_to_ : 0 ≤ to_ ∧ to_ ≤ 400) (b_fa : (-1) ≤ fa ∧ fa ≤ 400) (b_va : (-2147483648) ≤ va ∧ va ≤ 2147483647) (b_np : 0 ≤ np ∧ np ≤ 4) (b_tn : 0 ≤ tn ∧ tn ≤ 20) (b_pc_ : 0 ≤ pc_ ∧ pc_ ≤ 480) (b_st_ : 0 ≤ st_ ∧ st_ ≤ 240) (b_pa_ : (-1) ≤ pa_ ∧ pa_ ≤ 3) (b_ta : (-2147483648) ≤ ta ∧ ta ≤ 2147483647) (b_ow : (-2147483648) ≤ ow ∧ ow ≤ 2147483647) (b_of_ : (-2147483648) ≤ of_ ∧ of_ ≤ 2147483647) (b_ot : (-2147483648) ≤ ot ∧ ot ≤ 2147483647) (b_rl : 0 ≤ rl ∧ rl ≤ 2880) (b_hb : 0 ≤ hb ∧ hb ≤ 4) (b_bs : (-2147483648) ≤ bs ∧ bs ≤ 2147483647) (b_se : 0 ≤ se ∧ se ≤ 10) (hG : ∀ k, gG k rm.toNat = some (xA k)) (h_Mw : ∀ j, j < 7 → 0 ≤ Mw j ∧ Mw j ≤ 8) (h_Mk : ∀ j, j < 8 → 0 ≤ Mk j ∧ Mk j ≤ 400) (h_Mm : ∀ j, j < 8 → (-50) ≤ Mm j ∧ Mm j ≤ 50) (h_Ru : ∀ j, j < 8 → (-2147483648) ≤ Ru j ∧ Ru j ≤ 2147483647) : Con l Z yX12_runsOf cX12_runsOf 6 (some .int) 1 24 0 0 [.ref g0, .int (iI rm), .int (iI cu)] [(g0, .inr (12, mO gA nr tm at_ to_ fa va np tn pc_ st_ pa_ ta ow of_ ot rl hb bs se)), cA Z (gA 13) 0 7 Mw, cR Z (gA 2) 6 7 (gG 2), cR Z (gA 3) 6 7 (gG 3), cA Z (xA 2) 0 8 Mk, cA Z (xA 3) 0 8 Mm, cA Z (gA 57) 0 8 Ru] (fun r w' => ∃ (Ru2 : Nat → Int) (y : Int), (r = some (.int (iI y))) ∧ (w' = [(g0, .inr (12, mO gA nr tm at_ to_ fa va np tn pc_ st_ pa_ ta ow of_ ot rl hb bs se)), cA Z (gA 13) 0 7 Mw, cR Z (gA 2) 6 7 (gG 2), cR Z (gA 3) 6 7 (gG 3), cA Z (xA 2) 0 8 Mk, cA Z (xA 3) 0 8 Mm, cA Z (gA 57) 0 8 Ru2]) ∧ ((-2147483648) ≤ y ∧ y ≤ 2147483647) ∧ (∀ j, j < 8 → (-2147483648) ≤ Ru2 j ∧ Ru2 j ≤ 2147483647)) := by
  refine enter (by decide) (Nat.le_of_ble_eq_true rfl) ?_
  intro p e s m args below meth c A X hnm hA
  have X : Cx p s m args meth c cX12_runsOf 6 (some .int) RX12 Z A := X
  refine g_as (pc' := 0) (lv' := [(0, .ref g0), (1, .int (iI rm)), (2, .int (iI cu))]) (st' := []) (ws' := [(g0, .inr (12, mO gA nr tm at_ to_ fa va np tn pc_ st_ pa_ ta ow of_ ot rl hb bs se)), cA Z (gA 13) 0 7 Mw, cR Z (gA 2) 6 7 (gG 2), cR Z (gA 3) 6 7 (gG 3), cA Z (xA 2) 0 8 Mk, cA Z (xA 3) 0 8 Mm, cA Z (gA 57) 0 8 Ru]) rfl rfl rfl rfl ?_
  refine g_iconst (pc := 0) X (iI 0) (by rfl) dX12_runsOf_0 ?_
  refine g_istore_n (pc := 1) X (i := 3) rfl (by decide) (lv' := [(3, .int (iI 0)), (0, .ref g0), (1, .int (iI rm)), (2, .int (iI cu))]) rfl dX12_runsOf_1 ?_
  refine g_iconst (pc := 2) X (iI 0) (by rfl) dX12_runsOf_2 ?_
  refine g_istore (pc := 3) X (by decide) (lv' := [(4, .int (iI 0)), (3, .int (iI 0)), (0, .ref g0), (1, .int (iI rm)), (2, .int (iI cu))]) rfl dX12_runsOf_3 ?_
  refine g_iconst (pc := 5) X (iI 0) (by rfl) dX12_runsOf_5 ?_
  refine g_istore (pc := 6) X (by decide) (lv' := [(5, .int (iI 0)), (4, .int (iI 0)), (3, .int (iI 0)), (0, .ref g0), (1, .int (iI rm)), (2, .int (iI cu))]) rfl dX12_runsOf_6 ?_
  have loop8 : ∀ (fuel : Nat) (n1 : Int) (ru1 : Int) (w1 : Int) (Ru1 : Nat → Int), (0 ≤ n1 ∧ n1 ≤ 40000) → ((-1600) ≤ ru1 ∧ ru1 ≤ 1600) → (0 ≤ w1 ∧ w1 ≤ 8) → (∀ j, j < 8 → (-2147483648) ≤ Ru1 j ∧ Ru1 j ≤ 2147483647) → (-200 * w1 ≤ ru1 ∧ ru1 ≤ 200 * w1) → (n1 ≤ 4800 * w1) → (9 - w1).toNat < fuel → Gs p l e ({ frames := 1, cells := 0, slots := 0, locals := 24 } : Room) s m args below meth c (MQ below (gPost Z [(g0, .inr (12, mO gA nr tm at_ to_ fa va np tn pc_ st_ pa_ ta ow of_ ot rl hb bs se)), cA Z (gA 13) 0 7 Mw, cR Z (gA 2) 6 7 (gG 2), cR Z (gA 3) 6 7 (gG 3), cA Z (xA 2) 0 8 Mk, cA Z (xA 3) 0 8 Mm, cA Z (gA 57) 0 8 Ru] s.heap.size (fun r w' => ∃ (Ru2 : Nat → Int) (y : Int), (r = some (.int (iI y))) ∧ (w' = [(g0, .inr (12, mO gA nr tm at_ to_ fa va np tn pc_ st_ pa_ ta ow of_ ot rl hb bs se)), cA Z (gA 13) 0 7 Mw, cR Z (gA 2) 6 7 (gG 2), cR Z (gA 3) 6 7 (gG 3), cA Z (xA 2) 0 8 Mk, cA Z (xA 3) 0 8 Mm, cA Z (gA 57) 0 8 Ru2]) ∧ ((-2147483648) ≤ y ∧ y ≤ 2147483647) ∧ (∀ j, j < 8 → (-2147483648) ≤ Ru2 j ∧ Ru2 j ≤ 2147483647))) args s 0 0 (va_A [(g0, .inr (12, mO gA nr tm at_ to_ fa va np tn pc_ st_ pa_ ta ow of_ ot rl hb bs se)), cA Z (gA 13) 0 7 Mw, cR Z (gA 2) 6 7 (gG 2), cR Z (gA 3) 6 7 (gG 3), cA Z (xA 2) 0 8 Mk, cA Z (xA 3) 0 8 Mm, cA Z (gA 57) 0 8 Ru] s.heap.size)) Z A 6 0 0 8 [(5, .int (iI w1)), (4, .int (iI ru1)), (3, .int (iI n1)), (0, .ref g0), (1, .int (iI rm)), (2, .int (iI cu))] [] [(g0, .inr (12, mO gA nr tm at_ to_ fa va np tn pc_ st_ pa_ ta ow of_ ot rl hb bs se)), cA Z (gA 13) 0 7 Mw, cR Z (gA 2) 6 7 (gG 2), cR Z (gA 3) 6 7 (gG 3), cA Z (xA 2) 0 8 Mk, cA Z (xA 3) 0 8 Mm, cA Z (gA 57) 0 8 Ru1] := by
    intro fuel
    induction fuel with
    | zero => intro n1 ru1 w1 Ru1 _ _ _ _ _ _ hm; exact absurd hm (Nat.not_lt_zero _)
    | succ fuel ih =>
      intro n1 ru1 w1 Ru1 b_n1 b_ru1 b_w1 h_Ru1 iv iv2 hm
      refine g_iload (pc := 8) X 0 rfl dX12_runsOf_8 ?_
      refine g_aload_n (pc := 10) X 3 rfl dX12_runsOf_10 ?_
      refine g_get (pc := 11) X inlX12 0 rfl rfl 13 (by decide) mw_8_1 rfl dX12_runsOf_11 ?_
      refine g_iload_n (pc := 14) X 4 rfl dX12_runsOf_14 ?_
      refine g_ialdI (pc := 15) X 1 rfl (b_rm.1) (Int.lt_of_le_of_lt b_rm.2 (by decide)) (Int.le_trans b_rm.2 (by decide)) dX12_runsOf_15 ?_
      refine g_nameI (fun y1 ey1 => ?_)
      have by1 : 0 ≤ y1 ∧ y1 ≤ 8 := by rw [ey1]; exact h_Mw _ (by (first | (clear b_cu b_nr b_tm b_at_ b_to_ b_fa b_va b_np b_tn b_pc_ b_st_ b_pa_ b_ta b_ow b_of_ b_ot b_rl b_hb b_bs b_se; omega) | omega))
      refine g_icmp_geI (pc := 16) X 103 (by decide) (inRb b_w1 (by decide) (by decide)) (inRb by1 (by decide) (by decide)) dX12_runsOf_16 (fun c16 => ?_) (fun c16 => ?_)
      · refine g_iload_n (pc := 103) X 2 rfl dX12_runsOf_103 ?_
        exact g_iret (pc := 104) X hA (⟨Ru1, n1, rfl, rfl, (by (first | (clear b_cu b_nr b_tm b_at_ b_to_ b_fa b_va b_np b_tn b_pc_ b_st_ b_pa_ b_ta b_ow b_of_ b_ot b_rl b_hb b_bs b_se; omega) | omega)), (h_Ru1)⟩) (by decide) (by decide) dX12_runsOf_104
      · refine g_iload (pc := 19) X 0 rfl dX12_runsOf_19 ?_
        refine g_if_leI (pc := 21) X 80 (by decide) (inRb b_w1 (by decide) (by decide)) dX12_runsOf_21 (fun c21 => ?_) (fun c21 => ?_)
        · refine g_aload_n (pc := 80) X 3 rfl dX12_runsOf_80 ?_
          refine g_get (pc := 81) X inlX12 0 rfl rfl 57 (by decide) mw_9_8 rfl dX12_runsOf_81 ?_
          refine g_iload (pc := 84) X 0 rfl dX12_runsOf_84 ?_
          refine g_iload (pc := 86) X 1 rfl dX12_runsOf_86 ?_
          refine g_iastG (pc := 88) X 6 rfl (b_w1.1) (by (first | (clear b_cu b_nr b_tm b_at_ b_to_ b_fa b_va b_np b_tn b_pc_ b_st_ b_pa_ b_ta b_ow b_of_ b_ot b_rl b_hb b_bs b_se; omega) | omega)) (Int.le_trans b_w1.2 (by decide)) (ws' := fun F2 => [(g0, .inr (12, mO gA nr tm at_ to_ fa va np tn pc_ st_ pa_ ta ow of_ ot rl hb bs se)), cA Z (gA 13) 0 7 Mw, cR Z (gA 2) 6 7 (gG 2), cR Z (gA 3) 6 7 (gG 3), cA Z (xA 2) 0 8 Mk, cA Z (xA 3) 0 8 Mm, cA Z (gA 57) 0 8 F2]) (fun _ => rfl) dX12_runsOf_88 (fun F2 eF2 => ?_)
          have hF2 : ∀ j, j < 8 → (-2147483648) ≤ F2 j ∧ F2 j ≤ 2147483647 := by rw [eF2]; exact updI_B h_Ru1 (by (first | (clear b_cu b_nr b_tm b_at_ b_to_ b_fa b_va b_np b_tn b_pc_ b_st_ b_pa_ b_ta b_ow b_of_ b_ot b_rl b_hb b_bs b_se; omega) | omega))
          refine g_iload_n (pc := 89) X 2 rfl dX12_runsOf_89 ?_
          refine g_iload (pc := 90) X 1 rfl dX12_runsOf_90 ?_
          refine g_absI (pc := 92) X mw_45_18 mw_44_21 mw_25_23 mw_44_22 (by decide) (Nat.le_of_ble_eq_true rfl) (by decide) (by decide) (by (first | (clear b_cu b_nr b_tm b_at_ b_to_ b_fa b_va b_np b_tn b_pc_ b_st_ b_pa_ b_ta b_ow b_of_ b_ot b_rl b_hb b_bs b_se; omega) | omega)) (by (first | (clear b_cu b_nr b_tm b_at_ b_to_ b_fa b_va b_np b_tn b_pc_ b_st_ b_pa_ b_ta b_ow b_of_ b_ot b_rl b_hb b_bs b_se; omega) | omega)) dX12_runsOf_92 ?_
          refine g_nameI (fun y3 ey3 => ?_)
          have my3 : 0 ≤ y3 ∧ (y3 = ru1 ∨ y3 = -ru1) ∧ ru1 ≤ y3 ∧ -ru1 ≤ y3 := by rw [ey3]; exact absF _
          clear ey3
          refine g_iaddI (pc := 95) X dX12_runsOf_95 ?_
          refine g_istore_n (pc := 96) X (i := 3) rfl (by decide) (lv' := [(3, .int (iI (n1 + y3))), (5, .int (iI w1)), (4, .int (iI ru1)), (0, .ref g0), (1, .int (iI rm)), (2, .int (iI cu))]) rfl dX12_runsOf_96 ?_
          refine g_iincI (pc := 97) X 1 rfl (by decide) (lv' := [(5, .int (iI (w1 + 1))), (3, .int (iI (n1 + y3))), (4, .int (iI ru1)), (0, .ref g0), (1, .int (iI rm)), (2, .int (iI cu))]) rfl dX12_runsOf_97 ?_
          refine g_goto (pc := 100) X 8 (by decide) dX12_runsOf_100 ?_
          refine g_lv (lv' := [(5, .int (iI (w1 + 1))), (4, .int (iI ru1)), (3, .int (iI (n1 + y3))), (0, .ref g0), (1, .int (iI rm)), (2, .int (iI cu))]) [0, 2, 1, 3, 4, 5] rfl ?_
          exact ih (n1 + y3) ru1 (w1 + 1) F2 (by (first | (clear b_cu b_nr b_tm b_at_ b_to_ b_fa b_va b_np b_tn b_pc_ b_st_ b_pa_ b_ta b_ow b_of_ b_ot b_rl b_hb b_bs b_se; omega) | omega)) (b_ru1) (by (first | (clear b_cu b_nr b_tm b_at_ b_to_ b_fa b_va b_np b_tn b_pc_ b_st_ b_pa_ b_ta b_ow b_of_ b_ot b_rl b_hb b_bs b_se; omega) | omega)) (hF2) (by (first | (clear b_cu b_nr b_tm b_at_ b_to_ b_fa b_va b_np b_tn b_pc_ b_st_ b_pa_ b_ta b_ow b_of_ b_ot b_rl b_hb b_bs b_se; omega) | omega)) (by (first | (clear b_cu b_nr b_tm b_at_ b_to_ b_fa b_va b_np b_tn b_pc_ b_st_ b_pa_ b_ta b_ow b_of_ b_ot b_rl b_hb b_bs b_se; omega) | omega)) (by (first | (clear b_cu b_nr b_tm b_at_ b_to_ b_fa b_va b_np b_tn b_pc_ b_st_ b_pa_ b_ta b_ow b_of_ b_ot b_rl b_hb b_bs b_se; omega) | omega))
        · refine g_iload (pc := 24) X 1 rfl dX12_runsOf_24 ?_
          refine g_aload_n (pc := 26) X 3 rfl dX12_runsOf_26 ?_
          refine g_get (pc := 27) X inlX12 0 rfl rfl 3 (by decide) mw_7_15 rfl dX12_runsOf_27 ?_
          refine g_iload_n (pc := 30) X 4 rfl dX12_runsOf_30 ?_
          refine g_aaldG (pc := 31) X 3 rfl (b_rm.1) (Int.lt_of_le_of_lt b_rm.2 (by decide)) (Int.le_trans b_rm.2 (by decide)) (hG 3) dX12_runsOf_31 ?_
          refine g_iload (pc := 32) X 0 rfl dX12_runsOf_32 ?_
          refine g_iconst (pc := 34) X (iI 1) (by rfl) dX12_runsOf_34 ?_
          refine g_isubI (pc := 35) X dX12_runsOf_35 ?_
          refine g_ialdI (pc := 36) X 5 rfl (by (first | (clear b_cu b_nr b_tm b_at_ b_to_ b_fa b_va b_np b_tn b_pc_ b_st_ b_pa_ b_ta b_ow b_of_ b_ot b_rl b_hb b_bs b_se; omega) | omega)) (by (first | (clear b_cu b_nr b_tm b_at_ b_to_ b_fa b_va b_np b_tn b_pc_ b_st_ b_pa_ b_ta b_ow b_of_ b_ot b_rl b_hb b_bs b_se; omega) | omega)) (by (first | (clear b_cu b_nr b_tm b_at_ b_to_ b_fa b_va b_np b_tn b_pc_ b_st_ b_pa_ b_ta b_ow b_of_ b_ot b_rl b_hb b_bs b_se; omega) | omega)) dX12_runsOf_36 ?_
          refine g_nameI (fun y4 ey4 => ?_)
          have by4 : (-50) ≤ y4 ∧ y4 ≤ 50 := by rw [ey4]; exact h_Mm _ (by (first | (clear b_cu b_nr b_tm b_at_ b_to_ b_fa b_va b_np b_tn b_pc_ b_st_ b_pa_ b_ta b_ow b_of_ b_ot b_rl b_hb b_bs b_se; omega) | omega))
          refine g_aload_n (pc := 37) X 3 rfl dX12_runsOf_37 ?_
          refine g_get (pc := 38) X inlX12 0 rfl rfl 2 (by decide) mw_7_14 rfl dX12_runsOf_38 ?_
          refine g_iload_n (pc := 41) X 4 rfl dX12_runsOf_41 ?_
          refine g_aaldG (pc := 42) X 2 rfl (b_rm.1) (Int.lt_of_le_of_lt b_rm.2 (by decide)) (Int.le_trans b_rm.2 (by decide)) (hG 2) dX12_runsOf_42 ?_
          refine g_iload (pc := 43) X 0 rfl dX12_runsOf_43 ?_
          refine g_iconst (pc := 45) X (iI 1) (by rfl) dX12_runsOf_45 ?_
          refine g_isubI (pc := 46) X dX12_runsOf_46 ?_
          refine g_ialdI (pc := 47) X 4 rfl (by (first | (clear b_cu b_nr b_tm b_at_ b_to_ b_fa b_va b_np b_tn b_pc_ b_st_ b_pa_ b_ta b_ow b_of_ b_ot b_rl b_hb b_bs b_se; omega) | omega)) (by (first | (clear b_cu b_nr b_tm b_at_ b_to_ b_fa b_va b_np b_tn b_pc_ b_st_ b_pa_ b_ta b_ow b_of_ b_ot b_rl b_hb b_bs b_se; omega) | omega)) (by (first | (clear b_cu b_nr b_tm b_at_ b_to_ b_fa b_va b_np b_tn b_pc_ b_st_ b_pa_ b_ta b_ow b_of_ b_ot b_rl b_hb b_bs b_se; omega) | omega)) dX12_runsOf_47 ?_
          refine g_nameI (fun y5 ey5 => ?_)
          have by5 : 0 ≤ y5 ∧ y5 ≤ 400 := by rw [ey5]; exact h_Mk _ (by (first | (clear b_cu b_nr b_tm b_at_ b_to_ b_fa b_va b_np b_tn b_pc_ b_st_ b_pa_ b_ta b_ow b_of_ b_ot b_rl b_hb b_bs b_se; omega) | omega))
          refine g_imulI (pc := 48) X dX12_runsOf_48 ?_
          refine g_nameI (fun y6 ey6 => ?_)
          have by6 : (-20000) ≤ y6 ∧ y6 ≤ 20000 := by rw [ey6]; exact mulB (show (-50) ≤ y4 ∧ y4 ≤ 50 by (first | (clear b_cu b_nr b_tm b_at_ b_to_ b_fa b_va b_np b_tn b_pc_ b_st_ b_pa_ b_ta b_ow b_of_ b_ot b_rl b_hb b_bs b_se; omega) | omega)) (show (-400) ≤ y5 ∧ y5 ≤ 400 by (first | (clear b_cu b_nr b_tm b_at_ b_to_ b_fa b_va b_np b_tn b_pc_ b_st_ b_pa_ b_ta b_ow b_of_ b_ot b_rl b_hb b_bs b_se; omega) | omega)) (by decide)
          refine g_bipush (pc := 49) X (iI 100) (by decide) dX12_runsOf_49 ?_
          refine g_idivI (pc := 51) X ⟨by (first | (clear b_cu b_nr b_tm b_at_ b_to_ b_fa b_va b_np b_tn b_pc_ b_st_ b_pa_ b_ta b_ow b_of_ b_ot b_rl b_hb b_bs b_se; omega) | omega), by (first | (clear b_cu b_nr b_tm b_at_ b_to_ b_fa b_va b_np b_tn b_pc_ b_st_ b_pa_ b_ta b_ow b_of_ b_ot b_rl b_hb b_bs b_se; omega) | omega)⟩ ⟨by decide, by decide⟩ (by decide) (by decide) dX12_runsOf_51 ?_
          refine g_nameI (fun y7 ey7 => ?_)
          have by7 : (-200) ≤ y7 ∧ y7 ≤ 200 := by rw [ey7]; exact tdivB2 (by decide) (by (first | (clear b_cu b_nr b_tm b_at_ b_to_ b_fa b_va b_np b_tn b_pc_ b_st_ b_pa_ b_ta b_ow b_of_ b_ot b_rl b_hb b_bs b_se; omega) | omega))
          refine g_iaddI (pc := 52) X dX12_runsOf_52 ?_
          refine g_istore (pc := 53) X (by decide) (lv' := [(4, .int (iI (ru1 + y7))), (5, .int (iI w1)), (3, .int (iI n1)), (0, .ref g0), (1, .int (iI rm)), (2, .int (iI cu))]) rfl dX12_runsOf_53 ?_
          refine g_iload_n (pc := 55) X 5 rfl dX12_runsOf_55 ?_
          refine g_iload (pc := 56) X 1 rfl dX12_runsOf_56 ?_
          refine g_iconst (pc := 58) X (iI 1) (by rfl) dX12_runsOf_58 ?_
          refine g_isubI (pc := 59) X dX12_runsOf_59 ?_
          refine g_ishr (pc := 60) X dX12_runsOf_60 ?_
          refine g_any (fun y8 by8 => ?_)
          refine g_iconst (pc := 61) X (iI 1) (by rfl) dX12_runsOf_61 ?_
          refine g_iandM (pc := 62) X 1 (by decide) (by decide) (by decide) dX12_runsOf_62 (fun y9 by9 => ?_)
          refine g_iconst (pc := 63) X (iI 1) (by rfl) dX12_runsOf_63 ?_
          refine g_icmp_neI (pc := 64) X 80 (by decide) (inRb by9 (by decide) (by decide)) ⟨by decide, by decide⟩ dX12_runsOf_64 (fun c64 => ?_) (fun c64 => ?_)
          · refine g_aload_n (pc := 80) X 3 rfl dX12_runsOf_80 ?_
            refine g_get (pc := 81) X inlX12 0 rfl rfl 57 (by decide) mw_9_8 rfl dX12_runsOf_81 ?_
            refine g_iload (pc := 84) X 1 rfl dX12_runsOf_84 ?_
            refine g_iload (pc := 86) X 0 rfl dX12_runsOf_86 ?_
            refine g_iastG (pc := 88) X 6 rfl (b_w1.1) (by (first | (clear b_cu b_nr b_tm b_at_ b_to_ b_fa b_va b_np b_tn b_pc_ b_st_ b_pa_ b_ta b_ow b_of_ b_ot b_rl b_hb b_bs b_se; omega) | omega)) (Int.le_trans b_w1.2 (by decide)) (ws' := fun F10 => [(g0, .inr (12, mO gA nr tm at_ to_ fa va np tn pc_ st_ pa_ ta ow of_ ot rl hb bs se)), cA Z (gA 13) 0 7 Mw, cR Z (gA 2) 6 7 (gG 2), cR Z (gA 3) 6 7 (gG 3), cA Z (xA 2) 0 8 Mk, cA Z (xA 3) 0 8 Mm, cA Z (gA 57) 0 8 F10]) (fun _ => rfl) dX12_runsOf_88 (fun F10 eF10 => ?_)
            have hF10 : ∀ j, j < 8 → (-2147483648) ≤ F10 j ∧ F10 j ≤ 2147483647 := by rw [eF10]; exact updI_B h_Ru1 (by (first | (clear b_cu b_nr b_tm b_at_ b_to_ b_fa b_va b_np b_tn b_pc_ b_st_ b_pa_ b_ta b_ow b_of_ b_ot b_rl b_hb b_bs b_se; omega) | omega))
            refine g_iload_n (pc := 89) X 2 rfl dX12_runsOf_89 ?_
            refine g_iload (pc := 90) X 0 rfl dX12_runsOf_90 ?_
            refine g_absI (pc := 92) X mw_45_18 mw_44_21 mw_25_23 mw_44_22 (by decide) (Nat.le_of_ble_eq_true rfl) (by decide) (by decide) (by (first | (clear b_cu b_nr b_tm b_at_ b_to_ b_fa b_va b_np b_tn b_pc_ b_st_ b_pa_ b_ta b_ow b_of_ b_ot b_rl b_hb b_bs b_se; omega) | omega)) (by (first | (clear b_cu b_nr b_tm b_at_ b_to_ b_fa b_va b_np b_tn b_pc_ b_st_ b_pa_ b_ta b_ow b_of_ b_ot b_rl b_hb b_bs b_se; omega) | omega)) dX12_runsOf_92 ?_
            refine g_nameI (fun y11 ey11 => ?_)
            have my11 : 0 ≤ y11 ∧ (y11 = ru1 + y7 ∨ y11 = -(ru1 + y7)) ∧ ru1 + y7 ≤ y11 ∧ -(ru1 + y7) ≤ y11 := by rw [ey11]; exact absF _
            clear ey11
            refine g_iaddI (pc := 95) X dX12_runsOf_95 ?_
            refine g_istore_n (pc := 96) X (i := 3) rfl (by decide) (lv' := [(3, .int (iI (n1 + y11))), (4, .int (iI (ru1 + y7))), (5, .int (iI w1)), (0, .ref g0), (1, .int (iI rm)), (2, .int (iI cu))]) rfl dX12_runsOf_96 ?_
            refine g_iincI (pc := 97) X 2 rfl (by decide) (lv' := [(5, .int (iI (w1 + 1))), (3, .int (iI (n1 + y11))), (4, .int (iI (ru1 + y7))), (0, .ref g0), (1, .int (iI rm)), (2, .int (iI cu))]) rfl dX12_runsOf_97 ?_
            refine g_goto (pc := 100) X 8 (by decide) dX12_runsOf_100 ?_
            refine g_lv (lv' := [(5, .int (iI (w1 + 1))), (4, .int (iI (ru1 + y7))), (3, .int (iI (n1 + y11))), (0, .ref g0), (1, .int (iI rm)), (2, .int (iI cu))]) [0, 2, 1, 3, 4, 5] rfl ?_
            exact ih (n1 + y11) (ru1 + y7) (w1 + 1) F10 (by (first | (clear b_cu b_nr b_tm b_at_ b_to_ b_fa b_va b_np b_tn b_pc_ b_st_ b_pa_ b_ta b_ow b_of_ b_ot b_rl b_hb b_bs b_se; omega) | omega)) (by (first | (clear b_cu b_nr b_tm b_at_ b_to_ b_fa b_va b_np b_tn b_pc_ b_st_ b_pa_ b_ta b_ow b_of_ b_ot b_rl b_hb b_bs b_se; omega) | omega)) (by (first | (clear b_cu b_nr b_tm b_at_ b_to_ b_fa b_va b_np b_tn b_pc_ b_st_ b_pa_ b_ta b_ow b_of_ b_ot b_rl b_hb b_bs b_se; omega) | omega)) (hF10) (by (first | (clear b_cu b_nr b_tm b_at_ b_to_ b_fa b_va b_np b_tn b_pc_ b_st_ b_pa_ b_ta b_ow b_of_ b_ot b_rl b_hb b_bs b_se; omega) | omega)) (by (first | (clear b_cu b_nr b_tm b_at_ b_to_ b_fa b_va b_np b_tn b_pc_ b_st_ b_pa_ b_ta b_ow b_of_ b_ot b_rl b_hb b_bs b_se; omega) | omega)) (by (first | (clear b_cu b_nr b_tm b_at_ b_to_ b_fa b_va b_np b_tn b_pc_ b_st_ b_pa_ b_ta b_ow b_of_ b_ot b_rl b_hb b_bs b_se; omega) | omega))
          · refine g_iload_n (pc := 67) X 2 rfl dX12_runsOf_67 ?_
            refine g_iconst (pc := 68) X (iI 2) (by rfl) dX12_runsOf_68 ?_
            refine g_iload (pc := 69) X 0 rfl dX12_runsOf_69 ?_
            refine g_absI (pc := 71) X mw_45_18 mw_44_21 mw_25_23 mw_44_22 (by decide) (Nat.le_of_ble_eq_true rfl) (by decide) (by decide) (by (first | (clear b_cu b_nr b_tm b_at_ b_to_ b_fa b_va b_np b_tn b_pc_ b_st_ b_pa_ b_ta b_ow b_of_ b_ot b_rl b_hb b_bs b_se; omega) | omega)) (by (first | (clear b_cu b_nr b_tm b_at_ b_to_ b_fa b_va b_np b_tn b_pc_ b_st_ b_pa_ b_ta b_ow b_of_ b_ot b_rl b_hb b_bs b_se; omega) | omega)) dX12_runsOf_71 ?_
            refine g_nameI (fun y12 ey12 => ?_)
            have my12 : 0 ≤ y12 ∧ (y12 = ru1 + y7 ∨ y12 = -(ru1 + y7)) ∧ ru1 + y7 ≤ y12 ∧ -(ru1 + y7) ≤ y12 := by rw [ey12]; exact absF _
            clear ey12
            refine g_imulI (pc := 74) X dX12_runsOf_74 ?_
            refine g_iaddI (pc := 75) X dX12_runsOf_75 ?_
            refine g_istore_n (pc := 76) X (i := 3) rfl (by decide) (lv' := [(3, .int (iI (n1 + (2 * y12)))), (4, .int (iI (ru1 + y7))), (5, .int (iI w1)), (0, .ref g0), (1, .int (iI rm)), (2, .int (iI cu))]) rfl dX12_runsOf_76 ?_
            refine g_iconst (pc := 77) X (iI 0) (by rfl) dX12_runsOf_77 ?_
            refine g_istore (pc := 78) X (by decide) (lv' := [(4, .int (iI 0)), (3, .int (iI (n1 + (2 * y12)))), (5, .int (iI w1)), (0, .ref g0), (1, .int (iI rm)), (2, .int (iI cu))]) rfl dX12_runsOf_78 ?_
            refine g_aload_n (pc := 80) X 3 rfl dX12_runsOf_80 ?_
            refine g_get (pc := 81) X inlX12 0 rfl rfl 57 (by decide) mw_9_8 rfl dX12_runsOf_81 ?_
            refine g_iload (pc := 84) X 2 rfl dX12_runsOf_84 ?_
            refine g_iload (pc := 86) X 0 rfl dX12_runsOf_86 ?_
            refine g_iastG (pc := 88) X 6 rfl (b_w1.1) (by (first | (clear b_cu b_nr b_tm b_at_ b_to_ b_fa b_va b_np b_tn b_pc_ b_st_ b_pa_ b_ta b_ow b_of_ b_ot b_rl b_hb b_bs b_se; omega) | omega)) (Int.le_trans b_w1.2 (by decide)) (ws' := fun F13 => [(g0, .inr (12, mO gA nr tm at_ to_ fa va np tn pc_ st_ pa_ ta ow of_ ot rl hb bs se)), cA Z (gA 13) 0 7 Mw, cR Z (gA 2) 6 7 (gG 2), cR Z (gA 3) 6 7 (gG 3), cA Z (xA 2) 0 8 Mk, cA Z (xA 3) 0 8 Mm, cA Z (gA 57) 0 8 F13]) (fun _ => rfl) dX12_runsOf_88 (fun F13 eF13 => ?_)
            have hF13 : ∀ j, j < 8 → (-2147483648) ≤ F13 j ∧ F13 j ≤ 2147483647 := by rw [eF13]; exact updI_B h_Ru1 (by (first | (clear b_cu b_nr b_tm b_at_ b_to_ b_fa b_va b_np b_tn b_pc_ b_st_ b_pa_ b_ta b_ow b_of_ b_ot b_rl b_hb b_bs b_se; omega) | omega))
            refine g_iload_n (pc := 89) X 1 rfl dX12_runsOf_89 ?_
            refine g_iload (pc := 90) X 0 rfl dX12_runsOf_90 ?_
            refine g_absI (pc := 92) X mw_45_18 mw_44_21 mw_25_23 mw_44_22 (by decide) (Nat.le_of_ble_eq_true rfl) (by decide) (by decide) (by (first | (clear b_cu b_nr b_tm b_at_ b_to_ b_fa b_va b_np b_tn b_pc_ b_st_ b_pa_ b_ta b_ow b_of_ b_ot b_rl b_hb b_bs b_se; omega) | omega)) (by (first | (clear b_cu b_nr b_tm b_at_ b_to_ b_fa b_va b_np b_tn b_pc_ b_st_ b_pa_ b_ta b_ow b_of_ b_ot b_rl b_hb b_bs b_se; omega) | omega)) dX12_runsOf_92 ?_
            refine g_nameI (fun y14 ey14 => ?_)
            have my14 : 0 ≤ y14 ∧ (y14 = 0 ∨ y14 = -0) ∧ 0 ≤ y14 ∧ -0 ≤ y14 := by rw [ey14]; exact absF _
            clear ey14
            refine g_iaddI (pc := 95) X dX12_runsOf_95 ?_
            refine g_istore_n (pc := 96) X (i := 3) rfl (by decide) (lv' := [(3, .int (iI ((n1 + (2 * y12)) + y14))), (4, .int (iI 0)), (5, .int (iI w1)), (0, .ref g0), (1, .int (iI rm)), (2, .int (iI cu))]) rfl dX12_runsOf_96 ?_
            refine g_iincI (pc := 97) X 2 rfl (by decide) (lv' := [(5, .int (iI (w1 + 1))), (3, .int (iI ((n1 + (2 * y12)) + y14))), (4, .int (iI 0)), (0, .ref g0), (1, .int (iI rm)), (2, .int (iI cu))]) rfl dX12_runsOf_97 ?_
            refine g_goto (pc := 100) X 8 (by decide) dX12_runsOf_100 ?_
            refine g_lv (lv' := [(5, .int (iI (w1 + 1))), (4, .int (iI 0)), (3, .int (iI ((n1 + (2 * y12)) + y14))), (0, .ref g0), (1, .int (iI rm)), (2, .int (iI cu))]) [0, 2, 1, 3, 4, 5] rfl ?_
            exact ih ((n1 + (2 * y12)) + y14) 0 (w1 + 1) F13 (by (first | (clear b_cu b_nr b_tm b_at_ b_to_ b_fa b_va b_np b_tn b_pc_ b_st_ b_pa_ b_ta b_ow b_of_ b_ot b_rl b_hb b_bs b_se; omega) | omega)) (by (first | (clear b_cu b_nr b_tm b_at_ b_to_ b_fa b_va b_np b_tn b_pc_ b_st_ b_pa_ b_ta b_ow b_of_ b_ot b_rl b_hb b_bs b_se; omega) | omega)) (by (first | (clear b_cu b_nr b_tm b_at_ b_to_ b_fa b_va b_np b_tn b_pc_ b_st_ b_pa_ b_ta b_ow b_of_ b_ot b_rl b_hb b_bs b_se; omega) | omega)) (hF13) (by (first | (clear b_cu b_nr b_tm b_at_ b_to_ b_fa b_va b_np b_tn b_pc_ b_st_ b_pa_ b_ta b_ow b_of_ b_ot b_rl b_hb b_bs b_se; omega) | omega)) (by (first | (clear b_cu b_nr b_tm b_at_ b_to_ b_fa b_va b_np b_tn b_pc_ b_st_ b_pa_ b_ta b_ow b_of_ b_ot b_rl b_hb b_bs b_se; omega) | omega)) (by (first | (clear b_cu b_nr b_tm b_at_ b_to_ b_fa b_va b_np b_tn b_pc_ b_st_ b_pa_ b_ta b_ow b_of_ b_ot b_rl b_hb b_bs b_se; omega) | omega))
  exact loop8 _ 0 0 0 Ru (by (first | (clear b_cu b_nr b_tm b_at_ b_to_ b_fa b_va b_np b_tn b_pc_ b_st_ b_pa_ b_ta b_ow b_of_ b_ot b_rl b_hb b_bs b_se; omega) | omega)) (by (first | (clear b_cu b_nr b_tm b_at_ b_to_ b_fa b_va b_np b_tn b_pc_ b_st_ b_pa_ b_ta b_ow b_of_ b_ot b_rl b_hb b_bs b_se; omega) | omega)) (by (first | (clear b_cu b_nr b_tm b_at_ b_to_ b_fa b_va b_np b_tn b_pc_ b_st_ b_pa_ b_ta b_ow b_of_ b_ot b_rl b_hb b_bs b_se; omega) | omega)) (h_Ru) (by (first | (clear b_cu b_nr b_tm b_at_ b_to_ b_fa b_va b_np b_tn b_pc_ b_st_ b_pa_ b_ta b_ow b_of_ b_ot b_rl b_hb b_bs b_se; omega) | omega)) (by (first | (clear b_cu b_nr b_tm b_at_ b_to_ b_fa b_va b_np b_tn b_pc_ b_st_ b_pa_ b_ta b_ow b_of_ b_ot b_rl b_hb b_bs b_se; omega) | omega)) (Nat.lt_succ_self _)

set_option maxHeartbeats 4000000 in
set_option maxRecDepth 100000 in
theorem k_X12_areCuts_A (l : Launch) (Z : gZ) (g0 : Nat) (gA : Nat → Nat) (rm : Int) (b1 : Int) (nr : Int) (tm : Int) (at_ : Int) (to_ : Int) (fa : Int) (va : Int) (np : Int) (tn : Int) (pc_ : Int) (st_ : Int) (pa_ : Int) (ta : Int) (ow : Int) (of_ : Int) (ot : Int) (rl : Int) (hb : Int) (bs : Int) (se : Int) (b_rm : (-2147483648) ≤ rm ∧ rm ≤ 2147483647) (b_b1 : (-2147483648) ≤ b1 ∧ b1 ≤ 2147483647) (b_nr : 0 ≤ nr ∧ nr ≤ 6) (b_tm : 0 ≤ tm ∧ tm ≤ 400) (b_at_ : 0 ≤ at_ ∧ at_ ≤ 400) (b_to_ : 0 ≤ to_ ∧ to_ ≤ 400) (b_fa : (-1) ≤ fa ∧ fa ≤ 400) (b_va : (-2147483648) ≤ va ∧ va ≤ 2147483647) (b_np : 0 ≤ np ∧ np ≤ 4) (b_tn : 0 ≤ tn ∧ tn ≤ 20) (b_pc_ : 0 ≤ pc_ ∧ pc_ ≤ 480) (b_st_ : 0 ≤ st_ ∧ st_ ≤ 240) (b_pa_ : (-1) ≤ pa_ ∧ pa_ ≤ 3) (b_ta : (-2147483648) ≤ ta ∧ ta ≤ 2147483647) (b_ow : (-2147483648) ≤ ow ∧ ow ≤ 2147483647) (b_of_ : (-2147483648) ≤ of_ ∧ of_ ≤ 2147483647) (b_ot : (-2147483648) ≤ ot ∧ ot ≤ 2147483647) (b_rl : 0 ≤ rl ∧ rl ≤ 2880) (b_hb : 0 ≤ hb ∧ hb ≤ 4) (b_bs : (-2147483648) ≤ bs ∧ bs ≤ 2147483647) (b_se : 0 ≤ se ∧ se ≤ 10) (hk : ¬ (0 ≤ rm ∧ rm < nr)) : Con l Z yX12_areCuts cX12_areCuts 3 (some .boolean) 2 46 0 0 [.ref g0, .int (iI rm), .int (iI b1)] [(g0, .inr (12, mO gA nr tm at_ to_ fa va np tn pc_ st_ pa_ ta ow of_ ot rl hb bs se))] (fun r w' => (r = some (.int (iI 0))) ∧ (w' = [(g0, .inr (12, mO gA nr tm at_ to_ fa va np tn pc_ st_ pa_ ta ow of_ ot rl hb bs se))])) := by
  refine enter (by decide) (Nat.le_of_ble_eq_true rfl) ?_
  intro p e s m args below meth c A X hnm hA
  have X : Cx p s m args meth c cX12_areCuts 3 (some .boolean) RX12 Z A := X
  refine g_as (pc' := 0) (lv' := [(0, .ref g0), (1, .int (iI rm)), (2, .int (iI b1))]) (st' := []) (ws' := [(g0, .inr (12, mO gA nr tm at_ to_ fa va np tn pc_ st_ pa_ ta ow of_ ot rl hb bs se))]) rfl rfl rfl rfl ?_
  refine g_aload_n (pc := 0) X 0 rfl dX12_areCuts_0 ?_
  refine g_iload_n (pc := 1) X 1 rfl dX12_areCuts_1 ?_
  refine g_callV (pc := 2) X (k_X12_isRoom l Z g0 gA rm nr tm at_ to_ fa va np tn pc_ st_ pa_ ta ow of_ ot rl hb bs se b_rm b_nr b_tm b_at_ b_to_ b_fa b_va b_np b_tn b_pc_ b_st_ b_pa_ b_ta b_ow b_of_ b_ot b_rl b_hb b_bs b_se) iM_X12_isRoom mw_28_5 mw_28_6 mw_28_7 0 rfl rfl [0] [] rfl (wr := []) rfl (by decide) rfl rfl (Nat.le_of_ble_eq_true rfl) (by decide) dX12_areCuts_2 (fun r w' hpo => ?_)
  obtain ⟨rfl, rfl⟩ := hpo
  refine g_as (pc' := 5) (lv' := [(0, .ref g0), (1, .int (iI rm)), (2, .int (iI b1))]) (st' := [.int (iI (bI (0 ≤ rm ∧ rm ≤ nr - 1)))]) (ws' := [(g0, .inr (12, mO gA nr tm at_ to_ fa va np tn pc_ st_ pa_ ta ow of_ ot rl hb bs se))]) rfl rfl rfl rfl ?_
  refine g_if_eqB (pc := 5) X 34 (by decide) dX12_areCuts_5 (fun c5 => ?_) (fun h => absurd h (by (first | (clear b_b1 b_tm b_at_ b_to_ b_fa b_va b_np b_tn b_pc_ b_st_ b_pa_ b_ta b_ow b_of_ b_ot b_rl b_hb b_bs b_se; omega) | omega)))
  refine g_iconst (pc := 34) X (iI 0) (by rfl) dX12_areCuts_34 ?_
  exact g_zret (pc := 35) X hA (rfl) (⟨rfl, rfl⟩) (by decide) (by decide) dX12_areCuts_35

set_option maxHeartbeats 4000000 in
set_option maxRecDepth 100000 in
theorem k_X12_areCuts_S (l : Launch) (Z : gZ) (g0 : Nat) (gA : Nat → Nat) (Mw : Nat → Int) (rm : Int) (b1 : Int) (nr : Int) (tm : Int) (at_ : Int) (to_ : Int) (fa : Int) (va : Int) (np : Int) (tn : Int) (pc_ : Int) (st_ : Int) (pa_ : Int) (ta : Int) (ow : Int) (of_ : Int) (ot : Int) (rl : Int) (hb : Int) (bs : Int) (se : Int) (b_rm : (-2147483648) ≤ rm ∧ rm ≤ 2147483647) (b_b1 : (-2147483648) ≤ b1 ∧ b1 ≤ 2147483647) (b_nr : 0 ≤ nr ∧ nr ≤ 6) (b_tm : 0 ≤ tm ∧ tm ≤ 400) (b_at_ : 0 ≤ at_ ∧ at_ ≤ 400) (b_to_ : 0 ≤ to_ ∧ to_ ≤ 400) (b_fa : (-1) ≤ fa ∧ fa ≤ 400) (b_va : (-2147483648) ≤ va ∧ va ≤ 2147483647) (b_np : 0 ≤ np ∧ np ≤ 4) (b_tn : 0 ≤ tn ∧ tn ≤ 20) (b_pc_ : 0 ≤ pc_ ∧ pc_ ≤ 480) (b_st_ : 0 ≤ st_ ∧ st_ ≤ 240) (b_pa_ : (-1) ≤ pa_ ∧ pa_ ≤ 3) (b_ta : (-2147483648) ≤ ta ∧ ta ≤ 2147483647) (b_ow : (-2147483648) ≤ ow ∧ ow ≤ 2147483647) (b_of_ : (-2147483648) ≤ of_ ∧ of_ ≤ 2147483647) (b_ot : (-2147483648) ≤ ot ∧ ot ≤ 2147483647) (b_rl : 0 ≤ rl ∧ rl ≤ 2880) (b_hb : 0 ≤ hb ∧ hb ≤ 4) (b_bs : (-2147483648) ≤ bs ∧ bs ≤ 2147483647) (b_se : 0 ≤ se ∧ se ≤ 10) (hk : 0 ≤ rm ∧ rm < nr) (hwn : 1 ≤ Mw rm.toNat ∧ Mw rm.toNat ≤ 8) (h_Mw : ∀ j, j < 7 → 0 ≤ Mw j ∧ Mw j ≤ 8) : Con l Z yX12_areCuts cX12_areCuts 3 (some .boolean) 2 46 0 0 [.ref g0, .int (iI rm), .int (iI b1)] [(g0, .inr (12, mO gA nr tm at_ to_ fa va np tn pc_ st_ pa_ ta ow of_ ot rl hb bs se)), cA Z (gA 13) 0 7 Mw] (fun r w' => ∃ (y : Int), (r = some (.int (iI y))) ∧ (w' = [(g0, .inr (12, mO gA nr tm at_ to_ fa va np tn pc_ st_ pa_ ta ow of_ ot rl hb bs se)), cA Z (gA 13) 0 7 Mw]) ∧ (0 ≤ y ∧ y ≤ 1)) := by
  refine enter (by decide) (Nat.le_of_ble_eq_true rfl) ?_
  intro p e s m args below meth c A X hnm hA
  have X : Cx p s m args meth c cX12_areCuts 3 (some .boolean) RX12 Z A := X
  refine g_as (pc' := 0) (lv' := [(0, .ref g0), (1, .int (iI rm)), (2, .int (iI b1))]) (st' := []) (ws' := [(g0, .inr (12, mO gA nr tm at_ to_ fa va np tn pc_ st_ pa_ ta ow of_ ot rl hb bs se)), cA Z (gA 13) 0 7 Mw]) rfl rfl rfl rfl ?_
  refine g_aload_n (pc := 0) X 0 rfl dX12_areCuts_0 ?_
  refine g_iload_n (pc := 1) X 1 rfl dX12_areCuts_1 ?_
  refine g_callV (pc := 2) X (k_X12_isRoom l Z g0 gA rm nr tm at_ to_ fa va np tn pc_ st_ pa_ ta ow of_ ot rl hb bs se b_rm b_nr b_tm b_at_ b_to_ b_fa b_va b_np b_tn b_pc_ b_st_ b_pa_ b_ta b_ow b_of_ b_ot b_rl b_hb b_bs b_se) iM_X12_isRoom mw_28_5 mw_28_6 mw_28_7 0 rfl rfl [0] [1] rfl (wr := [cA Z (gA 13) 0 7 Mw]) rfl (by decide) rfl rfl (Nat.le_of_ble_eq_true rfl) (by decide) dX12_areCuts_2 (fun r w' hpo => ?_)
  obtain ⟨rfl, rfl⟩ := hpo
  refine g_as (pc' := 5) (lv' := [(0, .ref g0), (1, .int (iI rm)), (2, .int (iI b1))]) (st' := [.int (iI (bI (0 ≤ rm ∧ rm ≤ nr - 1)))]) (ws' := [cA Z (gA 13) 0 7 Mw, (g0, .inr (12, mO gA nr tm at_ to_ fa va np tn pc_ st_ pa_ ta ow of_ ot rl hb bs se))]) rfl rfl rfl rfl ?_
  refine g_if_eqB (pc := 5) X 34 (by decide) dX12_areCuts_5 (fun h => absurd h (by (first | (clear b_tm b_at_ b_to_ b_fa b_va b_np b_tn b_pc_ b_st_ b_pa_ b_ta b_ow b_of_ b_ot b_rl b_hb b_bs b_se; omega) | omega))) (fun c5 => ?_)
  refine g_iload_n (pc := 8) X 2 rfl dX12_areCuts_8 ?_
  refine g_i2lI (pc := 9) X b_b1 dX12_areCuts_9 ?_
  refine g_lconst (pc := 10) X (lI 0) (by decide) dX12_areCuts_10 ?_
  refine g_iconst (pc := 11) X (iI 1) (by rfl) dX12_areCuts_11 ?_
  refine g_aload_n (pc := 12) X 0 rfl dX12_areCuts_12 ?_
  refine g_get (pc := 13) X inlX12 1 rfl rfl 13 (by decide) mw_8_1 rfl dX12_areCuts_13 ?_
  refine g_iload_n (pc := 16) X 1 rfl dX12_areCuts_16 ?_
  refine g_ialdI (pc := 17) X 0 rfl (by (first | (clear b_tm b_at_ b_to_ b_fa b_va b_np b_tn b_pc_ b_st_ b_pa_ b_ta b_ow b_of_ b_ot b_rl b_hb b_bs b_se; omega) | omega)) (by (first | (clear b_tm b_at_ b_to_ b_fa b_va b_np b_tn b_pc_ b_st_ b_pa_ b_ta b_ow b_of_ b_ot b_rl b_hb b_bs b_se; omega) | omega)) (Int.le_trans b_rm.2 (by decide)) dX12_areCuts_17 ?_
  refine g_nameI (fun y2 ey2 => ?_)
  have by2 : 0 ≤ y2 ∧ y2 ≤ 8 := by rw [ey2]; exact h_Mw _ (by (first | (clear b_tm b_at_ b_to_ b_fa b_va b_np b_tn b_pc_ b_st_ b_pa_ b_ta b_ow b_of_ b_ot b_rl b_hb b_bs b_se; omega) | omega))
  have ty2 : 1 ≤ y2 ∧ y2 ≤ 8 := by rw [ey2]; exact hwn
  refine g_iconst (pc := 18) X (iI 1) (by rfl) dX12_areCuts_18 ?_
  refine g_isubI (pc := 19) X dX12_areCuts_19 ?_
  refine g_shl1 (pc := 20) X (by (first | (clear b_tm b_at_ b_to_ b_fa b_va b_np b_tn b_pc_ b_st_ b_pa_ b_ta b_ow b_of_ b_ot b_rl b_hb b_bs b_se; omega) | omega)) (by (first | (clear b_tm b_at_ b_to_ b_fa b_va b_np b_tn b_pc_ b_st_ b_pa_ b_ta b_ow b_of_ b_ot b_rl b_hb b_bs b_se; omega) | omega)) dX12_areCuts_20 (fun y3 ey3 => ?_)
  have by3 : 1 ≤ y3 ∧ y3 ≤ 128 := pow2B 7 (by decide) (by (first | (clear b_tm b_at_ b_to_ b_fa b_va b_np b_tn b_pc_ b_st_ b_pa_ b_ta b_ow b_of_ b_ot b_rl b_hb b_bs b_se; omega) | omega)) (by (first | (clear b_tm b_at_ b_to_ b_fa b_va b_np b_tn b_pc_ b_st_ b_pa_ b_ta b_ow b_of_ b_ot b_rl b_hb b_bs b_se; omega) | omega)) ey3
  refine g_iconst (pc := 21) X (iI 1) (by rfl) dX12_areCuts_21 ?_
  refine g_isubI (pc := 22) X dX12_areCuts_22 ?_
  refine g_i2lI (pc := 23) X ⟨by (first | (clear b_tm b_at_ b_to_ b_fa b_va b_np b_tn b_pc_ b_st_ b_pa_ b_ta b_ow b_of_ b_ot b_rl b_hb b_bs b_se; omega) | omega), by (first | (clear b_tm b_at_ b_to_ b_fa b_va b_np b_tn b_pc_ b_st_ b_pa_ b_ta b_ow b_of_ b_ot b_rl b_hb b_bs b_se; omega) | omega)⟩ dX12_areCuts_23 ?_
  refine g_callS (pc := 24) X (k_X12_in l Z b1 0 (y3 - 1) (by (first | (clear b_tm b_at_ b_to_ b_fa b_va b_np b_tn b_pc_ b_st_ b_pa_ b_ta b_ow b_of_ b_ot b_rl b_hb b_bs b_se; omega) | omega)) (by decide) (by (first | (clear b_tm b_at_ b_to_ b_fa b_va b_np b_tn b_pc_ b_st_ b_pa_ b_ta b_ow b_of_ b_ot b_rl b_hb b_bs b_se; omega) | omega))) iM_X12_in mw_11_13 mw_11_14 [] [0, 1] rfl (wr := [cA Z (gA 13) 0 7 Mw, (g0, .inr (12, mO gA nr tm at_ to_ fa va np tn pc_ st_ pa_ ta ow of_ ot rl hb bs se))]) rfl (by decide) rfl rfl (Nat.le_of_ble_eq_true rfl) (by decide) dX12_areCuts_24 (fun r w' hpo => ?_)
  obtain ⟨rfl, rfl⟩ := hpo
  refine g_as (pc' := 27) (lv' := [(0, .ref g0), (1, .int (iI rm)), (2, .int (iI b1))]) (st' := [.int (iI (bI (0 ≤ b1 ∧ b1 ≤ (y3 - 1))))]) (ws' := [cA Z (gA 13) 0 7 Mw, (g0, .inr (12, mO gA nr tm at_ to_ fa va np tn pc_ st_ pa_ ta ow of_ ot rl hb bs se))]) rfl rfl rfl rfl ?_
  refine g_if_eqB (pc := 27) X 34 (by decide) dX12_areCuts_27 (fun c27 => ?_) (fun c27 => ?_)
  · refine g_iconst (pc := 34) X (iI 0) (by rfl) dX12_areCuts_34 ?_
    refine g_ws (ws' := [(g0, .inr (12, mO gA nr tm at_ to_ fa va np tn pc_ st_ pa_ ta ow of_ ot rl hb bs se)), cA Z (gA 13) 0 7 Mw]) [1, 0] (by decide) rfl ?_
    exact g_zret (pc := 35) X hA (rfl) (⟨0, rfl, rfl, (by (first | (clear b_tm b_at_ b_to_ b_fa b_va b_np b_tn b_pc_ b_st_ b_pa_ b_ta b_ow b_of_ b_ot b_rl b_hb b_bs b_se; omega) | omega))⟩) (by decide) (by decide) dX12_areCuts_35
  · refine g_iconst (pc := 30) X (iI 1) (by rfl) dX12_areCuts_30 ?_
    refine g_goto (pc := 31) X 35 (by decide) dX12_areCuts_31 ?_
    refine g_ws (ws' := [(g0, .inr (12, mO gA nr tm at_ to_ fa va np tn pc_ st_ pa_ ta ow of_ ot rl hb bs se)), cA Z (gA 13) 0 7 Mw]) [1, 0] (by decide) rfl ?_
    exact g_zret (pc := 35) X hA (rfl) (⟨1, rfl, rfl, (by (first | (clear b_tm b_at_ b_to_ b_fa b_va b_np b_tn b_pc_ b_st_ b_pa_ b_ta b_ow b_of_ b_ot b_rl b_hb b_bs b_se; omega) | omega))⟩) (by decide) (by decide) dX12_areCuts_35

set_option maxHeartbeats 4000000 in
set_option maxRecDepth 100000 in
theorem k_X12_shown_A (l : Launch) (Z : gZ) (g0 : Nat) (gA : Nat → Nat) (rm : Int) (b1 : Int) (nr : Int) (tm : Int) (at_ : Int) (to_ : Int) (fa : Int) (va : Int) (np : Int) (tn : Int) (pc_ : Int) (st_ : Int) (pa_ : Int) (ta : Int) (ow : Int) (of_ : Int) (ot : Int) (rl : Int) (hb : Int) (bs : Int) (se : Int) (b_rm : (-2147483648) ≤ rm ∧ rm ≤ 2147483647) (b_b1 : (-2147483648) ≤ b1 ∧ b1 ≤ 2147483647) (b_nr : 0 ≤ nr ∧ nr ≤ 6) (b_tm : 0 ≤ tm ∧ tm ≤ 400) (b_at_ : 0 ≤ at_ ∧ at_ ≤ 400) (b_to_ : 0 ≤ to_ ∧ to_ ≤ 400) (b_fa : (-1) ≤ fa ∧ fa ≤ 400) (b_va : (-2147483648) ≤ va ∧ va ≤ 2147483647) (b_np : 0 ≤ np ∧ np ≤ 4) (b_tn : 0 ≤ tn ∧ tn ≤ 20) (b_pc_ : 0 ≤ pc_ ∧ pc_ ≤ 480) (b_st_ : 0 ≤ st_ ∧ st_ ≤ 240) (b_pa_ : (-1) ≤ pa_ ∧ pa_ ≤ 3) (b_ta : (-2147483648) ≤ ta ∧ ta ≤ 2147483647) (b_ow : (-2147483648) ≤ ow ∧ ow ≤ 2147483647) (b_of_ : (-2147483648) ≤ of_ ∧ of_ ≤ 2147483647) (b_ot : (-2147483648) ≤ ot ∧ ot ≤ 2147483647) (b_rl : 0 ≤ rl ∧ rl ≤ 2880) (b_hb : 0 ≤ hb ∧ hb ≤ 4) (b_bs : (-2147483648) ≤ bs ∧ bs ≤ 2147483647) (b_se : 0 ≤ se ∧ se ≤ 10) (hk : ¬ (0 ≤ rm ∧ rm < nr)) : Con l Z yX12_shown cX12_shown 3 (some .int) 3 68 0 0 [.ref g0, .int (iI rm), .int (iI b1)] [(g0, .inr (12, mO gA nr tm at_ to_ fa va np tn pc_ st_ pa_ ta ow of_ ot rl hb bs se))] (fun r w' => (r = some (.int (iI (-1)))) ∧ (w' = [(g0, .inr (12, mO gA nr tm at_ to_ fa va np tn pc_ st_ pa_ ta ow of_ ot rl hb bs se))])) := by
  refine enter (by decide) (Nat.le_of_ble_eq_true rfl) ?_
  intro p e s m args below meth c A X hnm hA
  have X : Cx p s m args meth c cX12_shown 3 (some .int) RX12 Z A := X
  refine g_as (pc' := 0) (lv' := [(0, .ref g0), (1, .int (iI rm)), (2, .int (iI b1))]) (st' := []) (ws' := [(g0, .inr (12, mO gA nr tm at_ to_ fa va np tn pc_ st_ pa_ ta ow of_ ot rl hb bs se))]) rfl rfl rfl rfl ?_
  refine g_aload_n (pc := 0) X 0 rfl dX12_shown_0 ?_
  refine g_iload_n (pc := 1) X 1 rfl dX12_shown_1 ?_
  refine g_iload_n (pc := 2) X 2 rfl dX12_shown_2 ?_
  refine g_callV (pc := 3) X (k_X12_areCuts_A l Z g0 gA rm b1 nr tm at_ to_ fa va np tn pc_ st_ pa_ ta ow of_ ot rl hb bs se b_rm b_b1 b_nr b_tm b_at_ b_to_ b_fa b_va b_np b_tn b_pc_ b_st_ b_pa_ b_ta b_ow b_of_ b_ot b_rl b_hb b_bs b_se (by (first | (clear b_b1 b_tm b_at_ b_to_ b_fa b_va b_np b_tn b_pc_ b_st_ b_pa_ b_ta b_ow b_of_ b_ot b_rl b_hb b_bs b_se; omega) | omega))) iM_X12_areCuts mw_45_10 mw_45_11 mw_45_12 0 rfl rfl [0] [] rfl (wr := []) rfl (by decide) rfl rfl (Nat.le_of_ble_eq_true rfl) (by decide) dX12_shown_3 (fun r w' hpo => ?_)
  obtain ⟨rfl, rfl⟩ := hpo
  refine g_as (pc' := 6) (lv' := [(0, .ref g0), (1, .int (iI rm)), (2, .int (iI b1))]) (st' := [.int (iI 0)]) (ws' := [(g0, .inr (12, mO gA nr tm at_ to_ fa va np tn pc_ st_ pa_ ta ow of_ ot rl hb bs se))]) rfl rfl rfl rfl ?_
  refine g_if_eqI (pc := 6) X 18 (by decide) ⟨by decide, by decide⟩ dX12_shown_6 (fun _ => ?_) (fun h => absurd h (by decide))
  refine g_iconst (pc := 18) X (iI (-1)) (by rfl) dX12_shown_18 ?_
  exact g_iret (pc := 19) X hA (⟨rfl, rfl⟩) (by decide) (by decide) dX12_shown_19

set_option maxHeartbeats 4000000 in
set_option maxRecDepth 100000 in
theorem k_X12_shown_S (l : Launch) (Z : gZ) (g0 : Nat) (gA : Nat → Nat) (gG : Nat → Nat → Option Nat) (xA : Nat → Nat) (Mw : Nat → Int) (Mk : Nat → Int) (Mm : Nat → Int) (Ru : Nat → Int) (rm : Int) (b1 : Int) (nr : Int) (tm : Int) (at_ : Int) (to_ : Int) (fa : Int) (va : Int) (np : Int) (tn : Int) (pc_ : Int) (st_ : Int) (pa_ : Int) (ta : Int) (ow : Int) (of_ : Int) (ot : Int) (rl : Int) (hb : Int) (bs : Int) (se : Int) (b_rm : (-2147483648) ≤ rm ∧ rm ≤ 2147483647) (b_b1 : (-2147483648) ≤ b1 ∧ b1 ≤ 2147483647) (b_nr : 0 ≤ nr ∧ nr ≤ 6) (b_tm : 0 ≤ tm ∧ tm ≤ 400) (b_at_ : 0 ≤ at_ ∧ at_ ≤ 400) (b_to_ : 0 ≤ to_ ∧ to_ ≤ 400) (b_fa : (-1) ≤ fa ∧ fa ≤ 400) (b_va : (-2147483648) ≤ va ∧ va ≤ 2147483647) (b_np : 0 ≤ np ∧ np ≤ 4) (b_tn : 0 ≤ tn ∧ tn ≤ 20) (b_pc_ : 0 ≤ pc_ ∧ pc_ ≤ 480) (b_st_ : 0 ≤ st_ ∧ st_ ≤ 240) (b_pa_ : (-1) ≤ pa_ ∧ pa_ ≤ 3) (b_ta : (-2147483648) ≤ ta ∧ ta ≤ 2147483647) (b_ow : (-2147483648) ≤ ow ∧ ow ≤ 2147483647) (b_of_ : (-2147483648) ≤ of_ ∧ of_ ≤ 2147483647) (b_ot : (-2147483648) ≤ ot ∧ ot ≤ 2147483647) (b_rl : 0 ≤ rl ∧ rl ≤ 2880) (b_hb : 0 ≤ hb ∧ hb ≤ 4) (b_bs : (-2147483648) ≤ bs ∧ bs ≤ 2147483647) (b_se : 0 ≤ se ∧ se ≤ 10) (hk : 0 ≤ rm ∧ rm < nr) (hG : ∀ k, gG k rm.toNat = some (xA k)) (hwn : 1 ≤ Mw rm.toNat ∧ Mw rm.toNat ≤ 8) (h_Mw : ∀ j, j < 7 → 0 ≤ Mw j ∧ Mw j ≤ 8) (h_Mk : ∀ j, j < 8 → 0 ≤ Mk j ∧ Mk j ≤ 400) (h_Mm : ∀ j, j < 8 → (-50) ≤ Mm j ∧ Mm j ≤ 50) (h_Ru : ∀ j, j < 8 → (-2147483648) ≤ Ru j ∧ Ru j ≤ 2147483647) : Con l Z yX12_shown cX12_shown 3 (some .int) 3 68 0 0 [.ref g0, .int (iI rm), .int (iI b1)] [(g0, .inr (12, mO gA nr tm at_ to_ fa va np tn pc_ st_ pa_ ta ow of_ ot rl hb bs se)), cA Z (gA 13) 0 7 Mw, cR Z (gA 2) 6 7 (gG 2), cR Z (gA 3) 6 7 (gG 3), cA Z (xA 2) 0 8 Mk, cA Z (xA 3) 0 8 Mm, cA Z (gA 57) 0 8 Ru] (fun r w' => ∃ (Ru2 : Nat → Int) (y : Int), (r = some (.int (iI y))) ∧ (w' = [(g0, .inr (12, mO gA nr tm at_ to_ fa va np tn pc_ st_ pa_ ta ow of_ ot rl hb bs se)), cA Z (gA 13) 0 7 Mw, cR Z (gA 2) 6 7 (gG 2), cR Z (gA 3) 6 7 (gG 3), cA Z (xA 2) 0 8 Mk, cA Z (xA 3) 0 8 Mm, cA Z (gA 57) 0 8 Ru2]) ∧ ((-2147483648) ≤ y ∧ y ≤ 2147483647) ∧ (∀ j, j < 8 → (-2147483648) ≤ Ru2 j ∧ Ru2 j ≤ 2147483647)) := by
  refine enter (by decide) (Nat.le_of_ble_eq_true rfl) ?_
  intro p e s m args below meth c A X hnm hA
  have X : Cx p s m args meth c cX12_shown 3 (some .int) RX12 Z A := X
  refine g_as (pc' := 0) (lv' := [(0, .ref g0), (1, .int (iI rm)), (2, .int (iI b1))]) (st' := []) (ws' := [(g0, .inr (12, mO gA nr tm at_ to_ fa va np tn pc_ st_ pa_ ta ow of_ ot rl hb bs se)), cA Z (gA 13) 0 7 Mw, cR Z (gA 2) 6 7 (gG 2), cR Z (gA 3) 6 7 (gG 3), cA Z (xA 2) 0 8 Mk, cA Z (xA 3) 0 8 Mm, cA Z (gA 57) 0 8 Ru]) rfl rfl rfl rfl ?_
  refine g_aload_n (pc := 0) X 0 rfl dX12_shown_0 ?_
  refine g_iload_n (pc := 1) X 1 rfl dX12_shown_1 ?_
  refine g_iload_n (pc := 2) X 2 rfl dX12_shown_2 ?_
  refine g_callV (pc := 3) X (k_X12_areCuts_S l Z g0 gA Mw rm b1 nr tm at_ to_ fa va np tn pc_ st_ pa_ ta ow of_ ot rl hb bs se b_rm b_b1 b_nr b_tm b_at_ b_to_ b_fa b_va b_np b_tn b_pc_ b_st_ b_pa_ b_ta b_ow b_of_ b_ot b_rl b_hb b_bs b_se (by (first | (clear b_b1 b_tm b_at_ b_to_ b_fa b_va b_np b_tn b_pc_ b_st_ b_pa_ b_ta b_ow b_of_ b_ot b_rl b_hb b_bs b_se; omega) | omega)) (by (first | (clear b_b1 b_tm b_at_ b_to_ b_fa b_va b_np b_tn b_pc_ b_st_ b_pa_ b_ta b_ow b_of_ b_ot b_rl b_hb b_bs b_se; omega) | omega)) (h_Mw)) iM_X12_areCuts mw_45_10 mw_45_11 mw_45_12 0 rfl rfl [0, 1] [2, 3, 4, 5, 6] rfl (wr := [cR Z (gA 2) 6 7 (gG 2), cR Z (gA 3) 6 7 (gG 3), cA Z (xA 2) 0 8 Mk, cA Z (xA 3) 0 8 Mm, cA Z (gA 57) 0 8 Ru]) rfl (by decide) rfl rfl (Nat.le_of_ble_eq_true rfl) (by decide) dX12_shown_3 (fun r w' hpo => ?_)
  refine exN_1 hpo fun y1 hz => anD_3 hz fun e_r e_w hf3_b_y => ?_; clear hz hpo; subst e_r; subst e_w
  refine g_as (pc' := 6) (lv' := [(0, .ref g0), (1, .int (iI rm)), (2, .int (iI b1))]) (st' := [.int (iI y1)]) (ws' := [cR Z (gA 2) 6 7 (gG 2), cR Z (gA 3) 6 7 (gG 3), cA Z (xA 2) 0 8 Mk, cA Z (xA 3) 0 8 Mm, cA Z (gA 57) 0 8 Ru, (g0, .inr (12, mO gA nr tm at_ to_ fa va np tn pc_ st_ pa_ ta ow of_ ot rl hb bs se)), cA Z (gA 13) 0 7 Mw]) rfl rfl rfl rfl ?_
  refine g_if_eqI (pc := 6) X 18 (by decide) (inRb hf3_b_y (by decide) (by decide)) dX12_shown_6 (fun c6 => ?_) (fun c6 => ?_)
  · refine g_iconst (pc := 18) X (iI (-1)) (by rfl) dX12_shown_18 ?_
    refine g_ws (ws' := [(g0, .inr (12, mO gA nr tm at_ to_ fa va np tn pc_ st_ pa_ ta ow of_ ot rl hb bs se)), cA Z (gA 13) 0 7 Mw, cR Z (gA 2) 6 7 (gG 2), cR Z (gA 3) 6 7 (gG 3), cA Z (xA 2) 0 8 Mk, cA Z (xA 3) 0 8 Mm, cA Z (gA 57) 0 8 Ru]) [5, 6, 0, 1, 2, 3, 4] (by decide) rfl ?_
    exact g_iret (pc := 19) X hA (⟨Ru, (-1), rfl, rfl, (by (first | (clear b_b1 b_tm b_at_ b_to_ b_fa b_va b_np b_tn b_pc_ b_st_ b_pa_ b_ta b_ow b_of_ b_ot b_rl b_hb b_bs b_se; omega) | omega)), (h_Ru)⟩) (by decide) (by decide) dX12_shown_19
  · refine g_aload_n (pc := 9) X 0 rfl dX12_shown_9 ?_
    refine g_iload_n (pc := 10) X 1 rfl dX12_shown_10 ?_
    refine g_iload_n (pc := 11) X 2 rfl dX12_shown_11 ?_
    refine g_callV (pc := 12) X (k_X12_runsOf l Z g0 gA gG xA Mw Mk Mm Ru rm b1 nr tm at_ to_ fa va np tn pc_ st_ pa_ ta ow of_ ot rl hb bs se (by (first | (clear b_b1 b_tm b_at_ b_to_ b_fa b_va b_np b_tn b_pc_ b_st_ b_pa_ b_ta b_ow b_of_ b_ot b_rl b_hb b_bs b_se; omega) | omega)) b_b1 b_nr b_tm b_at_ b_to_ b_fa b_va b_np b_tn b_pc_ b_st_ b_pa_ b_ta b_ow b_of_ b_ot b_rl b_hb b_bs b_se (hG) (h_Mw) (h_Mk) (h_Mm) (h_Ru)) iM_X12_runsOf mw_45_14 mw_45_15 mw_45_16 5 rfl rfl [5, 6, 0, 1, 2, 3, 4] [] rfl (wr := []) rfl (by decide) rfl rfl (Nat.le_of_ble_eq_true rfl) (by decide) dX12_shown_12 (fun r w' hpo => ?_)
    refine exN_2 hpo fun F3 y4 hz => anD_4 hz fun e_r e_w hf12_b_y hf12_h_Ru2 => ?_; clear hz hpo; subst e_r; subst e_w
    refine g_as (pc' := 15) (lv' := [(0, .ref g0), (1, .int (iI rm)), (2, .int (iI b1))]) (st' := [.int (iI y4)]) (ws' := [(g0, .inr (12, mO gA nr tm at_ to_ fa va np tn pc_ st_ pa_ ta ow of_ ot rl hb bs se)), cA Z (gA 13) 0 7 Mw, cR Z (gA 2) 6 7 (gG 2), cR Z (gA 3) 6 7 (gG 3), cA Z (xA 2) 0 8 Mk, cA Z (xA 3) 0 8 Mm, cA Z (gA 57) 0 8 F3]) rfl rfl rfl rfl ?_
    refine g_goto (pc := 15) X 19 (by decide) dX12_shown_15 ?_
    exact g_iret (pc := 19) X hA (⟨F3, y4, rfl, rfl, (hf12_b_y), (hf12_h_Ru2)⟩) (by decide) (by decide) dX12_shown_19

set_option maxHeartbeats 4000000 in
set_option maxRecDepth 100000 in
theorem k_X12_run_A (l : Launch) (Z : gZ) (g0 : Nat) (gA : Nat → Nat) (rm : Int) (b1 : Int) (b2 : Int) (nr : Int) (tm : Int) (at_ : Int) (to_ : Int) (fa : Int) (va : Int) (np : Int) (tn : Int) (pc_ : Int) (st_ : Int) (pa_ : Int) (ta : Int) (ow : Int) (of_ : Int) (ot : Int) (rl : Int) (hb : Int) (bs : Int) (se : Int) (b_rm : (-2147483648) ≤ rm ∧ rm ≤ 2147483647) (b_b1 : (-2147483648) ≤ b1 ∧ b1 ≤ 2147483647) (b_b2 : (-2147483648) ≤ b2 ∧ b2 ≤ 2147483647) (b_nr : 0 ≤ nr ∧ nr ≤ 6) (b_tm : 0 ≤ tm ∧ tm ≤ 400) (b_at_ : 0 ≤ at_ ∧ at_ ≤ 400) (b_to_ : 0 ≤ to_ ∧ to_ ≤ 400) (b_fa : (-1) ≤ fa ∧ fa ≤ 400) (b_va : (-2147483648) ≤ va ∧ va ≤ 2147483647) (b_np : 0 ≤ np ∧ np ≤ 4) (b_tn : 0 ≤ tn ∧ tn ≤ 20) (b_pc_ : 0 ≤ pc_ ∧ pc_ ≤ 480) (b_st_ : 0 ≤ st_ ∧ st_ ≤ 240) (b_pa_ : (-1) ≤ pa_ ∧ pa_ ≤ 3) (b_ta : (-2147483648) ≤ ta ∧ ta ≤ 2147483647) (b_ow : (-2147483648) ≤ ow ∧ ow ≤ 2147483647) (b_of_ : (-2147483648) ≤ of_ ∧ of_ ≤ 2147483647) (b_ot : (-2147483648) ≤ ot ∧ ot ≤ 2147483647) (b_rl : 0 ≤ rl ∧ rl ≤ 2880) (b_hb : 0 ≤ hb ∧ hb ≤ 4) (b_bs : (-2147483648) ≤ bs ∧ bs ≤ 2147483647) (b_se : 0 ≤ se ∧ se ≤ 10) (hk : ¬ (0 ≤ rm ∧ rm < nr)) : Con l Z yX12_run cX12_run 5 (some .int) 3 68 0 0 [.ref g0, .int (iI rm), .int (iI b1), .int (iI b2)] [(g0, .inr (12, mO gA nr tm at_ to_ fa va np tn pc_ st_ pa_ ta ow of_ ot rl hb bs se))] (fun r w' => (r = some (.int (iI (-2147483648)))) ∧ (w' = [(g0, .inr (12, mO gA nr tm at_ to_ fa va np tn pc_ st_ pa_ ta ow of_ ot rl hb bs se))])) := by
  refine enter (by decide) (Nat.le_of_ble_eq_true rfl) ?_
  intro p e s m args below meth c A X hnm hA
  have X : Cx p s m args meth c cX12_run 5 (some .int) RX12 Z A := X
  refine g_as (pc' := 0) (lv' := [(0, .ref g0), (1, .int (iI rm)), (2, .int (iI b1)), (3, .int (iI b2))]) (st' := []) (ws' := [(g0, .inr (12, mO gA nr tm at_ to_ fa va np tn pc_ st_ pa_ ta ow of_ ot rl hb bs se))]) rfl rfl rfl rfl ?_
  refine g_aload_n (pc := 0) X 0 rfl dX12_run_0 ?_
  refine g_iload_n (pc := 1) X 1 rfl dX12_run_1 ?_
  refine g_iload_n (pc := 2) X 2 rfl dX12_run_2 ?_
  refine g_callV (pc := 3) X (k_X12_areCuts_A l Z g0 gA rm b1 nr tm at_ to_ fa va np tn pc_ st_ pa_ ta ow of_ ot rl hb bs se b_rm b_b1 b_nr b_tm b_at_ b_to_ b_fa b_va b_np b_tn b_pc_ b_st_ b_pa_ b_ta b_ow b_of_ b_ot b_rl b_hb b_bs b_se (by (first | (clear b_b1 b_b2 b_tm b_at_ b_to_ b_fa b_va b_np b_tn b_pc_ b_st_ b_pa_ b_ta b_ow b_of_ b_ot b_rl b_hb b_bs b_se; omega) | omega))) iM_X12_areCuts mw_45_10 mw_45_11 mw_45_12 0 rfl rfl [0] [] rfl (wr := []) rfl (by decide) rfl rfl (Nat.le_of_ble_eq_true rfl) (by decide) dX12_run_3 (fun r w' hpo => ?_)
  obtain ⟨rfl, rfl⟩ := hpo
  refine g_as (pc' := 6) (lv' := [(0, .ref g0), (1, .int (iI rm)), (2, .int (iI b1)), (3, .int (iI b2))]) (st' := [.int (iI 0)]) (ws' := [(g0, .inr (12, mO gA nr tm at_ to_ fa va np tn pc_ st_ pa_ ta ow of_ ot rl hb bs se))]) rfl rfl rfl rfl ?_
  refine g_if_eqI (pc := 6) X 27 (by decide) ⟨by decide, by decide⟩ dX12_run_6 (fun _ => ?_) (fun h => absurd h (by decide))
  refine g_ldcw (pc := 27) X mw_46_8 dX12_run_27 ?_
  refine g_lit (y := iI (-2147483648)) (by decide) ?_
  exact g_iret (pc := 30) X hA (⟨rfl, rfl⟩) (by decide) (by decide) dX12_run_30

set_option maxHeartbeats 4000000 in
set_option maxRecDepth 100000 in
theorem k_X12_run_S (l : Launch) (Z : gZ) (g0 : Nat) (gA : Nat → Nat) (gG : Nat → Nat → Option Nat) (xA : Nat → Nat) (Mw : Nat → Int) (Mk : Nat → Int) (Mm : Nat → Int) (Ru : Nat → Int) (rm : Int) (b1 : Int) (b2 : Int) (nr : Int) (tm : Int) (at_ : Int) (to_ : Int) (fa : Int) (va : Int) (np : Int) (tn : Int) (pc_ : Int) (st_ : Int) (pa_ : Int) (ta : Int) (ow : Int) (of_ : Int) (ot : Int) (rl : Int) (hb : Int) (bs : Int) (se : Int) (b_rm : (-2147483648) ≤ rm ∧ rm ≤ 2147483647) (b_b1 : (-2147483648) ≤ b1 ∧ b1 ≤ 2147483647) (b_b2 : (-2147483648) ≤ b2 ∧ b2 ≤ 2147483647) (b_nr : 0 ≤ nr ∧ nr ≤ 6) (b_tm : 0 ≤ tm ∧ tm ≤ 400) (b_at_ : 0 ≤ at_ ∧ at_ ≤ 400) (b_to_ : 0 ≤ to_ ∧ to_ ≤ 400) (b_fa : (-1) ≤ fa ∧ fa ≤ 400) (b_va : (-2147483648) ≤ va ∧ va ≤ 2147483647) (b_np : 0 ≤ np ∧ np ≤ 4) (b_tn : 0 ≤ tn ∧ tn ≤ 20) (b_pc_ : 0 ≤ pc_ ∧ pc_ ≤ 480) (b_st_ : 0 ≤ st_ ∧ st_ ≤ 240) (b_pa_ : (-1) ≤ pa_ ∧ pa_ ≤ 3) (b_ta : (-2147483648) ≤ ta ∧ ta ≤ 2147483647) (b_ow : (-2147483648) ≤ ow ∧ ow ≤ 2147483647) (b_of_ : (-2147483648) ≤ of_ ∧ of_ ≤ 2147483647) (b_ot : (-2147483648) ≤ ot ∧ ot ≤ 2147483647) (b_rl : 0 ≤ rl ∧ rl ≤ 2880) (b_hb : 0 ≤ hb ∧ hb ≤ 4) (b_bs : (-2147483648) ≤ bs ∧ bs ≤ 2147483647) (b_se : 0 ≤ se ∧ se ≤ 10) (hk : 0 ≤ rm ∧ rm < nr) (hG : ∀ k, gG k rm.toNat = some (xA k)) (hwn : 1 ≤ Mw rm.toNat ∧ Mw rm.toNat ≤ 8) (h_Mw : ∀ j, j < 7 → 0 ≤ Mw j ∧ Mw j ≤ 8) (h_Mk : ∀ j, j < 8 → 0 ≤ Mk j ∧ Mk j ≤ 400) (h_Mm : ∀ j, j < 8 → (-50) ≤ Mm j ∧ Mm j ≤ 50) (h_Ru : ∀ j, j < 8 → (-2147483648) ≤ Ru j ∧ Ru j ≤ 2147483647) : Con l Z yX12_run cX12_run 5 (some .int) 3 68 0 0 [.ref g0, .int (iI rm), .int (iI b1), .int (iI b2)] [(g0, .inr (12, mO gA nr tm at_ to_ fa va np tn pc_ st_ pa_ ta ow of_ ot rl hb bs se)), cA Z (gA 13) 0 7 Mw, cR Z (gA 2) 6 7 (gG 2), cR Z (gA 3) 6 7 (gG 3), cA Z (xA 2) 0 8 Mk, cA Z (xA 3) 0 8 Mm, cA Z (gA 57) 0 8 Ru] (fun r w' => ∃ (Ru2 : Nat → Int) (y : Int), (r = some (.int (iI y))) ∧ (w' = [(g0, .inr (12, mO gA nr tm at_ to_ fa va np tn pc_ st_ pa_ ta ow of_ ot rl hb bs se)), cA Z (gA 13) 0 7 Mw, cR Z (gA 2) 6 7 (gG 2), cR Z (gA 3) 6 7 (gG 3), cA Z (xA 2) 0 8 Mk, cA Z (xA 3) 0 8 Mm, cA Z (gA 57) 0 8 Ru2]) ∧ ((-2147483648) ≤ y ∧ y ≤ 2147483647) ∧ (∀ j, j < 8 → (-2147483648) ≤ Ru2 j ∧ Ru2 j ≤ 2147483647)) := by
  refine enter (by decide) (Nat.le_of_ble_eq_true rfl) ?_
  intro p e s m args below meth c A X hnm hA
  have X : Cx p s m args meth c cX12_run 5 (some .int) RX12 Z A := X
  refine g_as (pc' := 0) (lv' := [(0, .ref g0), (1, .int (iI rm)), (2, .int (iI b1)), (3, .int (iI b2))]) (st' := []) (ws' := [(g0, .inr (12, mO gA nr tm at_ to_ fa va np tn pc_ st_ pa_ ta ow of_ ot rl hb bs se)), cA Z (gA 13) 0 7 Mw, cR Z (gA 2) 6 7 (gG 2), cR Z (gA 3) 6 7 (gG 3), cA Z (xA 2) 0 8 Mk, cA Z (xA 3) 0 8 Mm, cA Z (gA 57) 0 8 Ru]) rfl rfl rfl rfl ?_
  refine g_aload_n (pc := 0) X 0 rfl dX12_run_0 ?_
  refine g_iload_n (pc := 1) X 1 rfl dX12_run_1 ?_
  refine g_iload_n (pc := 2) X 2 rfl dX12_run_2 ?_
  refine g_callV (pc := 3) X (k_X12_areCuts_S l Z g0 gA Mw rm b1 nr tm at_ to_ fa va np tn pc_ st_ pa_ ta ow of_ ot rl hb bs se b_rm b_b1 b_nr b_tm b_at_ b_to_ b_fa b_va b_np b_tn b_pc_ b_st_ b_pa_ b_ta b_ow b_of_ b_ot b_rl b_hb b_bs b_se (by (first | (clear b_b1 b_tm b_at_ b_to_ b_fa b_va b_np b_tn b_pc_ b_st_ b_pa_ b_ta b_ow b_of_ b_ot b_rl b_hb b_bs b_se; omega) | omega)) (by (first | (clear b_b1 b_tm b_at_ b_to_ b_fa b_va b_np b_tn b_pc_ b_st_ b_pa_ b_ta b_ow b_of_ b_ot b_rl b_hb b_bs b_se; omega) | omega)) (h_Mw)) iM_X12_areCuts mw_45_10 mw_45_11 mw_45_12 0 rfl rfl [0, 1] [2, 3, 4, 5, 6] rfl (wr := [cR Z (gA 2) 6 7 (gG 2), cR Z (gA 3) 6 7 (gG 3), cA Z (xA 2) 0 8 Mk, cA Z (xA 3) 0 8 Mm, cA Z (gA 57) 0 8 Ru]) rfl (by decide) rfl rfl (Nat.le_of_ble_eq_true rfl) (by decide) dX12_run_3 (fun r w' hpo => ?_)
  refine exN_1 hpo fun y1 hz => anD_3 hz fun e_r e_w hf3_b_y => ?_; clear hz hpo; subst e_r; subst e_w
  refine g_as (pc' := 6) (lv' := [(0, .ref g0), (1, .int (iI rm)), (2, .int (iI b1)), (3, .int (iI b2))]) (st' := [.int (iI y1)]) (ws' := [cR Z (gA 2) 6 7 (gG 2), cR Z (gA 3) 6 7 (gG 3), cA Z (xA 2) 0 8 Mk, cA Z (xA 3) 0 8 Mm, cA Z (gA 57) 0 8 Ru, (g0, .inr (12, mO gA nr tm at_ to_ fa va np tn pc_ st_ pa_ ta ow of_ ot rl hb bs se)), cA Z (gA 13) 0 7 Mw]) rfl rfl rfl rfl ?_
  refine g_if_eqI (pc := 6) X 27 (by decide) (inRb hf3_b_y (by decide) (by decide)) dX12_run_6 (fun c6 => ?_) (fun c6 => ?_)
  · refine g_ldcw (pc := 27) X mw_46_8 dX12_run_27 ?_
    refine g_lit (y := iI (-2147483648)) (by decide) ?_
    refine g_ws (ws' := [(g0, .inr (12, mO gA nr tm at_ to_ fa va np tn pc_ st_ pa_ ta ow of_ ot rl hb bs se)), cA Z (gA 13) 0 7 Mw, cR Z (gA 2) 6 7 (gG 2), cR Z (gA 3) 6 7 (gG 3), cA Z (xA 2) 0 8 Mk, cA Z (xA 3) 0 8 Mm, cA Z (gA 57) 0 8 Ru]) [5, 6, 0, 1, 2, 3, 4] (by decide) rfl ?_
    exact g_iret (pc := 30) X hA (⟨Ru, (-2147483648), rfl, rfl, (by (first | (clear b_b1 b_tm b_at_ b_to_ b_fa b_va b_np b_tn b_pc_ b_st_ b_pa_ b_ta b_ow b_of_ b_ot b_rl b_hb b_bs b_se; omega) | omega)), (h_Ru)⟩) (by decide) (by decide) dX12_run_30
  · refine g_iload_n (pc := 9) X 3 rfl dX12_run_9 ?_
    refine g_i2lI (pc := 10) X b_b2 dX12_run_10 ?_
    refine g_lconst (pc := 11) X (lI 0) (by decide) dX12_run_11 ?_
    refine g_aload_n (pc := 12) X 0 rfl dX12_run_12 ?_
    refine g_get (pc := 13) X inlX12 5 rfl rfl 13 (by decide) mw_8_1 rfl dX12_run_13 ?_
    refine g_iload_n (pc := 16) X 1 rfl dX12_run_16 ?_
    refine g_ialdI (pc := 17) X 6 rfl (by (first | (clear b_b1 b_tm b_at_ b_to_ b_fa b_va b_np b_tn b_pc_ b_st_ b_pa_ b_ta b_ow b_of_ b_ot b_rl b_hb b_bs b_se; omega) | omega)) (by (first | (clear b_b1 b_tm b_at_ b_to_ b_fa b_va b_np b_tn b_pc_ b_st_ b_pa_ b_ta b_ow b_of_ b_ot b_rl b_hb b_bs b_se; omega) | omega)) (Int.le_trans b_rm.2 (by decide)) dX12_run_17 ?_
    refine g_nameI (fun y3 ey3 => ?_)
    have by3 : 0 ≤ y3 ∧ y3 ≤ 8 := by rw [ey3]; exact h_Mw _ (by (first | (clear b_b1 b_tm b_at_ b_to_ b_fa b_va b_np b_tn b_pc_ b_st_ b_pa_ b_ta b_ow b_of_ b_ot b_rl b_hb b_bs b_se; omega) | omega))
    have ty3 : 1 ≤ y3 ∧ y3 ≤ 8 := by rw [ey3]; exact hwn
    refine g_iconst (pc := 18) X (iI 1) (by rfl) dX12_run_18 ?_
    refine g_isubI (pc := 19) X dX12_run_19 ?_
    refine g_i2lI (pc := 20) X ⟨by (first | (clear b_b1 b_tm b_at_ b_to_ b_fa b_va b_np b_tn b_pc_ b_st_ b_pa_ b_ta b_ow b_of_ b_ot b_rl b_hb b_bs b_se; omega) | omega), by (first | (clear b_b1 b_tm b_at_ b_to_ b_fa b_va b_np b_tn b_pc_ b_st_ b_pa_ b_ta b_ow b_of_ b_ot b_rl b_hb b_bs b_se; omega) | omega)⟩ dX12_run_20 ?_
    refine g_callS (pc := 21) X (k_X12_in l Z b2 0 (y3 - 1) (by (first | (clear b_b1 b_tm b_at_ b_to_ b_fa b_va b_np b_tn b_pc_ b_st_ b_pa_ b_ta b_ow b_of_ b_ot b_rl b_hb b_bs b_se; omega) | omega)) (by decide) (by (first | (clear b_b1 b_tm b_at_ b_to_ b_fa b_va b_np b_tn b_pc_ b_st_ b_pa_ b_ta b_ow b_of_ b_ot b_rl b_hb b_bs b_se; omega) | omega))) iM_X12_in mw_11_13 mw_11_14 [] [0, 1, 2, 3, 4, 5, 6] rfl (wr := [cR Z (gA 2) 6 7 (gG 2), cR Z (gA 3) 6 7 (gG 3), cA Z (xA 2) 0 8 Mk, cA Z (xA 3) 0 8 Mm, cA Z (gA 57) 0 8 Ru, (g0, .inr (12, mO gA nr tm at_ to_ fa va np tn pc_ st_ pa_ ta ow of_ ot rl hb bs se)), cA Z (gA 13) 0 7 Mw]) rfl (by decide) rfl rfl (Nat.le_of_ble_eq_true rfl) (by decide) dX12_run_21 (fun r w' hpo => ?_)
    obtain ⟨rfl, rfl⟩ := hpo
    refine g_as (pc' := 24) (lv' := [(0, .ref g0), (1, .int (iI rm)), (2, .int (iI b1)), (3, .int (iI b2))]) (st' := [.int (iI (bI (0 ≤ b2 ∧ b2 ≤ (y3 - 1))))]) (ws' := [cR Z (gA 2) 6 7 (gG 2), cR Z (gA 3) 6 7 (gG 3), cA Z (xA 2) 0 8 Mk, cA Z (xA 3) 0 8 Mm, cA Z (gA 57) 0 8 Ru, (g0, .inr (12, mO gA nr tm at_ to_ fa va np tn pc_ st_ pa_ ta ow of_ ot rl hb bs se)), cA Z (gA 13) 0 7 Mw]) rfl rfl rfl rfl ?_
    refine g_if_neB (pc := 24) X 31 (by decide) dX12_run_24 (fun c24 => ?_) (fun c24 => ?_)
    · refine g_aload_n (pc := 31) X 0 rfl dX12_run_31 ?_
      refine g_iload_n (pc := 32) X 1 rfl dX12_run_32 ?_
      refine g_iload_n (pc := 33) X 2 rfl dX12_run_33 ?_
      refine g_callV (pc := 34) X (k_X12_runsOf l Z g0 gA gG xA Mw Mk Mm Ru rm b1 nr tm at_ to_ fa va np tn pc_ st_ pa_ ta ow of_ ot rl hb bs se (by (first | (clear b_b1 b_tm b_at_ b_to_ b_fa b_va b_np b_tn b_pc_ b_st_ b_pa_ b_ta b_ow b_of_ b_ot b_rl b_hb b_bs b_se; omega) | omega)) b_b1 b_nr b_tm b_at_ b_to_ b_fa b_va b_np b_tn b_pc_ b_st_ b_pa_ b_ta b_ow b_of_ b_ot b_rl b_hb b_bs b_se (hG) (h_Mw) (h_Mk) (h_Mm) (h_Ru)) iM_X12_runsOf mw_45_14 mw_45_15 mw_45_16 5 rfl rfl [5, 6, 0, 1, 2, 3, 4] [] rfl (wr := []) rfl (by decide) rfl rfl (Nat.le_of_ble_eq_true rfl) (by decide) dX12_run_34 (fun r w' hpo => ?_)
      refine exN_2 hpo fun F5 y6 hz => anD_4 hz fun e_r e_w hf34_b_y hf34_h_Ru2 => ?_; clear hz hpo; subst e_r; subst e_w
      refine g_as (pc' := 37) (lv' := [(0, .ref g0), (1, .int (iI rm)), (2, .int (iI b1)), (3, .int (iI b2))]) (st' := [.int (iI y6)]) (ws' := [(g0, .inr (12, mO gA nr tm at_ to_ fa va np tn pc_ st_ pa_ ta ow of_ ot rl hb bs se)), cA Z (gA 13) 0 7 Mw, cR Z (gA 2) 6 7 (gG 2), cR Z (gA 3) 6 7 (gG 3), cA Z (xA 2) 0 8 Mk, cA Z (xA 3) 0 8 Mm, cA Z (gA 57) 0 8 F5]) rfl rfl rfl rfl ?_
      refine g_istore (pc := 37) X (by decide) (lv' := [(4, .int (iI y6)), (0, .ref g0), (1, .int (iI rm)), (2, .int (iI b1)), (3, .int (iI b2))]) rfl dX12_run_37 ?_
      refine g_aload_n (pc := 39) X 1 rfl dX12_run_39 ?_
      refine g_get (pc := 40) X inlX12 0 rfl rfl 57 (by decide) mw_9_8 rfl dX12_run_40 ?_
      refine g_iload_n (pc := 43) X 4 rfl dX12_run_43 ?_
      refine g_ialdI (pc := 44) X 6 rfl (by (first | (clear b_b1 b_tm b_at_ b_to_ b_fa b_va b_np b_tn b_pc_ b_st_ b_pa_ b_ta b_ow b_of_ b_ot b_rl b_hb b_bs b_se; omega) | omega)) (by (first | (clear b_b1 b_tm b_at_ b_to_ b_fa b_va b_np b_tn b_pc_ b_st_ b_pa_ b_ta b_ow b_of_ b_ot b_rl b_hb b_bs b_se; omega) | omega)) (Int.le_trans b_b2.2 (by decide)) dX12_run_44 ?_
      refine g_nameI (fun y8 ey8 => ?_)
      have by8 : (-2147483648) ≤ y8 ∧ y8 ≤ 2147483647 := by rw [ey8]; exact hf34_h_Ru2 _ (by (first | (clear b_b1 b_tm b_at_ b_to_ b_fa b_va b_np b_tn b_pc_ b_st_ b_pa_ b_ta b_ow b_of_ b_ot b_rl b_hb b_bs b_se; omega) | omega))
      exact g_iret (pc := 45) X hA (⟨F5, y8, rfl, rfl, (by8), (hf34_h_Ru2)⟩) (by decide) (by decide) dX12_run_45
    · refine g_ldcw (pc := 27) X mw_46_8 dX12_run_27 ?_
      refine g_lit (y := iI (-2147483648)) (by decide) ?_
      refine g_ws (ws' := [(g0, .inr (12, mO gA nr tm at_ to_ fa va np tn pc_ st_ pa_ ta ow of_ ot rl hb bs se)), cA Z (gA 13) 0 7 Mw, cR Z (gA 2) 6 7 (gG 2), cR Z (gA 3) 6 7 (gG 3), cA Z (xA 2) 0 8 Mk, cA Z (xA 3) 0 8 Mm, cA Z (gA 57) 0 8 Ru]) [5, 6, 0, 1, 2, 3, 4] (by decide) rfl ?_
      exact g_iret (pc := 30) X hA (⟨Ru, (-2147483648), rfl, rfl, (by (first | (clear b_b1 b_tm b_at_ b_to_ b_fa b_va b_np b_tn b_pc_ b_st_ b_pa_ b_ta b_ow b_of_ b_ot b_rl b_hb b_bs b_se; omega) | omega)), (h_Ru)⟩) (by decide) (by decide) dX12_run_30

set_option maxHeartbeats 4000000 in
set_option maxRecDepth 100000 in
theorem k_X12_cuts__A (l : Launch) (Z : gZ) (g0 : Nat) (gA : Nat → Nat) (rm : Int) (nr : Int) (tm : Int) (at_ : Int) (to_ : Int) (fa : Int) (va : Int) (np : Int) (tn : Int) (pc_ : Int) (st_ : Int) (pa_ : Int) (ta : Int) (ow : Int) (of_ : Int) (ot : Int) (rl : Int) (hb : Int) (bs : Int) (se : Int) (b_rm : (-2147483648) ≤ rm ∧ rm ≤ 2147483647) (b_nr : 0 ≤ nr ∧ nr ≤ 6) (b_tm : 0 ≤ tm ∧ tm ≤ 400) (b_at_ : 0 ≤ at_ ∧ at_ ≤ 400) (b_to_ : 0 ≤ to_ ∧ to_ ≤ 400) (b_fa : (-1) ≤ fa ∧ fa ≤ 400) (b_va : (-2147483648) ≤ va ∧ va ≤ 2147483647) (b_np : 0 ≤ np ∧ np ≤ 4) (b_tn : 0 ≤ tn ∧ tn ≤ 20) (b_pc_ : 0 ≤ pc_ ∧ pc_ ≤ 480) (b_st_ : 0 ≤ st_ ∧ st_ ≤ 240) (b_pa_ : (-1) ≤ pa_ ∧ pa_ ≤ 3) (b_ta : (-2147483648) ≤ ta ∧ ta ≤ 2147483647) (b_ow : (-2147483648) ≤ ow ∧ ow ≤ 2147483647) (b_of_ : (-2147483648) ≤ of_ ∧ of_ ≤ 2147483647) (b_ot : (-2147483648) ≤ ot ∧ ot ≤ 2147483647) (b_rl : 0 ≤ rl ∧ rl ≤ 2880) (b_hb : 0 ≤ hb ∧ hb ≤ 4) (b_bs : (-2147483648) ≤ bs ∧ bs ≤ 2147483647) (b_se : 0 ≤ se ∧ se ≤ 10) (hk : ¬ (0 ≤ rm ∧ rm < nr)) : Con l Z yX12_cuts_ cX12_cuts_ 6 (some .int) 2 46 0 0 [.ref g0, .int (iI rm)] [(g0, .inr (12, mO gA nr tm at_ to_ fa va np tn pc_ st_ pa_ ta ow of_ ot rl hb bs se))] (fun r w' => (r = some (.int (iI (-1)))) ∧ (w' = [(g0, .inr (12, mO gA nr tm at_ to_ fa va np tn pc_ st_ pa_ ta ow of_ ot rl hb bs se))])) := by
  refine enter (by decide) (Nat.le_of_ble_eq_true rfl) ?_
  intro p e s m args below meth c A X hnm hA
  have X : Cx p s m args meth c cX12_cuts_ 6 (some .int) RX12 Z A := X
  refine g_as (pc' := 0) (lv' := [(0, .ref g0), (1, .int (iI rm))]) (st' := []) (ws' := [(g0, .inr (12, mO gA nr tm at_ to_ fa va np tn pc_ st_ pa_ ta ow of_ ot rl hb bs se))]) rfl rfl rfl rfl ?_
  refine g_aload_n (pc := 0) X 0 rfl dX12_cuts__0 ?_
  refine g_iload_n (pc := 1) X 1 rfl dX12_cuts__1 ?_
  refine g_callV (pc := 2) X (k_X12_isRoom l Z g0 gA rm nr tm at_ to_ fa va np tn pc_ st_ pa_ ta ow of_ ot rl hb bs se b_rm b_nr b_tm b_at_ b_to_ b_fa b_va b_np b_tn b_pc_ b_st_ b_pa_ b_ta b_ow b_of_ b_ot b_rl b_hb b_bs b_se) iM_X12_isRoom mw_28_5 mw_28_6 mw_28_7 0 rfl rfl [0] [] rfl (wr := []) rfl (by decide) rfl rfl (Nat.le_of_ble_eq_true rfl) (by decide) dX12_cuts__2 (fun r w' hpo => ?_)
  obtain ⟨rfl, rfl⟩ := hpo
  refine g_as (pc' := 5) (lv' := [(0, .ref g0), (1, .int (iI rm))]) (st' := [.int (iI (bI (0 ≤ rm ∧ rm ≤ nr - 1)))]) (ws' := [(g0, .inr (12, mO gA nr tm at_ to_ fa va np tn pc_ st_ pa_ ta ow of_ ot rl hb bs se))]) rfl rfl rfl rfl ?_
  refine g_if_neB (pc := 5) X 10 (by decide) dX12_cuts__5 (fun h => absurd h (by (first | (clear b_tm b_at_ b_to_ b_fa b_va b_np b_tn b_pc_ b_st_ b_pa_ b_ta b_ow b_of_ b_ot b_rl b_hb b_bs b_se; omega) | omega))) (fun c5 => ?_)
  refine g_iconst (pc := 8) X (iI (-1)) (by rfl) dX12_cuts__8 ?_
  exact g_iret (pc := 9) X hA (⟨rfl, rfl⟩) (by decide) (by decide) dX12_cuts__9

set_option maxHeartbeats 4000000 in
set_option maxRecDepth 100000 in
theorem k_X12_cuts_S (l : Launch) (Z : gZ) (g0 : Nat) (gA : Nat → Nat) (gG : Nat → Nat → Option Nat) (xA : Nat → Nat) (Mw : Nat → Int) (Mk : Nat → Int) (Mm : Nat → Int) (Ru : Nat → Int) (rm : Int) (nr : Int) (tm : Int) (at_ : Int) (to_ : Int) (fa : Int) (va : Int) (np : Int) (tn : Int) (pc_ : Int) (st_ : Int) (pa_ : Int) (ta : Int) (ow : Int) (of_ : Int) (ot : Int) (rl : Int) (hb : Int) (bs : Int) (se : Int) (b_rm : (-2147483648) ≤ rm ∧ rm ≤ 2147483647) (b_nr : 0 ≤ nr ∧ nr ≤ 6) (b_tm : 0 ≤ tm ∧ tm ≤ 400) (b_at_ : 0 ≤ at_ ∧ at_ ≤ 400) (b_to_ : 0 ≤ to_ ∧ to_ ≤ 400) (b_fa : (-1) ≤ fa ∧ fa ≤ 400) (b_va : (-2147483648) ≤ va ∧ va ≤ 2147483647) (b_np : 0 ≤ np ∧ np ≤ 4) (b_tn : 0 ≤ tn ∧ tn ≤ 20) (b_pc_ : 0 ≤ pc_ ∧ pc_ ≤ 480) (b_st_ : 0 ≤ st_ ∧ st_ ≤ 240) (b_pa_ : (-1) ≤ pa_ ∧ pa_ ≤ 3) (b_ta : (-2147483648) ≤ ta ∧ ta ≤ 2147483647) (b_ow : (-2147483648) ≤ ow ∧ ow ≤ 2147483647) (b_of_ : (-2147483648) ≤ of_ ∧ of_ ≤ 2147483647) (b_ot : (-2147483648) ≤ ot ∧ ot ≤ 2147483647) (b_rl : 0 ≤ rl ∧ rl ≤ 2880) (b_hb : 0 ≤ hb ∧ hb ≤ 4) (b_bs : (-2147483648) ≤ bs ∧ bs ≤ 2147483647) (b_se : 0 ≤ se ∧ se ≤ 10) (hk : 0 ≤ rm ∧ rm < nr) (hG : ∀ k, gG k rm.toNat = some (xA k)) (hwn : 1 ≤ Mw rm.toNat ∧ Mw rm.toNat ≤ 8) (h_Mw : ∀ j, j < 7 → 0 ≤ Mw j ∧ Mw j ≤ 8) (h_Mk : ∀ j, j < 8 → 0 ≤ Mk j ∧ Mk j ≤ 400) (h_Mm : ∀ j, j < 8 → (-50) ≤ Mm j ∧ Mm j ≤ 50) (h_Ru : ∀ j, j < 8 → (-2147483648) ≤ Ru j ∧ Ru j ≤ 2147483647) : Con l Z yX12_cuts_ cX12_cuts_ 6 (some .int) 2 49 0 0 [.ref g0, .int (iI rm)] [(g0, .inr (12, mO gA nr tm at_ to_ fa va np tn pc_ st_ pa_ ta ow of_ ot rl hb bs se)), cA Z (gA 13) 0 7 Mw, cR Z (gA 2) 6 7 (gG 2), cR Z (gA 3) 6 7 (gG 3), cA Z (xA 2) 0 8 Mk, cA Z (xA 3) 0 8 Mm, cA Z (gA 57) 0 8 Ru] (fun r w' => ∃ (Ru2 : Nat → Int) (y : Int), (r = some (.int (iI y))) ∧ (w' = [(g0, .inr (12, mO gA nr tm at_ to_ fa va np tn pc_ st_ pa_ ta ow of_ ot rl hb bs se)), cA Z (gA 13) 0 7 Mw, cR Z (gA 2) 6 7 (gG 2), cR Z (gA 3) 6 7 (gG 3), cA Z (xA 2) 0 8 Mk, cA Z (xA 3) 0 8 Mm, cA Z (gA 57) 0 8 Ru2]) ∧ ((-2147483648) ≤ y ∧ y ≤ 2147483647) ∧ (∀ j, j < 8 → (-2147483648) ≤ Ru2 j ∧ Ru2 j ≤ 2147483647)) := by
  refine enter (by decide) (Nat.le_of_ble_eq_true rfl) ?_
  intro p e s m args below meth c A X hnm hA
  have X : Cx p s m args meth c cX12_cuts_ 6 (some .int) RX12 Z A := X
  refine g_as (pc' := 0) (lv' := [(0, .ref g0), (1, .int (iI rm))]) (st' := []) (ws' := [(g0, .inr (12, mO gA nr tm at_ to_ fa va np tn pc_ st_ pa_ ta ow of_ ot rl hb bs se)), cA Z (gA 13) 0 7 Mw, cR Z (gA 2) 6 7 (gG 2), cR Z (gA 3) 6 7 (gG 3), cA Z (xA 2) 0 8 Mk, cA Z (xA 3) 0 8 Mm, cA Z (gA 57) 0 8 Ru]) rfl rfl rfl rfl ?_
  refine g_aload_n (pc := 0) X 0 rfl dX12_cuts__0 ?_
  refine g_iload_n (pc := 1) X 1 rfl dX12_cuts__1 ?_
  refine g_callV (pc := 2) X (k_X12_isRoom l Z g0 gA rm nr tm at_ to_ fa va np tn pc_ st_ pa_ ta ow of_ ot rl hb bs se b_rm b_nr b_tm b_at_ b_to_ b_fa b_va b_np b_tn b_pc_ b_st_ b_pa_ b_ta b_ow b_of_ b_ot b_rl b_hb b_bs b_se) iM_X12_isRoom mw_28_5 mw_28_6 mw_28_7 0 rfl rfl [0] [1, 2, 3, 4, 5, 6] rfl (wr := [cA Z (gA 13) 0 7 Mw, cR Z (gA 2) 6 7 (gG 2), cR Z (gA 3) 6 7 (gG 3), cA Z (xA 2) 0 8 Mk, cA Z (xA 3) 0 8 Mm, cA Z (gA 57) 0 8 Ru]) rfl (by decide) rfl rfl (Nat.le_of_ble_eq_true rfl) (by decide) dX12_cuts__2 (fun r w' hpo => ?_)
  obtain ⟨rfl, rfl⟩ := hpo
  refine g_as (pc' := 5) (lv' := [(0, .ref g0), (1, .int (iI rm))]) (st' := [.int (iI (bI (0 ≤ rm ∧ rm ≤ nr - 1)))]) (ws' := [cA Z (gA 13) 0 7 Mw, cR Z (gA 2) 6 7 (gG 2), cR Z (gA 3) 6 7 (gG 3), cA Z (xA 2) 0 8 Mk, cA Z (xA 3) 0 8 Mm, cA Z (gA 57) 0 8 Ru, (g0, .inr (12, mO gA nr tm at_ to_ fa va np tn pc_ st_ pa_ ta ow of_ ot rl hb bs se))]) rfl rfl rfl rfl ?_
  refine g_if_neB (pc := 5) X 10 (by decide) dX12_cuts__5 (fun c5 => ?_) (fun h => absurd h (by (first | (clear b_tm b_at_ b_to_ b_fa b_va b_np b_tn b_pc_ b_st_ b_pa_ b_ta b_ow b_of_ b_ot b_rl b_hb b_bs b_se; omega) | omega)))
  refine g_iconst (pc := 10) X (iI 0) (by rfl) dX12_cuts__10 ?_
  refine g_istore_n (pc := 11) X (i := 2) rfl (by decide) (lv' := [(2, .int (iI 0)), (0, .ref g0), (1, .int (iI rm))]) rfl dX12_cuts__11 ?_
  refine g_aload_n (pc := 12) X 1 rfl dX12_cuts__12 ?_
  refine g_iload_n (pc := 13) X 2 rfl dX12_cuts__13 ?_
  refine g_iconst (pc := 14) X (iI 0) (by rfl) dX12_cuts__14 ?_
  refine g_callV (pc := 15) X (k_X12_runsOf l Z g0 gA gG xA Mw Mk Mm Ru rm 0 nr tm at_ to_ fa va np tn pc_ st_ pa_ ta ow of_ ot rl hb bs se (by (first | (clear b_tm b_at_ b_to_ b_fa b_va b_np b_tn b_pc_ b_st_ b_pa_ b_ta b_ow b_of_ b_ot b_rl b_hb b_bs b_se; omega) | omega)) (by decide) b_nr b_tm b_at_ b_to_ b_fa b_va b_np b_tn b_pc_ b_st_ b_pa_ b_ta b_ow b_of_ b_ot b_rl b_hb b_bs b_se (hG) (h_Mw) (h_Mk) (h_Mm) (h_Ru)) iM_X12_runsOf mw_45_14 mw_45_15 mw_45_16 6 rfl rfl [6, 0, 1, 2, 3, 4, 5] [] rfl (wr := []) rfl (by decide) rfl rfl (Nat.le_of_ble_eq_true rfl) (by decide) dX12_cuts__15 (fun r w' hpo => ?_)
  refine exN_2 hpo fun F2 y3 hz => anD_4 hz fun e_r e_w hf15_b_y hf15_h_Ru2 => ?_; clear hz hpo; subst e_r; subst e_w
  refine g_as (pc' := 18) (lv' := [(2, .int (iI 0)), (0, .ref g0), (1, .int (iI rm))]) (st' := [.int (iI y3)]) (ws' := [(g0, .inr (12, mO gA nr tm at_ to_ fa va np tn pc_ st_ pa_ ta ow of_ ot rl hb bs se)), cA Z (gA 13) 0 7 Mw, cR Z (gA 2) 6 7 (gG 2), cR Z (gA 3) 6 7 (gG 3), cA Z (xA 2) 0 8 Mk, cA Z (xA 3) 0 8 Mm, cA Z (gA 57) 0 8 F2]) rfl rfl rfl rfl ?_
  refine g_istore_n (pc := 18) X (i := 3) rfl (by decide) (lv' := [(3, .int (iI y3)), (2, .int (iI 0)), (0, .ref g0), (1, .int (iI rm))]) rfl dX12_cuts__18 ?_
  refine g_iconst (pc := 19) X (iI 1) (by rfl) dX12_cuts__19 ?_
  refine g_istore (pc := 20) X (by decide) (lv' := [(4, .int (iI 1)), (3, .int (iI y3)), (2, .int (iI 0)), (0, .ref g0), (1, .int (iI rm))]) rfl dX12_cuts__20 ?_
  have loop22 : ∀ (fuel : Nat) (be : Int) (le : Int) (h1 : Int) (Ru3 : Nat → Int), ((-2147483648) ≤ be ∧ be ≤ 2147483647) → ((-2147483648) ≤ le ∧ le ≤ 2147483647) → (1 ≤ h1 ∧ h1 ≤ 128) → (∀ j, j < 8 → (-2147483648) ≤ Ru3 j ∧ Ru3 j ≤ 2147483647) → (129 - h1).toNat < fuel → Gs p l e ({ frames := 2, cells := 0, slots := 0, locals := 49 } : Room) s m args below meth c (MQ below (gPost Z [(g0, .inr (12, mO gA nr tm at_ to_ fa va np tn pc_ st_ pa_ ta ow of_ ot rl hb bs se)), cA Z (gA 13) 0 7 Mw, cR Z (gA 2) 6 7 (gG 2), cR Z (gA 3) 6 7 (gG 3), cA Z (xA 2) 0 8 Mk, cA Z (xA 3) 0 8 Mm, cA Z (gA 57) 0 8 Ru] s.heap.size (fun r w' => ∃ (Ru2 : Nat → Int) (y : Int), (r = some (.int (iI y))) ∧ (w' = [(g0, .inr (12, mO gA nr tm at_ to_ fa va np tn pc_ st_ pa_ ta ow of_ ot rl hb bs se)), cA Z (gA 13) 0 7 Mw, cR Z (gA 2) 6 7 (gG 2), cR Z (gA 3) 6 7 (gG 3), cA Z (xA 2) 0 8 Mk, cA Z (xA 3) 0 8 Mm, cA Z (gA 57) 0 8 Ru2]) ∧ ((-2147483648) ≤ y ∧ y ≤ 2147483647) ∧ (∀ j, j < 8 → (-2147483648) ≤ Ru2 j ∧ Ru2 j ≤ 2147483647))) args s 0 0 (va_A [(g0, .inr (12, mO gA nr tm at_ to_ fa va np tn pc_ st_ pa_ ta ow of_ ot rl hb bs se)), cA Z (gA 13) 0 7 Mw, cR Z (gA 2) 6 7 (gG 2), cR Z (gA 3) 6 7 (gG 3), cA Z (xA 2) 0 8 Mk, cA Z (xA 3) 0 8 Mm, cA Z (gA 57) 0 8 Ru] s.heap.size)) Z A 6 0 0 22 [(4, .int (iI h1)), (3, .int (iI le)), (2, .int (iI be)), (0, .ref g0), (1, .int (iI rm))] [] [(g0, .inr (12, mO gA nr tm at_ to_ fa va np tn pc_ st_ pa_ ta ow of_ ot rl hb bs se)), cA Z (gA 13) 0 7 Mw, cR Z (gA 2) 6 7 (gG 2), cR Z (gA 3) 6 7 (gG 3), cA Z (xA 2) 0 8 Mk, cA Z (xA 3) 0 8 Mm, cA Z (gA 57) 0 8 Ru3] := by
    intro fuel
    induction fuel with
    | zero => intro be le h1 Ru3 _ _ _ _ hm; exact absurd hm (Nat.not_lt_zero _)
    | succ fuel ih =>
      intro be le h1 Ru3 b_be b_le b_h1 h_Ru3 hm
      refine g_iload (pc := 22) X 0 rfl dX12_cuts__22 ?_
      refine g_iconst (pc := 24) X (iI 1) (by rfl) dX12_cuts__24 ?_
      refine g_aload_n (pc := 25) X 3 rfl dX12_cuts__25 ?_
      refine g_get (pc := 26) X inlX12 0 rfl rfl 13 (by decide) mw_8_1 rfl dX12_cuts__26 ?_
      refine g_iload_n (pc := 29) X 4 rfl dX12_cuts__29 ?_
      refine g_ialdI (pc := 30) X 1 rfl (by (first | (clear b_tm b_at_ b_to_ b_fa b_va b_np b_tn b_pc_ b_st_ b_pa_ b_ta b_ow b_of_ b_ot b_rl b_hb b_bs b_se; omega) | omega)) (by (first | (clear b_tm b_at_ b_to_ b_fa b_va b_np b_tn b_pc_ b_st_ b_pa_ b_ta b_ow b_of_ b_ot b_rl b_hb b_bs b_se; omega) | omega)) (Int.le_trans b_rm.2 (by decide)) dX12_cuts__30 ?_
      refine g_nameI (fun y5 ey5 => ?_)
      have by5 : 0 ≤ y5 ∧ y5 ≤ 8 := by rw [ey5]; exact h_Mw _ (by (first | (clear b_tm b_at_ b_to_ b_fa b_va b_np b_tn b_pc_ b_st_ b_pa_ b_ta b_ow b_of_ b_ot b_rl b_hb b_bs b_se; omega) | omega))
      have ty5 : 1 ≤ y5 ∧ y5 ≤ 8 := by rw [ey5]; exact hwn
      refine g_iconst (pc := 31) X (iI 1) (by rfl) dX12_cuts__31 ?_
      refine g_isubI (pc := 32) X dX12_cuts__32 ?_
      refine g_shl1 (pc := 33) X (by (first | (clear b_tm b_at_ b_to_ b_fa b_va b_np b_tn b_pc_ b_st_ b_pa_ b_ta b_ow b_of_ b_ot b_rl b_hb b_bs b_se; omega) | omega)) (by (first | (clear b_tm b_at_ b_to_ b_fa b_va b_np b_tn b_pc_ b_st_ b_pa_ b_ta b_ow b_of_ b_ot b_rl b_hb b_bs b_se; omega) | omega)) dX12_cuts__33 (fun y6 ey6 => ?_)
      have by6 : 1 ≤ y6 ∧ y6 ≤ 128 := pow2B 7 (by decide) (by (first | (clear b_tm b_at_ b_to_ b_fa b_va b_np b_tn b_pc_ b_st_ b_pa_ b_ta b_ow b_of_ b_ot b_rl b_hb b_bs b_se; omega) | omega)) (by (first | (clear b_tm b_at_ b_to_ b_fa b_va b_np b_tn b_pc_ b_st_ b_pa_ b_ta b_ow b_of_ b_ot b_rl b_hb b_bs b_se; omega) | omega)) ey6
      refine g_icmp_geI (pc := 34) X 85 (by decide) (inRb b_h1 (by decide) (by decide)) ⟨by (first | (clear b_tm b_at_ b_to_ b_fa b_va b_np b_tn b_pc_ b_st_ b_pa_ b_ta b_ow b_of_ b_ot b_rl b_hb b_bs b_se; omega) | omega), by (first | (clear b_tm b_at_ b_to_ b_fa b_va b_np b_tn b_pc_ b_st_ b_pa_ b_ta b_ow b_of_ b_ot b_rl b_hb b_bs b_se; omega) | omega)⟩ dX12_cuts__34 (fun c34 => ?_) (fun c34 => ?_)
      · refine g_iload_n (pc := 85) X 2 rfl dX12_cuts__85 ?_
        exact g_iret (pc := 86) X hA (⟨Ru3, be, rfl, rfl, (b_be), (h_Ru3)⟩) (by decide) (by decide) dX12_cuts__86
      · refine g_aload_n (pc := 37) X 3 rfl dX12_cuts__37 ?_
        refine g_iload_n (pc := 38) X 4 rfl dX12_cuts__38 ?_
        refine g_iload (pc := 39) X 0 rfl dX12_cuts__39 ?_
        refine g_callV (pc := 41) X (k_X12_runsOf l Z g0 gA gG xA Mw Mk Mm Ru3 rm h1 nr tm at_ to_ fa va np tn pc_ st_ pa_ ta ow of_ ot rl hb bs se (by (first | (clear b_tm b_at_ b_to_ b_fa b_va b_np b_tn b_pc_ b_st_ b_pa_ b_ta b_ow b_of_ b_ot b_rl b_hb b_bs b_se; omega) | omega)) (by (first | (clear b_tm b_at_ b_to_ b_fa b_va b_np b_tn b_pc_ b_st_ b_pa_ b_ta b_ow b_of_ b_ot b_rl b_hb b_bs b_se; omega) | omega)) b_nr b_tm b_at_ b_to_ b_fa b_va b_np b_tn b_pc_ b_st_ b_pa_ b_ta b_ow b_of_ b_ot b_rl b_hb b_bs b_se (hG) (h_Mw) (h_Mk) (h_Mm) (h_Ru3)) iM_X12_runsOf mw_45_14 mw_45_15 mw_45_16 0 rfl rfl [0, 1, 2, 3, 4, 5, 6] [] rfl (wr := []) rfl (by decide) rfl rfl (Nat.le_of_ble_eq_true rfl) (by decide) dX12_cuts__41 (fun r w' hpo => ?_)
        refine exN_2 hpo fun F7 y8 hz => anD_4 hz fun e_r e_w hf41_b_y hf41_h_Ru2 => ?_; clear hz hpo; subst e_r; subst e_w
        refine g_as (pc' := 44) (lv' := [(4, .int (iI h1)), (3, .int (iI le)), (2, .int (iI be)), (0, .ref g0), (1, .int (iI rm))]) (st' := [.int (iI y8)]) (ws' := [(g0, .inr (12, mO gA nr tm at_ to_ fa va np tn pc_ st_ pa_ ta ow of_ ot rl hb bs se)), cA Z (gA 13) 0 7 Mw, cR Z (gA 2) 6 7 (gG 2), cR Z (gA 3) 6 7 (gG 3), cA Z (xA 2) 0 8 Mk, cA Z (xA 3) 0 8 Mm, cA Z (gA 57) 0 8 F7]) rfl rfl rfl rfl ?_
        refine g_istore (pc := 44) X (by decide) (lv' := [(5, .int (iI y8)), (4, .int (iI h1)), (3, .int (iI le)), (2, .int (iI be)), (0, .ref g0), (1, .int (iI rm))]) rfl dX12_cuts__44 ?_
        refine g_iload (pc := 46) X 0 rfl dX12_cuts__46 ?_
        refine g_iload_n (pc := 48) X 2 rfl dX12_cuts__48 ?_
        refine g_icmp_gtI (pc := 49) X 79 (by decide) hf41_b_y b_le dX12_cuts__49 (fun c49 => ?_) (fun c49 => ?_)
        · refine g_iincI (pc := 79) X 1 rfl (by decide) (lv' := [(4, .int (iI (h1 + 1))), (5, .int (iI y8)), (3, .int (iI le)), (2, .int (iI be)), (0, .ref g0), (1, .int (iI rm))]) rfl dX12_cuts__79 ?_
          refine g_goto (pc := 82) X 22 (by decide) dX12_cuts__82 ?_
          refine g_lv (lv' := [(4, .int (iI (h1 + 1))), (3, .int (iI le)), (2, .int (iI be)), (0, .ref g0), (1, .int (iI rm))]) [0, 2, 3, 4, 5] rfl ?_
          exact ih be le (h1 + 1) F7 (b_be) (b_le) (by (first | (clear b_tm b_at_ b_to_ b_fa b_va b_np b_tn b_pc_ b_st_ b_pa_ b_ta b_ow b_of_ b_ot b_rl b_hb b_bs b_se; omega) | omega)) (hf41_h_Ru2) (by (first | (clear b_tm b_at_ b_to_ b_fa b_va b_np b_tn b_pc_ b_st_ b_pa_ b_ta b_ow b_of_ b_ot b_rl b_hb b_bs b_se; omega) | omega))
        · refine g_iload (pc := 52) X 0 rfl dX12_cuts__52 ?_
          refine g_iload_n (pc := 54) X 2 rfl dX12_cuts__54 ?_
          refine g_icmp_neI (pc := 55) X 73 (by decide) hf41_b_y b_le dX12_cuts__55 (fun c55 => ?_) (fun c55 => ?_)
          · refine g_iload (pc := 73) X 1 rfl dX12_cuts__73 ?_
            refine g_istore_n (pc := 75) X (i := 2) rfl (by decide) (lv' := [(2, .int (iI h1)), (5, .int (iI y8)), (4, .int (iI h1)), (3, .int (iI le)), (0, .ref g0), (1, .int (iI rm))]) rfl dX12_cuts__75 ?_
            refine g_iload (pc := 76) X 1 rfl dX12_cuts__76 ?_
            refine g_istore_n (pc := 78) X (i := 3) rfl (by decide) (lv' := [(3, .int (iI y8)), (2, .int (iI h1)), (5, .int (iI y8)), (4, .int (iI h1)), (0, .ref g0), (1, .int (iI rm))]) rfl dX12_cuts__78 ?_
            refine g_iincI (pc := 79) X 3 rfl (by decide) (lv' := [(4, .int (iI (h1 + 1))), (3, .int (iI y8)), (2, .int (iI h1)), (5, .int (iI y8)), (0, .ref g0), (1, .int (iI rm))]) rfl dX12_cuts__79 ?_
            refine g_goto (pc := 82) X 22 (by decide) dX12_cuts__82 ?_
            refine g_lv (lv' := [(4, .int (iI (h1 + 1))), (3, .int (iI y8)), (2, .int (iI h1)), (0, .ref g0), (1, .int (iI rm))]) [0, 1, 2, 4, 5] rfl ?_
            exact ih h1 y8 (h1 + 1) F7 (by (first | (clear b_tm b_at_ b_to_ b_fa b_va b_np b_tn b_pc_ b_st_ b_pa_ b_ta b_ow b_of_ b_ot b_rl b_hb b_bs b_se; omega) | omega)) (hf41_b_y) (by (first | (clear b_tm b_at_ b_to_ b_fa b_va b_np b_tn b_pc_ b_st_ b_pa_ b_ta b_ow b_of_ b_ot b_rl b_hb b_bs b_se; omega) | omega)) (hf41_h_Ru2) (by (first | (clear b_tm b_at_ b_to_ b_fa b_va b_np b_tn b_pc_ b_st_ b_pa_ b_ta b_ow b_of_ b_ot b_rl b_hb b_bs b_se; omega) | omega))
          · refine g_iload (pc := 58) X 1 rfl dX12_cuts__58 ?_
            refine g_callS (pc := 60) X (k_J6_bitCount_0f7a4 l Z h1 (by (first | (clear b_tm b_at_ b_to_ b_fa b_va b_np b_tn b_pc_ b_st_ b_pa_ b_ta b_ow b_of_ b_ot b_rl b_hb b_bs b_se; omega) | omega))) iM_J6_bitCount_0f7a4 mw_43_0 mw_41_17 [] [0, 1, 2, 3, 4, 5, 6] rfl (wr := [(g0, .inr (12, mO gA nr tm at_ to_ fa va np tn pc_ st_ pa_ ta ow of_ ot rl hb bs se)), cA Z (gA 13) 0 7 Mw, cR Z (gA 2) 6 7 (gG 2), cR Z (gA 3) 6 7 (gG 3), cA Z (xA 2) 0 8 Mk, cA Z (xA 3) 0 8 Mm, cA Z (gA 57) 0 8 F7]) rfl (by decide) rfl rfl (Nat.le_of_ble_eq_true rfl) (by decide) dX12_cuts__60 (fun r w' hpo => ?_)
            refine exN_1 hpo fun y10 hz => anD_3 hz fun e_r e_w hf60_b_y => ?_; clear hz hpo; subst e_r; subst e_w
            refine g_as (pc' := 63) (lv' := [(5, .int (iI y8)), (4, .int (iI h1)), (3, .int (iI le)), (2, .int (iI be)), (0, .ref g0), (1, .int (iI rm))]) (st' := [.int (iI y10)]) (ws' := [(g0, .inr (12, mO gA nr tm at_ to_ fa va np tn pc_ st_ pa_ ta ow of_ ot rl hb bs se)), cA Z (gA 13) 0 7 Mw, cR Z (gA 2) 6 7 (gG 2), cR Z (gA 3) 6 7 (gG 3), cA Z (xA 2) 0 8 Mk, cA Z (xA 3) 0 8 Mm, cA Z (gA 57) 0 8 F7]) rfl rfl rfl rfl ?_
            refine g_iload_n (pc := 63) X 3 rfl dX12_cuts__63 ?_
            refine g_callS (pc := 64) X (k_J6_bitCount_0f7a4 l Z be b_be) iM_J6_bitCount_0f7a4 mw_43_0 mw_41_17 [] [0, 1, 2, 3, 4, 5, 6] rfl (wr := [(g0, .inr (12, mO gA nr tm at_ to_ fa va np tn pc_ st_ pa_ ta ow of_ ot rl hb bs se)), cA Z (gA 13) 0 7 Mw, cR Z (gA 2) 6 7 (gG 2), cR Z (gA 3) 6 7 (gG 3), cA Z (xA 2) 0 8 Mk, cA Z (xA 3) 0 8 Mm, cA Z (gA 57) 0 8 F7]) rfl (by decide) rfl rfl (Nat.le_of_ble_eq_true rfl) (by decide) dX12_cuts__64 (fun r w' hpo => ?_)
            refine exN_1 hpo fun y12 hz => anD_3 hz fun e_r e_w hf64_b_y => ?_; clear hz hpo; subst e_r; subst e_w
            refine g_as (pc' := 67) (lv' := [(5, .int (iI y8)), (4, .int (iI h1)), (3, .int (iI le)), (2, .int (iI be)), (0, .ref g0), (1, .int (iI rm))]) (st' := [.int (iI y12), .int (iI y10)]) (ws' := [(g0, .inr (12, mO gA nr tm at_ to_ fa va np tn pc_ st_ pa_ ta ow of_ ot rl hb bs se)), cA Z (gA 13) 0 7 Mw, cR Z (gA 2) 6 7 (gG 2), cR Z (gA 3) 6 7 (gG 3), cA Z (xA 2) 0 8 Mk, cA Z (xA 3) 0 8 Mm, cA Z (gA 57) 0 8 F7]) rfl rfl rfl rfl ?_
            refine g_icmp_ltI (pc := 67) X 73 (by decide) (inRb hf60_b_y (by decide) (by decide)) (inRb hf64_b_y (by decide) (by decide)) dX12_cuts__67 (fun c67 => ?_) (fun c67 => ?_)
            · refine g_iload (pc := 73) X 1 rfl dX12_cuts__73 ?_
              refine g_istore_n (pc := 75) X (i := 2) rfl (by decide) (lv' := [(2, .int (iI h1)), (5, .int (iI y8)), (4, .int (iI h1)), (3, .int (iI le)), (0, .ref g0), (1, .int (iI rm))]) rfl dX12_cuts__75 ?_
              refine g_iload (pc := 76) X 1 rfl dX12_cuts__76 ?_
              refine g_istore_n (pc := 78) X (i := 3) rfl (by decide) (lv' := [(3, .int (iI y8)), (2, .int (iI h1)), (5, .int (iI y8)), (4, .int (iI h1)), (0, .ref g0), (1, .int (iI rm))]) rfl dX12_cuts__78 ?_
              refine g_iincI (pc := 79) X 3 rfl (by decide) (lv' := [(4, .int (iI (h1 + 1))), (3, .int (iI y8)), (2, .int (iI h1)), (5, .int (iI y8)), (0, .ref g0), (1, .int (iI rm))]) rfl dX12_cuts__79 ?_
              refine g_goto (pc := 82) X 22 (by decide) dX12_cuts__82 ?_
              refine g_lv (lv' := [(4, .int (iI (h1 + 1))), (3, .int (iI y8)), (2, .int (iI h1)), (0, .ref g0), (1, .int (iI rm))]) [0, 1, 2, 4, 5] rfl ?_
              exact ih h1 y8 (h1 + 1) F7 (by (first | (clear b_tm b_at_ b_to_ b_fa b_va b_np b_tn b_pc_ b_st_ b_pa_ b_ta b_ow b_of_ b_ot b_rl b_hb b_bs b_se; omega) | omega)) (hf41_b_y) (by (first | (clear b_tm b_at_ b_to_ b_fa b_va b_np b_tn b_pc_ b_st_ b_pa_ b_ta b_ow b_of_ b_ot b_rl b_hb b_bs b_se; omega) | omega)) (hf41_h_Ru2) (by (first | (clear b_tm b_at_ b_to_ b_fa b_va b_np b_tn b_pc_ b_st_ b_pa_ b_ta b_ow b_of_ b_ot b_rl b_hb b_bs b_se; omega) | omega))
            · refine g_goto (pc := 70) X 79 (by decide) dX12_cuts__70 ?_
              refine g_iincI (pc := 79) X 1 rfl (by decide) (lv' := [(4, .int (iI (h1 + 1))), (5, .int (iI y8)), (3, .int (iI le)), (2, .int (iI be)), (0, .ref g0), (1, .int (iI rm))]) rfl dX12_cuts__79 ?_
              refine g_goto (pc := 82) X 22 (by decide) dX12_cuts__82 ?_
              refine g_lv (lv' := [(4, .int (iI (h1 + 1))), (3, .int (iI le)), (2, .int (iI be)), (0, .ref g0), (1, .int (iI rm))]) [0, 2, 3, 4, 5] rfl ?_
              exact ih be le (h1 + 1) F7 (b_be) (b_le) (by (first | (clear b_tm b_at_ b_to_ b_fa b_va b_np b_tn b_pc_ b_st_ b_pa_ b_ta b_ow b_of_ b_ot b_rl b_hb b_bs b_se; omega) | omega)) (hf41_h_Ru2) (by (first | (clear b_tm b_at_ b_to_ b_fa b_va b_np b_tn b_pc_ b_st_ b_pa_ b_ta b_ow b_of_ b_ot b_rl b_hb b_bs b_se; omega) | omega))
  exact loop22 _ 0 y3 1 F2 (by (first | (clear b_tm b_at_ b_to_ b_fa b_va b_np b_tn b_pc_ b_st_ b_pa_ b_ta b_ow b_of_ b_ot b_rl b_hb b_bs b_se; omega) | omega)) (hf15_b_y) (by (first | (clear b_tm b_at_ b_to_ b_fa b_va b_np b_tn b_pc_ b_st_ b_pa_ b_ta b_ow b_of_ b_ot b_rl b_hb b_bs b_se; omega) | omega)) (hf15_h_Ru2) (Nat.lt_succ_self _)

set_option maxHeartbeats 4000000 in
set_option maxRecDepth 100000 in
theorem k_X12_batch (l : Launch) (Z : gZ) (g0 : Nat) (gA : Nat → Nat) (Bp : Nat → Int) (Br : Nat → Int) (pp : Int) (b1 : Int) (nr : Int) (tm : Int) (at_ : Int) (to_ : Int) (fa : Int) (va : Int) (np : Int) (tn : Int) (pc_ : Int) (st_ : Int) (pa_ : Int) (ta : Int) (ow : Int) (of_ : Int) (ot : Int) (rl : Int) (hb : Int) (bs : Int) (se : Int) (b_pp : (-2147483648) ≤ pp ∧ pp ≤ 2147483647) (b_b1 : (-2147483648) ≤ b1 ∧ b1 ≤ 2147483647) (b_nr : 0 ≤ nr ∧ nr ≤ 6) (b_tm : 0 ≤ tm ∧ tm ≤ 400) (b_at_ : 0 ≤ at_ ∧ at_ ≤ 400) (b_to_ : 0 ≤ to_ ∧ to_ ≤ 400) (b_fa : (-1) ≤ fa ∧ fa ≤ 400) (b_va : (-2147483648) ≤ va ∧ va ≤ 2147483647) (b_np : 0 ≤ np ∧ np ≤ 4) (b_tn : 0 ≤ tn ∧ tn ≤ 20) (b_pc_ : 0 ≤ pc_ ∧ pc_ ≤ 480) (b_st_ : 0 ≤ st_ ∧ st_ ≤ 240) (b_pa_ : (-1) ≤ pa_ ∧ pa_ ≤ 3) (b_ta : (-2147483648) ≤ ta ∧ ta ≤ 2147483647) (b_ow : (-2147483648) ≤ ow ∧ ow ≤ 2147483647) (b_of_ : (-2147483648) ≤ of_ ∧ of_ ≤ 2147483647) (b_ot : (-2147483648) ≤ ot ∧ ot ≤ 2147483647) (b_rl : 0 ≤ rl ∧ rl ≤ 2880) (b_hb : 0 ≤ hb ∧ hb ≤ 4) (b_bs : (-2147483648) ≤ bs ∧ bs ≤ 2147483647) (b_se : 0 ≤ se ∧ se ≤ 10) (h_Bp : ∀ j, j < 4 → (-2147483648) ≤ Bp j ∧ Bp j ≤ 2147483647) (h_Br : ∀ j, j < 4 → (-2147483648) ≤ Br j ∧ Br j ≤ 2147483647) : Con l Z yX12_batch cX12_batch 3 (some .int) 2 46 0 0 [.ref g0, .int (iI pp), .int (iI b1)] [(g0, .inr (12, mO gA nr tm at_ to_ fa va np tn pc_ st_ pa_ ta ow of_ ot rl hb bs se)), cA Z (gA 58) 0 4 Bp, cA Z (gA 59) 0 4 Br] (fun r w' => ((r = some (.int (iI (-1)))) ∧ (w' = [(g0, .inr (12, mO gA nr tm at_ to_ fa va np tn pc_ st_ pa_ ta ow of_ ot rl hb bs se)), cA Z (gA 58) 0 4 Bp, cA Z (gA 59) 0 4 Br]) ∧ (¬ (0 ≤ pp ∧ pp < np) ∨ ¬ (1 ≤ b1 ∧ b1 ≤ 30) ∨ hb = 4)) ∨ (∃ (Bp2 : Nat → Int) (Br2 : Nat → Int) (hb2 : Int), (r = some (.int (iI hb))) ∧ (w' = [(g0, .inr (12, mO gA nr tm at_ to_ fa va np tn pc_ st_ pa_ ta ow of_ ot rl hb2 bs se)), cA Z (gA 58) 0 4 Bp2, cA Z (gA 59) 0 4 Br2]) ∧ (0 ≤ hb2 ∧ hb2 ≤ 4) ∧ (∀ j, j < 4 → (-2147483648) ≤ Bp2 j ∧ Bp2 j ≤ 2147483647) ∧ (∀ j, j < 4 → (-2147483648) ≤ Br2 j ∧ Br2 j ≤ 2147483647) ∧ (0 ≤ pp ∧ pp < np ∧ 1 ≤ b1 ∧ b1 ≤ 30 ∧ hb < 4) ∧ (hb2 = hb + 1))) := by
  refine enter (by decide) (Nat.le_of_ble_eq_true rfl) ?_
  intro p e s m args below meth c A X hnm hA
  have X : Cx p s m args meth c cX12_batch 3 (some .int) RX12 Z A := X
  refine g_as (pc' := 0) (lv' := [(0, .ref g0), (1, .int (iI pp)), (2, .int (iI b1))]) (st' := []) (ws' := [(g0, .inr (12, mO gA nr tm at_ to_ fa va np tn pc_ st_ pa_ ta ow of_ ot rl hb bs se)), cA Z (gA 58) 0 4 Bp, cA Z (gA 59) 0 4 Br]) rfl rfl rfl rfl ?_
  refine g_aload_n (pc := 0) X 0 rfl dX12_batch_0 ?_
  refine g_iload_n (pc := 1) X 1 rfl dX12_batch_1 ?_
  refine g_callV (pc := 2) X (k_X12_isPaper l Z g0 gA pp nr tm at_ to_ fa va np tn pc_ st_ pa_ ta ow of_ ot rl hb bs se b_pp b_nr b_tm b_at_ b_to_ b_fa b_va b_np b_tn b_pc_ b_st_ b_pa_ b_ta b_ow b_of_ b_ot b_rl b_hb b_bs b_se) iM_X12_isPaper mw_32_18 mw_32_19 mw_32_20 0 rfl rfl [0] [1, 2] rfl (wr := [cA Z (gA 58) 0 4 Bp, cA Z (gA 59) 0 4 Br]) rfl (by decide) rfl rfl (Nat.le_of_ble_eq_true rfl) (by decide) dX12_batch_2 (fun r w' hpo => ?_)
  obtain ⟨rfl, rfl⟩ := hpo
  refine g_as (pc' := 5) (lv' := [(0, .ref g0), (1, .int (iI pp)), (2, .int (iI b1))]) (st' := [.int (iI (bI (0 ≤ pp ∧ pp ≤ np - 1)))]) (ws' := [cA Z (gA 58) 0 4 Bp, cA Z (gA 59) 0 4 Br, (g0, .inr (12, mO gA nr tm at_ to_ fa va np tn pc_ st_ pa_ ta ow of_ ot rl hb bs se))]) rfl rfl rfl rfl ?_
  refine g_if_eqB (pc := 5) X 28 (by decide) dX12_batch_5 (fun c5 => ?_) (fun c5 => ?_)
  · refine g_iconst (pc := 28) X (iI (-1)) (by rfl) dX12_batch_28 ?_
    refine g_ws (ws' := [(g0, .inr (12, mO gA nr tm at_ to_ fa va np tn pc_ st_ pa_ ta ow of_ ot rl hb bs se)), cA Z (gA 58) 0 4 Bp, cA Z (gA 59) 0 4 Br]) [2, 0, 1] (by decide) rfl ?_
    exact g_iret (pc := 29) X hA (Or.inl (⟨rfl, rfl, (by (first | (clear b_nr b_tm b_at_ b_to_ b_fa b_va b_tn b_pc_ b_st_ b_pa_ b_ta b_ow b_of_ b_ot b_rl b_bs b_se; omega) | omega))⟩)) (by decide) (by decide) dX12_batch_29
  · refine g_iload_n (pc := 8) X 2 rfl dX12_batch_8 ?_
    refine g_i2lI (pc := 9) X b_b1 dX12_batch_9 ?_
    refine g_lconst (pc := 10) X (lI 1) (by decide) dX12_batch_10 ?_
    refine g_ldc2 (pc := 11) X mw_47_12 dX12_batch_11 ?_
    refine g_litl (y := lI 30) (by decide) ?_
    refine g_callS (pc := 14) X (k_X12_in l Z b1 1 30 (by (first | (clear b_nr b_tm b_at_ b_to_ b_fa b_va b_tn b_pc_ b_st_ b_pa_ b_ta b_ow b_of_ b_ot b_rl b_bs b_se; omega) | omega)) (by decide) (by decide)) iM_X12_in mw_11_13 mw_11_14 [] [0, 1, 2] rfl (wr := [cA Z (gA 58) 0 4 Bp, cA Z (gA 59) 0 4 Br, (g0, .inr (12, mO gA nr tm at_ to_ fa va np tn pc_ st_ pa_ ta ow of_ ot rl hb bs se))]) rfl (by decide) rfl rfl (Nat.le_of_ble_eq_true rfl) (by decide) dX12_batch_14 (fun r w' hpo => ?_)
    obtain ⟨rfl, rfl⟩ := hpo
    refine g_as (pc' := 17) (lv' := [(0, .ref g0), (1, .int (iI pp)), (2, .int (iI b1))]) (st' := [.int (iI (bI (1 ≤ b1 ∧ b1 ≤ 30)))]) (ws' := [cA Z (gA 58) 0 4 Bp, cA Z (gA 59) 0 4 Br, (g0, .inr (12, mO gA nr tm at_ to_ fa va np tn pc_ st_ pa_ ta ow of_ ot rl hb bs se))]) rfl rfl rfl rfl ?_
    refine g_if_eqB (pc := 17) X 28 (by decide) dX12_batch_17 (fun c17 => ?_) (fun c17 => ?_)
    · refine g_iconst (pc := 28) X (iI (-1)) (by rfl) dX12_batch_28 ?_
      refine g_ws (ws' := [(g0, .inr (12, mO gA nr tm at_ to_ fa va np tn pc_ st_ pa_ ta ow of_ ot rl hb bs se)), cA Z (gA 58) 0 4 Bp, cA Z (gA 59) 0 4 Br]) [2, 0, 1] (by decide) rfl ?_
      exact g_iret (pc := 29) X hA (Or.inl (⟨rfl, rfl, (by (first | (clear b_nr b_tm b_at_ b_to_ b_fa b_va b_tn b_pc_ b_st_ b_pa_ b_ta b_ow b_of_ b_ot b_rl b_bs b_se; omega) | omega))⟩)) (by decide) (by decide) dX12_batch_29
    · refine g_aload_n (pc := 20) X 0 rfl dX12_batch_20 ?_
      refine g_get (pc := 21) X inlX12 2 rfl rfl 64 (by decide) mw_47_13 rfl dX12_batch_21 ?_
      refine g_iconst (pc := 24) X (iI 4) (by rfl) dX12_batch_24 ?_
      refine g_icmp_neI (pc := 25) X 30 (by decide) (inRb b_hb (by decide) (by decide)) ⟨by decide, by decide⟩ dX12_batch_25 (fun c25 => ?_) (fun c25 => ?_)
      · refine g_aload_n (pc := 30) X 0 rfl dX12_batch_30 ?_
        refine g_get (pc := 31) X inlX12 2 rfl rfl 58 (by decide) mw_9_9 rfl dX12_batch_31 ?_
        refine g_aload_n (pc := 34) X 0 rfl dX12_batch_34 ?_
        refine g_get (pc := 35) X inlX12 2 rfl rfl 64 (by decide) mw_47_13 rfl dX12_batch_35 ?_
        refine g_iload_n (pc := 38) X 1 rfl dX12_batch_38 ?_
        refine g_iastG (pc := 39) X 0 rfl (b_hb.1) (by (first | (clear b_nr b_tm b_at_ b_to_ b_fa b_va b_tn b_pc_ b_st_ b_pa_ b_ta b_ow b_of_ b_ot b_rl b_bs b_se; omega) | omega)) (Int.le_trans b_hb.2 (by decide)) (ws' := fun F3 => [cA Z (gA 58) 0 4 F3, cA Z (gA 59) 0 4 Br, (g0, .inr (12, mO gA nr tm at_ to_ fa va np tn pc_ st_ pa_ ta ow of_ ot rl hb bs se))]) (fun _ => rfl) dX12_batch_39 (fun F3 eF3 => ?_)
        have hF3 : ∀ j, j < 4 → (-2147483648) ≤ F3 j ∧ F3 j ≤ 2147483647 := by rw [eF3]; exact updI_B h_Bp (by (first | (clear b_nr b_tm b_at_ b_to_ b_fa b_va b_tn b_pc_ b_st_ b_pa_ b_ta b_ow b_of_ b_ot b_rl b_bs b_se; omega) | omega))
        refine g_aload_n (pc := 40) X 0 rfl dX12_batch_40 ?_
        refine g_get (pc := 41) X inlX12 2 rfl rfl 59 (by decide) mw_9_10 rfl dX12_batch_41 ?_
        refine g_aload_n (pc := 44) X 0 rfl dX12_batch_44 ?_
        refine g_get (pc := 45) X inlX12 2 rfl rfl 64 (by decide) mw_47_13 rfl dX12_batch_45 ?_
        refine g_iload_n (pc := 48) X 2 rfl dX12_batch_48 ?_
        refine g_iastG (pc := 49) X 1 rfl (b_hb.1) (by (first | (clear b_nr b_tm b_at_ b_to_ b_fa b_va b_tn b_pc_ b_st_ b_pa_ b_ta b_ow b_of_ b_ot b_rl b_bs b_se; omega) | omega)) (Int.le_trans b_hb.2 (by decide)) (ws' := fun F4 => [cA Z (gA 58) 0 4 F3, cA Z (gA 59) 0 4 F4, (g0, .inr (12, mO gA nr tm at_ to_ fa va np tn pc_ st_ pa_ ta ow of_ ot rl hb bs se))]) (fun _ => rfl) dX12_batch_49 (fun F4 eF4 => ?_)
        have hF4 : ∀ j, j < 4 → (-2147483648) ≤ F4 j ∧ F4 j ≤ 2147483647 := by rw [eF4]; exact updI_B h_Br (by (first | (clear b_nr b_tm b_at_ b_to_ b_fa b_va b_tn b_pc_ b_st_ b_pa_ b_ta b_ow b_of_ b_ot b_rl b_bs b_se; omega) | omega))
        refine g_aload_n (pc := 50) X 0 rfl dX12_batch_50 ?_
        refine g_dup (pc := 51) X rfl dX12_batch_51 ?_
        refine g_get (pc := 52) X inlX12 2 rfl rfl 64 (by decide) mw_47_13 rfl dX12_batch_52 ?_
        refine g_iconst (pc := 55) X (iI 1) (by rfl) dX12_batch_55 ?_
        refine g_iaddI (pc := 56) X dX12_batch_56 ?_
        refine g_put (pc := 57) X inlX12 tyX12_ok nmX12 2 rfl rfl 64 (by decide) mw_47_13 rfl rfl rfl (Nat.le_of_ble_eq_true rfl) (ws' := [cA Z (gA 58) 0 4 F3, cA Z (gA 59) 0 4 F4, (g0, .inr (12, mO gA nr tm at_ to_ fa va np tn pc_ st_ pa_ ta ow of_ ot rl (hb + 1) bs se))]) rfl dX12_batch_57 ?_
        refine g_aload_n (pc := 60) X 0 rfl dX12_batch_60 ?_
        refine g_get (pc := 61) X inlX12 2 rfl rfl 64 (by decide) mw_47_13 rfl dX12_batch_61 ?_
        refine g_iconst (pc := 64) X (iI 1) (by rfl) dX12_batch_64 ?_
        refine g_isubI (pc := 65) X dX12_batch_65 ?_
        refine g_ws (ws' := [(g0, .inr (12, mO gA nr tm at_ to_ fa va np tn pc_ st_ pa_ ta ow of_ ot rl (hb + 1) bs se)), cA Z (gA 58) 0 4 F3, cA Z (gA 59) 0 4 F4]) [2, 0, 1] (by decide) rfl ?_
        exact g_iret (pc := 66) X hA (Or.inr (⟨F3, F4, (hb + 1), congrArg (fun z => some (Value.int (iI z))) (by (first | (clear b_nr b_tm b_at_ b_to_ b_fa b_va b_tn b_pc_ b_st_ b_pa_ b_ta b_ow b_of_ b_ot b_rl b_bs b_se; omega) | omega)), rfl, (by (first | (clear b_nr b_tm b_at_ b_to_ b_fa b_va b_tn b_pc_ b_st_ b_pa_ b_ta b_ow b_of_ b_ot b_rl b_bs b_se; omega) | omega)), (hF3), (hF4), (by (first | (clear b_nr b_tm b_at_ b_to_ b_fa b_va b_tn b_pc_ b_st_ b_pa_ b_ta b_ow b_of_ b_ot b_rl b_bs b_se; omega) | omega)), (by (first | (clear b_nr b_tm b_at_ b_to_ b_fa b_va b_tn b_pc_ b_st_ b_pa_ b_ta b_ow b_of_ b_ot b_rl b_bs b_se; omega) | omega))⟩)) (by decide) (by decide) dX12_batch_66
      · refine g_iconst (pc := 28) X (iI (-1)) (by rfl) dX12_batch_28 ?_
        refine g_ws (ws' := [(g0, .inr (12, mO gA nr tm at_ to_ fa va np tn pc_ st_ pa_ ta ow of_ ot rl hb bs se)), cA Z (gA 58) 0 4 Bp, cA Z (gA 59) 0 4 Br]) [2, 0, 1] (by decide) rfl ?_
        exact g_iret (pc := 29) X hA (Or.inl (⟨rfl, rfl, (by (first | (clear b_nr b_tm b_at_ b_to_ b_fa b_va b_tn b_pc_ b_st_ b_pa_ b_ta b_ow b_of_ b_ot b_rl b_bs b_se; omega) | omega))⟩)) (by decide) (by decide) dX12_batch_29

set_option maxHeartbeats 4000000 in
set_option maxRecDepth 100000 in
theorem k_X12_hasDoor (l : Launch) (Z : gZ) (g0 : Nat) (gA : Nat → Nat) (gG : Nat → Nat → Option Nat) (xA : Nat → Nat) (Mw : Nat → Int) (Mo : Nat → Int) (Ml : Nat → Int) (Mow : Nat → Int) (Mof : Nat → Int) (Mot : Nat → Int) (Md : Nat → Int) (rm : Int) (w : Int) (nr : Int) (tm : Int) (at_ : Int) (to_ : Int) (fa : Int) (va : Int) (np : Int) (tn : Int) (pc_ : Int) (st_ : Int) (pa_ : Int) (ta : Int) (ow : Int) (of_ : Int) (ot : Int) (rl : Int) (hb : Int) (bs : Int) (se : Int) (b_rm : 0 ≤ rm ∧ rm ≤ 5) (b_w : 0 ≤ w ∧ w ≤ 7) (b_nr : 0 ≤ nr ∧ nr ≤ 6) (b_tm : 0 ≤ tm ∧ tm ≤ 400) (b_at_ : 0 ≤ at_ ∧ at_ ≤ 400) (b_to_ : 0 ≤ to_ ∧ to_ ≤ 400) (b_fa : (-1) ≤ fa ∧ fa ≤ 400) (b_va : (-2147483648) ≤ va ∧ va ≤ 2147483647) (b_np : 0 ≤ np ∧ np ≤ 4) (b_tn : 0 ≤ tn ∧ tn ≤ 20) (b_pc_ : 0 ≤ pc_ ∧ pc_ ≤ 480) (b_st_ : 0 ≤ st_ ∧ st_ ≤ 240) (b_pa_ : (-1) ≤ pa_ ∧ pa_ ≤ 3) (b_ta : (-2147483648) ≤ ta ∧ ta ≤ 2147483647) (b_ow : (-2147483648) ≤ ow ∧ ow ≤ 2147483647) (b_of_ : (-2147483648) ≤ of_ ∧ of_ ≤ 2147483647) (b_ot : (-2147483648) ≤ ot ∧ ot ≤ 2147483647) (b_rl : 0 ≤ rl ∧ rl ≤ 2880) (b_hb : 0 ≤ hb ∧ hb ≤ 4) (b_bs : (-2147483648) ≤ bs ∧ bs ≤ 2147483647) (b_se : 0 ≤ se ∧ se ≤ 10) (hG : ∀ k, gG k rm.toNat = some (xA k)) (hwn : 1 ≤ Mw rm.toNat ∧ Mw rm.toNat ≤ 8) (h_Mw : ∀ j, j < 7 → 0 ≤ Mw j ∧ Mw j ≤ 8) (h_Mo : ∀ j, j < 7 → 0 ≤ Mo j ∧ Mo j ≤ 8) (h_Ml : ∀ j, j < 8 → 0 ≤ Ml j ∧ Ml j ≤ 600) (h_Mow : ∀ j, j < 8 → 0 ≤ Mow j ∧ Mow j ≤ 7) (h_Mof : ∀ j, j < 8 → 0 ≤ Mof j ∧ Mof j ≤ 600) (h_Mot : ∀ j, j < 8 → 0 ≤ Mot j ∧ Mot j ≤ 600) (h_Md : ∀ j, j < 8 → 0 ≤ Md j ∧ Md j ≤ 1) : Con l Z yX12_hasDoor cX12_hasDoor 5 (some .boolean) 0 0 0 0 [.ref g0, .int (iI rm), .int (iI w)] [(g0, .inr (12, mO gA nr tm at_ to_ fa va np tn pc_ st_ pa_ ta ow of_ ot rl hb bs se)), cA Z (gA 13) 0 7 Mw, cA Z (gA 14) 0 7 Mo, cR Z (gA 0) 6 7 (gG 0), cR Z (gA 4) 6 7 (gG 4), cR Z (gA 5) 6 7 (gG 5), cR Z (gA 6) 6 7 (gG 6), cR Z (gA 9) 6 7 (gG 9), cA Z (xA 0) 0 8 Ml, cA Z (xA 4) 0 8 Mow, cA Z (xA 5) 0 8 Mof, cA Z (xA 6) 0 8 Mot, cA Z (xA 9) 0 8 Md] (fun r w' => ∃ (y : Int), (r = some (.int (iI y))) ∧ (w' = [(g0, .inr (12, mO gA nr tm at_ to_ fa va np tn pc_ st_ pa_ ta ow of_ ot rl hb bs se)), cA Z (gA 13) 0 7 Mw, cA Z (gA 14) 0 7 Mo, cR Z (gA 0) 6 7 (gG 0), cR Z (gA 4) 6 7 (gG 4), cR Z (gA 5) 6 7 (gG 5), cR Z (gA 6) 6 7 (gG 6), cR Z (gA 9) 6 7 (gG 9), cA Z (xA 0) 0 8 Ml, cA Z (xA 4) 0 8 Mow, cA Z (xA 5) 0 8 Mof, cA Z (xA 6) 0 8 Mot, cA Z (xA 9) 0 8 Md]) ∧ (0 ≤ y ∧ y ≤ 1)) := by
  refine enter (by decide) (Nat.le_of_ble_eq_true rfl) ?_
  intro p e s m args below meth c A X hnm hA
  have X : Cx p s m args meth c cX12_hasDoor 5 (some .boolean) RX12 Z A := X
  refine g_as (pc' := 0) (lv' := [(0, .ref g0), (1, .int (iI rm)), (2, .int (iI w))]) (st' := []) (ws' := [(g0, .inr (12, mO gA nr tm at_ to_ fa va np tn pc_ st_ pa_ ta ow of_ ot rl hb bs se)), cA Z (gA 13) 0 7 Mw, cA Z (gA 14) 0 7 Mo, cR Z (gA 0) 6 7 (gG 0), cR Z (gA 4) 6 7 (gG 4), cR Z (gA 5) 6 7 (gG 5), cR Z (gA 6) 6 7 (gG 6), cR Z (gA 9) 6 7 (gG 9), cA Z (xA 0) 0 8 Ml, cA Z (xA 4) 0 8 Mow, cA Z (xA 5) 0 8 Mof, cA Z (xA 6) 0 8 Mot, cA Z (xA 9) 0 8 Md]) rfl rfl rfl rfl ?_
  refine g_iload_n (pc := 0) X 2 rfl dX12_hasDoor_0 ?_
  refine g_iconst (pc := 1) X (iI 1) (by rfl) dX12_hasDoor_1 ?_
  refine g_iaddI (pc := 2) X dX12_hasDoor_2 ?_
  refine g_aload_n (pc := 3) X 0 rfl dX12_hasDoor_3 ?_
  refine g_get (pc := 4) X inlX12 0 rfl rfl 13 (by decide) mw_8_1 rfl dX12_hasDoor_4 ?_
  refine g_iload_n (pc := 7) X 1 rfl dX12_hasDoor_7 ?_
  refine g_ialdI (pc := 8) X 1 rfl (b_rm.1) (Int.lt_of_le_of_lt b_rm.2 (by decide)) (Int.le_trans b_rm.2 (by decide)) dX12_hasDoor_8 ?_
  refine g_nameI (fun y1 ey1 => ?_)
  have by1 : 0 ≤ y1 ∧ y1 ≤ 8 := by rw [ey1]; exact h_Mw _ (by (first | (clear b_w b_nr b_tm b_at_ b_to_ b_fa b_va b_np b_tn b_pc_ b_st_ b_pa_ b_ta b_ow b_of_ b_ot b_rl b_hb b_bs b_se; omega) | omega))
  have ty1 : 1 ≤ y1 ∧ y1 ≤ 8 := by rw [ey1]; exact hwn
  refine g_iremP (pc := 9) X (by (first | (clear b_w b_nr b_tm b_at_ b_to_ b_fa b_va b_np b_tn b_pc_ b_st_ b_pa_ b_ta b_ow b_of_ b_ot b_rl b_hb b_bs b_se; omega) | omega)) (by (first | (clear b_w b_nr b_tm b_at_ b_to_ b_fa b_va b_np b_tn b_pc_ b_st_ b_pa_ b_ta b_ow b_of_ b_ot b_rl b_hb b_bs b_se; omega) | omega)) (by (first | (clear b_w b_nr b_tm b_at_ b_to_ b_fa b_va b_np b_tn b_pc_ b_st_ b_pa_ b_ta b_ow b_of_ b_ot b_rl b_hb b_bs b_se; omega) | omega)) (by (first | (clear b_w b_nr b_tm b_at_ b_to_ b_fa b_va b_np b_tn b_pc_ b_st_ b_pa_ b_ta b_ow b_of_ b_ot b_rl b_hb b_bs b_se; omega) | omega)) dX12_hasDoor_9 ?_
  refine g_nameI (fun y2 ey2 => ?_)
  have by2 : 0 ≤ y2 ∧ y2 ≤ 7 := by rw [ey2]; exact modB (by (first | (clear b_w b_nr b_tm b_at_ b_to_ b_fa b_va b_np b_tn b_pc_ b_st_ b_pa_ b_ta b_ow b_of_ b_ot b_rl b_hb b_bs b_se; omega) | omega)) (by (first | (clear b_w b_nr b_tm b_at_ b_to_ b_fa b_va b_np b_tn b_pc_ b_st_ b_pa_ b_ta b_ow b_of_ b_ot b_rl b_hb b_bs b_se; omega) | omega)) (by (first | (clear b_w b_nr b_tm b_at_ b_to_ b_fa b_va b_np b_tn b_pc_ b_st_ b_pa_ b_ta b_ow b_of_ b_ot b_rl b_hb b_bs b_se; omega) | omega))
  have cy2 : y2 < y1 := by rw [ey2]; exact Int.emod_lt_of_pos _ (by (first | (clear b_w b_nr b_tm b_at_ b_to_ b_fa b_va b_np b_tn b_pc_ b_st_ b_pa_ b_ta b_ow b_of_ b_ot b_rl b_hb b_bs b_se; omega) | omega))
  refine g_istore_n (pc := 10) X (i := 3) rfl (by decide) (lv' := [(3, .int (iI y2)), (0, .ref g0), (1, .int (iI rm)), (2, .int (iI w))]) rfl dX12_hasDoor_10 ?_
  refine g_iconst (pc := 11) X (iI 0) (by rfl) dX12_hasDoor_11 ?_
  refine g_istore (pc := 12) X (by decide) (lv' := [(4, .int (iI 0)), (3, .int (iI y2)), (0, .ref g0), (1, .int (iI rm)), (2, .int (iI w))]) rfl dX12_hasDoor_12 ?_
  have loop14 : ∀ (fuel : Nat) (k1 : Int), (0 ≤ k1 ∧ k1 ≤ 8) → (9 - k1).toNat < fuel → Gs p l e ({ frames := 0, cells := 0, slots := 0, locals := 0 } : Room) s m args below meth c (MQ below (gPost Z [(g0, .inr (12, mO gA nr tm at_ to_ fa va np tn pc_ st_ pa_ ta ow of_ ot rl hb bs se)), cA Z (gA 13) 0 7 Mw, cA Z (gA 14) 0 7 Mo, cR Z (gA 0) 6 7 (gG 0), cR Z (gA 4) 6 7 (gG 4), cR Z (gA 5) 6 7 (gG 5), cR Z (gA 6) 6 7 (gG 6), cR Z (gA 9) 6 7 (gG 9), cA Z (xA 0) 0 8 Ml, cA Z (xA 4) 0 8 Mow, cA Z (xA 5) 0 8 Mof, cA Z (xA 6) 0 8 Mot, cA Z (xA 9) 0 8 Md] s.heap.size (fun r w' => ∃ (y : Int), (r = some (.int (iI y))) ∧ (w' = [(g0, .inr (12, mO gA nr tm at_ to_ fa va np tn pc_ st_ pa_ ta ow of_ ot rl hb bs se)), cA Z (gA 13) 0 7 Mw, cA Z (gA 14) 0 7 Mo, cR Z (gA 0) 6 7 (gG 0), cR Z (gA 4) 6 7 (gG 4), cR Z (gA 5) 6 7 (gG 5), cR Z (gA 6) 6 7 (gG 6), cR Z (gA 9) 6 7 (gG 9), cA Z (xA 0) 0 8 Ml, cA Z (xA 4) 0 8 Mow, cA Z (xA 5) 0 8 Mof, cA Z (xA 6) 0 8 Mot, cA Z (xA 9) 0 8 Md]) ∧ (0 ≤ y ∧ y ≤ 1))) args s 0 0 (va_A [(g0, .inr (12, mO gA nr tm at_ to_ fa va np tn pc_ st_ pa_ ta ow of_ ot rl hb bs se)), cA Z (gA 13) 0 7 Mw, cA Z (gA 14) 0 7 Mo, cR Z (gA 0) 6 7 (gG 0), cR Z (gA 4) 6 7 (gG 4), cR Z (gA 5) 6 7 (gG 5), cR Z (gA 6) 6 7 (gG 6), cR Z (gA 9) 6 7 (gG 9), cA Z (xA 0) 0 8 Ml, cA Z (xA 4) 0 8 Mow, cA Z (xA 5) 0 8 Mof, cA Z (xA 6) 0 8 Mot, cA Z (xA 9) 0 8 Md] s.heap.size)) Z A 5 0 0 14 [(4, .int (iI k1)), (3, .int (iI y2)), (0, .ref g0), (1, .int (iI rm)), (2, .int (iI w))] [] [(g0, .inr (12, mO gA nr tm at_ to_ fa va np tn pc_ st_ pa_ ta ow of_ ot rl hb bs se)), cA Z (gA 13) 0 7 Mw, cA Z (gA 14) 0 7 Mo, cR Z (gA 0) 6 7 (gG 0), cR Z (gA 4) 6 7 (gG 4), cR Z (gA 5) 6 7 (gG 5), cR Z (gA 6) 6 7 (gG 6), cR Z (gA 9) 6 7 (gG 9), cA Z (xA 0) 0 8 Ml, cA Z (xA 4) 0 8 Mow, cA Z (xA 5) 0 8 Mof, cA Z (xA 6) 0 8 Mot, cA Z (xA 9) 0 8 Md] := by
    intro fuel
    induction fuel with
    | zero => intro k1 _ hm; exact absurd hm (Nat.not_lt_zero _)
    | succ fuel ih =>
      intro k1 b_k1 hm
      refine g_iload (pc := 14) X 0 rfl dX12_hasDoor_14 ?_
      refine g_aload_n (pc := 16) X 2 rfl dX12_hasDoor_16 ?_
      refine g_get (pc := 17) X inlX12 0 rfl rfl 14 (by decide) mw_8_2 rfl dX12_hasDoor_17 ?_
      refine g_iload_n (pc := 20) X 3 rfl dX12_hasDoor_20 ?_
      refine g_ialdI (pc := 21) X 2 rfl (b_rm.1) (Int.lt_of_le_of_lt b_rm.2 (by decide)) (Int.le_trans b_rm.2 (by decide)) dX12_hasDoor_21 ?_
      refine g_nameI (fun y3 ey3 => ?_)
      have by3 : 0 ≤ y3 ∧ y3 ≤ 8 := by rw [ey3]; exact h_Mo _ (by (first | (clear b_w b_nr b_tm b_at_ b_to_ b_fa b_va b_np b_tn b_pc_ b_st_ b_pa_ b_ta b_ow b_of_ b_ot b_rl b_hb b_bs b_se; omega) | omega))
      refine g_icmp_geI (pc := 22) X 104 (by decide) (inRb b_k1 (by decide) (by decide)) (inRb by3 (by decide) (by decide)) dX12_hasDoor_22 (fun c22 => ?_) (fun c22 => ?_)
      · refine g_iconst (pc := 104) X (iI 0) (by rfl) dX12_hasDoor_104 ?_
        exact g_zret (pc := 105) X hA (rfl) (⟨0, rfl, rfl, (by (first | (clear b_w b_nr b_tm b_at_ b_to_ b_fa b_va b_np b_tn b_pc_ b_st_ b_pa_ b_ta b_ow b_of_ b_ot b_rl b_hb b_bs b_se; omega) | omega))⟩) (by decide) (by decide) dX12_hasDoor_105
      · refine g_aload_n (pc := 25) X 2 rfl dX12_hasDoor_25 ?_
        refine g_get (pc := 26) X inlX12 0 rfl rfl 9 (by decide) mw_7_21 rfl dX12_hasDoor_26 ?_
        refine g_iload_n (pc := 29) X 3 rfl dX12_hasDoor_29 ?_
        refine g_aaldG (pc := 30) X 7 rfl (b_rm.1) (Int.lt_of_le_of_lt b_rm.2 (by decide)) (Int.le_trans b_rm.2 (by decide)) (hG 9) dX12_hasDoor_30 ?_
        refine g_iload (pc := 31) X 0 rfl dX12_hasDoor_31 ?_
        refine g_ialdI (pc := 33) X 12 rfl (b_k1.1) (by (first | (clear b_w b_nr b_tm b_at_ b_to_ b_fa b_va b_np b_tn b_pc_ b_st_ b_pa_ b_ta b_ow b_of_ b_ot b_rl b_hb b_bs b_se; omega) | omega)) (Int.le_trans b_k1.2 (by decide)) dX12_hasDoor_33 ?_
        refine g_nameI (fun y4 ey4 => ?_)
        have by4 : 0 ≤ y4 ∧ y4 ≤ 1 := by rw [ey4]; exact h_Md _ (by (first | (clear b_w b_nr b_tm b_at_ b_to_ b_fa b_va b_np b_tn b_pc_ b_st_ b_pa_ b_ta b_ow b_of_ b_ot b_rl b_hb b_bs b_se; omega) | omega))
        refine g_iconst (pc := 34) X (iI 1) (by rfl) dX12_hasDoor_34 ?_
        refine g_icmp_neI (pc := 35) X 98 (by decide) (inRb by4 (by decide) (by decide)) ⟨by decide, by decide⟩ dX12_hasDoor_35 (fun c35 => ?_) (fun c35 => ?_)
        · refine g_iincI (pc := 98) X 0 rfl (by decide) (lv' := [(4, .int (iI (k1 + 1))), (3, .int (iI y2)), (0, .ref g0), (1, .int (iI rm)), (2, .int (iI w))]) rfl dX12_hasDoor_98 ?_
          refine g_goto (pc := 101) X 14 (by decide) dX12_hasDoor_101 ?_
          exact ih (k1 + 1) (by (first | (clear b_w b_nr b_tm b_at_ b_to_ b_fa b_va b_np b_tn b_pc_ b_st_ b_pa_ b_ta b_ow b_of_ b_ot b_rl b_hb b_bs b_se; omega) | omega)) (by (first | (clear b_w b_nr b_tm b_at_ b_to_ b_fa b_va b_np b_tn b_pc_ b_st_ b_pa_ b_ta b_ow b_of_ b_ot b_rl b_hb b_bs b_se; omega) | omega))
        · refine g_aload_n (pc := 38) X 2 rfl dX12_hasDoor_38 ?_
          refine g_get (pc := 39) X inlX12 0 rfl rfl 4 (by decide) mw_7_16 rfl dX12_hasDoor_39 ?_
          refine g_iload_n (pc := 42) X 3 rfl dX12_hasDoor_42 ?_
          refine g_aaldG (pc := 43) X 4 rfl (b_rm.1) (Int.lt_of_le_of_lt b_rm.2 (by decide)) (Int.le_trans b_rm.2 (by decide)) (hG 4) dX12_hasDoor_43 ?_
          refine g_iload (pc := 44) X 0 rfl dX12_hasDoor_44 ?_
          refine g_ialdI (pc := 46) X 9 rfl (b_k1.1) (by (first | (clear b_w b_nr b_tm b_at_ b_to_ b_fa b_va b_np b_tn b_pc_ b_st_ b_pa_ b_ta b_ow b_of_ b_ot b_rl b_hb b_bs b_se; omega) | omega)) (Int.le_trans b_k1.2 (by decide)) dX12_hasDoor_46 ?_
          refine g_nameI (fun y5 ey5 => ?_)
          have by5 : 0 ≤ y5 ∧ y5 ≤ 7 := by rw [ey5]; exact h_Mow _ (by (first | (clear b_w b_nr b_tm b_at_ b_to_ b_fa b_va b_np b_tn b_pc_ b_st_ b_pa_ b_ta b_ow b_of_ b_ot b_rl b_hb b_bs b_se; omega) | omega))
          refine g_iload_n (pc := 47) X 4 rfl dX12_hasDoor_47 ?_
          refine g_icmp_neI (pc := 48) X 71 (by decide) (inRb by5 (by decide) (by decide)) (inRb b_w (by decide) (by decide)) dX12_hasDoor_48 (fun c48 => ?_) (fun c48 => ?_)
          · refine g_aload_n (pc := 71) X 2 rfl dX12_hasDoor_71 ?_
            refine g_get (pc := 72) X inlX12 0 rfl rfl 4 (by decide) mw_7_16 rfl dX12_hasDoor_72 ?_
            refine g_iload_n (pc := 75) X 3 rfl dX12_hasDoor_75 ?_
            refine g_aaldG (pc := 76) X 4 rfl (b_rm.1) (Int.lt_of_le_of_lt b_rm.2 (by decide)) (Int.le_trans b_rm.2 (by decide)) (hG 4) dX12_hasDoor_76 ?_
            refine g_iload (pc := 77) X 0 rfl dX12_hasDoor_77 ?_
            refine g_ialdI (pc := 79) X 9 rfl (b_k1.1) (by (first | (clear b_w b_nr b_tm b_at_ b_to_ b_fa b_va b_np b_tn b_pc_ b_st_ b_pa_ b_ta b_ow b_of_ b_ot b_rl b_hb b_bs b_se; omega) | omega)) (Int.le_trans b_k1.2 (by decide)) dX12_hasDoor_79 ?_
            refine g_nameI (fun y6 ey6 => ?_)
            have by6 : 0 ≤ y6 ∧ y6 ≤ 7 := by rw [ey6]; exact h_Mow _ (by (first | (clear b_w b_nr b_tm b_at_ b_to_ b_fa b_va b_np b_tn b_pc_ b_st_ b_pa_ b_ta b_ow b_of_ b_ot b_rl b_hb b_bs b_se; omega) | omega))
            refine g_iload_n (pc := 80) X 1 rfl dX12_hasDoor_80 ?_
            refine g_icmp_neI (pc := 81) X 98 (by decide) (inRb by6 (by decide) (by decide)) ⟨by (first | (clear b_w b_nr b_tm b_at_ b_to_ b_fa b_va b_np b_tn b_pc_ b_st_ b_pa_ b_ta b_ow b_of_ b_ot b_rl b_hb b_bs b_se; omega) | omega), by (first | (clear b_w b_nr b_tm b_at_ b_to_ b_fa b_va b_np b_tn b_pc_ b_st_ b_pa_ b_ta b_ow b_of_ b_ot b_rl b_hb b_bs b_se; omega) | omega)⟩ dX12_hasDoor_81 (fun c81 => ?_) (fun c81 => ?_)
            · refine g_iincI (pc := 98) X 0 rfl (by decide) (lv' := [(4, .int (iI (k1 + 1))), (3, .int (iI y2)), (0, .ref g0), (1, .int (iI rm)), (2, .int (iI w))]) rfl dX12_hasDoor_98 ?_
              refine g_goto (pc := 101) X 14 (by decide) dX12_hasDoor_101 ?_
              exact ih (k1 + 1) (by (first | (clear b_w b_nr b_tm b_at_ b_to_ b_fa b_va b_np b_tn b_pc_ b_st_ b_pa_ b_ta b_ow b_of_ b_ot b_rl b_hb b_bs b_se; omega) | omega)) (by (first | (clear b_w b_nr b_tm b_at_ b_to_ b_fa b_va b_np b_tn b_pc_ b_st_ b_pa_ b_ta b_ow b_of_ b_ot b_rl b_hb b_bs b_se; omega) | omega))
            · refine g_aload_n (pc := 84) X 2 rfl dX12_hasDoor_84 ?_
              refine g_get (pc := 85) X inlX12 0 rfl rfl 5 (by decide) mw_7_17 rfl dX12_hasDoor_85 ?_
              refine g_iload_n (pc := 88) X 3 rfl dX12_hasDoor_88 ?_
              refine g_aaldG (pc := 89) X 5 rfl (b_rm.1) (Int.lt_of_le_of_lt b_rm.2 (by decide)) (Int.le_trans b_rm.2 (by decide)) (hG 5) dX12_hasDoor_89 ?_
              refine g_iload (pc := 90) X 0 rfl dX12_hasDoor_90 ?_
              refine g_ialdI (pc := 92) X 10 rfl (b_k1.1) (by (first | (clear b_w b_nr b_tm b_at_ b_to_ b_fa b_va b_np b_tn b_pc_ b_st_ b_pa_ b_ta b_ow b_of_ b_ot b_rl b_hb b_bs b_se; omega) | omega)) (Int.le_trans b_k1.2 (by decide)) dX12_hasDoor_92 ?_
              refine g_nameI (fun y7 ey7 => ?_)
              have by7 : 0 ≤ y7 ∧ y7 ≤ 600 := by rw [ey7]; exact h_Mof _ (by (first | (clear b_w b_nr b_tm b_at_ b_to_ b_fa b_va b_np b_tn b_pc_ b_st_ b_pa_ b_ta b_ow b_of_ b_ot b_rl b_hb b_bs b_se; omega) | omega))
              refine g_if_neI (pc := 93) X 98 (by decide) (inRb by7 (by decide) (by decide)) dX12_hasDoor_93 (fun c93 => ?_) (fun c93 => ?_)
              · refine g_iincI (pc := 98) X 0 rfl (by decide) (lv' := [(4, .int (iI (k1 + 1))), (3, .int (iI y2)), (0, .ref g0), (1, .int (iI rm)), (2, .int (iI w))]) rfl dX12_hasDoor_98 ?_
                refine g_goto (pc := 101) X 14 (by decide) dX12_hasDoor_101 ?_
                exact ih (k1 + 1) (by (first | (clear b_w b_nr b_tm b_at_ b_to_ b_fa b_va b_np b_tn b_pc_ b_st_ b_pa_ b_ta b_ow b_of_ b_ot b_rl b_hb b_bs b_se; omega) | omega)) (by (first | (clear b_w b_nr b_tm b_at_ b_to_ b_fa b_va b_np b_tn b_pc_ b_st_ b_pa_ b_ta b_ow b_of_ b_ot b_rl b_hb b_bs b_se; omega) | omega))
              · refine g_iconst (pc := 96) X (iI 1) (by rfl) dX12_hasDoor_96 ?_
                exact g_zret (pc := 97) X hA (rfl) (⟨1, rfl, rfl, (by (first | (clear b_w b_nr b_tm b_at_ b_to_ b_fa b_va b_np b_tn b_pc_ b_st_ b_pa_ b_ta b_ow b_of_ b_ot b_rl b_hb b_bs b_se; omega) | omega))⟩) (by decide) (by decide) dX12_hasDoor_97
          · refine g_aload_n (pc := 51) X 2 rfl dX12_hasDoor_51 ?_
            refine g_get (pc := 52) X inlX12 0 rfl rfl 6 (by decide) mw_7_18 rfl dX12_hasDoor_52 ?_
            refine g_iload_n (pc := 55) X 3 rfl dX12_hasDoor_55 ?_
            refine g_aaldG (pc := 56) X 6 rfl (b_rm.1) (Int.lt_of_le_of_lt b_rm.2 (by decide)) (Int.le_trans b_rm.2 (by decide)) (hG 6) dX12_hasDoor_56 ?_
            refine g_iload (pc := 57) X 0 rfl dX12_hasDoor_57 ?_
            refine g_ialdI (pc := 59) X 11 rfl (b_k1.1) (by (first | (clear b_w b_nr b_tm b_at_ b_to_ b_fa b_va b_np b_tn b_pc_ b_st_ b_pa_ b_ta b_ow b_of_ b_ot b_rl b_hb b_bs b_se; omega) | omega)) (Int.le_trans b_k1.2 (by decide)) dX12_hasDoor_59 ?_
            refine g_nameI (fun y8 ey8 => ?_)
            have by8 : 0 ≤ y8 ∧ y8 ≤ 600 := by rw [ey8]; exact h_Mot _ (by (first | (clear b_w b_nr b_tm b_at_ b_to_ b_fa b_va b_np b_tn b_pc_ b_st_ b_pa_ b_ta b_ow b_of_ b_ot b_rl b_hb b_bs b_se; omega) | omega))
            refine g_aload_n (pc := 60) X 2 rfl dX12_hasDoor_60 ?_
            refine g_get (pc := 61) X inlX12 0 rfl rfl 0 (by decide) mw_7_12 rfl dX12_hasDoor_61 ?_
            refine g_iload_n (pc := 64) X 3 rfl dX12_hasDoor_64 ?_
            refine g_aaldG (pc := 65) X 3 rfl (b_rm.1) (Int.lt_of_le_of_lt b_rm.2 (by decide)) (Int.le_trans b_rm.2 (by decide)) (hG 0) dX12_hasDoor_65 ?_
            refine g_iload_n (pc := 66) X 4 rfl dX12_hasDoor_66 ?_
            refine g_ialdI (pc := 67) X 8 rfl (b_w.1) (Int.lt_of_le_of_lt b_w.2 (by decide)) (Int.le_trans b_w.2 (by decide)) dX12_hasDoor_67 ?_
            refine g_nameI (fun y9 ey9 => ?_)
            have by9 : 0 ≤ y9 ∧ y9 ≤ 600 := by rw [ey9]; exact h_Ml _ (by (first | (clear b_w b_nr b_tm b_at_ b_to_ b_fa b_va b_np b_tn b_pc_ b_st_ b_pa_ b_ta b_ow b_of_ b_ot b_rl b_hb b_bs b_se; omega) | omega))
            refine g_icmp_eqI (pc := 68) X 96 (by decide) (inRb by8 (by decide) (by decide)) (inRb by9 (by decide) (by decide)) dX12_hasDoor_68 (fun c68 => ?_) (fun c68 => ?_)
            · refine g_iconst (pc := 96) X (iI 1) (by rfl) dX12_hasDoor_96 ?_
              exact g_zret (pc := 97) X hA (rfl) (⟨1, rfl, rfl, (by (first | (clear b_w b_nr b_tm b_at_ b_to_ b_fa b_va b_np b_tn b_pc_ b_st_ b_pa_ b_ta b_ow b_of_ b_ot b_rl b_hb b_bs b_se; omega) | omega))⟩) (by decide) (by decide) dX12_hasDoor_97
            · refine g_aload_n (pc := 71) X 2 rfl dX12_hasDoor_71 ?_
              refine g_get (pc := 72) X inlX12 0 rfl rfl 4 (by decide) mw_7_16 rfl dX12_hasDoor_72 ?_
              refine g_iload_n (pc := 75) X 3 rfl dX12_hasDoor_75 ?_
              refine g_aaldG (pc := 76) X 4 rfl (b_rm.1) (Int.lt_of_le_of_lt b_rm.2 (by decide)) (Int.le_trans b_rm.2 (by decide)) (hG 4) dX12_hasDoor_76 ?_
              refine g_iload (pc := 77) X 0 rfl dX12_hasDoor_77 ?_
              refine g_ialdI (pc := 79) X 9 rfl (b_k1.1) (by (first | (clear b_w b_nr b_tm b_at_ b_to_ b_fa b_va b_np b_tn b_pc_ b_st_ b_pa_ b_ta b_ow b_of_ b_ot b_rl b_hb b_bs b_se; omega) | omega)) (Int.le_trans b_k1.2 (by decide)) dX12_hasDoor_79 ?_
              refine g_nameI (fun y10 ey10 => ?_)
              have by10 : 0 ≤ y10 ∧ y10 ≤ 7 := by rw [ey10]; exact h_Mow _ (by (first | (clear b_w b_nr b_tm b_at_ b_to_ b_fa b_va b_np b_tn b_pc_ b_st_ b_pa_ b_ta b_ow b_of_ b_ot b_rl b_hb b_bs b_se; omega) | omega))
              refine g_iload_n (pc := 80) X 1 rfl dX12_hasDoor_80 ?_
              refine g_icmp_neI (pc := 81) X 98 (by decide) (inRb by10 (by decide) (by decide)) ⟨by (first | (clear b_w b_nr b_tm b_at_ b_to_ b_fa b_va b_np b_tn b_pc_ b_st_ b_pa_ b_ta b_ow b_of_ b_ot b_rl b_hb b_bs b_se; omega) | omega), by (first | (clear b_w b_nr b_tm b_at_ b_to_ b_fa b_va b_np b_tn b_pc_ b_st_ b_pa_ b_ta b_ow b_of_ b_ot b_rl b_hb b_bs b_se; omega) | omega)⟩ dX12_hasDoor_81 (fun c81 => ?_) (fun c81 => ?_)
              · refine g_iincI (pc := 98) X 0 rfl (by decide) (lv' := [(4, .int (iI (k1 + 1))), (3, .int (iI y2)), (0, .ref g0), (1, .int (iI rm)), (2, .int (iI w))]) rfl dX12_hasDoor_98 ?_
                refine g_goto (pc := 101) X 14 (by decide) dX12_hasDoor_101 ?_
                exact ih (k1 + 1) (by (first | (clear b_w b_nr b_tm b_at_ b_to_ b_fa b_va b_np b_tn b_pc_ b_st_ b_pa_ b_ta b_ow b_of_ b_ot b_rl b_hb b_bs b_se; omega) | omega)) (by (first | (clear b_w b_nr b_tm b_at_ b_to_ b_fa b_va b_np b_tn b_pc_ b_st_ b_pa_ b_ta b_ow b_of_ b_ot b_rl b_hb b_bs b_se; omega) | omega))
              · refine g_aload_n (pc := 84) X 2 rfl dX12_hasDoor_84 ?_
                refine g_get (pc := 85) X inlX12 0 rfl rfl 5 (by decide) mw_7_17 rfl dX12_hasDoor_85 ?_
                refine g_iload_n (pc := 88) X 3 rfl dX12_hasDoor_88 ?_
                refine g_aaldG (pc := 89) X 5 rfl (b_rm.1) (Int.lt_of_le_of_lt b_rm.2 (by decide)) (Int.le_trans b_rm.2 (by decide)) (hG 5) dX12_hasDoor_89 ?_
                refine g_iload (pc := 90) X 0 rfl dX12_hasDoor_90 ?_
                refine g_ialdI (pc := 92) X 10 rfl (b_k1.1) (by (first | (clear b_w b_nr b_tm b_at_ b_to_ b_fa b_va b_np b_tn b_pc_ b_st_ b_pa_ b_ta b_ow b_of_ b_ot b_rl b_hb b_bs b_se; omega) | omega)) (Int.le_trans b_k1.2 (by decide)) dX12_hasDoor_92 ?_
                refine g_nameI (fun y11 ey11 => ?_)
                have by11 : 0 ≤ y11 ∧ y11 ≤ 600 := by rw [ey11]; exact h_Mof _ (by (first | (clear b_w b_nr b_tm b_at_ b_to_ b_fa b_va b_np b_tn b_pc_ b_st_ b_pa_ b_ta b_ow b_of_ b_ot b_rl b_hb b_bs b_se; omega) | omega))
                refine g_if_neI (pc := 93) X 98 (by decide) (inRb by11 (by decide) (by decide)) dX12_hasDoor_93 (fun c93 => ?_) (fun c93 => ?_)
                · refine g_iincI (pc := 98) X 0 rfl (by decide) (lv' := [(4, .int (iI (k1 + 1))), (3, .int (iI y2)), (0, .ref g0), (1, .int (iI rm)), (2, .int (iI w))]) rfl dX12_hasDoor_98 ?_
                  refine g_goto (pc := 101) X 14 (by decide) dX12_hasDoor_101 ?_
                  exact ih (k1 + 1) (by (first | (clear b_w b_nr b_tm b_at_ b_to_ b_fa b_va b_np b_tn b_pc_ b_st_ b_pa_ b_ta b_ow b_of_ b_ot b_rl b_hb b_bs b_se; omega) | omega)) (by (first | (clear b_w b_nr b_tm b_at_ b_to_ b_fa b_va b_np b_tn b_pc_ b_st_ b_pa_ b_ta b_ow b_of_ b_ot b_rl b_hb b_bs b_se; omega) | omega))
                · refine g_iconst (pc := 96) X (iI 1) (by rfl) dX12_hasDoor_96 ?_
                  exact g_zret (pc := 97) X hA (rfl) (⟨1, rfl, rfl, (by (first | (clear b_w b_nr b_tm b_at_ b_to_ b_fa b_va b_np b_tn b_pc_ b_st_ b_pa_ b_ta b_ow b_of_ b_ot b_rl b_hb b_bs b_se; omega) | omega))⟩) (by decide) (by decide) dX12_hasDoor_97
  exact loop14 _ 0 (by (first | (clear b_w b_nr b_tm b_at_ b_to_ b_fa b_va b_np b_tn b_pc_ b_st_ b_pa_ b_ta b_ow b_of_ b_ot b_rl b_hb b_bs b_se; omega) | omega)) (Nat.lt_succ_self _)

set_option maxHeartbeats 4000000 in
set_option maxRecDepth 100000 in
theorem k_X12_shares0 (l : Launch) (Z : gZ) (g0 : Nat) (gA : Nat → Nat) (gG : Nat → Nat → Option Nat) (xA : Nat → Nat) (Mw : Nat → Int) (Mo : Nat → Int) (Ml : Nat → Int) (Mow : Nat → Int) (Mof : Nat → Int) (Mot : Nat → Int) (Md : Nat → Int) (Bp : Nat → Int) (Br : Nat → Int) (Wo : Nat → Int) (Wf : Nat → Int) (Wb : Nat → Int) (Wg : Nat → Int) (rm : Int) (w : Int) (nr : Int) (tm : Int) (at_ : Int) (to_ : Int) (fa : Int) (va : Int) (np : Int) (tn : Int) (pc_ : Int) (st_ : Int) (pa_ : Int) (ta : Int) (ow : Int) (of_ : Int) (ot : Int) (rl : Int) (hb : Int) (bs : Int) (se : Int) (b_rm : 0 ≤ rm ∧ rm ≤ 5) (b_w : 0 ≤ w ∧ w ≤ 8) (b_nr : 0 ≤ nr ∧ nr ≤ 6) (b_tm : 0 ≤ tm ∧ tm ≤ 400) (b_at_ : 0 ≤ at_ ∧ at_ ≤ 400) (b_to_ : 0 ≤ to_ ∧ to_ ≤ 400) (b_fa : (-1) ≤ fa ∧ fa ≤ 400) (b_va : (-2147483648) ≤ va ∧ va ≤ 2147483647) (b_np : 0 ≤ np ∧ np ≤ 4) (b_tn : 0 ≤ tn ∧ tn ≤ 20) (b_pc_ : 0 ≤ pc_ ∧ pc_ ≤ 480) (b_st_ : 0 ≤ st_ ∧ st_ ≤ 240) (b_pa_ : (-1) ≤ pa_ ∧ pa_ ≤ 3) (b_ta : (-2147483648) ≤ ta ∧ ta ≤ 2147483647) (b_ow : (-2147483648) ≤ ow ∧ ow ≤ 2147483647) (b_of_ : (-2147483648) ≤ of_ ∧ of_ ≤ 2147483647) (b_ot : (-2147483648) ≤ ot ∧ ot ≤ 2147483647) (b_rl : 0 ≤ rl ∧ rl ≤ 2880) (b_hb : 0 ≤ hb ∧ hb ≤ 4) (b_bs : (-2147483648) ≤ bs ∧ bs ≤ 2147483647) (b_se : 0 ≤ se ∧ se ≤ 10) (hG : ∀ k, gG k rm.toNat = some (xA k)) (hwn : 1 ≤ Mw rm.toNat ∧ Mw rm.toNat ≤ 8) (hd : Mw rm.toNat - w ≤ 0) (hw : w ≤ Mw rm.toNat) (h_Mw : ∀ j, j < 7 → 0 ≤ Mw j ∧ Mw j ≤ 8) (h_Mo : ∀ j, j < 7 → 0 ≤ Mo j ∧ Mo j ≤ 8) (h_Ml : ∀ j, j < 8 → 0 ≤ Ml j ∧ Ml j ≤ 600) (h_Mow : ∀ j, j < 8 → 0 ≤ Mow j ∧ Mow j ≤ 7) (h_Mof : ∀ j, j < 8 → 0 ≤ Mof j ∧ Mof j ≤ 600) (h_Mot : ∀ j, j < 8 → 0 ≤ Mot j ∧ Mot j ≤ 600) (h_Md : ∀ j, j < 8 → 0 ≤ Md j ∧ Md j ≤ 1) (h_Bp : ∀ j, j < 4 → (-2147483648) ≤ Bp j ∧ Bp j ≤ 2147483647) (h_Br : ∀ j, j < 4 → (-2147483648) ≤ Br j ∧ Br j ≤ 2147483647) (h_Wo : ∀ j, j < 8 → (-2147483648) ≤ Wo j ∧ Wo j ≤ 2147483647) (h_Wf : ∀ j, j < 8 → (-2147483648) ≤ Wf j ∧ Wf j ≤ 2147483647) (h_Wb : ∀ j, j < 8 → (-2147483648) ≤ Wb j ∧ Wb j ≤ 2147483647) (h_Wg : ∀ j, j < 4 → (-2147483648) ≤ Wg j ∧ Wg j ≤ 2147483647) : Con l Z yX12_shares cX12_shares 5 none 1 24 0 0 [.ref g0, .int (iI rm), .int (iI w)] [(g0, .inr (12, mO gA nr tm at_ to_ fa va np tn pc_ st_ pa_ ta ow of_ ot rl hb bs se)), cA Z (gA 13) 0 7 Mw, cA Z (gA 14) 0 7 Mo, cR Z (gA 0) 6 7 (gG 0), cR Z (gA 4) 6 7 (gG 4), cR Z (gA 5) 6 7 (gG 5), cR Z (gA 6) 6 7 (gG 6), cR Z (gA 9) 6 7 (gG 9), cA Z (xA 0) 0 8 Ml, cA Z (xA 4) 0 8 Mow, cA Z (xA 5) 0 8 Mof, cA Z (xA 6) 0 8 Mot, cA Z (xA 9) 0 8 Md, cA Z (gA 58) 0 4 Bp, cA Z (gA 59) 0 4 Br, cA Z (gA 60) 0 8 Wo, cA Z (gA 61) 0 8 Wf, cA Z (gA 62) 0 8 Wb, cA Z (gA 63) 0 4 Wg] (fun r w' => ∃ (Wf2 : Nat → Int) (Wb2 : Nat → Int) (Wg2 : Nat → Int) (bs2 : Int), (r = none) ∧ (w' = [(g0, .inr (12, mO gA nr tm at_ to_ fa va np tn pc_ st_ pa_ ta ow of_ ot rl hb bs2 se)), cA Z (gA 13) 0 7 Mw, cA Z (gA 14) 0 7 Mo, cR Z (gA 0) 6 7 (gG 0), cR Z (gA 4) 6 7 (gG 4), cR Z (gA 5) 6 7 (gG 5), cR Z (gA 6) 6 7 (gG 6), cR Z (gA 9) 6 7 (gG 9), cA Z (xA 0) 0 8 Ml, cA Z (xA 4) 0 8 Mow, cA Z (xA 5) 0 8 Mof, cA Z (xA 6) 0 8 Mot, cA Z (xA 9) 0 8 Md, cA Z (gA 58) 0 4 Bp, cA Z (gA 59) 0 4 Br, cA Z (gA 60) 0 8 Wo, cA Z (gA 61) 0 8 Wf2, cA Z (gA 62) 0 8 Wb2, cA Z (gA 63) 0 4 Wg2]) ∧ ((-2147483648) ≤ bs2 ∧ bs2 ≤ 2147483647) ∧ (∀ j, j < 8 → (-2147483648) ≤ Wf2 j ∧ Wf2 j ≤ 2147483647) ∧ (∀ j, j < 8 → (-2147483648) ≤ Wb2 j ∧ Wb2 j ≤ 2147483647) ∧ (∀ j, j < 4 → (-2147483648) ≤ Wg2 j ∧ Wg2 j ≤ 2147483647)) := by
  refine enter (by decide) (Nat.le_of_ble_eq_true rfl) ?_
  intro p e s m args below meth c A X hnm hA
  have X : Cx p s m args meth c cX12_shares 5 none RX12 Z A := X
  refine g_as (pc' := 0) (lv' := [(0, .ref g0), (1, .int (iI rm)), (2, .int (iI w))]) (st' := []) (ws' := [(g0, .inr (12, mO gA nr tm at_ to_ fa va np tn pc_ st_ pa_ ta ow of_ ot rl hb bs se)), cA Z (gA 13) 0 7 Mw, cA Z (gA 14) 0 7 Mo, cR Z (gA 0) 6 7 (gG 0), cR Z (gA 4) 6 7 (gG 4), cR Z (gA 5) 6 7 (gG 5), cR Z (gA 6) 6 7 (gG 6), cR Z (gA 9) 6 7 (gG 9), cA Z (xA 0) 0 8 Ml, cA Z (xA 4) 0 8 Mow, cA Z (xA 5) 0 8 Mof, cA Z (xA 6) 0 8 Mot, cA Z (xA 9) 0 8 Md, cA Z (gA 58) 0 4 Bp, cA Z (gA 59) 0 4 Br, cA Z (gA 60) 0 8 Wo, cA Z (gA 61) 0 8 Wf, cA Z (gA 62) 0 8 Wb, cA Z (gA 63) 0 4 Wg]) rfl rfl rfl rfl ?_
  refine g_iload_n (pc := 0) X 2 rfl dX12_shares_0 ?_
  refine g_aload_n (pc := 1) X 0 rfl dX12_shares_1 ?_
  refine g_get (pc := 2) X inlX12 0 rfl rfl 13 (by decide) mw_8_1 rfl dX12_shares_2 ?_
  refine g_iload_n (pc := 5) X 1 rfl dX12_shares_5 ?_
  refine g_ialdI (pc := 6) X 1 rfl (b_rm.1) (Int.lt_of_le_of_lt b_rm.2 (by decide)) (Int.le_trans b_rm.2 (by decide)) dX12_shares_6 ?_
  refine g_nameI (fun y1 ey1 => ?_)
  have by1 : 0 ≤ y1 ∧ y1 ≤ 8 := by rw [ey1]; exact h_Mw _ (by (first | (clear b_nr b_tm b_at_ b_to_ b_fa b_va b_np b_tn b_pc_ b_st_ b_pa_ b_ta b_ow b_of_ b_ot b_rl b_hb b_bs b_se; omega) | omega))
  have ty1 : 1 ≤ y1 ∧ y1 ≤ 8 := by rw [ey1]; exact hwn
  refine g_icmp_neI (pc := 7) X 143 (by decide) (inRb b_w (by decide) (by decide)) (inRb by1 (by decide) (by decide)) dX12_shares_7 (fun h => absurd h (by (first | (clear b_nr b_tm b_at_ b_to_ b_fa b_va b_np b_tn b_pc_ b_st_ b_pa_ b_ta b_ow b_of_ b_ot b_rl b_hb b_bs b_se; omega) | omega))) (fun c7 => ?_)
  refine g_iconst (pc := 10) X (iI 0) (by rfl) dX12_shares_10 ?_
  refine g_istore_n (pc := 11) X (i := 3) rfl (by decide) (lv' := [(3, .int (iI 0)), (0, .ref g0), (1, .int (iI rm)), (2, .int (iI w))]) rfl dX12_shares_11 ?_
  refine g_iconst (pc := 12) X (iI 0) (by rfl) dX12_shares_12 ?_
  refine g_istore (pc := 13) X (by decide) (lv' := [(4, .int (iI 0)), (3, .int (iI 0)), (0, .ref g0), (1, .int (iI rm)), (2, .int (iI w))]) rfl dX12_shares_13 ?_
  have loop15 : ∀ (fuel : Nat) (n1 : Int) (k1 : Int), ((-2147483648) ≤ n1 ∧ n1 ≤ 2147483647) → (0 ≤ k1 ∧ k1 ≤ 8) → (9 - k1).toNat < fuel → Gs p l e ({ frames := 1, cells := 0, slots := 0, locals := 24 } : Room) s m args below meth c (MQ below (gPost Z [(g0, .inr (12, mO gA nr tm at_ to_ fa va np tn pc_ st_ pa_ ta ow of_ ot rl hb bs se)), cA Z (gA 13) 0 7 Mw, cA Z (gA 14) 0 7 Mo, cR Z (gA 0) 6 7 (gG 0), cR Z (gA 4) 6 7 (gG 4), cR Z (gA 5) 6 7 (gG 5), cR Z (gA 6) 6 7 (gG 6), cR Z (gA 9) 6 7 (gG 9), cA Z (xA 0) 0 8 Ml, cA Z (xA 4) 0 8 Mow, cA Z (xA 5) 0 8 Mof, cA Z (xA 6) 0 8 Mot, cA Z (xA 9) 0 8 Md, cA Z (gA 58) 0 4 Bp, cA Z (gA 59) 0 4 Br, cA Z (gA 60) 0 8 Wo, cA Z (gA 61) 0 8 Wf, cA Z (gA 62) 0 8 Wb, cA Z (gA 63) 0 4 Wg] s.heap.size (fun r w' => ∃ (Wf2 : Nat → Int) (Wb2 : Nat → Int) (Wg2 : Nat → Int) (bs2 : Int), (r = none) ∧ (w' = [(g0, .inr (12, mO gA nr tm at_ to_ fa va np tn pc_ st_ pa_ ta ow of_ ot rl hb bs2 se)), cA Z (gA 13) 0 7 Mw, cA Z (gA 14) 0 7 Mo, cR Z (gA 0) 6 7 (gG 0), cR Z (gA 4) 6 7 (gG 4), cR Z (gA 5) 6 7 (gG 5), cR Z (gA 6) 6 7 (gG 6), cR Z (gA 9) 6 7 (gG 9), cA Z (xA 0) 0 8 Ml, cA Z (xA 4) 0 8 Mow, cA Z (xA 5) 0 8 Mof, cA Z (xA 6) 0 8 Mot, cA Z (xA 9) 0 8 Md, cA Z (gA 58) 0 4 Bp, cA Z (gA 59) 0 4 Br, cA Z (gA 60) 0 8 Wo, cA Z (gA 61) 0 8 Wf2, cA Z (gA 62) 0 8 Wb2, cA Z (gA 63) 0 4 Wg2]) ∧ ((-2147483648) ≤ bs2 ∧ bs2 ≤ 2147483647) ∧ (∀ j, j < 8 → (-2147483648) ≤ Wf2 j ∧ Wf2 j ≤ 2147483647) ∧ (∀ j, j < 8 → (-2147483648) ≤ Wb2 j ∧ Wb2 j ≤ 2147483647) ∧ (∀ j, j < 4 → (-2147483648) ≤ Wg2 j ∧ Wg2 j ≤ 2147483647))) args s 0 0 (va_A [(g0, .inr (12, mO gA nr tm at_ to_ fa va np tn pc_ st_ pa_ ta ow of_ ot rl hb bs se)), cA Z (gA 13) 0 7 Mw, cA Z (gA 14) 0 7 Mo, cR Z (gA 0) 6 7 (gG 0), cR Z (gA 4) 6 7 (gG 4), cR Z (gA 5) 6 7 (gG 5), cR Z (gA 6) 6 7 (gG 6), cR Z (gA 9) 6 7 (gG 9), cA Z (xA 0) 0 8 Ml, cA Z (xA 4) 0 8 Mow, cA Z (xA 5) 0 8 Mof, cA Z (xA 6) 0 8 Mot, cA Z (xA 9) 0 8 Md, cA Z (gA 58) 0 4 Bp, cA Z (gA 59) 0 4 Br, cA Z (gA 60) 0 8 Wo, cA Z (gA 61) 0 8 Wf, cA Z (gA 62) 0 8 Wb, cA Z (gA 63) 0 4 Wg] s.heap.size)) Z A 5 0 0 15 [(4, .int (iI k1)), (3, .int (iI n1)), (0, .ref g0), (1, .int (iI rm)), (2, .int (iI w))] [] [(g0, .inr (12, mO gA nr tm at_ to_ fa va np tn pc_ st_ pa_ ta ow of_ ot rl hb bs se)), cA Z (gA 13) 0 7 Mw, cA Z (gA 14) 0 7 Mo, cR Z (gA 0) 6 7 (gG 0), cR Z (gA 4) 6 7 (gG 4), cR Z (gA 5) 6 7 (gG 5), cR Z (gA 6) 6 7 (gG 6), cR Z (gA 9) 6 7 (gG 9), cA Z (xA 0) 0 8 Ml, cA Z (xA 4) 0 8 Mow, cA Z (xA 5) 0 8 Mof, cA Z (xA 6) 0 8 Mot, cA Z (xA 9) 0 8 Md, cA Z (gA 58) 0 4 Bp, cA Z (gA 59) 0 4 Br, cA Z (gA 60) 0 8 Wo, cA Z (gA 61) 0 8 Wf, cA Z (gA 62) 0 8 Wb, cA Z (gA 63) 0 4 Wg] := by
    intro fuel
    induction fuel with
    | zero => intro n1 k1 _ _ hm; exact absurd hm (Nat.not_lt_zero _)
    | succ fuel ih =>
      intro n1 k1 b_n1 b_k1 hm
      refine g_iload (pc := 15) X 0 rfl dX12_shares_15 ?_
      refine g_aload_n (pc := 17) X 2 rfl dX12_shares_17 ?_
      refine g_get (pc := 18) X inlX12 0 rfl rfl 13 (by decide) mw_8_1 rfl dX12_shares_18 ?_
      refine g_iload_n (pc := 21) X 3 rfl dX12_shares_21 ?_
      refine g_ialdI (pc := 22) X 1 rfl (b_rm.1) (Int.lt_of_le_of_lt b_rm.2 (by decide)) (Int.le_trans b_rm.2 (by decide)) dX12_shares_22 ?_
      refine g_nameI (fun y2 ey2 => ?_)
      have by2 : 0 ≤ y2 ∧ y2 ≤ 8 := by rw [ey2]; exact h_Mw _ (by (first | (clear b_nr b_tm b_at_ b_to_ b_fa b_va b_np b_tn b_pc_ b_st_ b_pa_ b_ta b_ow b_of_ b_ot b_rl b_hb b_bs b_se; omega) | omega))
      have ty2 : 1 ≤ y2 ∧ y2 ≤ 8 := by rw [ey2]; exact hwn
      refine g_icmp_geI (pc := 23) X 86 (by decide) (inRb b_k1 (by decide) (by decide)) (inRb by2 (by decide) (by decide)) dX12_shares_23 (fun c23 => ?_) (fun c23 => ?_)
      · refine g_aload_n (pc := 86) X 2 rfl dX12_shares_86 ?_
        refine g_get (pc := 87) X inlX12 0 rfl rfl 65 (by decide) mw_49_21 rfl dX12_shares_87 ?_
        refine g_iconst (pc := 90) X (iI (-1)) (by rfl) dX12_shares_90 ?_
        refine g_icmp_eqI (pc := 91) X 103 (by decide) b_bs ⟨by decide, by decide⟩ dX12_shares_91 (fun c91 => ?_) (fun c91 => ?_)
        · refine g_aload_n (pc := 103) X 2 rfl dX12_shares_103 ?_
          refine g_iload_n (pc := 104) X 1 rfl dX12_shares_104 ?_
          refine g_put (pc := 105) X inlX12 tyX12_ok nmX12 0 rfl rfl 65 (by decide) mw_49_21 rfl rfl rfl (Nat.le_of_ble_eq_true rfl) (ws' := [(g0, .inr (12, mO gA nr tm at_ to_ fa va np tn pc_ st_ pa_ ta ow of_ ot rl hb n1 se)), cA Z (gA 13) 0 7 Mw, cA Z (gA 14) 0 7 Mo, cR Z (gA 0) 6 7 (gG 0), cR Z (gA 4) 6 7 (gG 4), cR Z (gA 5) 6 7 (gG 5), cR Z (gA 6) 6 7 (gG 6), cR Z (gA 9) 6 7 (gG 9), cA Z (xA 0) 0 8 Ml, cA Z (xA 4) 0 8 Mow, cA Z (xA 5) 0 8 Mof, cA Z (xA 6) 0 8 Mot, cA Z (xA 9) 0 8 Md, cA Z (gA 58) 0 4 Bp, cA Z (gA 59) 0 4 Br, cA Z (gA 60) 0 8 Wo, cA Z (gA 61) 0 8 Wf, cA Z (gA 62) 0 8 Wb, cA Z (gA 63) 0 4 Wg]) rfl dX12_shares_105 ?_
          refine g_iconst (pc := 108) X (iI 0) (by rfl) dX12_shares_108 ?_
          refine g_istore (pc := 109) X (by decide) (lv' := [(4, .int (iI 0)), (3, .int (iI n1)), (0, .ref g0), (1, .int (iI rm)), (2, .int (iI w))]) rfl dX12_shares_109 ?_
          have loop111 : ∀ (fuel : Nat) (k2 : Int) (Wb1 : Nat → Int), (0 ≤ k2 ∧ k2 ≤ 8) → (∀ j, j < 8 → (-2147483648) ≤ Wb1 j ∧ Wb1 j ≤ 2147483647) → (9 - k2).toNat < fuel → Gs p l e ({ frames := 1, cells := 0, slots := 0, locals := 24 } : Room) s m args below meth c (MQ below (gPost Z [(g0, .inr (12, mO gA nr tm at_ to_ fa va np tn pc_ st_ pa_ ta ow of_ ot rl hb bs se)), cA Z (gA 13) 0 7 Mw, cA Z (gA 14) 0 7 Mo, cR Z (gA 0) 6 7 (gG 0), cR Z (gA 4) 6 7 (gG 4), cR Z (gA 5) 6 7 (gG 5), cR Z (gA 6) 6 7 (gG 6), cR Z (gA 9) 6 7 (gG 9), cA Z (xA 0) 0 8 Ml, cA Z (xA 4) 0 8 Mow, cA Z (xA 5) 0 8 Mof, cA Z (xA 6) 0 8 Mot, cA Z (xA 9) 0 8 Md, cA Z (gA 58) 0 4 Bp, cA Z (gA 59) 0 4 Br, cA Z (gA 60) 0 8 Wo, cA Z (gA 61) 0 8 Wf, cA Z (gA 62) 0 8 Wb, cA Z (gA 63) 0 4 Wg] s.heap.size (fun r w' => ∃ (Wf2 : Nat → Int) (Wb2 : Nat → Int) (Wg2 : Nat → Int) (bs2 : Int), (r = none) ∧ (w' = [(g0, .inr (12, mO gA nr tm at_ to_ fa va np tn pc_ st_ pa_ ta ow of_ ot rl hb bs2 se)), cA Z (gA 13) 0 7 Mw, cA Z (gA 14) 0 7 Mo, cR Z (gA 0) 6 7 (gG 0), cR Z (gA 4) 6 7 (gG 4), cR Z (gA 5) 6 7 (gG 5), cR Z (gA 6) 6 7 (gG 6), cR Z (gA 9) 6 7 (gG 9), cA Z (xA 0) 0 8 Ml, cA Z (xA 4) 0 8 Mow, cA Z (xA 5) 0 8 Mof, cA Z (xA 6) 0 8 Mot, cA Z (xA 9) 0 8 Md, cA Z (gA 58) 0 4 Bp, cA Z (gA 59) 0 4 Br, cA Z (gA 60) 0 8 Wo, cA Z (gA 61) 0 8 Wf2, cA Z (gA 62) 0 8 Wb2, cA Z (gA 63) 0 4 Wg2]) ∧ ((-2147483648) ≤ bs2 ∧ bs2 ≤ 2147483647) ∧ (∀ j, j < 8 → (-2147483648) ≤ Wf2 j ∧ Wf2 j ≤ 2147483647) ∧ (∀ j, j < 8 → (-2147483648) ≤ Wb2 j ∧ Wb2 j ≤ 2147483647) ∧ (∀ j, j < 4 → (-2147483648) ≤ Wg2 j ∧ Wg2 j ≤ 2147483647))) args s 0 0 (va_A [(g0, .inr (12, mO gA nr tm at_ to_ fa va np tn pc_ st_ pa_ ta ow of_ ot rl hb bs se)), cA Z (gA 13) 0 7 Mw, cA Z (gA 14) 0 7 Mo, cR Z (gA 0) 6 7 (gG 0), cR Z (gA 4) 6 7 (gG 4), cR Z (gA 5) 6 7 (gG 5), cR Z (gA 6) 6 7 (gG 6), cR Z (gA 9) 6 7 (gG 9), cA Z (xA 0) 0 8 Ml, cA Z (xA 4) 0 8 Mow, cA Z (xA 5) 0 8 Mof, cA Z (xA 6) 0 8 Mot, cA Z (xA 9) 0 8 Md, cA Z (gA 58) 0 4 Bp, cA Z (gA 59) 0 4 Br, cA Z (gA 60) 0 8 Wo, cA Z (gA 61) 0 8 Wf, cA Z (gA 62) 0 8 Wb, cA Z (gA 63) 0 4 Wg] s.heap.size)) Z A 5 0 0 111 [(4, .int (iI k2)), (3, .int (iI n1)), (0, .ref g0), (1, .int (iI rm)), (2, .int (iI w))] [] [(g0, .inr (12, mO gA nr tm at_ to_ fa va np tn pc_ st_ pa_ ta ow of_ ot rl hb n1 se)), cA Z (gA 13) 0 7 Mw, cA Z (gA 14) 0 7 Mo, cR Z (gA 0) 6 7 (gG 0), cR Z (gA 4) 6 7 (gG 4), cR Z (gA 5) 6 7 (gG 5), cR Z (gA 6) 6 7 (gG 6), cR Z (gA 9) 6 7 (gG 9), cA Z (xA 0) 0 8 Ml, cA Z (xA 4) 0 8 Mow, cA Z (xA 5) 0 8 Mof, cA Z (xA 6) 0 8 Mot, cA Z (xA 9) 0 8 Md, cA Z (gA 58) 0 4 Bp, cA Z (gA 59) 0 4 Br, cA Z (gA 60) 0 8 Wo, cA Z (gA 61) 0 8 Wf, cA Z (gA 62) 0 8 Wb1, cA Z (gA 63) 0 4 Wg] := by
            intro fuel
            induction fuel with
            | zero => intro k2 Wb1 _ _ hm; exact absurd hm (Nat.not_lt_zero _)
            | succ fuel ih =>
              intro k2 Wb1 b_k2 h_Wb1 hm
              refine g_iload (pc := 111) X 0 rfl dX12_shares_111 ?_
              refine g_aload_n (pc := 113) X 2 rfl dX12_shares_113 ?_
              refine g_get (pc := 114) X inlX12 0 rfl rfl 13 (by decide) mw_8_1 rfl dX12_shares_114 ?_
              refine g_iload_n (pc := 117) X 3 rfl dX12_shares_117 ?_
              refine g_ialdI (pc := 118) X 1 rfl (b_rm.1) (Int.lt_of_le_of_lt b_rm.2 (by decide)) (Int.le_trans b_rm.2 (by decide)) dX12_shares_118 ?_
              refine g_nameI (fun y3 ey3 => ?_)
              have by3 : 0 ≤ y3 ∧ y3 ≤ 8 := by rw [ey3]; exact h_Mw _ (by (first | (clear b_nr b_tm b_at_ b_to_ b_fa b_va b_np b_tn b_pc_ b_st_ b_pa_ b_ta b_ow b_of_ b_ot b_rl b_hb b_bs b_se; omega) | omega))
              have ty3 : 1 ≤ y3 ∧ y3 ≤ 8 := by rw [ey3]; exact hwn
              refine g_icmp_geI (pc := 119) X 142 (by decide) (inRb b_k2 (by decide) (by decide)) (inRb by3 (by decide) (by decide)) dX12_shares_119 (fun c119 => ?_) (fun c119 => ?_)
              · exact g_vret (pc := 142) X hA (⟨Wf, Wb1, Wg, n1, rfl, rfl, (b_n1), (h_Wf), (h_Wb1), (h_Wg)⟩) (by decide) (by decide) dX12_shares_142
              · refine g_aload_n (pc := 122) X 2 rfl dX12_shares_122 ?_
                refine g_get (pc := 123) X inlX12 0 rfl rfl 62 (by decide) mw_9_13 rfl dX12_shares_123 ?_
                refine g_iload (pc := 126) X 0 rfl dX12_shares_126 ?_
                refine g_aload_n (pc := 128) X 2 rfl dX12_shares_128 ?_
                refine g_get (pc := 129) X inlX12 0 rfl rfl 61 (by decide) mw_9_12 rfl dX12_shares_129 ?_
                refine g_iload (pc := 132) X 0 rfl dX12_shares_132 ?_
                refine g_ialdI (pc := 134) X 16 rfl (b_k2.1) (by (first | (clear b_nr b_tm b_at_ b_to_ b_fa b_va b_np b_tn b_pc_ b_st_ b_pa_ b_ta b_ow b_of_ b_ot b_rl b_hb b_bs b_se; omega) | omega)) (Int.le_trans b_k2.2 (by decide)) dX12_shares_134 ?_
                refine g_nameI (fun y4 ey4 => ?_)
                have by4 : (-2147483648) ≤ y4 ∧ y4 ≤ 2147483647 := by rw [ey4]; exact h_Wf _ (by (first | (clear b_nr b_tm b_at_ b_to_ b_fa b_va b_np b_tn b_pc_ b_st_ b_pa_ b_ta b_ow b_of_ b_ot b_rl b_hb b_bs b_se; omega) | omega))
                refine g_iastG (pc := 135) X 17 rfl (b_k2.1) (by (first | (clear b_nr b_tm b_at_ b_to_ b_fa b_va b_np b_tn b_pc_ b_st_ b_pa_ b_ta b_ow b_of_ b_ot b_rl b_hb b_bs b_se; omega) | omega)) (Int.le_trans b_k2.2 (by decide)) (ws' := fun F5 => [(g0, .inr (12, mO gA nr tm at_ to_ fa va np tn pc_ st_ pa_ ta ow of_ ot rl hb n1 se)), cA Z (gA 13) 0 7 Mw, cA Z (gA 14) 0 7 Mo, cR Z (gA 0) 6 7 (gG 0), cR Z (gA 4) 6 7 (gG 4), cR Z (gA 5) 6 7 (gG 5), cR Z (gA 6) 6 7 (gG 6), cR Z (gA 9) 6 7 (gG 9), cA Z (xA 0) 0 8 Ml, cA Z (xA 4) 0 8 Mow, cA Z (xA 5) 0 8 Mof, cA Z (xA 6) 0 8 Mot, cA Z (xA 9) 0 8 Md, cA Z (gA 58) 0 4 Bp, cA Z (gA 59) 0 4 Br, cA Z (gA 60) 0 8 Wo, cA Z (gA 61) 0 8 Wf, cA Z (gA 62) 0 8 F5, cA Z (gA 63) 0 4 Wg]) (fun _ => rfl) dX12_shares_135 (fun F5 eF5 => ?_)
                have hF5 : ∀ j, j < 8 → (-2147483648) ≤ F5 j ∧ F5 j ≤ 2147483647 := by rw [eF5]; exact updI_B h_Wb1 (by (first | (clear b_nr b_tm b_at_ b_to_ b_fa b_va b_np b_tn b_pc_ b_st_ b_pa_ b_ta b_ow b_of_ b_ot b_rl b_hb b_bs b_se; omega) | omega))
                refine g_iincI (pc := 136) X 0 rfl (by decide) (lv' := [(4, .int (iI (k2 + 1))), (3, .int (iI n1)), (0, .ref g0), (1, .int (iI rm)), (2, .int (iI w))]) rfl dX12_shares_136 ?_
                refine g_goto (pc := 139) X 111 (by decide) dX12_shares_139 ?_
                exact ih (k2 + 1) F5 (by (first | (clear b_nr b_tm b_at_ b_to_ b_fa b_va b_np b_tn b_pc_ b_st_ b_pa_ b_ta b_ow b_of_ b_ot b_rl b_hb b_bs b_se; omega) | omega)) (hF5) (by (first | (clear b_nr b_tm b_at_ b_to_ b_fa b_va b_np b_tn b_pc_ b_st_ b_pa_ b_ta b_ow b_of_ b_ot b_rl b_hb b_bs b_se; omega) | omega))
          exact loop111 _ 0 Wb (by (first | (clear b_nr b_tm b_at_ b_to_ b_fa b_va b_np b_tn b_pc_ b_st_ b_pa_ b_ta b_ow b_of_ b_ot b_rl b_hb b_bs b_se; omega) | omega)) (h_Wb) (Nat.lt_succ_self _)
        · refine g_iload_n (pc := 94) X 1 rfl dX12_shares_94 ?_
          refine g_aload_n (pc := 95) X 2 rfl dX12_shares_95 ?_
          refine g_get (pc := 96) X inlX12 0 rfl rfl 65 (by decide) mw_49_21 rfl dX12_shares_96 ?_
          refine g_icmp_ltI (pc := 99) X 103 (by decide) b_n1 b_bs dX12_shares_99 (fun c99 => ?_) (fun c99 => ?_)
          · refine g_aload_n (pc := 103) X 2 rfl dX12_shares_103 ?_
            refine g_iload_n (pc := 104) X 1 rfl dX12_shares_104 ?_
            refine g_put (pc := 105) X inlX12 tyX12_ok nmX12 0 rfl rfl 65 (by decide) mw_49_21 rfl rfl rfl (Nat.le_of_ble_eq_true rfl) (ws' := [(g0, .inr (12, mO gA nr tm at_ to_ fa va np tn pc_ st_ pa_ ta ow of_ ot rl hb n1 se)), cA Z (gA 13) 0 7 Mw, cA Z (gA 14) 0 7 Mo, cR Z (gA 0) 6 7 (gG 0), cR Z (gA 4) 6 7 (gG 4), cR Z (gA 5) 6 7 (gG 5), cR Z (gA 6) 6 7 (gG 6), cR Z (gA 9) 6 7 (gG 9), cA Z (xA 0) 0 8 Ml, cA Z (xA 4) 0 8 Mow, cA Z (xA 5) 0 8 Mof, cA Z (xA 6) 0 8 Mot, cA Z (xA 9) 0 8 Md, cA Z (gA 58) 0 4 Bp, cA Z (gA 59) 0 4 Br, cA Z (gA 60) 0 8 Wo, cA Z (gA 61) 0 8 Wf, cA Z (gA 62) 0 8 Wb, cA Z (gA 63) 0 4 Wg]) rfl dX12_shares_105 ?_
            refine g_iconst (pc := 108) X (iI 0) (by rfl) dX12_shares_108 ?_
            refine g_istore (pc := 109) X (by decide) (lv' := [(4, .int (iI 0)), (3, .int (iI n1)), (0, .ref g0), (1, .int (iI rm)), (2, .int (iI w))]) rfl dX12_shares_109 ?_
            have loop111 : ∀ (fuel : Nat) (k2 : Int) (Wb1 : Nat → Int), (0 ≤ k2 ∧ k2 ≤ 8) → (∀ j, j < 8 → (-2147483648) ≤ Wb1 j ∧ Wb1 j ≤ 2147483647) → (9 - k2).toNat < fuel → Gs p l e ({ frames := 1, cells := 0, slots := 0, locals := 24 } : Room) s m args below meth c (MQ below (gPost Z [(g0, .inr (12, mO gA nr tm at_ to_ fa va np tn pc_ st_ pa_ ta ow of_ ot rl hb bs se)), cA Z (gA 13) 0 7 Mw, cA Z (gA 14) 0 7 Mo, cR Z (gA 0) 6 7 (gG 0), cR Z (gA 4) 6 7 (gG 4), cR Z (gA 5) 6 7 (gG 5), cR Z (gA 6) 6 7 (gG 6), cR Z (gA 9) 6 7 (gG 9), cA Z (xA 0) 0 8 Ml, cA Z (xA 4) 0 8 Mow, cA Z (xA 5) 0 8 Mof, cA Z (xA 6) 0 8 Mot, cA Z (xA 9) 0 8 Md, cA Z (gA 58) 0 4 Bp, cA Z (gA 59) 0 4 Br, cA Z (gA 60) 0 8 Wo, cA Z (gA 61) 0 8 Wf, cA Z (gA 62) 0 8 Wb, cA Z (gA 63) 0 4 Wg] s.heap.size (fun r w' => ∃ (Wf2 : Nat → Int) (Wb2 : Nat → Int) (Wg2 : Nat → Int) (bs2 : Int), (r = none) ∧ (w' = [(g0, .inr (12, mO gA nr tm at_ to_ fa va np tn pc_ st_ pa_ ta ow of_ ot rl hb bs2 se)), cA Z (gA 13) 0 7 Mw, cA Z (gA 14) 0 7 Mo, cR Z (gA 0) 6 7 (gG 0), cR Z (gA 4) 6 7 (gG 4), cR Z (gA 5) 6 7 (gG 5), cR Z (gA 6) 6 7 (gG 6), cR Z (gA 9) 6 7 (gG 9), cA Z (xA 0) 0 8 Ml, cA Z (xA 4) 0 8 Mow, cA Z (xA 5) 0 8 Mof, cA Z (xA 6) 0 8 Mot, cA Z (xA 9) 0 8 Md, cA Z (gA 58) 0 4 Bp, cA Z (gA 59) 0 4 Br, cA Z (gA 60) 0 8 Wo, cA Z (gA 61) 0 8 Wf2, cA Z (gA 62) 0 8 Wb2, cA Z (gA 63) 0 4 Wg2]) ∧ ((-2147483648) ≤ bs2 ∧ bs2 ≤ 2147483647) ∧ (∀ j, j < 8 → (-2147483648) ≤ Wf2 j ∧ Wf2 j ≤ 2147483647) ∧ (∀ j, j < 8 → (-2147483648) ≤ Wb2 j ∧ Wb2 j ≤ 2147483647) ∧ (∀ j, j < 4 → (-2147483648) ≤ Wg2 j ∧ Wg2 j ≤ 2147483647))) args s 0 0 (va_A [(g0, .inr (12, mO gA nr tm at_ to_ fa va np tn pc_ st_ pa_ ta ow of_ ot rl hb bs se)), cA Z (gA 13) 0 7 Mw, cA Z (gA 14) 0 7 Mo, cR Z (gA 0) 6 7 (gG 0), cR Z (gA 4) 6 7 (gG 4), cR Z (gA 5) 6 7 (gG 5), cR Z (gA 6) 6 7 (gG 6), cR Z (gA 9) 6 7 (gG 9), cA Z (xA 0) 0 8 Ml, cA Z (xA 4) 0 8 Mow, cA Z (xA 5) 0 8 Mof, cA Z (xA 6) 0 8 Mot, cA Z (xA 9) 0 8 Md, cA Z (gA 58) 0 4 Bp, cA Z (gA 59) 0 4 Br, cA Z (gA 60) 0 8 Wo, cA Z (gA 61) 0 8 Wf, cA Z (gA 62) 0 8 Wb, cA Z (gA 63) 0 4 Wg] s.heap.size)) Z A 5 0 0 111 [(4, .int (iI k2)), (3, .int (iI n1)), (0, .ref g0), (1, .int (iI rm)), (2, .int (iI w))] [] [(g0, .inr (12, mO gA nr tm at_ to_ fa va np tn pc_ st_ pa_ ta ow of_ ot rl hb n1 se)), cA Z (gA 13) 0 7 Mw, cA Z (gA 14) 0 7 Mo, cR Z (gA 0) 6 7 (gG 0), cR Z (gA 4) 6 7 (gG 4), cR Z (gA 5) 6 7 (gG 5), cR Z (gA 6) 6 7 (gG 6), cR Z (gA 9) 6 7 (gG 9), cA Z (xA 0) 0 8 Ml, cA Z (xA 4) 0 8 Mow, cA Z (xA 5) 0 8 Mof, cA Z (xA 6) 0 8 Mot, cA Z (xA 9) 0 8 Md, cA Z (gA 58) 0 4 Bp, cA Z (gA 59) 0 4 Br, cA Z (gA 60) 0 8 Wo, cA Z (gA 61) 0 8 Wf, cA Z (gA 62) 0 8 Wb1, cA Z (gA 63) 0 4 Wg] := by
              intro fuel
              induction fuel with
              | zero => intro k2 Wb1 _ _ hm; exact absurd hm (Nat.not_lt_zero _)
              | succ fuel ih =>
                intro k2 Wb1 b_k2 h_Wb1 hm
                refine g_iload (pc := 111) X 0 rfl dX12_shares_111 ?_
                refine g_aload_n (pc := 113) X 2 rfl dX12_shares_113 ?_
                refine g_get (pc := 114) X inlX12 0 rfl rfl 13 (by decide) mw_8_1 rfl dX12_shares_114 ?_
                refine g_iload_n (pc := 117) X 3 rfl dX12_shares_117 ?_
                refine g_ialdI (pc := 118) X 1 rfl (b_rm.1) (Int.lt_of_le_of_lt b_rm.2 (by decide)) (Int.le_trans b_rm.2 (by decide)) dX12_shares_118 ?_
                refine g_nameI (fun y6 ey6 => ?_)
                have by6 : 0 ≤ y6 ∧ y6 ≤ 8 := by rw [ey6]; exact h_Mw _ (by (first | (clear b_nr b_tm b_at_ b_to_ b_fa b_va b_np b_tn b_pc_ b_st_ b_pa_ b_ta b_ow b_of_ b_ot b_rl b_hb b_bs b_se; omega) | omega))
                have ty6 : 1 ≤ y6 ∧ y6 ≤ 8 := by rw [ey6]; exact hwn
                refine g_icmp_geI (pc := 119) X 142 (by decide) (inRb b_k2 (by decide) (by decide)) (inRb by6 (by decide) (by decide)) dX12_shares_119 (fun c119 => ?_) (fun c119 => ?_)
                · exact g_vret (pc := 142) X hA (⟨Wf, Wb1, Wg, n1, rfl, rfl, (b_n1), (h_Wf), (h_Wb1), (h_Wg)⟩) (by decide) (by decide) dX12_shares_142
                · refine g_aload_n (pc := 122) X 2 rfl dX12_shares_122 ?_
                  refine g_get (pc := 123) X inlX12 0 rfl rfl 62 (by decide) mw_9_13 rfl dX12_shares_123 ?_
                  refine g_iload (pc := 126) X 0 rfl dX12_shares_126 ?_
                  refine g_aload_n (pc := 128) X 2 rfl dX12_shares_128 ?_
                  refine g_get (pc := 129) X inlX12 0 rfl rfl 61 (by decide) mw_9_12 rfl dX12_shares_129 ?_
                  refine g_iload (pc := 132) X 0 rfl dX12_shares_132 ?_
                  refine g_ialdI (pc := 134) X 16 rfl (b_k2.1) (by (first | (clear b_nr b_tm b_at_ b_to_ b_fa b_va b_np b_tn b_pc_ b_st_ b_pa_ b_ta b_ow b_of_ b_ot b_rl b_hb b_bs b_se; omega) | omega)) (Int.le_trans b_k2.2 (by decide)) dX12_shares_134 ?_
                  refine g_nameI (fun y7 ey7 => ?_)
                  have by7 : (-2147483648) ≤ y7 ∧ y7 ≤ 2147483647 := by rw [ey7]; exact h_Wf _ (by (first | (clear b_nr b_tm b_at_ b_to_ b_fa b_va b_np b_tn b_pc_ b_st_ b_pa_ b_ta b_ow b_of_ b_ot b_rl b_hb b_bs b_se; omega) | omega))
                  refine g_iastG (pc := 135) X 17 rfl (b_k2.1) (by (first | (clear b_nr b_tm b_at_ b_to_ b_fa b_va b_np b_tn b_pc_ b_st_ b_pa_ b_ta b_ow b_of_ b_ot b_rl b_hb b_bs b_se; omega) | omega)) (Int.le_trans b_k2.2 (by decide)) (ws' := fun F8 => [(g0, .inr (12, mO gA nr tm at_ to_ fa va np tn pc_ st_ pa_ ta ow of_ ot rl hb n1 se)), cA Z (gA 13) 0 7 Mw, cA Z (gA 14) 0 7 Mo, cR Z (gA 0) 6 7 (gG 0), cR Z (gA 4) 6 7 (gG 4), cR Z (gA 5) 6 7 (gG 5), cR Z (gA 6) 6 7 (gG 6), cR Z (gA 9) 6 7 (gG 9), cA Z (xA 0) 0 8 Ml, cA Z (xA 4) 0 8 Mow, cA Z (xA 5) 0 8 Mof, cA Z (xA 6) 0 8 Mot, cA Z (xA 9) 0 8 Md, cA Z (gA 58) 0 4 Bp, cA Z (gA 59) 0 4 Br, cA Z (gA 60) 0 8 Wo, cA Z (gA 61) 0 8 Wf, cA Z (gA 62) 0 8 F8, cA Z (gA 63) 0 4 Wg]) (fun _ => rfl) dX12_shares_135 (fun F8 eF8 => ?_)
                  have hF8 : ∀ j, j < 8 → (-2147483648) ≤ F8 j ∧ F8 j ≤ 2147483647 := by rw [eF8]; exact updI_B h_Wb1 (by (first | (clear b_nr b_tm b_at_ b_to_ b_fa b_va b_np b_tn b_pc_ b_st_ b_pa_ b_ta b_ow b_of_ b_ot b_rl b_hb b_bs b_se; omega) | omega))
                  refine g_iincI (pc := 136) X 0 rfl (by decide) (lv' := [(4, .int (iI (k2 + 1))), (3, .int (iI n1)), (0, .ref g0), (1, .int (iI rm)), (2, .int (iI w))]) rfl dX12_shares_136 ?_
                  refine g_goto (pc := 139) X 111 (by decide) dX12_shares_139 ?_
                  exact ih (k2 + 1) F8 (by (first | (clear b_nr b_tm b_at_ b_to_ b_fa b_va b_np b_tn b_pc_ b_st_ b_pa_ b_ta b_ow b_of_ b_ot b_rl b_hb b_bs b_se; omega) | omega)) (hF8) (by (first | (clear b_nr b_tm b_at_ b_to_ b_fa b_va b_np b_tn b_pc_ b_st_ b_pa_ b_ta b_ow b_of_ b_ot b_rl b_hb b_bs b_se; omega) | omega))
            exact loop111 _ 0 Wb (by (first | (clear b_nr b_tm b_at_ b_to_ b_fa b_va b_np b_tn b_pc_ b_st_ b_pa_ b_ta b_ow b_of_ b_ot b_rl b_hb b_bs b_se; omega) | omega)) (h_Wb) (Nat.lt_succ_self _)
          · exact g_vret (pc := 102) X hA (⟨Wf, Wb, Wg, bs, rfl, rfl, (b_bs), (h_Wf), (h_Wb), (h_Wg)⟩) (by decide) (by decide) dX12_shares_102
      · refine g_aload_n (pc := 26) X 2 rfl dX12_shares_26 ?_
        refine g_get (pc := 27) X inlX12 0 rfl rfl 13 (by decide) mw_8_1 rfl dX12_shares_27 ?_
        refine g_iload_n (pc := 30) X 3 rfl dX12_shares_30 ?_
        refine g_ialdI (pc := 31) X 1 rfl (b_rm.1) (Int.lt_of_le_of_lt b_rm.2 (by decide)) (Int.le_trans b_rm.2 (by decide)) dX12_shares_31 ?_
        refine g_nameI (fun y9 ey9 => ?_)
        have by9 : 0 ≤ y9 ∧ y9 ≤ 8 := by rw [ey9]; exact h_Mw _ (by (first | (clear b_nr b_tm b_at_ b_to_ b_fa b_va b_np b_tn b_pc_ b_st_ b_pa_ b_ta b_ow b_of_ b_ot b_rl b_hb b_bs b_se; omega) | omega))
        have ty9 : 1 ≤ y9 ∧ y9 ≤ 8 := by rw [ey9]; exact hwn
        refine g_iconst (pc := 32) X (iI 1) (by rfl) dX12_shares_32 ?_
        refine g_icmp_leI (pc := 33) X 86 (by decide) (inRb by9 (by decide) (by decide)) ⟨by decide, by decide⟩ dX12_shares_33 (fun c33 => ?_) (fun c33 => ?_)
        · refine g_aload_n (pc := 86) X 2 rfl dX12_shares_86 ?_
          refine g_get (pc := 87) X inlX12 0 rfl rfl 65 (by decide) mw_49_21 rfl dX12_shares_87 ?_
          refine g_iconst (pc := 90) X (iI (-1)) (by rfl) dX12_shares_90 ?_
          refine g_icmp_eqI (pc := 91) X 103 (by decide) b_bs ⟨by decide, by decide⟩ dX12_shares_91 (fun c91 => ?_) (fun c91 => ?_)
          · refine g_aload_n (pc := 103) X 2 rfl dX12_shares_103 ?_
            refine g_iload_n (pc := 104) X 1 rfl dX12_shares_104 ?_
            refine g_put (pc := 105) X inlX12 tyX12_ok nmX12 0 rfl rfl 65 (by decide) mw_49_21 rfl rfl rfl (Nat.le_of_ble_eq_true rfl) (ws' := [(g0, .inr (12, mO gA nr tm at_ to_ fa va np tn pc_ st_ pa_ ta ow of_ ot rl hb n1 se)), cA Z (gA 13) 0 7 Mw, cA Z (gA 14) 0 7 Mo, cR Z (gA 0) 6 7 (gG 0), cR Z (gA 4) 6 7 (gG 4), cR Z (gA 5) 6 7 (gG 5), cR Z (gA 6) 6 7 (gG 6), cR Z (gA 9) 6 7 (gG 9), cA Z (xA 0) 0 8 Ml, cA Z (xA 4) 0 8 Mow, cA Z (xA 5) 0 8 Mof, cA Z (xA 6) 0 8 Mot, cA Z (xA 9) 0 8 Md, cA Z (gA 58) 0 4 Bp, cA Z (gA 59) 0 4 Br, cA Z (gA 60) 0 8 Wo, cA Z (gA 61) 0 8 Wf, cA Z (gA 62) 0 8 Wb, cA Z (gA 63) 0 4 Wg]) rfl dX12_shares_105 ?_
            refine g_iconst (pc := 108) X (iI 0) (by rfl) dX12_shares_108 ?_
            refine g_istore (pc := 109) X (by decide) (lv' := [(4, .int (iI 0)), (3, .int (iI n1)), (0, .ref g0), (1, .int (iI rm)), (2, .int (iI w))]) rfl dX12_shares_109 ?_
            have loop111 : ∀ (fuel : Nat) (k2 : Int) (Wb1 : Nat → Int), (0 ≤ k2 ∧ k2 ≤ 8) → (∀ j, j < 8 → (-2147483648) ≤ Wb1 j ∧ Wb1 j ≤ 2147483647) → (9 - k2).toNat < fuel → Gs p l e ({ frames := 1, cells := 0, slots := 0, locals := 24 } : Room) s m args below meth c (MQ below (gPost Z [(g0, .inr (12, mO gA nr tm at_ to_ fa va np tn pc_ st_ pa_ ta ow of_ ot rl hb bs se)), cA Z (gA 13) 0 7 Mw, cA Z (gA 14) 0 7 Mo, cR Z (gA 0) 6 7 (gG 0), cR Z (gA 4) 6 7 (gG 4), cR Z (gA 5) 6 7 (gG 5), cR Z (gA 6) 6 7 (gG 6), cR Z (gA 9) 6 7 (gG 9), cA Z (xA 0) 0 8 Ml, cA Z (xA 4) 0 8 Mow, cA Z (xA 5) 0 8 Mof, cA Z (xA 6) 0 8 Mot, cA Z (xA 9) 0 8 Md, cA Z (gA 58) 0 4 Bp, cA Z (gA 59) 0 4 Br, cA Z (gA 60) 0 8 Wo, cA Z (gA 61) 0 8 Wf, cA Z (gA 62) 0 8 Wb, cA Z (gA 63) 0 4 Wg] s.heap.size (fun r w' => ∃ (Wf2 : Nat → Int) (Wb2 : Nat → Int) (Wg2 : Nat → Int) (bs2 : Int), (r = none) ∧ (w' = [(g0, .inr (12, mO gA nr tm at_ to_ fa va np tn pc_ st_ pa_ ta ow of_ ot rl hb bs2 se)), cA Z (gA 13) 0 7 Mw, cA Z (gA 14) 0 7 Mo, cR Z (gA 0) 6 7 (gG 0), cR Z (gA 4) 6 7 (gG 4), cR Z (gA 5) 6 7 (gG 5), cR Z (gA 6) 6 7 (gG 6), cR Z (gA 9) 6 7 (gG 9), cA Z (xA 0) 0 8 Ml, cA Z (xA 4) 0 8 Mow, cA Z (xA 5) 0 8 Mof, cA Z (xA 6) 0 8 Mot, cA Z (xA 9) 0 8 Md, cA Z (gA 58) 0 4 Bp, cA Z (gA 59) 0 4 Br, cA Z (gA 60) 0 8 Wo, cA Z (gA 61) 0 8 Wf2, cA Z (gA 62) 0 8 Wb2, cA Z (gA 63) 0 4 Wg2]) ∧ ((-2147483648) ≤ bs2 ∧ bs2 ≤ 2147483647) ∧ (∀ j, j < 8 → (-2147483648) ≤ Wf2 j ∧ Wf2 j ≤ 2147483647) ∧ (∀ j, j < 8 → (-2147483648) ≤ Wb2 j ∧ Wb2 j ≤ 2147483647) ∧ (∀ j, j < 4 → (-2147483648) ≤ Wg2 j ∧ Wg2 j ≤ 2147483647))) args s 0 0 (va_A [(g0, .inr (12, mO gA nr tm at_ to_ fa va np tn pc_ st_ pa_ ta ow of_ ot rl hb bs se)), cA Z (gA 13) 0 7 Mw, cA Z (gA 14) 0 7 Mo, cR Z (gA 0) 6 7 (gG 0), cR Z (gA 4) 6 7 (gG 4), cR Z (gA 5) 6 7 (gG 5), cR Z (gA 6) 6 7 (gG 6), cR Z (gA 9) 6 7 (gG 9), cA Z (xA 0) 0 8 Ml, cA Z (xA 4) 0 8 Mow, cA Z (xA 5) 0 8 Mof, cA Z (xA 6) 0 8 Mot, cA Z (xA 9) 0 8 Md, cA Z (gA 58) 0 4 Bp, cA Z (gA 59) 0 4 Br, cA Z (gA 60) 0 8 Wo, cA Z (gA 61) 0 8 Wf, cA Z (gA 62) 0 8 Wb, cA Z (gA 63) 0 4 Wg] s.heap.size)) Z A 5 0 0 111 [(4, .int (iI k2)), (3, .int (iI n1)), (0, .ref g0), (1, .int (iI rm)), (2, .int (iI w))] [] [(g0, .inr (12, mO gA nr tm at_ to_ fa va np tn pc_ st_ pa_ ta ow of_ ot rl hb n1 se)), cA Z (gA 13) 0 7 Mw, cA Z (gA 14) 0 7 Mo, cR Z (gA 0) 6 7 (gG 0), cR Z (gA 4) 6 7 (gG 4), cR Z (gA 5) 6 7 (gG 5), cR Z (gA 6) 6 7 (gG 6), cR Z (gA 9) 6 7 (gG 9), cA Z (xA 0) 0 8 Ml, cA Z (xA 4) 0 8 Mow, cA Z (xA 5) 0 8 Mof, cA Z (xA 6) 0 8 Mot, cA Z (xA 9) 0 8 Md, cA Z (gA 58) 0 4 Bp, cA Z (gA 59) 0 4 Br, cA Z (gA 60) 0 8 Wo, cA Z (gA 61) 0 8 Wf, cA Z (gA 62) 0 8 Wb1, cA Z (gA 63) 0 4 Wg] := by
              intro fuel
              induction fuel with
              | zero => intro k2 Wb1 _ _ hm; exact absurd hm (Nat.not_lt_zero _)
              | succ fuel ih =>
                intro k2 Wb1 b_k2 h_Wb1 hm
                refine g_iload (pc := 111) X 0 rfl dX12_shares_111 ?_
                refine g_aload_n (pc := 113) X 2 rfl dX12_shares_113 ?_
                refine g_get (pc := 114) X inlX12 0 rfl rfl 13 (by decide) mw_8_1 rfl dX12_shares_114 ?_
                refine g_iload_n (pc := 117) X 3 rfl dX12_shares_117 ?_
                refine g_ialdI (pc := 118) X 1 rfl (b_rm.1) (Int.lt_of_le_of_lt b_rm.2 (by decide)) (Int.le_trans b_rm.2 (by decide)) dX12_shares_118 ?_
                refine g_nameI (fun y10 ey10 => ?_)
                have by10 : 0 ≤ y10 ∧ y10 ≤ 8 := by rw [ey10]; exact h_Mw _ (by (first | (clear b_nr b_tm b_at_ b_to_ b_fa b_va b_np b_tn b_pc_ b_st_ b_pa_ b_ta b_ow b_of_ b_ot b_rl b_hb b_bs b_se; omega) | omega))
                have ty10 : 1 ≤ y10 ∧ y10 ≤ 8 := by rw [ey10]; exact hwn
                refine g_icmp_geI (pc := 119) X 142 (by decide) (inRb b_k2 (by decide) (by decide)) (inRb by10 (by decide) (by decide)) dX12_shares_119 (fun c119 => ?_) (fun c119 => ?_)
                · exact g_vret (pc := 142) X hA (⟨Wf, Wb1, Wg, n1, rfl, rfl, (b_n1), (h_Wf), (h_Wb1), (h_Wg)⟩) (by decide) (by decide) dX12_shares_142
                · refine g_aload_n (pc := 122) X 2 rfl dX12_shares_122 ?_
                  refine g_get (pc := 123) X inlX12 0 rfl rfl 62 (by decide) mw_9_13 rfl dX12_shares_123 ?_
                  refine g_iload (pc := 126) X 0 rfl dX12_shares_126 ?_
                  refine g_aload_n (pc := 128) X 2 rfl dX12_shares_128 ?_
                  refine g_get (pc := 129) X inlX12 0 rfl rfl 61 (by decide) mw_9_12 rfl dX12_shares_129 ?_
                  refine g_iload (pc := 132) X 0 rfl dX12_shares_132 ?_
                  refine g_ialdI (pc := 134) X 16 rfl (b_k2.1) (by (first | (clear b_nr b_tm b_at_ b_to_ b_fa b_va b_np b_tn b_pc_ b_st_ b_pa_ b_ta b_ow b_of_ b_ot b_rl b_hb b_bs b_se; omega) | omega)) (Int.le_trans b_k2.2 (by decide)) dX12_shares_134 ?_
                  refine g_nameI (fun y11 ey11 => ?_)
                  have by11 : (-2147483648) ≤ y11 ∧ y11 ≤ 2147483647 := by rw [ey11]; exact h_Wf _ (by (first | (clear b_nr b_tm b_at_ b_to_ b_fa b_va b_np b_tn b_pc_ b_st_ b_pa_ b_ta b_ow b_of_ b_ot b_rl b_hb b_bs b_se; omega) | omega))
                  refine g_iastG (pc := 135) X 17 rfl (b_k2.1) (by (first | (clear b_nr b_tm b_at_ b_to_ b_fa b_va b_np b_tn b_pc_ b_st_ b_pa_ b_ta b_ow b_of_ b_ot b_rl b_hb b_bs b_se; omega) | omega)) (Int.le_trans b_k2.2 (by decide)) (ws' := fun F12 => [(g0, .inr (12, mO gA nr tm at_ to_ fa va np tn pc_ st_ pa_ ta ow of_ ot rl hb n1 se)), cA Z (gA 13) 0 7 Mw, cA Z (gA 14) 0 7 Mo, cR Z (gA 0) 6 7 (gG 0), cR Z (gA 4) 6 7 (gG 4), cR Z (gA 5) 6 7 (gG 5), cR Z (gA 6) 6 7 (gG 6), cR Z (gA 9) 6 7 (gG 9), cA Z (xA 0) 0 8 Ml, cA Z (xA 4) 0 8 Mow, cA Z (xA 5) 0 8 Mof, cA Z (xA 6) 0 8 Mot, cA Z (xA 9) 0 8 Md, cA Z (gA 58) 0 4 Bp, cA Z (gA 59) 0 4 Br, cA Z (gA 60) 0 8 Wo, cA Z (gA 61) 0 8 Wf, cA Z (gA 62) 0 8 F12, cA Z (gA 63) 0 4 Wg]) (fun _ => rfl) dX12_shares_135 (fun F12 eF12 => ?_)
                  have hF12 : ∀ j, j < 8 → (-2147483648) ≤ F12 j ∧ F12 j ≤ 2147483647 := by rw [eF12]; exact updI_B h_Wb1 (by (first | (clear b_nr b_tm b_at_ b_to_ b_fa b_va b_np b_tn b_pc_ b_st_ b_pa_ b_ta b_ow b_of_ b_ot b_rl b_hb b_bs b_se; omega) | omega))
                  refine g_iincI (pc := 136) X 0 rfl (by decide) (lv' := [(4, .int (iI (k2 + 1))), (3, .int (iI n1)), (0, .ref g0), (1, .int (iI rm)), (2, .int (iI w))]) rfl dX12_shares_136 ?_
                  refine g_goto (pc := 139) X 111 (by decide) dX12_shares_139 ?_
                  exact ih (k2 + 1) F12 (by (first | (clear b_nr b_tm b_at_ b_to_ b_fa b_va b_np b_tn b_pc_ b_st_ b_pa_ b_ta b_ow b_of_ b_ot b_rl b_hb b_bs b_se; omega) | omega)) (hF12) (by (first | (clear b_nr b_tm b_at_ b_to_ b_fa b_va b_np b_tn b_pc_ b_st_ b_pa_ b_ta b_ow b_of_ b_ot b_rl b_hb b_bs b_se; omega) | omega))
            exact loop111 _ 0 Wb (by (first | (clear b_nr b_tm b_at_ b_to_ b_fa b_va b_np b_tn b_pc_ b_st_ b_pa_ b_ta b_ow b_of_ b_ot b_rl b_hb b_bs b_se; omega) | omega)) (h_Wb) (Nat.lt_succ_self _)
          · refine g_iload_n (pc := 94) X 1 rfl dX12_shares_94 ?_
            refine g_aload_n (pc := 95) X 2 rfl dX12_shares_95 ?_
            refine g_get (pc := 96) X inlX12 0 rfl rfl 65 (by decide) mw_49_21 rfl dX12_shares_96 ?_
            refine g_icmp_ltI (pc := 99) X 103 (by decide) b_n1 b_bs dX12_shares_99 (fun c99 => ?_) (fun c99 => ?_)
            · refine g_aload_n (pc := 103) X 2 rfl dX12_shares_103 ?_
              refine g_iload_n (pc := 104) X 1 rfl dX12_shares_104 ?_
              refine g_put (pc := 105) X inlX12 tyX12_ok nmX12 0 rfl rfl 65 (by decide) mw_49_21 rfl rfl rfl (Nat.le_of_ble_eq_true rfl) (ws' := [(g0, .inr (12, mO gA nr tm at_ to_ fa va np tn pc_ st_ pa_ ta ow of_ ot rl hb n1 se)), cA Z (gA 13) 0 7 Mw, cA Z (gA 14) 0 7 Mo, cR Z (gA 0) 6 7 (gG 0), cR Z (gA 4) 6 7 (gG 4), cR Z (gA 5) 6 7 (gG 5), cR Z (gA 6) 6 7 (gG 6), cR Z (gA 9) 6 7 (gG 9), cA Z (xA 0) 0 8 Ml, cA Z (xA 4) 0 8 Mow, cA Z (xA 5) 0 8 Mof, cA Z (xA 6) 0 8 Mot, cA Z (xA 9) 0 8 Md, cA Z (gA 58) 0 4 Bp, cA Z (gA 59) 0 4 Br, cA Z (gA 60) 0 8 Wo, cA Z (gA 61) 0 8 Wf, cA Z (gA 62) 0 8 Wb, cA Z (gA 63) 0 4 Wg]) rfl dX12_shares_105 ?_
              refine g_iconst (pc := 108) X (iI 0) (by rfl) dX12_shares_108 ?_
              refine g_istore (pc := 109) X (by decide) (lv' := [(4, .int (iI 0)), (3, .int (iI n1)), (0, .ref g0), (1, .int (iI rm)), (2, .int (iI w))]) rfl dX12_shares_109 ?_
              have loop111 : ∀ (fuel : Nat) (k2 : Int) (Wb1 : Nat → Int), (0 ≤ k2 ∧ k2 ≤ 8) → (∀ j, j < 8 → (-2147483648) ≤ Wb1 j ∧ Wb1 j ≤ 2147483647) → (9 - k2).toNat < fuel → Gs p l e ({ frames := 1, cells := 0, slots := 0, locals := 24 } : Room) s m args below meth c (MQ below (gPost Z [(g0, .inr (12, mO gA nr tm at_ to_ fa va np tn pc_ st_ pa_ ta ow of_ ot rl hb bs se)), cA Z (gA 13) 0 7 Mw, cA Z (gA 14) 0 7 Mo, cR Z (gA 0) 6 7 (gG 0), cR Z (gA 4) 6 7 (gG 4), cR Z (gA 5) 6 7 (gG 5), cR Z (gA 6) 6 7 (gG 6), cR Z (gA 9) 6 7 (gG 9), cA Z (xA 0) 0 8 Ml, cA Z (xA 4) 0 8 Mow, cA Z (xA 5) 0 8 Mof, cA Z (xA 6) 0 8 Mot, cA Z (xA 9) 0 8 Md, cA Z (gA 58) 0 4 Bp, cA Z (gA 59) 0 4 Br, cA Z (gA 60) 0 8 Wo, cA Z (gA 61) 0 8 Wf, cA Z (gA 62) 0 8 Wb, cA Z (gA 63) 0 4 Wg] s.heap.size (fun r w' => ∃ (Wf2 : Nat → Int) (Wb2 : Nat → Int) (Wg2 : Nat → Int) (bs2 : Int), (r = none) ∧ (w' = [(g0, .inr (12, mO gA nr tm at_ to_ fa va np tn pc_ st_ pa_ ta ow of_ ot rl hb bs2 se)), cA Z (gA 13) 0 7 Mw, cA Z (gA 14) 0 7 Mo, cR Z (gA 0) 6 7 (gG 0), cR Z (gA 4) 6 7 (gG 4), cR Z (gA 5) 6 7 (gG 5), cR Z (gA 6) 6 7 (gG 6), cR Z (gA 9) 6 7 (gG 9), cA Z (xA 0) 0 8 Ml, cA Z (xA 4) 0 8 Mow, cA Z (xA 5) 0 8 Mof, cA Z (xA 6) 0 8 Mot, cA Z (xA 9) 0 8 Md, cA Z (gA 58) 0 4 Bp, cA Z (gA 59) 0 4 Br, cA Z (gA 60) 0 8 Wo, cA Z (gA 61) 0 8 Wf2, cA Z (gA 62) 0 8 Wb2, cA Z (gA 63) 0 4 Wg2]) ∧ ((-2147483648) ≤ bs2 ∧ bs2 ≤ 2147483647) ∧ (∀ j, j < 8 → (-2147483648) ≤ Wf2 j ∧ Wf2 j ≤ 2147483647) ∧ (∀ j, j < 8 → (-2147483648) ≤ Wb2 j ∧ Wb2 j ≤ 2147483647) ∧ (∀ j, j < 4 → (-2147483648) ≤ Wg2 j ∧ Wg2 j ≤ 2147483647))) args s 0 0 (va_A [(g0, .inr (12, mO gA nr tm at_ to_ fa va np tn pc_ st_ pa_ ta ow of_ ot rl hb bs se)), cA Z (gA 13) 0 7 Mw, cA Z (gA 14) 0 7 Mo, cR Z (gA 0) 6 7 (gG 0), cR Z (gA 4) 6 7 (gG 4), cR Z (gA 5) 6 7 (gG 5), cR Z (gA 6) 6 7 (gG 6), cR Z (gA 9) 6 7 (gG 9), cA Z (xA 0) 0 8 Ml, cA Z (xA 4) 0 8 Mow, cA Z (xA 5) 0 8 Mof, cA Z (xA 6) 0 8 Mot, cA Z (xA 9) 0 8 Md, cA Z (gA 58) 0 4 Bp, cA Z (gA 59) 0 4 Br, cA Z (gA 60) 0 8 Wo, cA Z (gA 61) 0 8 Wf, cA Z (gA 62) 0 8 Wb, cA Z (gA 63) 0 4 Wg] s.heap.size)) Z A 5 0 0 111 [(4, .int (iI k2)), (3, .int (iI n1)), (0, .ref g0), (1, .int (iI rm)), (2, .int (iI w))] [] [(g0, .inr (12, mO gA nr tm at_ to_ fa va np tn pc_ st_ pa_ ta ow of_ ot rl hb n1 se)), cA Z (gA 13) 0 7 Mw, cA Z (gA 14) 0 7 Mo, cR Z (gA 0) 6 7 (gG 0), cR Z (gA 4) 6 7 (gG 4), cR Z (gA 5) 6 7 (gG 5), cR Z (gA 6) 6 7 (gG 6), cR Z (gA 9) 6 7 (gG 9), cA Z (xA 0) 0 8 Ml, cA Z (xA 4) 0 8 Mow, cA Z (xA 5) 0 8 Mof, cA Z (xA 6) 0 8 Mot, cA Z (xA 9) 0 8 Md, cA Z (gA 58) 0 4 Bp, cA Z (gA 59) 0 4 Br, cA Z (gA 60) 0 8 Wo, cA Z (gA 61) 0 8 Wf, cA Z (gA 62) 0 8 Wb1, cA Z (gA 63) 0 4 Wg] := by
                intro fuel
                induction fuel with
                | zero => intro k2 Wb1 _ _ hm; exact absurd hm (Nat.not_lt_zero _)
                | succ fuel ih =>
                  intro k2 Wb1 b_k2 h_Wb1 hm
                  refine g_iload (pc := 111) X 0 rfl dX12_shares_111 ?_
                  refine g_aload_n (pc := 113) X 2 rfl dX12_shares_113 ?_
                  refine g_get (pc := 114) X inlX12 0 rfl rfl 13 (by decide) mw_8_1 rfl dX12_shares_114 ?_
                  refine g_iload_n (pc := 117) X 3 rfl dX12_shares_117 ?_
                  refine g_ialdI (pc := 118) X 1 rfl (b_rm.1) (Int.lt_of_le_of_lt b_rm.2 (by decide)) (Int.le_trans b_rm.2 (by decide)) dX12_shares_118 ?_
                  refine g_nameI (fun y13 ey13 => ?_)
                  have by13 : 0 ≤ y13 ∧ y13 ≤ 8 := by rw [ey13]; exact h_Mw _ (by (first | (clear b_nr b_tm b_at_ b_to_ b_fa b_va b_np b_tn b_pc_ b_st_ b_pa_ b_ta b_ow b_of_ b_ot b_rl b_hb b_bs b_se; omega) | omega))
                  have ty13 : 1 ≤ y13 ∧ y13 ≤ 8 := by rw [ey13]; exact hwn
                  refine g_icmp_geI (pc := 119) X 142 (by decide) (inRb b_k2 (by decide) (by decide)) (inRb by13 (by decide) (by decide)) dX12_shares_119 (fun c119 => ?_) (fun c119 => ?_)
                  · exact g_vret (pc := 142) X hA (⟨Wf, Wb1, Wg, n1, rfl, rfl, (b_n1), (h_Wf), (h_Wb1), (h_Wg)⟩) (by decide) (by decide) dX12_shares_142
                  · refine g_aload_n (pc := 122) X 2 rfl dX12_shares_122 ?_
                    refine g_get (pc := 123) X inlX12 0 rfl rfl 62 (by decide) mw_9_13 rfl dX12_shares_123 ?_
                    refine g_iload (pc := 126) X 0 rfl dX12_shares_126 ?_
                    refine g_aload_n (pc := 128) X 2 rfl dX12_shares_128 ?_
                    refine g_get (pc := 129) X inlX12 0 rfl rfl 61 (by decide) mw_9_12 rfl dX12_shares_129 ?_
                    refine g_iload (pc := 132) X 0 rfl dX12_shares_132 ?_
                    refine g_ialdI (pc := 134) X 16 rfl (b_k2.1) (by (first | (clear b_nr b_tm b_at_ b_to_ b_fa b_va b_np b_tn b_pc_ b_st_ b_pa_ b_ta b_ow b_of_ b_ot b_rl b_hb b_bs b_se; omega) | omega)) (Int.le_trans b_k2.2 (by decide)) dX12_shares_134 ?_
                    refine g_nameI (fun y14 ey14 => ?_)
                    have by14 : (-2147483648) ≤ y14 ∧ y14 ≤ 2147483647 := by rw [ey14]; exact h_Wf _ (by (first | (clear b_nr b_tm b_at_ b_to_ b_fa b_va b_np b_tn b_pc_ b_st_ b_pa_ b_ta b_ow b_of_ b_ot b_rl b_hb b_bs b_se; omega) | omega))
                    refine g_iastG (pc := 135) X 17 rfl (b_k2.1) (by (first | (clear b_nr b_tm b_at_ b_to_ b_fa b_va b_np b_tn b_pc_ b_st_ b_pa_ b_ta b_ow b_of_ b_ot b_rl b_hb b_bs b_se; omega) | omega)) (Int.le_trans b_k2.2 (by decide)) (ws' := fun F15 => [(g0, .inr (12, mO gA nr tm at_ to_ fa va np tn pc_ st_ pa_ ta ow of_ ot rl hb n1 se)), cA Z (gA 13) 0 7 Mw, cA Z (gA 14) 0 7 Mo, cR Z (gA 0) 6 7 (gG 0), cR Z (gA 4) 6 7 (gG 4), cR Z (gA 5) 6 7 (gG 5), cR Z (gA 6) 6 7 (gG 6), cR Z (gA 9) 6 7 (gG 9), cA Z (xA 0) 0 8 Ml, cA Z (xA 4) 0 8 Mow, cA Z (xA 5) 0 8 Mof, cA Z (xA 6) 0 8 Mot, cA Z (xA 9) 0 8 Md, cA Z (gA 58) 0 4 Bp, cA Z (gA 59) 0 4 Br, cA Z (gA 60) 0 8 Wo, cA Z (gA 61) 0 8 Wf, cA Z (gA 62) 0 8 F15, cA Z (gA 63) 0 4 Wg]) (fun _ => rfl) dX12_shares_135 (fun F15 eF15 => ?_)
                    have hF15 : ∀ j, j < 8 → (-2147483648) ≤ F15 j ∧ F15 j ≤ 2147483647 := by rw [eF15]; exact updI_B h_Wb1 (by (first | (clear b_nr b_tm b_at_ b_to_ b_fa b_va b_np b_tn b_pc_ b_st_ b_pa_ b_ta b_ow b_of_ b_ot b_rl b_hb b_bs b_se; omega) | omega))
                    refine g_iincI (pc := 136) X 0 rfl (by decide) (lv' := [(4, .int (iI (k2 + 1))), (3, .int (iI n1)), (0, .ref g0), (1, .int (iI rm)), (2, .int (iI w))]) rfl dX12_shares_136 ?_
                    refine g_goto (pc := 139) X 111 (by decide) dX12_shares_139 ?_
                    exact ih (k2 + 1) F15 (by (first | (clear b_nr b_tm b_at_ b_to_ b_fa b_va b_np b_tn b_pc_ b_st_ b_pa_ b_ta b_ow b_of_ b_ot b_rl b_hb b_bs b_se; omega) | omega)) (hF15) (by (first | (clear b_nr b_tm b_at_ b_to_ b_fa b_va b_np b_tn b_pc_ b_st_ b_pa_ b_ta b_ow b_of_ b_ot b_rl b_hb b_bs b_se; omega) | omega))
              exact loop111 _ 0 Wb (by (first | (clear b_nr b_tm b_at_ b_to_ b_fa b_va b_np b_tn b_pc_ b_st_ b_pa_ b_ta b_ow b_of_ b_ot b_rl b_hb b_bs b_se; omega) | omega)) (h_Wb) (Nat.lt_succ_self _)
            · exact g_vret (pc := 102) X hA (⟨Wf, Wb, Wg, bs, rfl, rfl, (b_bs), (h_Wf), (h_Wb), (h_Wg)⟩) (by decide) (by decide) dX12_shares_102
        · refine g_iload_n (pc := 36) X 1 rfl dX12_shares_36 ?_
          refine g_aload_n (pc := 37) X 2 rfl dX12_shares_37 ?_
          refine g_get (pc := 38) X inlX12 0 rfl rfl 61 (by decide) mw_9_12 rfl dX12_shares_38 ?_
          refine g_iload (pc := 41) X 0 rfl dX12_shares_41 ?_
          refine g_ialdI (pc := 43) X 16 rfl (b_k1.1) (by (first | (clear b_nr b_tm b_at_ b_to_ b_fa b_va b_np b_tn b_pc_ b_st_ b_pa_ b_ta b_ow b_of_ b_ot b_rl b_hb b_bs b_se; omega) | omega)) (Int.le_trans b_k1.2 (by decide)) dX12_shares_43 ?_
          refine g_nameI (fun y16 ey16 => ?_)
          have by16 : (-2147483648) ≤ y16 ∧ y16 ≤ 2147483647 := by rw [ey16]; exact h_Wf _ (by (first | (clear b_nr b_tm b_at_ b_to_ b_fa b_va b_np b_tn b_pc_ b_st_ b_pa_ b_ta b_ow b_of_ b_ot b_rl b_hb b_bs b_se; omega) | omega))
          refine g_aload_n (pc := 44) X 2 rfl dX12_shares_44 ?_
          refine g_get (pc := 45) X inlX12 0 rfl rfl 61 (by decide) mw_9_12 rfl dX12_shares_45 ?_
          refine g_iload (pc := 48) X 0 rfl dX12_shares_48 ?_
          refine g_iconst (pc := 50) X (iI 1) (by rfl) dX12_shares_50 ?_
          refine g_iaddI (pc := 51) X dX12_shares_51 ?_
          refine g_aload_n (pc := 52) X 2 rfl dX12_shares_52 ?_
          refine g_get (pc := 53) X inlX12 0 rfl rfl 13 (by decide) mw_8_1 rfl dX12_shares_53 ?_
          refine g_iload_n (pc := 56) X 3 rfl dX12_shares_56 ?_
          refine g_ialdI (pc := 57) X 1 rfl (b_rm.1) (Int.lt_of_le_of_lt b_rm.2 (by decide)) (Int.le_trans b_rm.2 (by decide)) dX12_shares_57 ?_
          refine g_nameI (fun y17 ey17 => ?_)
          have by17 : 0 ≤ y17 ∧ y17 ≤ 8 := by rw [ey17]; exact h_Mw _ (by (first | (clear b_nr b_tm b_at_ b_to_ b_fa b_va b_np b_tn b_pc_ b_st_ b_pa_ b_ta b_ow b_of_ b_ot b_rl b_hb b_bs b_se; omega) | omega))
          have ty17 : 1 ≤ y17 ∧ y17 ≤ 8 := by rw [ey17]; exact hwn
          refine g_iremP (pc := 58) X (by (first | (clear b_nr b_tm b_at_ b_to_ b_fa b_va b_np b_tn b_pc_ b_st_ b_pa_ b_ta b_ow b_of_ b_ot b_rl b_hb b_bs b_se; omega) | omega)) (by (first | (clear b_nr b_tm b_at_ b_to_ b_fa b_va b_np b_tn b_pc_ b_st_ b_pa_ b_ta b_ow b_of_ b_ot b_rl b_hb b_bs b_se; omega) | omega)) (by (first | (clear b_nr b_tm b_at_ b_to_ b_fa b_va b_np b_tn b_pc_ b_st_ b_pa_ b_ta b_ow b_of_ b_ot b_rl b_hb b_bs b_se; omega) | omega)) (by (first | (clear b_nr b_tm b_at_ b_to_ b_fa b_va b_np b_tn b_pc_ b_st_ b_pa_ b_ta b_ow b_of_ b_ot b_rl b_hb b_bs b_se; omega) | omega)) dX12_shares_58 ?_
          refine g_nameI (fun y18 ey18 => ?_)
          have by18 : 0 ≤ y18 ∧ y18 ≤ 7 := by rw [ey18]; exact modB (by (first | (clear b_nr b_tm b_at_ b_to_ b_fa b_va b_np b_tn b_pc_ b_st_ b_pa_ b_ta b_ow b_of_ b_ot b_rl b_hb b_bs b_se; omega) | omega)) (by (first | (clear b_nr b_tm b_at_ b_to_ b_fa b_va b_np b_tn b_pc_ b_st_ b_pa_ b_ta b_ow b_of_ b_ot b_rl b_hb b_bs b_se; omega) | omega)) (by (first | (clear b_nr b_tm b_at_ b_to_ b_fa b_va b_np b_tn b_pc_ b_st_ b_pa_ b_ta b_ow b_of_ b_ot b_rl b_hb b_bs b_se; omega) | omega))
          have cy18 : y18 < y17 := by rw [ey18]; exact Int.emod_lt_of_pos _ (by (first | (clear b_nr b_tm b_at_ b_to_ b_fa b_va b_np b_tn b_pc_ b_st_ b_pa_ b_ta b_ow b_of_ b_ot b_rl b_hb b_bs b_se; omega) | omega))
          refine g_ialdI (pc := 59) X 16 rfl (by (first | (clear b_nr b_tm b_at_ b_to_ b_fa b_va b_np b_tn b_pc_ b_st_ b_pa_ b_ta b_ow b_of_ b_ot b_rl b_hb b_bs b_se; omega) | omega)) (by (first | (clear b_nr b_tm b_at_ b_to_ b_fa b_va b_np b_tn b_pc_ b_st_ b_pa_ b_ta b_ow b_of_ b_ot b_rl b_hb b_bs b_se; omega) | omega)) (by (first | (clear b_nr b_tm b_at_ b_to_ b_fa b_va b_np b_tn b_pc_ b_st_ b_pa_ b_ta b_ow b_of_ b_ot b_rl b_hb b_bs b_se; omega) | omega)) dX12_shares_59 ?_
          refine g_nameI (fun y19 ey19 => ?_)
          have by19 : (-2147483648) ≤ y19 ∧ y19 ≤ 2147483647 := by rw [ey19]; exact h_Wf _ (by (first | (clear b_nr b_tm b_at_ b_to_ b_fa b_va b_np b_tn b_pc_ b_st_ b_pa_ b_ta b_ow b_of_ b_ot b_rl b_hb b_bs b_se; omega) | omega))
          refine g_icmp_eqI (pc := 60) X 77 (by decide) by16 by19 dX12_shares_60 (fun c60 => ?_) (fun c60 => ?_)
          · refine g_iconst (pc := 77) X (iI 0) (by rfl) dX12_shares_77 ?_
            refine g_iaddI (pc := 78) X dX12_shares_78 ?_
            refine g_istore_n (pc := 79) X (i := 3) rfl (by decide) (lv' := [(3, .int (iI (n1 + 0))), (4, .int (iI k1)), (0, .ref g0), (1, .int (iI rm)), (2, .int (iI w))]) rfl dX12_shares_79 ?_
            refine g_iincI (pc := 80) X 1 rfl (by decide) (lv' := [(4, .int (iI (k1 + 1))), (3, .int (iI (n1 + 0))), (0, .ref g0), (1, .int (iI rm)), (2, .int (iI w))]) rfl dX12_shares_80 ?_
            refine g_goto (pc := 83) X 15 (by decide) dX12_shares_83 ?_
            exact ih (n1 + 0) (k1 + 1) (by (first | (clear b_nr b_tm b_at_ b_to_ b_fa b_va b_np b_tn b_pc_ b_st_ b_pa_ b_ta b_ow b_of_ b_ot b_rl b_hb b_bs b_se; omega) | omega)) (by (first | (clear b_nr b_tm b_at_ b_to_ b_fa b_va b_np b_tn b_pc_ b_st_ b_pa_ b_ta b_ow b_of_ b_ot b_rl b_hb b_bs b_se; omega) | omega)) (by (first | (clear b_nr b_tm b_at_ b_to_ b_fa b_va b_np b_tn b_pc_ b_st_ b_pa_ b_ta b_ow b_of_ b_ot b_rl b_hb b_bs b_se; omega) | omega))
          · refine g_aload_n (pc := 63) X 2 rfl dX12_shares_63 ?_
            refine g_iload_n (pc := 64) X 3 rfl dX12_shares_64 ?_
            refine g_iload (pc := 65) X 0 rfl dX12_shares_65 ?_
            refine g_callV (pc := 67) X (k_X12_hasDoor l Z g0 gA gG xA Mw Mo Ml Mow Mof Mot Md rm k1 nr tm at_ to_ fa va np tn pc_ st_ pa_ ta ow of_ ot rl hb bs se b_rm (by (first | (clear b_nr b_tm b_at_ b_to_ b_fa b_va b_np b_tn b_pc_ b_st_ b_pa_ b_ta b_ow b_of_ b_ot b_rl b_hb b_bs b_se; omega) | omega)) b_nr b_tm b_at_ b_to_ b_fa b_va b_np b_tn b_pc_ b_st_ b_pa_ b_ta b_ow b_of_ b_ot b_rl b_hb b_bs b_se (hG) (by (first | (clear b_nr b_tm b_at_ b_to_ b_fa b_va b_np b_tn b_pc_ b_st_ b_pa_ b_ta b_ow b_of_ b_ot b_rl b_hb b_bs b_se; omega) | omega)) (h_Mw) (h_Mo) (h_Ml) (h_Mow) (h_Mof) (h_Mot) (h_Md)) iM_X12_hasDoor mw_50_6 mw_50_7 mw_50_8 0 rfl rfl [0, 1, 2, 3, 4, 5, 6, 7, 8, 9, 10, 11, 12] [13, 14, 15, 16, 17, 18] rfl (wr := [cA Z (gA 58) 0 4 Bp, cA Z (gA 59) 0 4 Br, cA Z (gA 60) 0 8 Wo, cA Z (gA 61) 0 8 Wf, cA Z (gA 62) 0 8 Wb, cA Z (gA 63) 0 4 Wg]) rfl (by decide) rfl rfl (Nat.le_of_ble_eq_true rfl) (by decide) dX12_shares_67 (fun r w' hpo => ?_)
            refine exN_1 hpo fun y20 hz => anD_3 hz fun e_r e_w hf67_b_y => ?_; clear hz hpo; subst e_r; subst e_w
            refine g_as (pc' := 70) (lv' := [(4, .int (iI k1)), (3, .int (iI n1)), (0, .ref g0), (1, .int (iI rm)), (2, .int (iI w))]) (st' := [.int (iI y20), .int (iI n1)]) (ws' := [cA Z (gA 58) 0 4 Bp, cA Z (gA 59) 0 4 Br, cA Z (gA 60) 0 8 Wo, cA Z (gA 61) 0 8 Wf, cA Z (gA 62) 0 8 Wb, cA Z (gA 63) 0 4 Wg, (g0, .inr (12, mO gA nr tm at_ to_ fa va np tn pc_ st_ pa_ ta ow of_ ot rl hb bs se)), cA Z (gA 13) 0 7 Mw, cA Z (gA 14) 0 7 Mo, cR Z (gA 0) 6 7 (gG 0), cR Z (gA 4) 6 7 (gG 4), cR Z (gA 5) 6 7 (gG 5), cR Z (gA 6) 6 7 (gG 6), cR Z (gA 9) 6 7 (gG 9), cA Z (xA 0) 0 8 Ml, cA Z (xA 4) 0 8 Mow, cA Z (xA 5) 0 8 Mof, cA Z (xA 6) 0 8 Mot, cA Z (xA 9) 0 8 Md]) rfl rfl rfl rfl ?_
            refine g_if_neI (pc := 70) X 77 (by decide) (inRb hf67_b_y (by decide) (by decide)) dX12_shares_70 (fun c70 => ?_) (fun c70 => ?_)
            · refine g_iconst (pc := 77) X (iI 0) (by rfl) dX12_shares_77 ?_
              refine g_iaddI (pc := 78) X dX12_shares_78 ?_
              refine g_istore_n (pc := 79) X (i := 3) rfl (by decide) (lv' := [(3, .int (iI (n1 + 0))), (4, .int (iI k1)), (0, .ref g0), (1, .int (iI rm)), (2, .int (iI w))]) rfl dX12_shares_79 ?_
              refine g_iincI (pc := 80) X 1 rfl (by decide) (lv' := [(4, .int (iI (k1 + 1))), (3, .int (iI (n1 + 0))), (0, .ref g0), (1, .int (iI rm)), (2, .int (iI w))]) rfl dX12_shares_80 ?_
              refine g_goto (pc := 83) X 15 (by decide) dX12_shares_83 ?_
              refine g_ws (ws' := [(g0, .inr (12, mO gA nr tm at_ to_ fa va np tn pc_ st_ pa_ ta ow of_ ot rl hb bs se)), cA Z (gA 13) 0 7 Mw, cA Z (gA 14) 0 7 Mo, cR Z (gA 0) 6 7 (gG 0), cR Z (gA 4) 6 7 (gG 4), cR Z (gA 5) 6 7 (gG 5), cR Z (gA 6) 6 7 (gG 6), cR Z (gA 9) 6 7 (gG 9), cA Z (xA 0) 0 8 Ml, cA Z (xA 4) 0 8 Mow, cA Z (xA 5) 0 8 Mof, cA Z (xA 6) 0 8 Mot, cA Z (xA 9) 0 8 Md, cA Z (gA 58) 0 4 Bp, cA Z (gA 59) 0 4 Br, cA Z (gA 60) 0 8 Wo, cA Z (gA 61) 0 8 Wf, cA Z (gA 62) 0 8 Wb, cA Z (gA 63) 0 4 Wg]) [6, 7, 8, 9, 10, 11, 12, 13, 14, 15, 16, 17, 18, 0, 1, 2, 3, 4, 5] (by decide) rfl ?_
              exact ih (n1 + 0) (k1 + 1) (by (first | (clear b_nr b_tm b_at_ b_to_ b_fa b_va b_np b_tn b_pc_ b_st_ b_pa_ b_ta b_ow b_of_ b_ot b_rl b_hb b_bs b_se; omega) | omega)) (by (first | (clear b_nr b_tm b_at_ b_to_ b_fa b_va b_np b_tn b_pc_ b_st_ b_pa_ b_ta b_ow b_of_ b_ot b_rl b_hb b_bs b_se; omega) | omega)) (by (first | (clear b_nr b_tm b_at_ b_to_ b_fa b_va b_np b_tn b_pc_ b_st_ b_pa_ b_ta b_ow b_of_ b_ot b_rl b_hb b_bs b_se; omega) | omega))
            · refine g_iconst (pc := 73) X (iI 1) (by rfl) dX12_shares_73 ?_
              refine g_goto (pc := 74) X 78 (by decide) dX12_shares_74 ?_
              refine g_iaddI (pc := 78) X dX12_shares_78 ?_
              refine g_any (fun y22 by22 => ?_)
              refine g_istore_n (pc := 79) X (i := 3) rfl (by decide) (lv' := [(3, .int (iI y22)), (4, .int (iI k1)), (0, .ref g0), (1, .int (iI rm)), (2, .int (iI w))]) rfl dX12_shares_79 ?_
              refine g_iincI (pc := 80) X 1 rfl (by decide) (lv' := [(4, .int (iI (k1 + 1))), (3, .int (iI y22)), (0, .ref g0), (1, .int (iI rm)), (2, .int (iI w))]) rfl dX12_shares_80 ?_
              refine g_goto (pc := 83) X 15 (by decide) dX12_shares_83 ?_
              refine g_ws (ws' := [(g0, .inr (12, mO gA nr tm at_ to_ fa va np tn pc_ st_ pa_ ta ow of_ ot rl hb bs se)), cA Z (gA 13) 0 7 Mw, cA Z (gA 14) 0 7 Mo, cR Z (gA 0) 6 7 (gG 0), cR Z (gA 4) 6 7 (gG 4), cR Z (gA 5) 6 7 (gG 5), cR Z (gA 6) 6 7 (gG 6), cR Z (gA 9) 6 7 (gG 9), cA Z (xA 0) 0 8 Ml, cA Z (xA 4) 0 8 Mow, cA Z (xA 5) 0 8 Mof, cA Z (xA 6) 0 8 Mot, cA Z (xA 9) 0 8 Md, cA Z (gA 58) 0 4 Bp, cA Z (gA 59) 0 4 Br, cA Z (gA 60) 0 8 Wo, cA Z (gA 61) 0 8 Wf, cA Z (gA 62) 0 8 Wb, cA Z (gA 63) 0 4 Wg]) [6, 7, 8, 9, 10, 11, 12, 13, 14, 15, 16, 17, 18, 0, 1, 2, 3, 4, 5] (by decide) rfl ?_
              exact ih y22 (k1 + 1) (by22) (by (first | (clear b_nr b_tm b_at_ b_to_ b_fa b_va b_np b_tn b_pc_ b_st_ b_pa_ b_ta b_ow b_of_ b_ot b_rl b_hb b_bs b_se; omega) | omega)) (by (first | (clear b_nr b_tm b_at_ b_to_ b_fa b_va b_np b_tn b_pc_ b_st_ b_pa_ b_ta b_ow b_of_ b_ot b_rl b_hb b_bs b_se; omega) | omega))
  exact loop15 _ 0 0 (by (first | (clear b_nr b_tm b_at_ b_to_ b_fa b_va b_np b_tn b_pc_ b_st_ b_pa_ b_ta b_ow b_of_ b_ot b_rl b_hb b_bs b_se; omega) | omega)) (by (first | (clear b_nr b_tm b_at_ b_to_ b_fa b_va b_np b_tn b_pc_ b_st_ b_pa_ b_ta b_ow b_of_ b_ot b_rl b_hb b_bs b_se; omega) | omega)) (Nat.lt_succ_self _)

set_option maxHeartbeats 4000000 in
set_option maxRecDepth 100000 in
theorem k_X12_shares1 (l : Launch) (Z : gZ) (g0 : Nat) (gA : Nat → Nat) (gG : Nat → Nat → Option Nat) (xA : Nat → Nat) (Mw : Nat → Int) (Mo : Nat → Int) (Ml : Nat → Int) (Mow : Nat → Int) (Mof : Nat → Int) (Mot : Nat → Int) (Md : Nat → Int) (Bp : Nat → Int) (Br : Nat → Int) (Wo : Nat → Int) (Wf : Nat → Int) (Wb : Nat → Int) (Wg : Nat → Int) (rm : Int) (w : Int) (nr : Int) (tm : Int) (at_ : Int) (to_ : Int) (fa : Int) (va : Int) (np : Int) (tn : Int) (pc_ : Int) (st_ : Int) (pa_ : Int) (ta : Int) (ow : Int) (of_ : Int) (ot : Int) (rl : Int) (hb : Int) (bs : Int) (se : Int) (b_rm : 0 ≤ rm ∧ rm ≤ 5) (b_w : 0 ≤ w ∧ w ≤ 8) (b_nr : 0 ≤ nr ∧ nr ≤ 6) (b_tm : 0 ≤ tm ∧ tm ≤ 400) (b_at_ : 0 ≤ at_ ∧ at_ ≤ 400) (b_to_ : 0 ≤ to_ ∧ to_ ≤ 400) (b_fa : (-1) ≤ fa ∧ fa ≤ 400) (b_va : (-2147483648) ≤ va ∧ va ≤ 2147483647) (b_np : 0 ≤ np ∧ np ≤ 4) (b_tn : 0 ≤ tn ∧ tn ≤ 20) (b_pc_ : 0 ≤ pc_ ∧ pc_ ≤ 480) (b_st_ : 0 ≤ st_ ∧ st_ ≤ 240) (b_pa_ : (-1) ≤ pa_ ∧ pa_ ≤ 3) (b_ta : (-2147483648) ≤ ta ∧ ta ≤ 2147483647) (b_ow : (-2147483648) ≤ ow ∧ ow ≤ 2147483647) (b_of_ : (-2147483648) ≤ of_ ∧ of_ ≤ 2147483647) (b_ot : (-2147483648) ≤ ot ∧ ot ≤ 2147483647) (b_rl : 0 ≤ rl ∧ rl ≤ 2880) (b_hb : 0 ≤ hb ∧ hb ≤ 4) (b_bs : (-2147483648) ≤ bs ∧ bs ≤ 2147483647) (b_se : 0 ≤ se ∧ se ≤ 10) (hG : ∀ k, gG k rm.toNat = some (xA k)) (hwn : 1 ≤ Mw rm.toNat ∧ Mw rm.toNat ≤ 8) (hd : Mw rm.toNat - w ≤ 1) (hw : w ≤ Mw rm.toNat) (h_Mw : ∀ j, j < 7 → 0 ≤ Mw j ∧ Mw j ≤ 8) (h_Mo : ∀ j, j < 7 → 0 ≤ Mo j ∧ Mo j ≤ 8) (h_Ml : ∀ j, j < 8 → 0 ≤ Ml j ∧ Ml j ≤ 600) (h_Mow : ∀ j, j < 8 → 0 ≤ Mow j ∧ Mow j ≤ 7) (h_Mof : ∀ j, j < 8 → 0 ≤ Mof j ∧ Mof j ≤ 600) (h_Mot : ∀ j, j < 8 → 0 ≤ Mot j ∧ Mot j ≤ 600) (h_Md : ∀ j, j < 8 → 0 ≤ Md j ∧ Md j ≤ 1) (h_Bp : ∀ j, j < 4 → (-2147483648) ≤ Bp j ∧ Bp j ≤ 2147483647) (h_Br : ∀ j, j < 4 → (-2147483648) ≤ Br j ∧ Br j ≤ 2147483647) (h_Wo : ∀ j, j < 8 → (-2147483648) ≤ Wo j ∧ Wo j ≤ 2147483647) (h_Wf : ∀ j, j < 8 → (-2147483648) ≤ Wf j ∧ Wf j ≤ 2147483647) (h_Wb : ∀ j, j < 8 → (-2147483648) ≤ Wb j ∧ Wb j ≤ 2147483647) (h_Wg : ∀ j, j < 4 → (-2147483648) ≤ Wg j ∧ Wg j ≤ 2147483647) : Con l Z yX12_shares cX12_shares 5 none 2 48 0 0 [.ref g0, .int (iI rm), .int (iI w)] [(g0, .inr (12, mO gA nr tm at_ to_ fa va np tn pc_ st_ pa_ ta ow of_ ot rl hb bs se)), cA Z (gA 13) 0 7 Mw, cA Z (gA 14) 0 7 Mo, cR Z (gA 0) 6 7 (gG 0), cR Z (gA 4) 6 7 (gG 4), cR Z (gA 5) 6 7 (gG 5), cR Z (gA 6) 6 7 (gG 6), cR Z (gA 9) 6 7 (gG 9), cA Z (xA 0) 0 8 Ml, cA Z (xA 4) 0 8 Mow, cA Z (xA 5) 0 8 Mof, cA Z (xA 6) 0 8 Mot, cA Z (xA 9) 0 8 Md, cA Z (gA 58) 0 4 Bp, cA Z (gA 59) 0 4 Br, cA Z (gA 60) 0 8 Wo, cA Z (gA 61) 0 8 Wf, cA Z (gA 62) 0 8 Wb, cA Z (gA 63) 0 4 Wg] (fun r w' => ∃ (Wf2 : Nat → Int) (Wb2 : Nat → Int) (Wg2 : Nat → Int) (bs2 : Int), (r = none) ∧ (w' = [(g0, .inr (12, mO gA nr tm at_ to_ fa va np tn pc_ st_ pa_ ta ow of_ ot rl hb bs2 se)), cA Z (gA 13) 0 7 Mw, cA Z (gA 14) 0 7 Mo, cR Z (gA 0) 6 7 (gG 0), cR Z (gA 4) 6 7 (gG 4), cR Z (gA 5) 6 7 (gG 5), cR Z (gA 6) 6 7 (gG 6), cR Z (gA 9) 6 7 (gG 9), cA Z (xA 0) 0 8 Ml, cA Z (xA 4) 0 8 Mow, cA Z (xA 5) 0 8 Mof, cA Z (xA 6) 0 8 Mot, cA Z (xA 9) 0 8 Md, cA Z (gA 58) 0 4 Bp, cA Z (gA 59) 0 4 Br, cA Z (gA 60) 0 8 Wo, cA Z (gA 61) 0 8 Wf2, cA Z (gA 62) 0 8 Wb2, cA Z (gA 63) 0 4 Wg2]) ∧ ((-2147483648) ≤ bs2 ∧ bs2 ≤ 2147483647) ∧ (∀ j, j < 8 → (-2147483648) ≤ Wf2 j ∧ Wf2 j ≤ 2147483647) ∧ (∀ j, j < 8 → (-2147483648) ≤ Wb2 j ∧ Wb2 j ≤ 2147483647) ∧ (∀ j, j < 4 → (-2147483648) ≤ Wg2 j ∧ Wg2 j ≤ 2147483647)) := by
  refine enter (by decide) (Nat.le_of_ble_eq_true rfl) ?_
  intro p e s m args below meth c A X hnm hA
  have X : Cx p s m args meth c cX12_shares 5 none RX12 Z A := X
  refine g_as (pc' := 0) (lv' := [(0, .ref g0), (1, .int (iI rm)), (2, .int (iI w))]) (st' := []) (ws' := [(g0, .inr (12, mO gA nr tm at_ to_ fa va np tn pc_ st_ pa_ ta ow of_ ot rl hb bs se)), cA Z (gA 13) 0 7 Mw, cA Z (gA 14) 0 7 Mo, cR Z (gA 0) 6 7 (gG 0), cR Z (gA 4) 6 7 (gG 4), cR Z (gA 5) 6 7 (gG 5), cR Z (gA 6) 6 7 (gG 6), cR Z (gA 9) 6 7 (gG 9), cA Z (xA 0) 0 8 Ml, cA Z (xA 4) 0 8 Mow, cA Z (xA 5) 0 8 Mof, cA Z (xA 6) 0 8 Mot, cA Z (xA 9) 0 8 Md, cA Z (gA 58) 0 4 Bp, cA Z (gA 59) 0 4 Br, cA Z (gA 60) 0 8 Wo, cA Z (gA 61) 0 8 Wf, cA Z (gA 62) 0 8 Wb, cA Z (gA 63) 0 4 Wg]) rfl rfl rfl rfl ?_
  refine g_iload_n (pc := 0) X 2 rfl dX12_shares_0 ?_
  refine g_aload_n (pc := 1) X 0 rfl dX12_shares_1 ?_
  refine g_get (pc := 2) X inlX12 0 rfl rfl 13 (by decide) mw_8_1 rfl dX12_shares_2 ?_
  refine g_iload_n (pc := 5) X 1 rfl dX12_shares_5 ?_
  refine g_ialdI (pc := 6) X 1 rfl (b_rm.1) (Int.lt_of_le_of_lt b_rm.2 (by decide)) (Int.le_trans b_rm.2 (by decide)) dX12_shares_6 ?_
  refine g_nameI (fun y1 ey1 => ?_)
  have by1 : 0 ≤ y1 ∧ y1 ≤ 8 := by rw [ey1]; exact h_Mw _ (by (first | (clear b_nr b_tm b_at_ b_to_ b_fa b_va b_np b_tn b_pc_ b_st_ b_pa_ b_ta b_ow b_of_ b_ot b_rl b_hb b_bs b_se; omega) | omega))
  have ty1 : 1 ≤ y1 ∧ y1 ≤ 8 := by rw [ey1]; exact hwn
  refine g_icmp_neI (pc := 7) X 143 (by decide) (inRb b_w (by decide) (by decide)) (inRb by1 (by decide) (by decide)) dX12_shares_7 (fun c7 => ?_) (fun c7 => ?_)
  · refine g_iconst (pc := 143) X (iI 0) (by rfl) dX12_shares_143 ?_
    refine g_istore_n (pc := 144) X (i := 3) rfl (by decide) (lv' := [(3, .int (iI 0)), (0, .ref g0), (1, .int (iI rm)), (2, .int (iI w))]) rfl dX12_shares_144 ?_
    have loop145 : ∀ (fuel : Nat) (b3 : Int) (bs1 : Int) (Wf1 : Nat → Int) (Wb1 : Nat → Int) (Wg1 : Nat → Int), (0 ≤ b3 ∧ b3 ≤ 4) → ((-2147483648) ≤ bs1 ∧ bs1 ≤ 2147483647) → (∀ j, j < 8 → (-2147483648) ≤ Wf1 j ∧ Wf1 j ≤ 2147483647) → (∀ j, j < 8 → (-2147483648) ≤ Wb1 j ∧ Wb1 j ≤ 2147483647) → (∀ j, j < 4 → (-2147483648) ≤ Wg1 j ∧ Wg1 j ≤ 2147483647) → (5 - b3).toNat < fuel → Gs p l e ({ frames := 2, cells := 0, slots := 0, locals := 48 } : Room) s m args below meth c (MQ below (gPost Z [(g0, .inr (12, mO gA nr tm at_ to_ fa va np tn pc_ st_ pa_ ta ow of_ ot rl hb bs se)), cA Z (gA 13) 0 7 Mw, cA Z (gA 14) 0 7 Mo, cR Z (gA 0) 6 7 (gG 0), cR Z (gA 4) 6 7 (gG 4), cR Z (gA 5) 6 7 (gG 5), cR Z (gA 6) 6 7 (gG 6), cR Z (gA 9) 6 7 (gG 9), cA Z (xA 0) 0 8 Ml, cA Z (xA 4) 0 8 Mow, cA Z (xA 5) 0 8 Mof, cA Z (xA 6) 0 8 Mot, cA Z (xA 9) 0 8 Md, cA Z (gA 58) 0 4 Bp, cA Z (gA 59) 0 4 Br, cA Z (gA 60) 0 8 Wo, cA Z (gA 61) 0 8 Wf, cA Z (gA 62) 0 8 Wb, cA Z (gA 63) 0 4 Wg] s.heap.size (fun r w' => ∃ (Wf2 : Nat → Int) (Wb2 : Nat → Int) (Wg2 : Nat → Int) (bs2 : Int), (r = none) ∧ (w' = [(g0, .inr (12, mO gA nr tm at_ to_ fa va np tn pc_ st_ pa_ ta ow of_ ot rl hb bs2 se)), cA Z (gA 13) 0 7 Mw, cA Z (gA 14) 0 7 Mo, cR Z (gA 0) 6 7 (gG 0), cR Z (gA 4) 6 7 (gG 4), cR Z (gA 5) 6 7 (gG 5), cR Z (gA 6) 6 7 (gG 6), cR Z (gA 9) 6 7 (gG 9), cA Z (xA 0) 0 8 Ml, cA Z (xA 4) 0 8 Mow, cA Z (xA 5) 0 8 Mof, cA Z (xA 6) 0 8 Mot, cA Z (xA 9) 0 8 Md, cA Z (gA 58) 0 4 Bp, cA Z (gA 59) 0 4 Br, cA Z (gA 60) 0 8 Wo, cA Z (gA 61) 0 8 Wf2, cA Z (gA 62) 0 8 Wb2, cA Z (gA 63) 0 4 Wg2]) ∧ ((-2147483648) ≤ bs2 ∧ bs2 ≤ 2147483647) ∧ (∀ j, j < 8 → (-2147483648) ≤ Wf2 j ∧ Wf2 j ≤ 2147483647) ∧ (∀ j, j < 8 → (-2147483648) ≤ Wb2 j ∧ Wb2 j ≤ 2147483647) ∧ (∀ j, j < 4 → (-2147483648) ≤ Wg2 j ∧ Wg2 j ≤ 2147483647))) args s 0 0 (va_A [(g0, .inr (12, mO gA nr tm at_ to_ fa va np tn pc_ st_ pa_ ta ow of_ ot rl hb bs se)), cA Z (gA 13) 0 7 Mw, cA Z (gA 14) 0 7 Mo, cR Z (gA 0) 6 7 (gG 0), cR Z (gA 4) 6 7 (gG 4), cR Z (gA 5) 6 7 (gG 5), cR Z (gA 6) 6 7 (gG 6), cR Z (gA 9) 6 7 (gG 9), cA Z (xA 0) 0 8 Ml, cA Z (xA 4) 0 8 Mow, cA Z (xA 5) 0 8 Mof, cA Z (xA 6) 0 8 Mot, cA Z (xA 9) 0 8 Md, cA Z (gA 58) 0 4 Bp, cA Z (gA 59) 0 4 Br, cA Z (gA 60) 0 8 Wo, cA Z (gA 61) 0 8 Wf, cA Z (gA 62) 0 8 Wb, cA Z (gA 63) 0 4 Wg] s.heap.size)) Z A 5 0 0 145 [(3, .int (iI b3)), (0, .ref g0), (1, .int (iI rm)), (2, .int (iI w))] [] [(g0, .inr (12, mO gA nr tm at_ to_ fa va np tn pc_ st_ pa_ ta ow of_ ot rl hb bs1 se)), cA Z (gA 13) 0 7 Mw, cA Z (gA 14) 0 7 Mo, cR Z (gA 0) 6 7 (gG 0), cR Z (gA 4) 6 7 (gG 4), cR Z (gA 5) 6 7 (gG 5), cR Z (gA 6) 6 7 (gG 6), cR Z (gA 9) 6 7 (gG 9), cA Z (xA 0) 0 8 Ml, cA Z (xA 4) 0 8 Mow, cA Z (xA 5) 0 8 Mof, cA Z (xA 6) 0 8 Mot, cA Z (xA 9) 0 8 Md, cA Z (gA 58) 0 4 Bp, cA Z (gA 59) 0 4 Br, cA Z (gA 60) 0 8 Wo, cA Z (gA 61) 0 8 Wf1, cA Z (gA 62) 0 8 Wb1, cA Z (gA 63) 0 4 Wg1] := by
      intro fuel
      induction fuel with
      | zero => intro b3 bs1 Wf1 Wb1 Wg1 _ _ _ _ _ hm; exact absurd hm (Nat.not_lt_zero _)
      | succ fuel ih =>
        intro b3 bs1 Wf1 Wb1 Wg1 b_b3 b_bs1 h_Wf1 h_Wb1 h_Wg1 hm
        refine g_iload_n (pc := 145) X 0 rfl dX12_shares_145 ?_
        refine g_aload_n (pc := 146) X 1 rfl dX12_shares_146 ?_
        refine g_get (pc := 147) X inlX12 0 rfl rfl 64 (by decide) mw_47_13 rfl dX12_shares_147 ?_
        refine g_icmp_geI (pc := 150) X 242 (by decide) (inRb b_b3 (by decide) (by decide)) (inRb b_hb (by decide) (by decide)) dX12_shares_150 (fun c150 => ?_) (fun c150 => ?_)
        · exact g_vret (pc := 242) X hA (⟨Wf1, Wb1, Wg1, bs1, rfl, rfl, (b_bs1), (h_Wf1), (h_Wb1), (h_Wg1)⟩) (by decide) (by decide) dX12_shares_242
        · refine g_aload_n (pc := 153) X 1 rfl dX12_shares_153 ?_
          refine g_get (pc := 154) X inlX12 0 rfl rfl 58 (by decide) mw_9_9 rfl dX12_shares_154 ?_
          refine g_iload_n (pc := 157) X 0 rfl dX12_shares_157 ?_
          refine g_ialdI (pc := 158) X 13 rfl (b_b3.1) (by (first | (clear b_nr b_tm b_at_ b_to_ b_fa b_va b_np b_tn b_pc_ b_st_ b_pa_ b_ta b_ow b_of_ b_ot b_rl b_hb b_bs b_se; omega) | omega)) (Int.le_trans b_b3.2 (by decide)) dX12_shares_158 ?_
          refine g_nameI (fun y2 ey2 => ?_)
          have by2 : (-2147483648) ≤ y2 ∧ y2 ≤ 2147483647 := by rw [ey2]; exact h_Bp _ (by (first | (clear b_nr b_tm b_at_ b_to_ b_fa b_va b_np b_tn b_pc_ b_st_ b_pa_ b_ta b_ow b_of_ b_ot b_rl b_hb b_bs b_se; omega) | omega))
          refine g_aload_n (pc := 159) X 1 rfl dX12_shares_159 ?_
          refine g_get (pc := 160) X inlX12 0 rfl rfl 49 (by decide) mw_28_2 rfl dX12_shares_160 ?_
          refine g_icmp_neI (pc := 163) X 236 (by decide) by2 (inRb b_pa_ (by decide) (by decide)) dX12_shares_163 (fun c163 => ?_) (fun c163 => ?_)
          · refine g_iincI (pc := 236) X 0 rfl (by decide) (lv' := [(3, .int (iI (b3 + 1))), (0, .ref g0), (1, .int (iI rm)), (2, .int (iI w))]) rfl dX12_shares_236 ?_
            refine g_goto (pc := 239) X 145 (by decide) dX12_shares_239 ?_
            exact ih (b3 + 1) bs1 Wf1 Wb1 Wg1 (by (first | (clear b_nr b_tm b_at_ b_to_ b_fa b_va b_np b_tn b_pc_ b_st_ b_pa_ b_ta b_ow b_of_ b_ot b_rl b_hb b_bs b_se; omega) | omega)) (b_bs1) (h_Wf1) (h_Wb1) (h_Wg1) (by (first | (clear b_nr b_tm b_at_ b_to_ b_fa b_va b_np b_tn b_pc_ b_st_ b_pa_ b_ta b_ow b_of_ b_ot b_rl b_hb b_bs b_se; omega) | omega))
          · refine g_aload_n (pc := 166) X 1 rfl dX12_shares_166 ?_
            refine g_get (pc := 167) X inlX12 0 rfl rfl 63 (by decide) mw_9_14 rfl dX12_shares_167 ?_
            refine g_iload_n (pc := 170) X 0 rfl dX12_shares_170 ?_
            refine g_ialdI (pc := 171) X 18 rfl (b_b3.1) (by (first | (clear b_nr b_tm b_at_ b_to_ b_fa b_va b_np b_tn b_pc_ b_st_ b_pa_ b_ta b_ow b_of_ b_ot b_rl b_hb b_bs b_se; omega) | omega)) (Int.le_trans b_b3.2 (by decide)) dX12_shares_171 ?_
            refine g_nameI (fun y3 ey3 => ?_)
            have by3 : (-2147483648) ≤ y3 ∧ y3 ≤ 2147483647 := by rw [ey3]; exact h_Wg1 _ (by (first | (clear b_nr b_tm b_at_ b_to_ b_fa b_va b_np b_tn b_pc_ b_st_ b_pa_ b_ta b_ow b_of_ b_ot b_rl b_hb b_bs b_se; omega) | omega))
            refine g_aload_n (pc := 172) X 1 rfl dX12_shares_172 ?_
            refine g_get (pc := 173) X inlX12 0 rfl rfl 60 (by decide) mw_9_11 rfl dX12_shares_173 ?_
            refine g_iload_n (pc := 176) X 3 rfl dX12_shares_176 ?_
            refine g_ialdI (pc := 177) X 15 rfl (b_w.1) (by (first | (clear b_nr b_tm b_at_ b_to_ b_fa b_va b_np b_tn b_pc_ b_st_ b_pa_ b_ta b_ow b_of_ b_ot b_rl b_hb b_bs b_se; omega) | omega)) (Int.le_trans b_w.2 (by decide)) dX12_shares_177 ?_
            refine g_nameI (fun y4 ey4 => ?_)
            have by4 : (-2147483648) ≤ y4 ∧ y4 ≤ 2147483647 := by rw [ey4]; exact h_Wo _ (by (first | (clear b_nr b_tm b_at_ b_to_ b_fa b_va b_np b_tn b_pc_ b_st_ b_pa_ b_ta b_ow b_of_ b_ot b_rl b_hb b_bs b_se; omega) | omega))
            refine g_iaddI (pc := 178) X dX12_shares_178 ?_
            refine g_any (fun y5 by5 => ?_)
            refine g_aload_n (pc := 179) X 1 rfl dX12_shares_179 ?_
            refine g_get (pc := 180) X inlX12 0 rfl rfl 59 (by decide) mw_9_10 rfl dX12_shares_180 ?_
            refine g_iload_n (pc := 183) X 0 rfl dX12_shares_183 ?_
            refine g_ialdI (pc := 184) X 14 rfl (b_b3.1) (by (first | (clear b_nr b_tm b_at_ b_to_ b_fa b_va b_np b_tn b_pc_ b_st_ b_pa_ b_ta b_ow b_of_ b_ot b_rl b_hb b_bs b_se; omega) | omega)) (Int.le_trans b_b3.2 (by decide)) dX12_shares_184 ?_
            refine g_nameI (fun y6 ey6 => ?_)
            have by6 : (-2147483648) ≤ y6 ∧ y6 ≤ 2147483647 := by rw [ey6]; exact h_Br _ (by (first | (clear b_nr b_tm b_at_ b_to_ b_fa b_va b_np b_tn b_pc_ b_st_ b_pa_ b_ta b_ow b_of_ b_ot b_rl b_hb b_bs b_se; omega) | omega))
            refine g_icmp_leI (pc := 185) X 191 (by decide) by5 by6 dX12_shares_185 (fun c185 => ?_) (fun c185 => ?_)
            · refine g_aload_n (pc := 191) X 1 rfl dX12_shares_191 ?_
              refine g_get (pc := 192) X inlX12 0 rfl rfl 63 (by decide) mw_9_14 rfl dX12_shares_192 ?_
              refine g_iload_n (pc := 195) X 0 rfl dX12_shares_195 ?_
              refine g_dup2 (pc := 196) X rfl rfl dX12_shares_196 ?_
              refine g_ialdI (pc := 197) X 18 rfl (b_b3.1) (by (first | (clear b_nr b_tm b_at_ b_to_ b_fa b_va b_np b_tn b_pc_ b_st_ b_pa_ b_ta b_ow b_of_ b_ot b_rl b_hb b_bs b_se; omega) | omega)) (Int.le_trans b_b3.2 (by decide)) dX12_shares_197 ?_
              refine g_nameI (fun y7 ey7 => ?_)
              have by7 : (-2147483648) ≤ y7 ∧ y7 ≤ 2147483647 := by rw [ey7]; exact h_Wg1 _ (by (first | (clear b_nr b_tm b_at_ b_to_ b_fa b_va b_np b_tn b_pc_ b_st_ b_pa_ b_ta b_ow b_of_ b_ot b_rl b_hb b_bs b_se; omega) | omega))
              refine g_aload_n (pc := 198) X 1 rfl dX12_shares_198 ?_
              refine g_get (pc := 199) X inlX12 0 rfl rfl 60 (by decide) mw_9_11 rfl dX12_shares_199 ?_
              refine g_iload_n (pc := 202) X 3 rfl dX12_shares_202 ?_
              refine g_ialdI (pc := 203) X 15 rfl (b_w.1) (by (first | (clear b_nr b_tm b_at_ b_to_ b_fa b_va b_np b_tn b_pc_ b_st_ b_pa_ b_ta b_ow b_of_ b_ot b_rl b_hb b_bs b_se; omega) | omega)) (Int.le_trans b_w.2 (by decide)) dX12_shares_203 ?_
              refine g_nameI (fun y8 ey8 => ?_)
              have by8 : (-2147483648) ≤ y8 ∧ y8 ≤ 2147483647 := by rw [ey8]; exact h_Wo _ (by (first | (clear b_nr b_tm b_at_ b_to_ b_fa b_va b_np b_tn b_pc_ b_st_ b_pa_ b_ta b_ow b_of_ b_ot b_rl b_hb b_bs b_se; omega) | omega))
              refine g_iaddI (pc := 204) X dX12_shares_204 ?_
              refine g_any (fun y9 by9 => ?_)
              refine g_iastG (pc := 205) X 18 rfl (b_b3.1) (by (first | (clear b_nr b_tm b_at_ b_to_ b_fa b_va b_np b_tn b_pc_ b_st_ b_pa_ b_ta b_ow b_of_ b_ot b_rl b_hb b_bs b_se; omega) | omega)) (Int.le_trans b_b3.2 (by decide)) (ws' := fun F10 => [(g0, .inr (12, mO gA nr tm at_ to_ fa va np tn pc_ st_ pa_ ta ow of_ ot rl hb bs1 se)), cA Z (gA 13) 0 7 Mw, cA Z (gA 14) 0 7 Mo, cR Z (gA 0) 6 7 (gG 0), cR Z (gA 4) 6 7 (gG 4), cR Z (gA 5) 6 7 (gG 5), cR Z (gA 6) 6 7 (gG 6), cR Z (gA 9) 6 7 (gG 9), cA Z (xA 0) 0 8 Ml, cA Z (xA 4) 0 8 Mow, cA Z (xA 5) 0 8 Mof, cA Z (xA 6) 0 8 Mot, cA Z (xA 9) 0 8 Md, cA Z (gA 58) 0 4 Bp, cA Z (gA 59) 0 4 Br, cA Z (gA 60) 0 8 Wo, cA Z (gA 61) 0 8 Wf1, cA Z (gA 62) 0 8 Wb1, cA Z (gA 63) 0 4 F10]) (fun _ => rfl) dX12_shares_205 (fun F10 eF10 => ?_)
              have hF10 : ∀ j, j < 4 → (-2147483648) ≤ F10 j ∧ F10 j ≤ 2147483647 := by rw [eF10]; exact updI_B h_Wg1 (by (first | (clear b_nr b_tm b_at_ b_to_ b_fa b_va b_np b_tn b_pc_ b_st_ b_pa_ b_ta b_ow b_of_ b_ot b_rl b_hb b_bs b_se; omega) | omega))
              refine g_aload_n (pc := 206) X 1 rfl dX12_shares_206 ?_
              refine g_get (pc := 207) X inlX12 0 rfl rfl 61 (by decide) mw_9_12 rfl dX12_shares_207 ?_
              refine g_iload_n (pc := 210) X 3 rfl dX12_shares_210 ?_
              refine g_iload_n (pc := 211) X 0 rfl dX12_shares_211 ?_
              refine g_iastG (pc := 212) X 16 rfl (b_w.1) (by (first | (clear b_nr b_tm b_at_ b_to_ b_fa b_va b_np b_tn b_pc_ b_st_ b_pa_ b_ta b_ow b_of_ b_ot b_rl b_hb b_bs b_se; omega) | omega)) (Int.le_trans b_w.2 (by decide)) (ws' := fun F11 => [(g0, .inr (12, mO gA nr tm at_ to_ fa va np tn pc_ st_ pa_ ta ow of_ ot rl hb bs1 se)), cA Z (gA 13) 0 7 Mw, cA Z (gA 14) 0 7 Mo, cR Z (gA 0) 6 7 (gG 0), cR Z (gA 4) 6 7 (gG 4), cR Z (gA 5) 6 7 (gG 5), cR Z (gA 6) 6 7 (gG 6), cR Z (gA 9) 6 7 (gG 9), cA Z (xA 0) 0 8 Ml, cA Z (xA 4) 0 8 Mow, cA Z (xA 5) 0 8 Mof, cA Z (xA 6) 0 8 Mot, cA Z (xA 9) 0 8 Md, cA Z (gA 58) 0 4 Bp, cA Z (gA 59) 0 4 Br, cA Z (gA 60) 0 8 Wo, cA Z (gA 61) 0 8 F11, cA Z (gA 62) 0 8 Wb1, cA Z (gA 63) 0 4 F10]) (fun _ => rfl) dX12_shares_212 (fun F11 eF11 => ?_)
              have hF11 : ∀ j, j < 8 → (-2147483648) ≤ F11 j ∧ F11 j ≤ 2147483647 := by rw [eF11]; exact updI_B h_Wf1 (by (first | (clear b_nr b_tm b_at_ b_to_ b_fa b_va b_np b_tn b_pc_ b_st_ b_pa_ b_ta b_ow b_of_ b_ot b_rl b_hb b_bs b_se; omega) | omega))
              refine g_aload_n (pc := 213) X 1 rfl dX12_shares_213 ?_
              refine g_iload_n (pc := 214) X 2 rfl dX12_shares_214 ?_
              refine g_iload_n (pc := 215) X 3 rfl dX12_shares_215 ?_
              refine g_iconst (pc := 216) X (iI 1) (by rfl) dX12_shares_216 ?_
              refine g_iaddI (pc := 217) X dX12_shares_217 ?_
              refine g_callV (pc := 218) X (k_X12_shares0 l Z g0 gA gG xA Mw Mo Ml Mow Mof Mot Md Bp Br Wo F11 Wb1 F10 rm (w + 1) nr tm at_ to_ fa va np tn pc_ st_ pa_ ta ow of_ ot rl hb bs1 se b_rm (by (first | (clear b_nr b_tm b_at_ b_to_ b_fa b_va b_np b_tn b_pc_ b_st_ b_pa_ b_ta b_ow b_of_ b_ot b_rl b_hb b_bs b_se; omega) | omega)) b_nr b_tm b_at_ b_to_ b_fa b_va b_np b_tn b_pc_ b_st_ b_pa_ b_ta b_ow b_of_ b_ot b_rl b_hb b_bs1 b_se (hG) (by (first | (clear b_nr b_tm b_at_ b_to_ b_fa b_va b_np b_tn b_pc_ b_st_ b_pa_ b_ta b_ow b_of_ b_ot b_rl b_hb b_bs b_se; omega) | omega)) (by (first | (clear b_nr b_tm b_at_ b_to_ b_fa b_va b_np b_tn b_pc_ b_st_ b_pa_ b_ta b_ow b_of_ b_ot b_rl b_hb b_bs b_se; omega) | omega)) (by (first | (clear b_nr b_tm b_at_ b_to_ b_fa b_va b_np b_tn b_pc_ b_st_ b_pa_ b_ta b_ow b_of_ b_ot b_rl b_hb b_bs b_se; omega) | omega)) (h_Mw) (h_Mo) (h_Ml) (h_Mow) (h_Mof) (h_Mot) (h_Md) (h_Bp) (h_Br) (h_Wo) (hF11) (h_Wb1) (hF10)) iM_X12_shares mw_50_2 mw_50_3 mw_50_4 0 rfl rfl [0, 1, 2, 3, 4, 5, 6, 7, 8, 9, 10, 11, 12, 13, 14, 15, 16, 17, 18] [] rfl (wr := []) rfl (by decide) rfl rfl (Nat.le_of_ble_eq_true rfl) (by decide) dX12_shares_218 (fun r w' hpo => ?_)
              refine exN_4 hpo fun F12 F13 F14 y15 hz => anD_6 hz fun e_r e_w hf218_b_bs2 hf218_h_Wf2 hf218_h_Wb2 hf218_h_Wg2 => ?_; clear hz hpo; subst e_r; subst e_w
              refine g_as (pc' := 221) (lv' := [(3, .int (iI b3)), (0, .ref g0), (1, .int (iI rm)), (2, .int (iI w))]) (st' := []) (ws' := [(g0, .inr (12, mO gA nr tm at_ to_ fa va np tn pc_ st_ pa_ ta ow of_ ot rl hb y15 se)), cA Z (gA 13) 0 7 Mw, cA Z (gA 14) 0 7 Mo, cR Z (gA 0) 6 7 (gG 0), cR Z (gA 4) 6 7 (gG 4), cR Z (gA 5) 6 7 (gG 5), cR Z (gA 6) 6 7 (gG 6), cR Z (gA 9) 6 7 (gG 9), cA Z (xA 0) 0 8 Ml, cA Z (xA 4) 0 8 Mow, cA Z (xA 5) 0 8 Mof, cA Z (xA 6) 0 8 Mot, cA Z (xA 9) 0 8 Md, cA Z (gA 58) 0 4 Bp, cA Z (gA 59) 0 4 Br, cA Z (gA 60) 0 8 Wo, cA Z (gA 61) 0 8 F12, cA Z (gA 62) 0 8 F13, cA Z (gA 63) 0 4 F14]) rfl rfl rfl rfl ?_
              refine g_aload_n (pc := 221) X 1 rfl dX12_shares_221 ?_
              refine g_get (pc := 222) X inlX12 0 rfl rfl 63 (by decide) mw_9_14 rfl dX12_shares_222 ?_
              refine g_iload_n (pc := 225) X 0 rfl dX12_shares_225 ?_
              refine g_dup2 (pc := 226) X rfl rfl dX12_shares_226 ?_
              refine g_ialdI (pc := 227) X 18 rfl (b_b3.1) (by (first | (clear b_nr b_tm b_at_ b_to_ b_fa b_va b_np b_tn b_pc_ b_st_ b_pa_ b_ta b_ow b_of_ b_ot b_rl b_hb b_bs b_se; omega) | omega)) (Int.le_trans b_b3.2 (by decide)) dX12_shares_227 ?_
              refine g_nameI (fun y17 ey17 => ?_)
              have by17 : (-2147483648) ≤ y17 ∧ y17 ≤ 2147483647 := by rw [ey17]; exact hf218_h_Wg2 _ (by (first | (clear b_nr b_tm b_at_ b_to_ b_fa b_va b_np b_tn b_pc_ b_st_ b_pa_ b_ta b_ow b_of_ b_ot b_rl b_hb b_bs b_se; omega) | omega))
              refine g_aload_n (pc := 228) X 1 rfl dX12_shares_228 ?_
              refine g_get (pc := 229) X inlX12 0 rfl rfl 60 (by decide) mw_9_11 rfl dX12_shares_229 ?_
              refine g_iload_n (pc := 232) X 3 rfl dX12_shares_232 ?_
              refine g_ialdI (pc := 233) X 15 rfl (b_w.1) (by (first | (clear b_nr b_tm b_at_ b_to_ b_fa b_va b_np b_tn b_pc_ b_st_ b_pa_ b_ta b_ow b_of_ b_ot b_rl b_hb b_bs b_se; omega) | omega)) (Int.le_trans b_w.2 (by decide)) dX12_shares_233 ?_
              refine g_nameI (fun y18 ey18 => ?_)
              have by18 : (-2147483648) ≤ y18 ∧ y18 ≤ 2147483647 := by rw [ey18]; exact h_Wo _ (by (first | (clear b_nr b_tm b_at_ b_to_ b_fa b_va b_np b_tn b_pc_ b_st_ b_pa_ b_ta b_ow b_of_ b_ot b_rl b_hb b_bs b_se; omega) | omega))
              refine g_isubI (pc := 234) X dX12_shares_234 ?_
              refine g_any (fun y19 by19 => ?_)
              refine g_iastG (pc := 235) X 18 rfl (b_b3.1) (by (first | (clear b_nr b_tm b_at_ b_to_ b_fa b_va b_np b_tn b_pc_ b_st_ b_pa_ b_ta b_ow b_of_ b_ot b_rl b_hb b_bs b_se; omega) | omega)) (Int.le_trans b_b3.2 (by decide)) (ws' := fun F20 => [(g0, .inr (12, mO gA nr tm at_ to_ fa va np tn pc_ st_ pa_ ta ow of_ ot rl hb y15 se)), cA Z (gA 13) 0 7 Mw, cA Z (gA 14) 0 7 Mo, cR Z (gA 0) 6 7 (gG 0), cR Z (gA 4) 6 7 (gG 4), cR Z (gA 5) 6 7 (gG 5), cR Z (gA 6) 6 7 (gG 6), cR Z (gA 9) 6 7 (gG 9), cA Z (xA 0) 0 8 Ml, cA Z (xA 4) 0 8 Mow, cA Z (xA 5) 0 8 Mof, cA Z (xA 6) 0 8 Mot, cA Z (xA 9) 0 8 Md, cA Z (gA 58) 0 4 Bp, cA Z (gA 59) 0 4 Br, cA Z (gA 60) 0 8 Wo, cA Z (gA 61) 0 8 F12, cA Z (gA 62) 0 8 F13, cA Z (gA 63) 0 4 F20]) (fun _ => rfl) dX12_shares_235 (fun F20 eF20 => ?_)
              have hF20 : ∀ j, j < 4 → (-2147483648) ≤ F20 j ∧ F20 j ≤ 2147483647 := by rw [eF20]; exact updI_B hf218_h_Wg2 (by (first | (clear b_nr b_tm b_at_ b_to_ b_fa b_va b_np b_tn b_pc_ b_st_ b_pa_ b_ta b_ow b_of_ b_ot b_rl b_hb b_bs b_se; omega) | omega))
              refine g_iincI (pc := 236) X 0 rfl (by decide) (lv' := [(3, .int (iI (b3 + 1))), (0, .ref g0), (1, .int (iI rm)), (2, .int (iI w))]) rfl dX12_shares_236 ?_
              refine g_goto (pc := 239) X 145 (by decide) dX12_shares_239 ?_
              exact ih (b3 + 1) y15 F12 F13 F20 (by (first | (clear b_nr b_tm b_at_ b_to_ b_fa b_va b_np b_tn b_pc_ b_st_ b_pa_ b_ta b_ow b_of_ b_ot b_rl b_hb b_bs b_se; omega) | omega)) (hf218_b_bs2) (hf218_h_Wf2) (hf218_h_Wb2) (hF20) (by (first | (clear b_nr b_tm b_at_ b_to_ b_fa b_va b_np b_tn b_pc_ b_st_ b_pa_ b_ta b_ow b_of_ b_ot b_rl b_hb b_bs b_se; omega) | omega))
            · refine g_goto (pc := 188) X 236 (by decide) dX12_shares_188 ?_
              refine g_iincI (pc := 236) X 0 rfl (by decide) (lv' := [(3, .int (iI (b3 + 1))), (0, .ref g0), (1, .int (iI rm)), (2, .int (iI w))]) rfl dX12_shares_236 ?_
              refine g_goto (pc := 239) X 145 (by decide) dX12_shares_239 ?_
              exact ih (b3 + 1) bs1 Wf1 Wb1 Wg1 (by (first | (clear b_nr b_tm b_at_ b_to_ b_fa b_va b_np b_tn b_pc_ b_st_ b_pa_ b_ta b_ow b_of_ b_ot b_rl b_hb b_bs b_se; omega) | omega)) (b_bs1) (h_Wf1) (h_Wb1) (h_Wg1) (by (first | (clear b_nr b_tm b_at_ b_to_ b_fa b_va b_np b_tn b_pc_ b_st_ b_pa_ b_ta b_ow b_of_ b_ot b_rl b_hb b_bs b_se; omega) | omega))
    exact loop145 _ 0 bs Wf Wb Wg (by (first | (clear b_nr b_tm b_at_ b_to_ b_fa b_va b_np b_tn b_pc_ b_st_ b_pa_ b_ta b_ow b_of_ b_ot b_rl b_hb b_bs b_se; omega) | omega)) (b_bs) (h_Wf) (h_Wb) (h_Wg) (Nat.lt_succ_self _)
  · refine g_iconst (pc := 10) X (iI 0) (by rfl) dX12_shares_10 ?_
    refine g_istore_n (pc := 11) X (i := 3) rfl (by decide) (lv' := [(3, .int (iI 0)), (0, .ref g0), (1, .int (iI rm)), (2, .int (iI w))]) rfl dX12_shares_11 ?_
    refine g_iconst (pc := 12) X (iI 0) (by rfl) dX12_shares_12 ?_
    refine g_istore (pc := 13) X (by decide) (lv' := [(4, .int (iI 0)), (3, .int (iI 0)), (0, .ref g0), (1, .int (iI rm)), (2, .int (iI w))]) rfl dX12_shares_13 ?_
    have loop15 : ∀ (fuel : Nat) (n1 : Int) (k1 : Int), ((-2147483648) ≤ n1 ∧ n1 ≤ 2147483647) → (0 ≤ k1 ∧ k1 ≤ 8) → (9 - k1).toNat < fuel → Gs p l e ({ frames := 2, cells := 0, slots := 0, locals := 48 } : Room) s m args below meth c (MQ below (gPost Z [(g0, .inr (12, mO gA nr tm at_ to_ fa va np tn pc_ st_ pa_ ta ow of_ ot rl hb bs se)), cA Z (gA 13) 0 7 Mw, cA Z (gA 14) 0 7 Mo, cR Z (gA 0) 6 7 (gG 0), cR Z (gA 4) 6 7 (gG 4), cR Z (gA 5) 6 7 (gG 5), cR Z (gA 6) 6 7 (gG 6), cR Z (gA 9) 6 7 (gG 9), cA Z (xA 0) 0 8 Ml, cA Z (xA 4) 0 8 Mow, cA Z (xA 5) 0 8 Mof, cA Z (xA 6) 0 8 Mot, cA Z (xA 9) 0 8 Md, cA Z (gA 58) 0 4 Bp, cA Z (gA 59) 0 4 Br, cA Z (gA 60) 0 8 Wo, cA Z (gA 61) 0 8 Wf, cA Z (gA 62) 0 8 Wb, cA Z (gA 63) 0 4 Wg] s.heap.size (fun r w' => ∃ (Wf2 : Nat → Int) (Wb2 : Nat → Int) (Wg2 : Nat → Int) (bs2 : Int), (r = none) ∧ (w' = [(g0, .inr (12, mO gA nr tm at_ to_ fa va np tn pc_ st_ pa_ ta ow of_ ot rl hb bs2 se)), cA Z (gA 13) 0 7 Mw, cA Z (gA 14) 0 7 Mo, cR Z (gA 0) 6 7 (gG 0), cR Z (gA 4) 6 7 (gG 4), cR Z (gA 5) 6 7 (gG 5), cR Z (gA 6) 6 7 (gG 6), cR Z (gA 9) 6 7 (gG 9), cA Z (xA 0) 0 8 Ml, cA Z (xA 4) 0 8 Mow, cA Z (xA 5) 0 8 Mof, cA Z (xA 6) 0 8 Mot, cA Z (xA 9) 0 8 Md, cA Z (gA 58) 0 4 Bp, cA Z (gA 59) 0 4 Br, cA Z (gA 60) 0 8 Wo, cA Z (gA 61) 0 8 Wf2, cA Z (gA 62) 0 8 Wb2, cA Z (gA 63) 0 4 Wg2]) ∧ ((-2147483648) ≤ bs2 ∧ bs2 ≤ 2147483647) ∧ (∀ j, j < 8 → (-2147483648) ≤ Wf2 j ∧ Wf2 j ≤ 2147483647) ∧ (∀ j, j < 8 → (-2147483648) ≤ Wb2 j ∧ Wb2 j ≤ 2147483647) ∧ (∀ j, j < 4 → (-2147483648) ≤ Wg2 j ∧ Wg2 j ≤ 2147483647))) args s 0 0 (va_A [(g0, .inr (12, mO gA nr tm at_ to_ fa va np tn pc_ st_ pa_ ta ow of_ ot rl hb bs se)), cA Z (gA 13) 0 7 Mw, cA Z (gA 14) 0 7 Mo, cR Z (gA 0) 6 7 (gG 0), cR Z (gA 4) 6 7 (gG 4), cR Z (gA 5) 6 7 (gG 5), cR Z (gA 6) 6 7 (gG 6), cR Z (gA 9) 6 7 (gG 9), cA Z (xA 0) 0 8 Ml, cA Z (xA 4) 0 8 Mow, cA Z (xA 5) 0 8 Mof, cA Z (xA 6) 0 8 Mot, cA Z (xA 9) 0 8 Md, cA Z (gA 58) 0 4 Bp, cA Z (gA 59) 0 4 Br, cA Z (gA 60) 0 8 Wo, cA Z (gA 61) 0 8 Wf, cA Z (gA 62) 0 8 Wb, cA Z (gA 63) 0 4 Wg] s.heap.size)) Z A 5 0 0 15 [(4, .int (iI k1)), (3, .int (iI n1)), (0, .ref g0), (1, .int (iI rm)), (2, .int (iI w))] [] [(g0, .inr (12, mO gA nr tm at_ to_ fa va np tn pc_ st_ pa_ ta ow of_ ot rl hb bs se)), cA Z (gA 13) 0 7 Mw, cA Z (gA 14) 0 7 Mo, cR Z (gA 0) 6 7 (gG 0), cR Z (gA 4) 6 7 (gG 4), cR Z (gA 5) 6 7 (gG 5), cR Z (gA 6) 6 7 (gG 6), cR Z (gA 9) 6 7 (gG 9), cA Z (xA 0) 0 8 Ml, cA Z (xA 4) 0 8 Mow, cA Z (xA 5) 0 8 Mof, cA Z (xA 6) 0 8 Mot, cA Z (xA 9) 0 8 Md, cA Z (gA 58) 0 4 Bp, cA Z (gA 59) 0 4 Br, cA Z (gA 60) 0 8 Wo, cA Z (gA 61) 0 8 Wf, cA Z (gA 62) 0 8 Wb, cA Z (gA 63) 0 4 Wg] := by
      intro fuel
      induction fuel with
      | zero => intro n1 k1 _ _ hm; exact absurd hm (Nat.not_lt_zero _)
      | succ fuel ih =>
        intro n1 k1 b_n1 b_k1 hm
        refine g_iload (pc := 15) X 0 rfl dX12_shares_15 ?_
        refine g_aload_n (pc := 17) X 2 rfl dX12_shares_17 ?_
        refine g_get (pc := 18) X inlX12 0 rfl rfl 13 (by decide) mw_8_1 rfl dX12_shares_18 ?_
        refine g_iload_n (pc := 21) X 3 rfl dX12_shares_21 ?_
        refine g_ialdI (pc := 22) X 1 rfl (b_rm.1) (Int.lt_of_le_of_lt b_rm.2 (by decide)) (Int.le_trans b_rm.2 (by decide)) dX12_shares_22 ?_
        refine g_nameI (fun y21 ey21 => ?_)
        have by21 : 0 ≤ y21 ∧ y21 ≤ 8 := by rw [ey21]; exact h_Mw _ (by (first | (clear b_nr b_tm b_at_ b_to_ b_fa b_va b_np b_tn b_pc_ b_st_ b_pa_ b_ta b_ow b_of_ b_ot b_rl b_hb b_bs b_se; omega) | omega))
        have ty21 : 1 ≤ y21 ∧ y21 ≤ 8 := by rw [ey21]; exact hwn
        refine g_icmp_geI (pc := 23) X 86 (by decide) (inRb b_k1 (by decide) (by decide)) (inRb by21 (by decide) (by decide)) dX12_shares_23 (fun c23 => ?_) (fun c23 => ?_)
        · refine g_aload_n (pc := 86) X 2 rfl dX12_shares_86 ?_
          refine g_get (pc := 87) X inlX12 0 rfl rfl 65 (by decide) mw_49_21 rfl dX12_shares_87 ?_
          refine g_iconst (pc := 90) X (iI (-1)) (by rfl) dX12_shares_90 ?_
          refine g_icmp_eqI (pc := 91) X 103 (by decide) b_bs ⟨by decide, by decide⟩ dX12_shares_91 (fun c91 => ?_) (fun c91 => ?_)
          · refine g_aload_n (pc := 103) X 2 rfl dX12_shares_103 ?_
            refine g_iload_n (pc := 104) X 1 rfl dX12_shares_104 ?_
            refine g_put (pc := 105) X inlX12 tyX12_ok nmX12 0 rfl rfl 65 (by decide) mw_49_21 rfl rfl rfl (Nat.le_of_ble_eq_true rfl) (ws' := [(g0, .inr (12, mO gA nr tm at_ to_ fa va np tn pc_ st_ pa_ ta ow of_ ot rl hb n1 se)), cA Z (gA 13) 0 7 Mw, cA Z (gA 14) 0 7 Mo, cR Z (gA 0) 6 7 (gG 0), cR Z (gA 4) 6 7 (gG 4), cR Z (gA 5) 6 7 (gG 5), cR Z (gA 6) 6 7 (gG 6), cR Z (gA 9) 6 7 (gG 9), cA Z (xA 0) 0 8 Ml, cA Z (xA 4) 0 8 Mow, cA Z (xA 5) 0 8 Mof, cA Z (xA 6) 0 8 Mot, cA Z (xA 9) 0 8 Md, cA Z (gA 58) 0 4 Bp, cA Z (gA 59) 0 4 Br, cA Z (gA 60) 0 8 Wo, cA Z (gA 61) 0 8 Wf, cA Z (gA 62) 0 8 Wb, cA Z (gA 63) 0 4 Wg]) rfl dX12_shares_105 ?_
            refine g_iconst (pc := 108) X (iI 0) (by rfl) dX12_shares_108 ?_
            refine g_istore (pc := 109) X (by decide) (lv' := [(4, .int (iI 0)), (3, .int (iI n1)), (0, .ref g0), (1, .int (iI rm)), (2, .int (iI w))]) rfl dX12_shares_109 ?_
            have loop111 : ∀ (fuel : Nat) (k2 : Int) (Wb1 : Nat → Int), (0 ≤ k2 ∧ k2 ≤ 8) → (∀ j, j < 8 → (-2147483648) ≤ Wb1 j ∧ Wb1 j ≤ 2147483647) → (9 - k2).toNat < fuel → Gs p l e ({ frames := 2, cells := 0, slots := 0, locals := 48 } : Room) s m args below meth c (MQ below (gPost Z [(g0, .inr (12, mO gA nr tm at_ to_ fa va np tn pc_ st_ pa_ ta ow of_ ot rl hb bs se)), cA Z (gA 13) 0 7 Mw, cA Z (gA 14) 0 7 Mo, cR Z (gA 0) 6 7 (gG 0), cR Z (gA 4) 6 7 (gG 4), cR Z (gA 5) 6 7 (gG 5), cR Z (gA 6) 6 7 (gG 6), cR Z (gA 9) 6 7 (gG 9), cA Z (xA 0) 0 8 Ml, cA Z (xA 4) 0 8 Mow, cA Z (xA 5) 0 8 Mof, cA Z (xA 6) 0 8 Mot, cA Z (xA 9) 0 8 Md, cA Z (gA 58) 0 4 Bp, cA Z (gA 59) 0 4 Br, cA Z (gA 60) 0 8 Wo, cA Z (gA 61) 0 8 Wf, cA Z (gA 62) 0 8 Wb, cA Z (gA 63) 0 4 Wg] s.heap.size (fun r w' => ∃ (Wf2 : Nat → Int) (Wb2 : Nat → Int) (Wg2 : Nat → Int) (bs2 : Int), (r = none) ∧ (w' = [(g0, .inr (12, mO gA nr tm at_ to_ fa va np tn pc_ st_ pa_ ta ow of_ ot rl hb bs2 se)), cA Z (gA 13) 0 7 Mw, cA Z (gA 14) 0 7 Mo, cR Z (gA 0) 6 7 (gG 0), cR Z (gA 4) 6 7 (gG 4), cR Z (gA 5) 6 7 (gG 5), cR Z (gA 6) 6 7 (gG 6), cR Z (gA 9) 6 7 (gG 9), cA Z (xA 0) 0 8 Ml, cA Z (xA 4) 0 8 Mow, cA Z (xA 5) 0 8 Mof, cA Z (xA 6) 0 8 Mot, cA Z (xA 9) 0 8 Md, cA Z (gA 58) 0 4 Bp, cA Z (gA 59) 0 4 Br, cA Z (gA 60) 0 8 Wo, cA Z (gA 61) 0 8 Wf2, cA Z (gA 62) 0 8 Wb2, cA Z (gA 63) 0 4 Wg2]) ∧ ((-2147483648) ≤ bs2 ∧ bs2 ≤ 2147483647) ∧ (∀ j, j < 8 → (-2147483648) ≤ Wf2 j ∧ Wf2 j ≤ 2147483647) ∧ (∀ j, j < 8 → (-2147483648) ≤ Wb2 j ∧ Wb2 j ≤ 2147483647) ∧ (∀ j, j < 4 → (-2147483648) ≤ Wg2 j ∧ Wg2 j ≤ 2147483647))) args s 0 0 (va_A [(g0, .inr (12, mO gA nr tm at_ to_ fa va np tn pc_ st_ pa_ ta ow of_ ot rl hb bs se)), cA Z (gA 13) 0 7 Mw, cA Z (gA 14) 0 7 Mo, cR Z (gA 0) 6 7 (gG 0), cR Z (gA 4) 6 7 (gG 4), cR Z (gA 5) 6 7 (gG 5), cR Z (gA 6) 6 7 (gG 6), cR Z (gA 9) 6 7 (gG 9), cA Z (xA 0) 0 8 Ml, cA Z (xA 4) 0 8 Mow, cA Z (xA 5) 0 8 Mof, cA Z (xA 6) 0 8 Mot, cA Z (xA 9) 0 8 Md, cA Z (gA 58) 0 4 Bp, cA Z (gA 59) 0 4 Br, cA Z (gA 60) 0 8 Wo, cA Z (gA 61) 0 8 Wf, cA Z (gA 62) 0 8 Wb, cA Z (gA 63) 0 4 Wg] s.heap.size)) Z A 5 0 0 111 [(4, .int (iI k2)), (3, .int (iI n1)), (0, .ref g0), (1, .int (iI rm)), (2, .int (iI w))] [] [(g0, .inr (12, mO gA nr tm at_ to_ fa va np tn pc_ st_ pa_ ta ow of_ ot rl hb n1 se)), cA Z (gA 13) 0 7 Mw, cA Z (gA 14) 0 7 Mo, cR Z (gA 0) 6 7 (gG 0), cR Z (gA 4) 6 7 (gG 4), cR Z (gA 5) 6 7 (gG 5), cR Z (gA 6) 6 7 (gG 6), cR Z (gA 9) 6 7 (gG 9), cA Z (xA 0) 0 8 Ml, cA Z (xA 4) 0 8 Mow, cA Z (xA 5) 0 8 Mof, cA Z (xA 6) 0 8 Mot, cA Z (xA 9) 0 8 Md, cA Z (gA 58) 0 4 Bp, cA Z (gA 59) 0 4 Br, cA Z (gA 60) 0 8 Wo, cA Z (gA 61) 0 8 Wf, cA Z (gA 62) 0 8 Wb1, cA Z (gA 63) 0 4 Wg] := by
              intro fuel
              induction fuel with
              | zero => intro k2 Wb1 _ _ hm; exact absurd hm (Nat.not_lt_zero _)
              | succ fuel ih =>
                intro k2 Wb1 b_k2 h_Wb1 hm
                refine g_iload (pc := 111) X 0 rfl dX12_shares_111 ?_
                refine g_aload_n (pc := 113) X 2 rfl dX12_shares_113 ?_
                refine g_get (pc := 114) X inlX12 0 rfl rfl 13 (by decide) mw_8_1 rfl dX12_shares_114 ?_
                refine g_iload_n (pc := 117) X 3 rfl dX12_shares_117 ?_
                refine g_ialdI (pc := 118) X 1 rfl (b_rm.1) (Int.lt_of_le_of_lt b_rm.2 (by decide)) (Int.le_trans b_rm.2 (by decide)) dX12_shares_118 ?_
                refine g_nameI (fun y22 ey22 => ?_)
                have by22 : 0 ≤ y22 ∧ y22 ≤ 8 := by rw [ey22]; exact h_Mw _ (by (first | (clear b_nr b_tm b_at_ b_to_ b_fa b_va b_np b_tn b_pc_ b_st_ b_pa_ b_ta b_ow b_of_ b_ot b_rl b_hb b_bs b_se; omega) | omega))
                have ty22 : 1 ≤ y22 ∧ y22 ≤ 8 := by rw [ey22]; exact hwn
                refine g_icmp_geI (pc := 119) X 142 (by decide) (inRb b_k2 (by decide) (by decide)) (inRb by22 (by decide) (by decide)) dX12_shares_119 (fun c119 => ?_) (fun c119 => ?_)
                · exact g_vret (pc := 142) X hA (⟨Wf, Wb1, Wg, n1, rfl, rfl, (b_n1), (h_Wf), (h_Wb1), (h_Wg)⟩) (by decide) (by decide) dX12_shares_142
                · refine g_aload_n (pc := 122) X 2 rfl dX12_shares_122 ?_
                  refine g_get (pc := 123) X inlX12 0 rfl rfl 62 (by decide) mw_9_13 rfl dX12_shares_123 ?_
                  refine g_iload (pc := 126) X 0 rfl dX12_shares_126 ?_
                  refine g_aload_n (pc := 128) X 2 rfl dX12_shares_128 ?_
                  refine g_get (pc := 129) X inlX12 0 rfl rfl 61 (by decide) mw_9_12 rfl dX12_shares_129 ?_
                  refine g_iload (pc := 132) X 0 rfl dX12_shares_132 ?_
                  refine g_ialdI (pc := 134) X 16 rfl (b_k2.1) (by (first | (clear b_nr b_tm b_at_ b_to_ b_fa b_va b_np b_tn b_pc_ b_st_ b_pa_ b_ta b_ow b_of_ b_ot b_rl b_hb b_bs b_se; omega) | omega)) (Int.le_trans b_k2.2 (by decide)) dX12_shares_134 ?_
                  refine g_nameI (fun y23 ey23 => ?_)
                  have by23 : (-2147483648) ≤ y23 ∧ y23 ≤ 2147483647 := by rw [ey23]; exact h_Wf _ (by (first | (clear b_nr b_tm b_at_ b_to_ b_fa b_va b_np b_tn b_pc_ b_st_ b_pa_ b_ta b_ow b_of_ b_ot b_rl b_hb b_bs b_se; omega) | omega))
                  refine g_iastG (pc := 135) X 17 rfl (b_k2.1) (by (first | (clear b_nr b_tm b_at_ b_to_ b_fa b_va b_np b_tn b_pc_ b_st_ b_pa_ b_ta b_ow b_of_ b_ot b_rl b_hb b_bs b_se; omega) | omega)) (Int.le_trans b_k2.2 (by decide)) (ws' := fun F24 => [(g0, .inr (12, mO gA nr tm at_ to_ fa va np tn pc_ st_ pa_ ta ow of_ ot rl hb n1 se)), cA Z (gA 13) 0 7 Mw, cA Z (gA 14) 0 7 Mo, cR Z (gA 0) 6 7 (gG 0), cR Z (gA 4) 6 7 (gG 4), cR Z (gA 5) 6 7 (gG 5), cR Z (gA 6) 6 7 (gG 6), cR Z (gA 9) 6 7 (gG 9), cA Z (xA 0) 0 8 Ml, cA Z (xA 4) 0 8 Mow, cA Z (xA 5) 0 8 Mof, cA Z (xA 6) 0 8 Mot, cA Z (xA 9) 0 8 Md, cA Z (gA 58) 0 4 Bp, cA Z (gA 59) 0 4 Br, cA Z (gA 60) 0 8 Wo, cA Z (gA 61) 0 8 Wf, cA Z (gA 62) 0 8 F24, cA Z (gA 63) 0 4 Wg]) (fun _ => rfl) dX12_shares_135 (fun F24 eF24 => ?_)
                  have hF24 : ∀ j, j < 8 → (-2147483648) ≤ F24 j ∧ F24 j ≤ 2147483647 := by rw [eF24]; exact updI_B h_Wb1 (by (first | (clear b_nr b_tm b_at_ b_to_ b_fa b_va b_np b_tn b_pc_ b_st_ b_pa_ b_ta b_ow b_of_ b_ot b_rl b_hb b_bs b_se; omega) | omega))
                  refine g_iincI (pc := 136) X 0 rfl (by decide) (lv' := [(4, .int (iI (k2 + 1))), (3, .int (iI n1)), (0, .ref g0), (1, .int (iI rm)), (2, .int (iI w))]) rfl dX12_shares_136 ?_
                  refine g_goto (pc := 139) X 111 (by decide) dX12_shares_139 ?_
                  exact ih (k2 + 1) F24 (by (first | (clear b_nr b_tm b_at_ b_to_ b_fa b_va b_np b_tn b_pc_ b_st_ b_pa_ b_ta b_ow b_of_ b_ot b_rl b_hb b_bs b_se; omega) | omega)) (hF24) (by (first | (clear b_nr b_tm b_at_ b_to_ b_fa b_va b_np b_tn b_pc_ b_st_ b_pa_ b_ta b_ow b_of_ b_ot b_rl b_hb b_bs b_se; omega) | omega))
            exact loop111 _ 0 Wb (by (first | (clear b_nr b_tm b_at_ b_to_ b_fa b_va b_np b_tn b_pc_ b_st_ b_pa_ b_ta b_ow b_of_ b_ot b_rl b_hb b_bs b_se; omega) | omega)) (h_Wb) (Nat.lt_succ_self _)
          · refine g_iload_n (pc := 94) X 1 rfl dX12_shares_94 ?_
            refine g_aload_n (pc := 95) X 2 rfl dX12_shares_95 ?_
            refine g_get (pc := 96) X inlX12 0 rfl rfl 65 (by decide) mw_49_21 rfl dX12_shares_96 ?_
            refine g_icmp_ltI (pc := 99) X 103 (by decide) b_n1 b_bs dX12_shares_99 (fun c99 => ?_) (fun c99 => ?_)
            · refine g_aload_n (pc := 103) X 2 rfl dX12_shares_103 ?_
              refine g_iload_n (pc := 104) X 1 rfl dX12_shares_104 ?_
              refine g_put (pc := 105) X inlX12 tyX12_ok nmX12 0 rfl rfl 65 (by decide) mw_49_21 rfl rfl rfl (Nat.le_of_ble_eq_true rfl) (ws' := [(g0, .inr (12, mO gA nr tm at_ to_ fa va np tn pc_ st_ pa_ ta ow of_ ot rl hb n1 se)), cA Z (gA 13) 0 7 Mw, cA Z (gA 14) 0 7 Mo, cR Z (gA 0) 6 7 (gG 0), cR Z (gA 4) 6 7 (gG 4), cR Z (gA 5) 6 7 (gG 5), cR Z (gA 6) 6 7 (gG 6), cR Z (gA 9) 6 7 (gG 9), cA Z (xA 0) 0 8 Ml, cA Z (xA 4) 0 8 Mow, cA Z (xA 5) 0 8 Mof, cA Z (xA 6) 0 8 Mot, cA Z (xA 9) 0 8 Md, cA Z (gA 58) 0 4 Bp, cA Z (gA 59) 0 4 Br, cA Z (gA 60) 0 8 Wo, cA Z (gA 61) 0 8 Wf, cA Z (gA 62) 0 8 Wb, cA Z (gA 63) 0 4 Wg]) rfl dX12_shares_105 ?_
              refine g_iconst (pc := 108) X (iI 0) (by rfl) dX12_shares_108 ?_
              refine g_istore (pc := 109) X (by decide) (lv' := [(4, .int (iI 0)), (3, .int (iI n1)), (0, .ref g0), (1, .int (iI rm)), (2, .int (iI w))]) rfl dX12_shares_109 ?_
              have loop111 : ∀ (fuel : Nat) (k2 : Int) (Wb1 : Nat → Int), (0 ≤ k2 ∧ k2 ≤ 8) → (∀ j, j < 8 → (-2147483648) ≤ Wb1 j ∧ Wb1 j ≤ 2147483647) → (9 - k2).toNat < fuel → Gs p l e ({ frames := 2, cells := 0, slots := 0, locals := 48 } : Room) s m args below meth c (MQ below (gPost Z [(g0, .inr (12, mO gA nr tm at_ to_ fa va np tn pc_ st_ pa_ ta ow of_ ot rl hb bs se)), cA Z (gA 13) 0 7 Mw, cA Z (gA 14) 0 7 Mo, cR Z (gA 0) 6 7 (gG 0), cR Z (gA 4) 6 7 (gG 4), cR Z (gA 5) 6 7 (gG 5), cR Z (gA 6) 6 7 (gG 6), cR Z (gA 9) 6 7 (gG 9), cA Z (xA 0) 0 8 Ml, cA Z (xA 4) 0 8 Mow, cA Z (xA 5) 0 8 Mof, cA Z (xA 6) 0 8 Mot, cA Z (xA 9) 0 8 Md, cA Z (gA 58) 0 4 Bp, cA Z (gA 59) 0 4 Br, cA Z (gA 60) 0 8 Wo, cA Z (gA 61) 0 8 Wf, cA Z (gA 62) 0 8 Wb, cA Z (gA 63) 0 4 Wg] s.heap.size (fun r w' => ∃ (Wf2 : Nat → Int) (Wb2 : Nat → Int) (Wg2 : Nat → Int) (bs2 : Int), (r = none) ∧ (w' = [(g0, .inr (12, mO gA nr tm at_ to_ fa va np tn pc_ st_ pa_ ta ow of_ ot rl hb bs2 se)), cA Z (gA 13) 0 7 Mw, cA Z (gA 14) 0 7 Mo, cR Z (gA 0) 6 7 (gG 0), cR Z (gA 4) 6 7 (gG 4), cR Z (gA 5) 6 7 (gG 5), cR Z (gA 6) 6 7 (gG 6), cR Z (gA 9) 6 7 (gG 9), cA Z (xA 0) 0 8 Ml, cA Z (xA 4) 0 8 Mow, cA Z (xA 5) 0 8 Mof, cA Z (xA 6) 0 8 Mot, cA Z (xA 9) 0 8 Md, cA Z (gA 58) 0 4 Bp, cA Z (gA 59) 0 4 Br, cA Z (gA 60) 0 8 Wo, cA Z (gA 61) 0 8 Wf2, cA Z (gA 62) 0 8 Wb2, cA Z (gA 63) 0 4 Wg2]) ∧ ((-2147483648) ≤ bs2 ∧ bs2 ≤ 2147483647) ∧ (∀ j, j < 8 → (-2147483648) ≤ Wf2 j ∧ Wf2 j ≤ 2147483647) ∧ (∀ j, j < 8 → (-2147483648) ≤ Wb2 j ∧ Wb2 j ≤ 2147483647) ∧ (∀ j, j < 4 → (-2147483648) ≤ Wg2 j ∧ Wg2 j ≤ 2147483647))) args s 0 0 (va_A [(g0, .inr (12, mO gA nr tm at_ to_ fa va np tn pc_ st_ pa_ ta ow of_ ot rl hb bs se)), cA Z (gA 13) 0 7 Mw, cA Z (gA 14) 0 7 Mo, cR Z (gA 0) 6 7 (gG 0), cR Z (gA 4) 6 7 (gG 4), cR Z (gA 5) 6 7 (gG 5), cR Z (gA 6) 6 7 (gG 6), cR Z (gA 9) 6 7 (gG 9), cA Z (xA 0) 0 8 Ml, cA Z (xA 4) 0 8 Mow, cA Z (xA 5) 0 8 Mof, cA Z (xA 6) 0 8 Mot, cA Z (xA 9) 0 8 Md, cA Z (gA 58) 0 4 Bp, cA Z (gA 59) 0 4 Br, cA Z (gA 60) 0 8 Wo, cA Z (gA 61) 0 8 Wf, cA Z (gA 62) 0 8 Wb, cA Z (gA 63) 0 4 Wg] s.heap.size)) Z A 5 0 0 111 [(4, .int (iI k2)), (3, .int (iI n1)), (0, .ref g0), (1, .int (iI rm)), (2, .int (iI w))] [] [(g0, .inr (12, mO gA nr tm at_ to_ fa va np tn pc_ st_ pa_ ta ow of_ ot rl hb n1 se)), cA Z (gA 13) 0 7 Mw, cA Z (gA 14) 0 7 Mo, cR Z (gA 0) 6 7 (gG 0), cR Z (gA 4) 6 7 (gG 4), cR Z (gA 5) 6 7 (gG 5), cR Z (gA 6) 6 7 (gG 6), cR Z (gA 9) 6 7 (gG 9), cA Z (xA 0) 0 8 Ml, cA Z (xA 4) 0 8 Mow, cA Z (xA 5) 0 8 Mof, cA Z (xA 6) 0 8 Mot, cA Z (xA 9) 0 8 Md, cA Z (gA 58) 0 4 Bp, cA Z (gA 59) 0 4 Br, cA Z (gA 60) 0 8 Wo, cA Z (gA 61) 0 8 Wf, cA Z (gA 62) 0 8 Wb1, cA Z (gA 63) 0 4 Wg] := by
                intro fuel
                induction fuel with
                | zero => intro k2 Wb1 _ _ hm; exact absurd hm (Nat.not_lt_zero _)
                | succ fuel ih =>
                  intro k2 Wb1 b_k2 h_Wb1 hm
                  refine g_iload (pc := 111) X 0 rfl dX12_shares_111 ?_
                  refine g_aload_n (pc := 113) X 2 rfl dX12_shares_113 ?_
                  refine g_get (pc := 114) X inlX12 0 rfl rfl 13 (by decide) mw_8_1 rfl dX12_shares_114 ?_
                  refine g_iload_n (pc := 117) X 3 rfl dX12_shares_117 ?_
                  refine g_ialdI (pc := 118) X 1 rfl (b_rm.1) (Int.lt_of_le_of_lt b_rm.2 (by decide)) (Int.le_trans b_rm.2 (by decide)) dX12_shares_118 ?_
                  refine g_nameI (fun y25 ey25 => ?_)
                  have by25 : 0 ≤ y25 ∧ y25 ≤ 8 := by rw [ey25]; exact h_Mw _ (by (first | (clear b_nr b_tm b_at_ b_to_ b_fa b_va b_np b_tn b_pc_ b_st_ b_pa_ b_ta b_ow b_of_ b_ot b_rl b_hb b_bs b_se; omega) | omega))
                  have ty25 : 1 ≤ y25 ∧ y25 ≤ 8 := by rw [ey25]; exact hwn
                  refine g_icmp_geI (pc := 119) X 142 (by decide) (inRb b_k2 (by decide) (by decide)) (inRb by25 (by decide) (by decide)) dX12_shares_119 (fun c119 => ?_) (fun c119 => ?_)
                  · exact g_vret (pc := 142) X hA (⟨Wf, Wb1, Wg, n1, rfl, rfl, (b_n1), (h_Wf), (h_Wb1), (h_Wg)⟩) (by decide) (by decide) dX12_shares_142
                  · refine g_aload_n (pc := 122) X 2 rfl dX12_shares_122 ?_
                    refine g_get (pc := 123) X inlX12 0 rfl rfl 62 (by decide) mw_9_13 rfl dX12_shares_123 ?_
                    refine g_iload (pc := 126) X 0 rfl dX12_shares_126 ?_
                    refine g_aload_n (pc := 128) X 2 rfl dX12_shares_128 ?_
                    refine g_get (pc := 129) X inlX12 0 rfl rfl 61 (by decide) mw_9_12 rfl dX12_shares_129 ?_
                    refine g_iload (pc := 132) X 0 rfl dX12_shares_132 ?_
                    refine g_ialdI (pc := 134) X 16 rfl (b_k2.1) (by (first | (clear b_nr b_tm b_at_ b_to_ b_fa b_va b_np b_tn b_pc_ b_st_ b_pa_ b_ta b_ow b_of_ b_ot b_rl b_hb b_bs b_se; omega) | omega)) (Int.le_trans b_k2.2 (by decide)) dX12_shares_134 ?_
                    refine g_nameI (fun y26 ey26 => ?_)
                    have by26 : (-2147483648) ≤ y26 ∧ y26 ≤ 2147483647 := by rw [ey26]; exact h_Wf _ (by (first | (clear b_nr b_tm b_at_ b_to_ b_fa b_va b_np b_tn b_pc_ b_st_ b_pa_ b_ta b_ow b_of_ b_ot b_rl b_hb b_bs b_se; omega) | omega))
                    refine g_iastG (pc := 135) X 17 rfl (b_k2.1) (by (first | (clear b_nr b_tm b_at_ b_to_ b_fa b_va b_np b_tn b_pc_ b_st_ b_pa_ b_ta b_ow b_of_ b_ot b_rl b_hb b_bs b_se; omega) | omega)) (Int.le_trans b_k2.2 (by decide)) (ws' := fun F27 => [(g0, .inr (12, mO gA nr tm at_ to_ fa va np tn pc_ st_ pa_ ta ow of_ ot rl hb n1 se)), cA Z (gA 13) 0 7 Mw, cA Z (gA 14) 0 7 Mo, cR Z (gA 0) 6 7 (gG 0), cR Z (gA 4) 6 7 (gG 4), cR Z (gA 5) 6 7 (gG 5), cR Z (gA 6) 6 7 (gG 6), cR Z (gA 9) 6 7 (gG 9), cA Z (xA 0) 0 8 Ml, cA Z (xA 4) 0 8 Mow, cA Z (xA 5) 0 8 Mof, cA Z (xA 6) 0 8 Mot, cA Z (xA 9) 0 8 Md, cA Z (gA 58) 0 4 Bp, cA Z (gA 59) 0 4 Br, cA Z (gA 60) 0 8 Wo, cA Z (gA 61) 0 8 Wf, cA Z (gA 62) 0 8 F27, cA Z (gA 63) 0 4 Wg]) (fun _ => rfl) dX12_shares_135 (fun F27 eF27 => ?_)
                    have hF27 : ∀ j, j < 8 → (-2147483648) ≤ F27 j ∧ F27 j ≤ 2147483647 := by rw [eF27]; exact updI_B h_Wb1 (by (first | (clear b_nr b_tm b_at_ b_to_ b_fa b_va b_np b_tn b_pc_ b_st_ b_pa_ b_ta b_ow b_of_ b_ot b_rl b_hb b_bs b_se; omega) | omega))
                    refine g_iincI (pc := 136) X 0 rfl (by decide) (lv' := [(4, .int (iI (k2 + 1))), (3, .int (iI n1)), (0, .ref g0), (1, .int (iI rm)), (2, .int (iI w))]) rfl dX12_shares_136 ?_
                    refine g_goto (pc := 139) X 111 (by decide) dX12_shares_139 ?_
                    exact ih (k2 + 1) F27 (by (first | (clear b_nr b_tm b_at_ b_to_ b_fa b_va b_np b_tn b_pc_ b_st_ b_pa_ b_ta b_ow b_of_ b_ot b_rl b_hb b_bs b_se; omega) | omega)) (hF27) (by (first | (clear b_nr b_tm b_at_ b_to_ b_fa b_va b_np b_tn b_pc_ b_st_ b_pa_ b_ta b_ow b_of_ b_ot b_rl b_hb b_bs b_se; omega) | omega))
              exact loop111 _ 0 Wb (by (first | (clear b_nr b_tm b_at_ b_to_ b_fa b_va b_np b_tn b_pc_ b_st_ b_pa_ b_ta b_ow b_of_ b_ot b_rl b_hb b_bs b_se; omega) | omega)) (h_Wb) (Nat.lt_succ_self _)
            · exact g_vret (pc := 102) X hA (⟨Wf, Wb, Wg, bs, rfl, rfl, (b_bs), (h_Wf), (h_Wb), (h_Wg)⟩) (by decide) (by decide) dX12_shares_102
        · refine g_aload_n (pc := 26) X 2 rfl dX12_shares_26 ?_
          refine g_get (pc := 27) X inlX12 0 rfl rfl 13 (by decide) mw_8_1 rfl dX12_shares_27 ?_
          refine g_iload_n (pc := 30) X 3 rfl dX12_shares_30 ?_
          refine g_ialdI (pc := 31) X 1 rfl (b_rm.1) (Int.lt_of_le_of_lt b_rm.2 (by decide)) (Int.le_trans b_rm.2 (by decide)) dX12_shares_31 ?_
          refine g_nameI (fun y28 ey28 => ?_)
          have by28 : 0 ≤ y28 ∧ y28 ≤ 8 := by rw [ey28]; exact h_Mw _ (by (first | (clear b_nr b_tm b_at_ b_to_ b_fa b_va b_np b_tn b_pc_ b_st_ b_pa_ b_ta b_ow b_of_ b_ot b_rl b_hb b_bs b_se; omega) | omega))
          have ty28 : 1 ≤ y28 ∧ y28 ≤ 8 := by rw [ey28]; exact hwn
          refine g_iconst (pc := 32) X (iI 1) (by rfl) dX12_shares_32 ?_
          refine g_icmp_leI (pc := 33) X 86 (by decide) (inRb by28 (by decide) (by decide)) ⟨by decide, by decide⟩ dX12_shares_33 (fun c33 => ?_) (fun c33 => ?_)
          · refine g_aload_n (pc := 86) X 2 rfl dX12_shares_86 ?_
            refine g_get (pc := 87) X inlX12 0 rfl rfl 65 (by decide) mw_49_21 rfl dX12_shares_87 ?_
            refine g_iconst (pc := 90) X (iI (-1)) (by rfl) dX12_shares_90 ?_
            refine g_icmp_eqI (pc := 91) X 103 (by decide) b_bs ⟨by decide, by decide⟩ dX12_shares_91 (fun c91 => ?_) (fun c91 => ?_)
            · refine g_aload_n (pc := 103) X 2 rfl dX12_shares_103 ?_
              refine g_iload_n (pc := 104) X 1 rfl dX12_shares_104 ?_
              refine g_put (pc := 105) X inlX12 tyX12_ok nmX12 0 rfl rfl 65 (by decide) mw_49_21 rfl rfl rfl (Nat.le_of_ble_eq_true rfl) (ws' := [(g0, .inr (12, mO gA nr tm at_ to_ fa va np tn pc_ st_ pa_ ta ow of_ ot rl hb n1 se)), cA Z (gA 13) 0 7 Mw, cA Z (gA 14) 0 7 Mo, cR Z (gA 0) 6 7 (gG 0), cR Z (gA 4) 6 7 (gG 4), cR Z (gA 5) 6 7 (gG 5), cR Z (gA 6) 6 7 (gG 6), cR Z (gA 9) 6 7 (gG 9), cA Z (xA 0) 0 8 Ml, cA Z (xA 4) 0 8 Mow, cA Z (xA 5) 0 8 Mof, cA Z (xA 6) 0 8 Mot, cA Z (xA 9) 0 8 Md, cA Z (gA 58) 0 4 Bp, cA Z (gA 59) 0 4 Br, cA Z (gA 60) 0 8 Wo, cA Z (gA 61) 0 8 Wf, cA Z (gA 62) 0 8 Wb, cA Z (gA 63) 0 4 Wg]) rfl dX12_shares_105 ?_
              refine g_iconst (pc := 108) X (iI 0) (by rfl) dX12_shares_108 ?_
              refine g_istore (pc := 109) X (by decide) (lv' := [(4, .int (iI 0)), (3, .int (iI n1)), (0, .ref g0), (1, .int (iI rm)), (2, .int (iI w))]) rfl dX12_shares_109 ?_
              have loop111 : ∀ (fuel : Nat) (k2 : Int) (Wb1 : Nat → Int), (0 ≤ k2 ∧ k2 ≤ 8) → (∀ j, j < 8 → (-2147483648) ≤ Wb1 j ∧ Wb1 j ≤ 2147483647) → (9 - k2).toNat < fuel → Gs p l e ({ frames := 2, cells := 0, slots := 0, locals := 48 } : Room) s m args below meth c (MQ below (gPost Z [(g0, .inr (12, mO gA nr tm at_ to_ fa va np tn pc_ st_ pa_ ta ow of_ ot rl hb bs se)), cA Z (gA 13) 0 7 Mw, cA Z (gA 14) 0 7 Mo, cR Z (gA 0) 6 7 (gG 0), cR Z (gA 4) 6 7 (gG 4), cR Z (gA 5) 6 7 (gG 5), cR Z (gA 6) 6 7 (gG 6), cR Z (gA 9) 6 7 (gG 9), cA Z (xA 0) 0 8 Ml, cA Z (xA 4) 0 8 Mow, cA Z (xA 5) 0 8 Mof, cA Z (xA 6) 0 8 Mot, cA Z (xA 9) 0 8 Md, cA Z (gA 58) 0 4 Bp, cA Z (gA 59) 0 4 Br, cA Z (gA 60) 0 8 Wo, cA Z (gA 61) 0 8 Wf, cA Z (gA 62) 0 8 Wb, cA Z (gA 63) 0 4 Wg] s.heap.size (fun r w' => ∃ (Wf2 : Nat → Int) (Wb2 : Nat → Int) (Wg2 : Nat → Int) (bs2 : Int), (r = none) ∧ (w' = [(g0, .inr (12, mO gA nr tm at_ to_ fa va np tn pc_ st_ pa_ ta ow of_ ot rl hb bs2 se)), cA Z (gA 13) 0 7 Mw, cA Z (gA 14) 0 7 Mo, cR Z (gA 0) 6 7 (gG 0), cR Z (gA 4) 6 7 (gG 4), cR Z (gA 5) 6 7 (gG 5), cR Z (gA 6) 6 7 (gG 6), cR Z (gA 9) 6 7 (gG 9), cA Z (xA 0) 0 8 Ml, cA Z (xA 4) 0 8 Mow, cA Z (xA 5) 0 8 Mof, cA Z (xA 6) 0 8 Mot, cA Z (xA 9) 0 8 Md, cA Z (gA 58) 0 4 Bp, cA Z (gA 59) 0 4 Br, cA Z (gA 60) 0 8 Wo, cA Z (gA 61) 0 8 Wf2, cA Z (gA 62) 0 8 Wb2, cA Z (gA 63) 0 4 Wg2]) ∧ ((-2147483648) ≤ bs2 ∧ bs2 ≤ 2147483647) ∧ (∀ j, j < 8 → (-2147483648) ≤ Wf2 j ∧ Wf2 j ≤ 2147483647) ∧ (∀ j, j < 8 → (-2147483648) ≤ Wb2 j ∧ Wb2 j ≤ 2147483647) ∧ (∀ j, j < 4 → (-2147483648) ≤ Wg2 j ∧ Wg2 j ≤ 2147483647))) args s 0 0 (va_A [(g0, .inr (12, mO gA nr tm at_ to_ fa va np tn pc_ st_ pa_ ta ow of_ ot rl hb bs se)), cA Z (gA 13) 0 7 Mw, cA Z (gA 14) 0 7 Mo, cR Z (gA 0) 6 7 (gG 0), cR Z (gA 4) 6 7 (gG 4), cR Z (gA 5) 6 7 (gG 5), cR Z (gA 6) 6 7 (gG 6), cR Z (gA 9) 6 7 (gG 9), cA Z (xA 0) 0 8 Ml, cA Z (xA 4) 0 8 Mow, cA Z (xA 5) 0 8 Mof, cA Z (xA 6) 0 8 Mot, cA Z (xA 9) 0 8 Md, cA Z (gA 58) 0 4 Bp, cA Z (gA 59) 0 4 Br, cA Z (gA 60) 0 8 Wo, cA Z (gA 61) 0 8 Wf, cA Z (gA 62) 0 8 Wb, cA Z (gA 63) 0 4 Wg] s.heap.size)) Z A 5 0 0 111 [(4, .int (iI k2)), (3, .int (iI n1)), (0, .ref g0), (1, .int (iI rm)), (2, .int (iI w))] [] [(g0, .inr (12, mO gA nr tm at_ to_ fa va np tn pc_ st_ pa_ ta ow of_ ot rl hb n1 se)), cA Z (gA 13) 0 7 Mw, cA Z (gA 14) 0 7 Mo, cR Z (gA 0) 6 7 (gG 0), cR Z (gA 4) 6 7 (gG 4), cR Z (gA 5) 6 7 (gG 5), cR Z (gA 6) 6 7 (gG 6), cR Z (gA 9) 6 7 (gG 9), cA Z (xA 0) 0 8 Ml, cA Z (xA 4) 0 8 Mow, cA Z (xA 5) 0 8 Mof, cA Z (xA 6) 0 8 Mot, cA Z (xA 9) 0 8 Md, cA Z (gA 58) 0 4 Bp, cA Z (gA 59) 0 4 Br, cA Z (gA 60) 0 8 Wo, cA Z (gA 61) 0 8 Wf, cA Z (gA 62) 0 8 Wb1, cA Z (gA 63) 0 4 Wg] := by
                intro fuel
                induction fuel with
                | zero => intro k2 Wb1 _ _ hm; exact absurd hm (Nat.not_lt_zero _)
                | succ fuel ih =>
                  intro k2 Wb1 b_k2 h_Wb1 hm
                  refine g_iload (pc := 111) X 0 rfl dX12_shares_111 ?_
                  refine g_aload_n (pc := 113) X 2 rfl dX12_shares_113 ?_
                  refine g_get (pc := 114) X inlX12 0 rfl rfl 13 (by decide) mw_8_1 rfl dX12_shares_114 ?_
                  refine g_iload_n (pc := 117) X 3 rfl dX12_shares_117 ?_
                  refine g_ialdI (pc := 118) X 1 rfl (b_rm.1) (Int.lt_of_le_of_lt b_rm.2 (by decide)) (Int.le_trans b_rm.2 (by decide)) dX12_shares_118 ?_
                  refine g_nameI (fun y29 ey29 => ?_)
                  have by29 : 0 ≤ y29 ∧ y29 ≤ 8 := by rw [ey29]; exact h_Mw _ (by (first | (clear b_nr b_tm b_at_ b_to_ b_fa b_va b_np b_tn b_pc_ b_st_ b_pa_ b_ta b_ow b_of_ b_ot b_rl b_hb b_bs b_se; omega) | omega))
                  have ty29 : 1 ≤ y29 ∧ y29 ≤ 8 := by rw [ey29]; exact hwn
                  refine g_icmp_geI (pc := 119) X 142 (by decide) (inRb b_k2 (by decide) (by decide)) (inRb by29 (by decide) (by decide)) dX12_shares_119 (fun c119 => ?_) (fun c119 => ?_)
                  · exact g_vret (pc := 142) X hA (⟨Wf, Wb1, Wg, n1, rfl, rfl, (b_n1), (h_Wf), (h_Wb1), (h_Wg)⟩) (by decide) (by decide) dX12_shares_142
                  · refine g_aload_n (pc := 122) X 2 rfl dX12_shares_122 ?_
                    refine g_get (pc := 123) X inlX12 0 rfl rfl 62 (by decide) mw_9_13 rfl dX12_shares_123 ?_
                    refine g_iload (pc := 126) X 0 rfl dX12_shares_126 ?_
                    refine g_aload_n (pc := 128) X 2 rfl dX12_shares_128 ?_
                    refine g_get (pc := 129) X inlX12 0 rfl rfl 61 (by decide) mw_9_12 rfl dX12_shares_129 ?_
                    refine g_iload (pc := 132) X 0 rfl dX12_shares_132 ?_
                    refine g_ialdI (pc := 134) X 16 rfl (b_k2.1) (by (first | (clear b_nr b_tm b_at_ b_to_ b_fa b_va b_np b_tn b_pc_ b_st_ b_pa_ b_ta b_ow b_of_ b_ot b_rl b_hb b_bs b_se; omega) | omega)) (Int.le_trans b_k2.2 (by decide)) dX12_shares_134 ?_
                    refine g_nameI (fun y30 ey30 => ?_)
                    have by30 : (-2147483648) ≤ y30 ∧ y30 ≤ 2147483647 := by rw [ey30]; exact h_Wf _ (by (first | (clear b_nr b_tm b_at_ b_to_ b_fa b_va b_np b_tn b_pc_ b_st_ b_pa_ b_ta b_ow b_of_ b_ot b_rl b_hb b_bs b_se; omega) | omega))
                    refine g_iastG (pc := 135) X 17 rfl (b_k2.1) (by (first | (clear b_nr b_tm b_at_ b_to_ b_fa b_va b_np b_tn b_pc_ b_st_ b_pa_ b_ta b_ow b_of_ b_ot b_rl b_hb b_bs b_se; omega) | omega)) (Int.le_trans b_k2.2 (by decide)) (ws' := fun F31 => [(g0, .inr (12, mO gA nr tm at_ to_ fa va np tn pc_ st_ pa_ ta ow of_ ot rl hb n1 se)), cA Z (gA 13) 0 7 Mw, cA Z (gA 14) 0 7 Mo, cR Z (gA 0) 6 7 (gG 0), cR Z (gA 4) 6 7 (gG 4), cR Z (gA 5) 6 7 (gG 5), cR Z (gA 6) 6 7 (gG 6), cR Z (gA 9) 6 7 (gG 9), cA Z (xA 0) 0 8 Ml, cA Z (xA 4) 0 8 Mow, cA Z (xA 5) 0 8 Mof, cA Z (xA 6) 0 8 Mot, cA Z (xA 9) 0 8 Md, cA Z (gA 58) 0 4 Bp, cA Z (gA 59) 0 4 Br, cA Z (gA 60) 0 8 Wo, cA Z (gA 61) 0 8 Wf, cA Z (gA 62) 0 8 F31, cA Z (gA 63) 0 4 Wg]) (fun _ => rfl) dX12_shares_135 (fun F31 eF31 => ?_)
                    have hF31 : ∀ j, j < 8 → (-2147483648) ≤ F31 j ∧ F31 j ≤ 2147483647 := by rw [eF31]; exact updI_B h_Wb1 (by (first | (clear b_nr b_tm b_at_ b_to_ b_fa b_va b_np b_tn b_pc_ b_st_ b_pa_ b_ta b_ow b_of_ b_ot b_rl b_hb b_bs b_se; omega) | omega))
                    refine g_iincI (pc := 136) X 0 rfl (by decide) (lv' := [(4, .int (iI (k2 + 1))), (3, .int (iI n1)), (0, .ref g0), (1, .int (iI rm)), (2, .int (iI w))]) rfl dX12_shares_136 ?_
                    refine g_goto (pc := 139) X 111 (by decide) dX12_shares_139 ?_
                    exact ih (k2 + 1) F31 (by (first | (clear b_nr b_tm b_at_ b_to_ b_fa b_va b_np b_tn b_pc_ b_st_ b_pa_ b_ta b_ow b_of_ b_ot b_rl b_hb b_bs b_se; omega) | omega)) (hF31) (by (first | (clear b_nr b_tm b_at_ b_to_ b_fa b_va b_np b_tn b_pc_ b_st_ b_pa_ b_ta b_ow b_of_ b_ot b_rl b_hb b_bs b_se; omega) | omega))
              exact loop111 _ 0 Wb (by (first | (clear b_nr b_tm b_at_ b_to_ b_fa b_va b_np b_tn b_pc_ b_st_ b_pa_ b_ta b_ow b_of_ b_ot b_rl b_hb b_bs b_se; omega) | omega)) (h_Wb) (Nat.lt_succ_self _)
            · refine g_iload_n (pc := 94) X 1 rfl dX12_shares_94 ?_
              refine g_aload_n (pc := 95) X 2 rfl dX12_shares_95 ?_
              refine g_get (pc := 96) X inlX12 0 rfl rfl 65 (by decide) mw_49_21 rfl dX12_shares_96 ?_
              refine g_icmp_ltI (pc := 99) X 103 (by decide) b_n1 b_bs dX12_shares_99 (fun c99 => ?_) (fun c99 => ?_)
              · refine g_aload_n (pc := 103) X 2 rfl dX12_shares_103 ?_
                refine g_iload_n (pc := 104) X 1 rfl dX12_shares_104 ?_
                refine g_put (pc := 105) X inlX12 tyX12_ok nmX12 0 rfl rfl 65 (by decide) mw_49_21 rfl rfl rfl (Nat.le_of_ble_eq_true rfl) (ws' := [(g0, .inr (12, mO gA nr tm at_ to_ fa va np tn pc_ st_ pa_ ta ow of_ ot rl hb n1 se)), cA Z (gA 13) 0 7 Mw, cA Z (gA 14) 0 7 Mo, cR Z (gA 0) 6 7 (gG 0), cR Z (gA 4) 6 7 (gG 4), cR Z (gA 5) 6 7 (gG 5), cR Z (gA 6) 6 7 (gG 6), cR Z (gA 9) 6 7 (gG 9), cA Z (xA 0) 0 8 Ml, cA Z (xA 4) 0 8 Mow, cA Z (xA 5) 0 8 Mof, cA Z (xA 6) 0 8 Mot, cA Z (xA 9) 0 8 Md, cA Z (gA 58) 0 4 Bp, cA Z (gA 59) 0 4 Br, cA Z (gA 60) 0 8 Wo, cA Z (gA 61) 0 8 Wf, cA Z (gA 62) 0 8 Wb, cA Z (gA 63) 0 4 Wg]) rfl dX12_shares_105 ?_
                refine g_iconst (pc := 108) X (iI 0) (by rfl) dX12_shares_108 ?_
                refine g_istore (pc := 109) X (by decide) (lv' := [(4, .int (iI 0)), (3, .int (iI n1)), (0, .ref g0), (1, .int (iI rm)), (2, .int (iI w))]) rfl dX12_shares_109 ?_
                have loop111 : ∀ (fuel : Nat) (k2 : Int) (Wb1 : Nat → Int), (0 ≤ k2 ∧ k2 ≤ 8) → (∀ j, j < 8 → (-2147483648) ≤ Wb1 j ∧ Wb1 j ≤ 2147483647) → (9 - k2).toNat < fuel → Gs p l e ({ frames := 2, cells := 0, slots := 0, locals := 48 } : Room) s m args below meth c (MQ below (gPost Z [(g0, .inr (12, mO gA nr tm at_ to_ fa va np tn pc_ st_ pa_ ta ow of_ ot rl hb bs se)), cA Z (gA 13) 0 7 Mw, cA Z (gA 14) 0 7 Mo, cR Z (gA 0) 6 7 (gG 0), cR Z (gA 4) 6 7 (gG 4), cR Z (gA 5) 6 7 (gG 5), cR Z (gA 6) 6 7 (gG 6), cR Z (gA 9) 6 7 (gG 9), cA Z (xA 0) 0 8 Ml, cA Z (xA 4) 0 8 Mow, cA Z (xA 5) 0 8 Mof, cA Z (xA 6) 0 8 Mot, cA Z (xA 9) 0 8 Md, cA Z (gA 58) 0 4 Bp, cA Z (gA 59) 0 4 Br, cA Z (gA 60) 0 8 Wo, cA Z (gA 61) 0 8 Wf, cA Z (gA 62) 0 8 Wb, cA Z (gA 63) 0 4 Wg] s.heap.size (fun r w' => ∃ (Wf2 : Nat → Int) (Wb2 : Nat → Int) (Wg2 : Nat → Int) (bs2 : Int), (r = none) ∧ (w' = [(g0, .inr (12, mO gA nr tm at_ to_ fa va np tn pc_ st_ pa_ ta ow of_ ot rl hb bs2 se)), cA Z (gA 13) 0 7 Mw, cA Z (gA 14) 0 7 Mo, cR Z (gA 0) 6 7 (gG 0), cR Z (gA 4) 6 7 (gG 4), cR Z (gA 5) 6 7 (gG 5), cR Z (gA 6) 6 7 (gG 6), cR Z (gA 9) 6 7 (gG 9), cA Z (xA 0) 0 8 Ml, cA Z (xA 4) 0 8 Mow, cA Z (xA 5) 0 8 Mof, cA Z (xA 6) 0 8 Mot, cA Z (xA 9) 0 8 Md, cA Z (gA 58) 0 4 Bp, cA Z (gA 59) 0 4 Br, cA Z (gA 60) 0 8 Wo, cA Z (gA 61) 0 8 Wf2, cA Z (gA 62) 0 8 Wb2, cA Z (gA 63) 0 4 Wg2]) ∧ ((-2147483648) ≤ bs2 ∧ bs2 ≤ 2147483647) ∧ (∀ j, j < 8 → (-2147483648) ≤ Wf2 j ∧ Wf2 j ≤ 2147483647) ∧ (∀ j, j < 8 → (-2147483648) ≤ Wb2 j ∧ Wb2 j ≤ 2147483647) ∧ (∀ j, j < 4 → (-2147483648) ≤ Wg2 j ∧ Wg2 j ≤ 2147483647))) args s 0 0 (va_A [(g0, .inr (12, mO gA nr tm at_ to_ fa va np tn pc_ st_ pa_ ta ow of_ ot rl hb bs se)), cA Z (gA 13) 0 7 Mw, cA Z (gA 14) 0 7 Mo, cR Z (gA 0) 6 7 (gG 0), cR Z (gA 4) 6 7 (gG 4), cR Z (gA 5) 6 7 (gG 5), cR Z (gA 6) 6 7 (gG 6), cR Z (gA 9) 6 7 (gG 9), cA Z (xA 0) 0 8 Ml, cA Z (xA 4) 0 8 Mow, cA Z (xA 5) 0 8 Mof, cA Z (xA 6) 0 8 Mot, cA Z (xA 9) 0 8 Md, cA Z (gA 58) 0 4 Bp, cA Z (gA 59) 0 4 Br, cA Z (gA 60) 0 8 Wo, cA Z (gA 61) 0 8 Wf, cA Z (gA 62) 0 8 Wb, cA Z (gA 63) 0 4 Wg] s.heap.size)) Z A 5 0 0 111 [(4, .int (iI k2)), (3, .int (iI n1)), (0, .ref g0), (1, .int (iI rm)), (2, .int (iI w))] [] [(g0, .inr (12, mO gA nr tm at_ to_ fa va np tn pc_ st_ pa_ ta ow of_ ot rl hb n1 se)), cA Z (gA 13) 0 7 Mw, cA Z (gA 14) 0 7 Mo, cR Z (gA 0) 6 7 (gG 0), cR Z (gA 4) 6 7 (gG 4), cR Z (gA 5) 6 7 (gG 5), cR Z (gA 6) 6 7 (gG 6), cR Z (gA 9) 6 7 (gG 9), cA Z (xA 0) 0 8 Ml, cA Z (xA 4) 0 8 Mow, cA Z (xA 5) 0 8 Mof, cA Z (xA 6) 0 8 Mot, cA Z (xA 9) 0 8 Md, cA Z (gA 58) 0 4 Bp, cA Z (gA 59) 0 4 Br, cA Z (gA 60) 0 8 Wo, cA Z (gA 61) 0 8 Wf, cA Z (gA 62) 0 8 Wb1, cA Z (gA 63) 0 4 Wg] := by
                  intro fuel
                  induction fuel with
                  | zero => intro k2 Wb1 _ _ hm; exact absurd hm (Nat.not_lt_zero _)
                  | succ fuel ih =>
                    intro k2 Wb1 b_k2 h_Wb1 hm
                    refine g_iload (pc := 111) X 0 rfl dX12_shares_111 ?_
                    refine g_aload_n (pc := 113) X 2 rfl dX12_shares_113 ?_
                    refine g_get (pc := 114) X inlX12 0 rfl rfl 13 (by decide) mw_8_1 rfl dX12_shares_114 ?_
                    refine g_iload_n (pc := 117) X 3 rfl dX12_shares_117 ?_
                    refine g_ialdI (pc := 118) X 1 rfl (b_rm.1) (Int.lt_of_le_of_lt b_rm.2 (by decide)) (Int.le_trans b_rm.2 (by decide)) dX12_shares_118 ?_
                    refine g_nameI (fun y32 ey32 => ?_)
                    have by32 : 0 ≤ y32 ∧ y32 ≤ 8 := by rw [ey32]; exact h_Mw _ (by (first | (clear b_nr b_tm b_at_ b_to_ b_fa b_va b_np b_tn b_pc_ b_st_ b_pa_ b_ta b_ow b_of_ b_ot b_rl b_hb b_bs b_se; omega) | omega))
                    have ty32 : 1 ≤ y32 ∧ y32 ≤ 8 := by rw [ey32]; exact hwn
                    refine g_icmp_geI (pc := 119) X 142 (by decide) (inRb b_k2 (by decide) (by decide)) (inRb by32 (by decide) (by decide)) dX12_shares_119 (fun c119 => ?_) (fun c119 => ?_)
                    · exact g_vret (pc := 142) X hA (⟨Wf, Wb1, Wg, n1, rfl, rfl, (b_n1), (h_Wf), (h_Wb1), (h_Wg)⟩) (by decide) (by decide) dX12_shares_142
                    · refine g_aload_n (pc := 122) X 2 rfl dX12_shares_122 ?_
                      refine g_get (pc := 123) X inlX12 0 rfl rfl 62 (by decide) mw_9_13 rfl dX12_shares_123 ?_
                      refine g_iload (pc := 126) X 0 rfl dX12_shares_126 ?_
                      refine g_aload_n (pc := 128) X 2 rfl dX12_shares_128 ?_
                      refine g_get (pc := 129) X inlX12 0 rfl rfl 61 (by decide) mw_9_12 rfl dX12_shares_129 ?_
                      refine g_iload (pc := 132) X 0 rfl dX12_shares_132 ?_
                      refine g_ialdI (pc := 134) X 16 rfl (b_k2.1) (by (first | (clear b_nr b_tm b_at_ b_to_ b_fa b_va b_np b_tn b_pc_ b_st_ b_pa_ b_ta b_ow b_of_ b_ot b_rl b_hb b_bs b_se; omega) | omega)) (Int.le_trans b_k2.2 (by decide)) dX12_shares_134 ?_
                      refine g_nameI (fun y33 ey33 => ?_)
                      have by33 : (-2147483648) ≤ y33 ∧ y33 ≤ 2147483647 := by rw [ey33]; exact h_Wf _ (by (first | (clear b_nr b_tm b_at_ b_to_ b_fa b_va b_np b_tn b_pc_ b_st_ b_pa_ b_ta b_ow b_of_ b_ot b_rl b_hb b_bs b_se; omega) | omega))
                      refine g_iastG (pc := 135) X 17 rfl (b_k2.1) (by (first | (clear b_nr b_tm b_at_ b_to_ b_fa b_va b_np b_tn b_pc_ b_st_ b_pa_ b_ta b_ow b_of_ b_ot b_rl b_hb b_bs b_se; omega) | omega)) (Int.le_trans b_k2.2 (by decide)) (ws' := fun F34 => [(g0, .inr (12, mO gA nr tm at_ to_ fa va np tn pc_ st_ pa_ ta ow of_ ot rl hb n1 se)), cA Z (gA 13) 0 7 Mw, cA Z (gA 14) 0 7 Mo, cR Z (gA 0) 6 7 (gG 0), cR Z (gA 4) 6 7 (gG 4), cR Z (gA 5) 6 7 (gG 5), cR Z (gA 6) 6 7 (gG 6), cR Z (gA 9) 6 7 (gG 9), cA Z (xA 0) 0 8 Ml, cA Z (xA 4) 0 8 Mow, cA Z (xA 5) 0 8 Mof, cA Z (xA 6) 0 8 Mot, cA Z (xA 9) 0 8 Md, cA Z (gA 58) 0 4 Bp, cA Z (gA 59) 0 4 Br, cA Z (gA 60) 0 8 Wo, cA Z (gA 61) 0 8 Wf, cA Z (gA 62) 0 8 F34, cA Z (gA 63) 0 4 Wg]) (fun _ => rfl) dX12_shares_135 (fun F34 eF34 => ?_)
                      have hF34 : ∀ j, j < 8 → (-2147483648) ≤ F34 j ∧ F34 j ≤ 2147483647 := by rw [eF34]; exact updI_B h_Wb1 (by (first | (clear b_nr b_tm b_at_ b_to_ b_fa b_va b_np b_tn b_pc_ b_st_ b_pa_ b_ta b_ow b_of_ b_ot b_rl b_hb b_bs b_se; omega) | omega))
                      refine g_iincI (pc := 136) X 0 rfl (by decide) (lv' := [(4, .int (iI (k2 + 1))), (3, .int (iI n1)), (0, .ref g0), (1, .int (iI rm)), (2, .int (iI w))]) rfl dX12_shares_136 ?_
                      refine g_goto (pc := 139) X 111 (by decide) dX12_shares_139 ?_
                      exact ih (k2 + 1) F34 (by (first | (clear b_nr b_tm b_at_ b_to_ b_fa b_va b_np b_tn b_pc_ b_st_ b_pa_ b_ta b_ow b_of_ b_ot b_rl b_hb b_bs b_se; omega) | omega)) (hF34) (by (first | (clear b_nr b_tm b_at_ b_to_ b_fa b_va b_np b_tn b_pc_ b_st_ b_pa_ b_ta b_ow b_of_ b_ot b_rl b_hb b_bs b_se; omega) | omega))
                exact loop111 _ 0 Wb (by (first | (clear b_nr b_tm b_at_ b_to_ b_fa b_va b_np b_tn b_pc_ b_st_ b_pa_ b_ta b_ow b_of_ b_ot b_rl b_hb b_bs b_se; omega) | omega)) (h_Wb) (Nat.lt_succ_self _)
              · exact g_vret (pc := 102) X hA (⟨Wf, Wb, Wg, bs, rfl, rfl, (b_bs), (h_Wf), (h_Wb), (h_Wg)⟩) (by decide) (by decide) dX12_shares_102
          · refine g_iload_n (pc := 36) X 1 rfl dX12_shares_36 ?_
            refine g_aload_n (pc := 37) X 2 rfl dX12_shares_37 ?_
            refine g_get (pc := 38) X inlX12 0 rfl rfl 61 (by decide) mw_9_12 rfl dX12_shares_38 ?_
            refine g_iload (pc := 41) X 0 rfl dX12_shares_41 ?_
            refine g_ialdI (pc := 43) X 16 rfl (b_k1.1) (by (first | (clear b_nr b_tm b_at_ b_to_ b_fa b_va b_np b_tn b_pc_ b_st_ b_pa_ b_ta b_ow b_of_ b_ot b_rl b_hb b_bs b_se; omega) | omega)) (Int.le_trans b_k1.2 (by decide)) dX12_shares_43 ?_
            refine g_nameI (fun y35 ey35 => ?_)
            have by35 : (-2147483648) ≤ y35 ∧ y35 ≤ 2147483647 := by rw [ey35]; exact h_Wf _ (by (first | (clear b_nr b_tm b_at_ b_to_ b_fa b_va b_np b_tn b_pc_ b_st_ b_pa_ b_ta b_ow b_of_ b_ot b_rl b_hb b_bs b_se; omega) | omega))
            refine g_aload_n (pc := 44) X 2 rfl dX12_shares_44 ?_
            refine g_get (pc := 45) X inlX12 0 rfl rfl 61 (by decide) mw_9_12 rfl dX12_shares_45 ?_
            refine g_iload (pc := 48) X 0 rfl dX12_shares_48 ?_
            refine g_iconst (pc := 50) X (iI 1) (by rfl) dX12_shares_50 ?_
            refine g_iaddI (pc := 51) X dX12_shares_51 ?_
            refine g_aload_n (pc := 52) X 2 rfl dX12_shares_52 ?_
            refine g_get (pc := 53) X inlX12 0 rfl rfl 13 (by decide) mw_8_1 rfl dX12_shares_53 ?_
            refine g_iload_n (pc := 56) X 3 rfl dX12_shares_56 ?_
            refine g_ialdI (pc := 57) X 1 rfl (b_rm.1) (Int.lt_of_le_of_lt b_rm.2 (by decide)) (Int.le_trans b_rm.2 (by decide)) dX12_shares_57 ?_
            refine g_nameI (fun y36 ey36 => ?_)
            have by36 : 0 ≤ y36 ∧ y36 ≤ 8 := by rw [ey36]; exact h_Mw _ (by (first | (clear b_nr b_tm b_at_ b_to_ b_fa b_va b_np b_tn b_pc_ b_st_ b_pa_ b_ta b_ow b_of_ b_ot b_rl b_hb b_bs b_se; omega) | omega))
            have ty36 : 1 ≤ y36 ∧ y36 ≤ 8 := by rw [ey36]; exact hwn
            refine g_iremP (pc := 58) X (by (first | (clear b_nr b_tm b_at_ b_to_ b_fa b_va b_np b_tn b_pc_ b_st_ b_pa_ b_ta b_ow b_of_ b_ot b_rl b_hb b_bs b_se; omega) | omega)) (by (first | (clear b_nr b_tm b_at_ b_to_ b_fa b_va b_np b_tn b_pc_ b_st_ b_pa_ b_ta b_ow b_of_ b_ot b_rl b_hb b_bs b_se; omega) | omega)) (by (first | (clear b_nr b_tm b_at_ b_to_ b_fa b_va b_np b_tn b_pc_ b_st_ b_pa_ b_ta b_ow b_of_ b_ot b_rl b_hb b_bs b_se; omega) | omega)) (by (first | (clear b_nr b_tm b_at_ b_to_ b_fa b_va b_np b_tn b_pc_ b_st_ b_pa_ b_ta b_ow b_of_ b_ot b_rl b_hb b_bs b_se; omega) | omega)) dX12_shares_58 ?_
            refine g_nameI (fun y37 ey37 => ?_)
            have by37 : 0 ≤ y37 ∧ y37 ≤ 7 := by rw [ey37]; exact modB (by (first | (clear b_nr b_tm b_at_ b_to_ b_fa b_va b_np b_tn b_pc_ b_st_ b_pa_ b_ta b_ow b_of_ b_ot b_rl b_hb b_bs b_se; omega) | omega)) (by (first | (clear b_nr b_tm b_at_ b_to_ b_fa b_va b_np b_tn b_pc_ b_st_ b_pa_ b_ta b_ow b_of_ b_ot b_rl b_hb b_bs b_se; omega) | omega)) (by (first | (clear b_nr b_tm b_at_ b_to_ b_fa b_va b_np b_tn b_pc_ b_st_ b_pa_ b_ta b_ow b_of_ b_ot b_rl b_hb b_bs b_se; omega) | omega))
            have cy37 : y37 < y36 := by rw [ey37]; exact Int.emod_lt_of_pos _ (by (first | (clear b_nr b_tm b_at_ b_to_ b_fa b_va b_np b_tn b_pc_ b_st_ b_pa_ b_ta b_ow b_of_ b_ot b_rl b_hb b_bs b_se; omega) | omega))
            refine g_ialdI (pc := 59) X 16 rfl (by (first | (clear b_nr b_tm b_at_ b_to_ b_fa b_va b_np b_tn b_pc_ b_st_ b_pa_ b_ta b_ow b_of_ b_ot b_rl b_hb b_bs b_se; omega) | omega)) (by (first | (clear b_nr b_tm b_at_ b_to_ b_fa b_va b_np b_tn b_pc_ b_st_ b_pa_ b_ta b_ow b_of_ b_ot b_rl b_hb b_bs b_se; omega) | omega)) (by (first | (clear b_nr b_tm b_at_ b_to_ b_fa b_va b_np b_tn b_pc_ b_st_ b_pa_ b_ta b_ow b_of_ b_ot b_rl b_hb b_bs b_se; omega) | omega)) dX12_shares_59 ?_
            refine g_nameI (fun y38 ey38 => ?_)
            have by38 : (-2147483648) ≤ y38 ∧ y38 ≤ 2147483647 := by rw [ey38]; exact h_Wf _ (by (first | (clear b_nr b_tm b_at_ b_to_ b_fa b_va b_np b_tn b_pc_ b_st_ b_pa_ b_ta b_ow b_of_ b_ot b_rl b_hb b_bs b_se; omega) | omega))
            refine g_icmp_eqI (pc := 60) X 77 (by decide) by35 by38 dX12_shares_60 (fun c60 => ?_) (fun c60 => ?_)
            · refine g_iconst (pc := 77) X (iI 0) (by rfl) dX12_shares_77 ?_
              refine g_iaddI (pc := 78) X dX12_shares_78 ?_
              refine g_istore_n (pc := 79) X (i := 3) rfl (by decide) (lv' := [(3, .int (iI (n1 + 0))), (4, .int (iI k1)), (0, .ref g0), (1, .int (iI rm)), (2, .int (iI w))]) rfl dX12_shares_79 ?_
              refine g_iincI (pc := 80) X 1 rfl (by decide) (lv' := [(4, .int (iI (k1 + 1))), (3, .int (iI (n1 + 0))), (0, .ref g0), (1, .int (iI rm)), (2, .int (iI w))]) rfl dX12_shares_80 ?_
              refine g_goto (pc := 83) X 15 (by decide) dX12_shares_83 ?_
              exact ih (n1 + 0) (k1 + 1) (by (first | (clear b_nr b_tm b_at_ b_to_ b_fa b_va b_np b_tn b_pc_ b_st_ b_pa_ b_ta b_ow b_of_ b_ot b_rl b_hb b_bs b_se; omega) | omega)) (by (first | (clear b_nr b_tm b_at_ b_to_ b_fa b_va b_np b_tn b_pc_ b_st_ b_pa_ b_ta b_ow b_of_ b_ot b_rl b_hb b_bs b_se; omega) | omega)) (by (first | (clear b_nr b_tm b_at_ b_to_ b_fa b_va b_np b_tn b_pc_ b_st_ b_pa_ b_ta b_ow b_of_ b_ot b_rl b_hb b_bs b_se; omega) | omega))
            · refine g_aload_n (pc := 63) X 2 rfl dX12_shares_63 ?_
              refine g_iload_n (pc := 64) X 3 rfl dX12_shares_64 ?_
              refine g_iload (pc := 65) X 0 rfl dX12_shares_65 ?_
              refine g_callV (pc := 67) X (k_X12_hasDoor l Z g0 gA gG xA Mw Mo Ml Mow Mof Mot Md rm k1 nr tm at_ to_ fa va np tn pc_ st_ pa_ ta ow of_ ot rl hb bs se b_rm (by (first | (clear b_nr b_tm b_at_ b_to_ b_fa b_va b_np b_tn b_pc_ b_st_ b_pa_ b_ta b_ow b_of_ b_ot b_rl b_hb b_bs b_se; omega) | omega)) b_nr b_tm b_at_ b_to_ b_fa b_va b_np b_tn b_pc_ b_st_ b_pa_ b_ta b_ow b_of_ b_ot b_rl b_hb b_bs b_se (hG) (by (first | (clear b_nr b_tm b_at_ b_to_ b_fa b_va b_np b_tn b_pc_ b_st_ b_pa_ b_ta b_ow b_of_ b_ot b_rl b_hb b_bs b_se; omega) | omega)) (h_Mw) (h_Mo) (h_Ml) (h_Mow) (h_Mof) (h_Mot) (h_Md)) iM_X12_hasDoor mw_50_6 mw_50_7 mw_50_8 0 rfl rfl [0, 1, 2, 3, 4, 5, 6, 7, 8, 9, 10, 11, 12] [13, 14, 15, 16, 17, 18] rfl (wr := [cA Z (gA 58) 0 4 Bp, cA Z (gA 59) 0 4 Br, cA Z (gA 60) 0 8 Wo, cA Z (gA 61) 0 8 Wf, cA Z (gA 62) 0 8 Wb, cA Z (gA 63) 0 4 Wg]) rfl (by decide) rfl rfl (Nat.le_of_ble_eq_true rfl) (by decide) dX12_shares_67 (fun r w' hpo => ?_)
              refine exN_1 hpo fun y39 hz => anD_3 hz fun e_r e_w hf67_b_y => ?_; clear hz hpo; subst e_r; subst e_w
              refine g_as (pc' := 70) (lv' := [(4, .int (iI k1)), (3, .int (iI n1)), (0, .ref g0), (1, .int (iI rm)), (2, .int (iI w))]) (st' := [.int (iI y39), .int (iI n1)]) (ws' := [cA Z (gA 58) 0 4 Bp, cA Z (gA 59) 0 4 Br, cA Z (gA 60) 0 8 Wo, cA Z (gA 61) 0 8 Wf, cA Z (gA 62) 0 8 Wb, cA Z (gA 63) 0 4 Wg, (g0, .inr (12, mO gA nr tm at_ to_ fa va np tn pc_ st_ pa_ ta ow of_ ot rl hb bs se)), cA Z (gA 13) 0 7 Mw, cA Z (gA 14) 0 7 Mo, cR Z (gA 0) 6 7 (gG 0), cR Z (gA 4) 6 7 (gG 4), cR Z (gA 5) 6 7 (gG 5), cR Z (gA 6) 6 7 (gG 6), cR Z (gA 9) 6 7 (gG 9), cA Z (xA 0) 0 8 Ml, cA Z (xA 4) 0 8 Mow, cA Z (xA 5) 0 8 Mof, cA Z (xA 6) 0 8 Mot, cA Z (xA 9) 0 8 Md]) rfl rfl rfl rfl ?_
              refine g_if_neI (pc := 70) X 77 (by decide) (inRb hf67_b_y (by decide) (by decide)) dX12_shares_70 (fun c70 => ?_) (fun c70 => ?_)
              · refine g_iconst (pc := 77) X (iI 0) (by rfl) dX12_shares_77 ?_
                refine g_iaddI (pc := 78) X dX12_shares_78 ?_
                refine g_istore_n (pc := 79) X (i := 3) rfl (by decide) (lv' := [(3, .int (iI (n1 + 0))), (4, .int (iI k1)), (0, .ref g0), (1, .int (iI rm)), (2, .int (iI w))]) rfl dX12_shares_79 ?_
                refine g_iincI (pc := 80) X 1 rfl (by decide) (lv' := [(4, .int (iI (k1 + 1))), (3, .int (iI (n1 + 0))), (0, .ref g0), (1, .int (iI rm)), (2, .int (iI w))]) rfl dX12_shares_80 ?_
                refine g_goto (pc := 83) X 15 (by decide) dX12_shares_83 ?_
                refine g_ws (ws' := [(g0, .inr (12, mO gA nr tm at_ to_ fa va np tn pc_ st_ pa_ ta ow of_ ot rl hb bs se)), cA Z (gA 13) 0 7 Mw, cA Z (gA 14) 0 7 Mo, cR Z (gA 0) 6 7 (gG 0), cR Z (gA 4) 6 7 (gG 4), cR Z (gA 5) 6 7 (gG 5), cR Z (gA 6) 6 7 (gG 6), cR Z (gA 9) 6 7 (gG 9), cA Z (xA 0) 0 8 Ml, cA Z (xA 4) 0 8 Mow, cA Z (xA 5) 0 8 Mof, cA Z (xA 6) 0 8 Mot, cA Z (xA 9) 0 8 Md, cA Z (gA 58) 0 4 Bp, cA Z (gA 59) 0 4 Br, cA Z (gA 60) 0 8 Wo, cA Z (gA 61) 0 8 Wf, cA Z (gA 62) 0 8 Wb, cA Z (gA 63) 0 4 Wg]) [6, 7, 8, 9, 10, 11, 12, 13, 14, 15, 16, 17, 18, 0, 1, 2, 3, 4, 5] (by decide) rfl ?_
                exact ih (n1 + 0) (k1 + 1) (by (first | (clear b_nr b_tm b_at_ b_to_ b_fa b_va b_np b_tn b_pc_ b_st_ b_pa_ b_ta b_ow b_of_ b_ot b_rl b_hb b_bs b_se; omega) | omega)) (by (first | (clear b_nr b_tm b_at_ b_to_ b_fa b_va b_np b_tn b_pc_ b_st_ b_pa_ b_ta b_ow b_of_ b_ot b_rl b_hb b_bs b_se; omega) | omega)) (by (first | (clear b_nr b_tm b_at_ b_to_ b_fa b_va b_np b_tn b_pc_ b_st_ b_pa_ b_ta b_ow b_of_ b_ot b_rl b_hb b_bs b_se; omega) | omega))
              · refine g_iconst (pc := 73) X (iI 1) (by rfl) dX12_shares_73 ?_
                refine g_goto (pc := 74) X 78 (by decide) dX12_shares_74 ?_
                refine g_iaddI (pc := 78) X dX12_shares_78 ?_
                refine g_any (fun y41 by41 => ?_)
                refine g_istore_n (pc := 79) X (i := 3) rfl (by decide) (lv' := [(3, .int (iI y41)), (4, .int (iI k1)), (0, .ref g0), (1, .int (iI rm)), (2, .int (iI w))]) rfl dX12_shares_79 ?_
                refine g_iincI (pc := 80) X 1 rfl (by decide) (lv' := [(4, .int (iI (k1 + 1))), (3, .int (iI y41)), (0, .ref g0), (1, .int (iI rm)), (2, .int (iI w))]) rfl dX12_shares_80 ?_
                refine g_goto (pc := 83) X 15 (by decide) dX12_shares_83 ?_
                refine g_ws (ws' := [(g0, .inr (12, mO gA nr tm at_ to_ fa va np tn pc_ st_ pa_ ta ow of_ ot rl hb bs se)), cA Z (gA 13) 0 7 Mw, cA Z (gA 14) 0 7 Mo, cR Z (gA 0) 6 7 (gG 0), cR Z (gA 4) 6 7 (gG 4), cR Z (gA 5) 6 7 (gG 5), cR Z (gA 6) 6 7 (gG 6), cR Z (gA 9) 6 7 (gG 9), cA Z (xA 0) 0 8 Ml, cA Z (xA 4) 0 8 Mow, cA Z (xA 5) 0 8 Mof, cA Z (xA 6) 0 8 Mot, cA Z (xA 9) 0 8 Md, cA Z (gA 58) 0 4 Bp, cA Z (gA 59) 0 4 Br, cA Z (gA 60) 0 8 Wo, cA Z (gA 61) 0 8 Wf, cA Z (gA 62) 0 8 Wb, cA Z (gA 63) 0 4 Wg]) [6, 7, 8, 9, 10, 11, 12, 13, 14, 15, 16, 17, 18, 0, 1, 2, 3, 4, 5] (by decide) rfl ?_
                exact ih y41 (k1 + 1) (by41) (by (first | (clear b_nr b_tm b_at_ b_to_ b_fa b_va b_np b_tn b_pc_ b_st_ b_pa_ b_ta b_ow b_of_ b_ot b_rl b_hb b_bs b_se; omega) | omega)) (by (first | (clear b_nr b_tm b_at_ b_to_ b_fa b_va b_np b_tn b_pc_ b_st_ b_pa_ b_ta b_ow b_of_ b_ot b_rl b_hb b_bs b_se; omega) | omega))
    exact loop15 _ 0 0 (by (first | (clear b_nr b_tm b_at_ b_to_ b_fa b_va b_np b_tn b_pc_ b_st_ b_pa_ b_ta b_ow b_of_ b_ot b_rl b_hb b_bs b_se; omega) | omega)) (by (first | (clear b_nr b_tm b_at_ b_to_ b_fa b_va b_np b_tn b_pc_ b_st_ b_pa_ b_ta b_ow b_of_ b_ot b_rl b_hb b_bs b_se; omega) | omega)) (Nat.lt_succ_self _)

set_option maxHeartbeats 4000000 in
set_option maxRecDepth 100000 in
theorem k_X12_shares2 (l : Launch) (Z : gZ) (g0 : Nat) (gA : Nat → Nat) (gG : Nat → Nat → Option Nat) (xA : Nat → Nat) (Mw : Nat → Int) (Mo : Nat → Int) (Ml : Nat → Int) (Mow : Nat → Int) (Mof : Nat → Int) (Mot : Nat → Int) (Md : Nat → Int) (Bp : Nat → Int) (Br : Nat → Int) (Wo : Nat → Int) (Wf : Nat → Int) (Wb : Nat → Int) (Wg : Nat → Int) (rm : Int) (w : Int) (nr : Int) (tm : Int) (at_ : Int) (to_ : Int) (fa : Int) (va : Int) (np : Int) (tn : Int) (pc_ : Int) (st_ : Int) (pa_ : Int) (ta : Int) (ow : Int) (of_ : Int) (ot : Int) (rl : Int) (hb : Int) (bs : Int) (se : Int) (b_rm : 0 ≤ rm ∧ rm ≤ 5) (b_w : 0 ≤ w ∧ w ≤ 8) (b_nr : 0 ≤ nr ∧ nr ≤ 6) (b_tm : 0 ≤ tm ∧ tm ≤ 400) (b_at_ : 0 ≤ at_ ∧ at_ ≤ 400) (b_to_ : 0 ≤ to_ ∧ to_ ≤ 400) (b_fa : (-1) ≤ fa ∧ fa ≤ 400) (b_va : (-2147483648) ≤ va ∧ va ≤ 2147483647) (b_np : 0 ≤ np ∧ np ≤ 4) (b_tn : 0 ≤ tn ∧ tn ≤ 20) (b_pc_ : 0 ≤ pc_ ∧ pc_ ≤ 480) (b_st_ : 0 ≤ st_ ∧ st_ ≤ 240) (b_pa_ : (-1) ≤ pa_ ∧ pa_ ≤ 3) (b_ta : (-2147483648) ≤ ta ∧ ta ≤ 2147483647) (b_ow : (-2147483648) ≤ ow ∧ ow ≤ 2147483647) (b_of_ : (-2147483648) ≤ of_ ∧ of_ ≤ 2147483647) (b_ot : (-2147483648) ≤ ot ∧ ot ≤ 2147483647) (b_rl : 0 ≤ rl ∧ rl ≤ 2880) (b_hb : 0 ≤ hb ∧ hb ≤ 4) (b_bs : (-2147483648) ≤ bs ∧ bs ≤ 2147483647) (b_se : 0 ≤ se ∧ se ≤ 10) (hG : ∀ k, gG k rm.toNat = some (xA k)) (hwn : 1 ≤ Mw rm.toNat ∧ Mw rm.toNat ≤ 8) (hd : Mw rm.toNat - w ≤ 2) (hw : w ≤ Mw rm.toNat) (h_Mw : ∀ j, j < 7 → 0 ≤ Mw j ∧ Mw j ≤ 8) (h_Mo : ∀ j, j < 7 → 0 ≤ Mo j ∧ Mo j ≤ 8) (h_Ml : ∀ j, j < 8 → 0 ≤ Ml j ∧ Ml j ≤ 600) (h_Mow : ∀ j, j < 8 → 0 ≤ Mow j ∧ Mow j ≤ 7) (h_Mof : ∀ j, j < 8 → 0 ≤ Mof j ∧ Mof j ≤ 600) (h_Mot : ∀ j, j < 8 → 0 ≤ Mot j ∧ Mot j ≤ 600) (h_Md : ∀ j, j < 8 → 0 ≤ Md j ∧ Md j ≤ 1) (h_Bp : ∀ j, j < 4 → (-2147483648) ≤ Bp j ∧ Bp j ≤ 2147483647) (h_Br : ∀ j, j < 4 → (-2147483648) ≤ Br j ∧ Br j ≤ 2147483647) (h_Wo : ∀ j, j < 8 → (-2147483648) ≤ Wo j ∧ Wo j ≤ 2147483647) (h_Wf : ∀ j, j < 8 → (-2147483648) ≤ Wf j ∧ Wf j ≤ 2147483647) (h_Wb : ∀ j, j < 8 → (-2147483648) ≤ Wb j ∧ Wb j ≤ 2147483647) (h_Wg : ∀ j, j < 4 → (-2147483648) ≤ Wg j ∧ Wg j ≤ 2147483647) : Con l Z yX12_shares cX12_shares 5 none 3 72 0 0 [.ref g0, .int (iI rm), .int (iI w)] [(g0, .inr (12, mO gA nr tm at_ to_ fa va np tn pc_ st_ pa_ ta ow of_ ot rl hb bs se)), cA Z (gA 13) 0 7 Mw, cA Z (gA 14) 0 7 Mo, cR Z (gA 0) 6 7 (gG 0), cR Z (gA 4) 6 7 (gG 4), cR Z (gA 5) 6 7 (gG 5), cR Z (gA 6) 6 7 (gG 6), cR Z (gA 9) 6 7 (gG 9), cA Z (xA 0) 0 8 Ml, cA Z (xA 4) 0 8 Mow, cA Z (xA 5) 0 8 Mof, cA Z (xA 6) 0 8 Mot, cA Z (xA 9) 0 8 Md, cA Z (gA 58) 0 4 Bp, cA Z (gA 59) 0 4 Br, cA Z (gA 60) 0 8 Wo, cA Z (gA 61) 0 8 Wf, cA Z (gA 62) 0 8 Wb, cA Z (gA 63) 0 4 Wg] (fun r w' => ∃ (Wf2 : Nat → Int) (Wb2 : Nat → Int) (Wg2 : Nat → Int) (bs2 : Int), (r = none) ∧ (w' = [(g0, .inr (12, mO gA nr tm at_ to_ fa va np tn pc_ st_ pa_ ta ow of_ ot rl hb bs2 se)), cA Z (gA 13) 0 7 Mw, cA Z (gA 14) 0 7 Mo, cR Z (gA 0) 6 7 (gG 0), cR Z (gA 4) 6 7 (gG 4), cR Z (gA 5) 6 7 (gG 5), cR Z (gA 6) 6 7 (gG 6), cR Z (gA 9) 6 7 (gG 9), cA Z (xA 0) 0 8 Ml, cA Z (xA 4) 0 8 Mow, cA Z (xA 5) 0 8 Mof, cA Z (xA 6) 0 8 Mot, cA Z (xA 9) 0 8 Md, cA Z (gA 58) 0 4 Bp, cA Z (gA 59) 0 4 Br, cA Z (gA 60) 0 8 Wo, cA Z (gA 61) 0 8 Wf2, cA Z (gA 62) 0 8 Wb2, cA Z (gA 63) 0 4 Wg2]) ∧ ((-2147483648) ≤ bs2 ∧ bs2 ≤ 2147483647) ∧ (∀ j, j < 8 → (-2147483648) ≤ Wf2 j ∧ Wf2 j ≤ 2147483647) ∧ (∀ j, j < 8 → (-2147483648) ≤ Wb2 j ∧ Wb2 j ≤ 2147483647) ∧ (∀ j, j < 4 → (-2147483648) ≤ Wg2 j ∧ Wg2 j ≤ 2147483647)) := by
  refine enter (by decide) (Nat.le_of_ble_eq_true rfl) ?_
  intro p e s m args below meth c A X hnm hA
  have X : Cx p s m args meth c cX12_shares 5 none RX12 Z A := X
  refine g_as (pc' := 0) (lv' := [(0, .ref g0), (1, .int (iI rm)), (2, .int (iI w))]) (st' := []) (ws' := [(g0, .inr (12, mO gA nr tm at_ to_ fa va np tn pc_ st_ pa_ ta ow of_ ot rl hb bs se)), cA Z (gA 13) 0 7 Mw, cA Z (gA 14) 0 7 Mo, cR Z (gA 0) 6 7 (gG 0), cR Z (gA 4) 6 7 (gG 4), cR Z (gA 5) 6 7 (gG 5), cR Z (gA 6) 6 7 (gG 6), cR Z (gA 9) 6 7 (gG 9), cA Z (xA 0) 0 8 Ml, cA Z (xA 4) 0 8 Mow, cA Z (xA 5) 0 8 Mof, cA Z (xA 6) 0 8 Mot, cA Z (xA 9) 0 8 Md, cA Z (gA 58) 0 4 Bp, cA Z (gA 59) 0 4 Br, cA Z (gA 60) 0 8 Wo, cA Z (gA 61) 0 8 Wf, cA Z (gA 62) 0 8 Wb, cA Z (gA 63) 0 4 Wg]) rfl rfl rfl rfl ?_
  refine g_iload_n (pc := 0) X 2 rfl dX12_shares_0 ?_
  refine g_aload_n (pc := 1) X 0 rfl dX12_shares_1 ?_
  refine g_get (pc := 2) X inlX12 0 rfl rfl 13 (by decide) mw_8_1 rfl dX12_shares_2 ?_
  refine g_iload_n (pc := 5) X 1 rfl dX12_shares_5 ?_
  refine g_ialdI (pc := 6) X 1 rfl (b_rm.1) (Int.lt_of_le_of_lt b_rm.2 (by decide)) (Int.le_trans b_rm.2 (by decide)) dX12_shares_6 ?_
  refine g_nameI (fun y1 ey1 => ?_)
  have by1 : 0 ≤ y1 ∧ y1 ≤ 8 := by rw [ey1]; exact h_Mw _ (by (first | (clear b_nr b_tm b_at_ b_to_ b_fa b_va b_np b_tn b_pc_ b_st_ b_pa_ b_ta b_ow b_of_ b_ot b_rl b_hb b_bs b_se; omega) | omega))
  have ty1 : 1 ≤ y1 ∧ y1 ≤ 8 := by rw [ey1]; exact hwn
  refine g_icmp_neI (pc := 7) X 143 (by decide) (inRb b_w (by decide) (by decide)) (inRb by1 (by decide) (by decide)) dX12_shares_7 (fun c7 => ?_) (fun c7 => ?_)
  · refine g_iconst (pc := 143) X (iI 0) (by rfl) dX12_shares_143 ?_
    refine g_istore_n (pc := 144) X (i := 3) rfl (by decide) (lv' := [(3, .int (iI 0)), (0, .ref g0), (1, .int (iI rm)), (2, .int (iI w))]) rfl dX12_shares_144 ?_
    have loop145 : ∀ (fuel : Nat) (b3 : Int) (bs1 : Int) (Wf1 : Nat → Int) (Wb1 : Nat → Int) (Wg1 : Nat → Int), (0 ≤ b3 ∧ b3 ≤ 4) → ((-2147483648) ≤ bs1 ∧ bs1 ≤ 2147483647) → (∀ j, j < 8 → (-2147483648) ≤ Wf1 j ∧ Wf1 j ≤ 2147483647) → (∀ j, j < 8 → (-2147483648) ≤ Wb1 j ∧ Wb1 j ≤ 2147483647) → (∀ j, j < 4 → (-2147483648) ≤ Wg1 j ∧ Wg1 j ≤ 2147483647) → (5 - b3).toNat < fuel → Gs p l e ({ frames := 3, cells := 0, slots := 0, locals := 72 } : Room) s m args below meth c (MQ below (gPost Z [(g0, .inr (12, mO gA nr tm at_ to_ fa va np tn pc_ st_ pa_ ta ow of_ ot rl hb bs se)), cA Z (gA 13) 0 7 Mw, cA Z (gA 14) 0 7 Mo, cR Z (gA 0) 6 7 (gG 0), cR Z (gA 4) 6 7 (gG 4), cR Z (gA 5) 6 7 (gG 5), cR Z (gA 6) 6 7 (gG 6), cR Z (gA 9) 6 7 (gG 9), cA Z (xA 0) 0 8 Ml, cA Z (xA 4) 0 8 Mow, cA Z (xA 5) 0 8 Mof, cA Z (xA 6) 0 8 Mot, cA Z (xA 9) 0 8 Md, cA Z (gA 58) 0 4 Bp, cA Z (gA 59) 0 4 Br, cA Z (gA 60) 0 8 Wo, cA Z (gA 61) 0 8 Wf, cA Z (gA 62) 0 8 Wb, cA Z (gA 63) 0 4 Wg] s.heap.size (fun r w' => ∃ (Wf2 : Nat → Int) (Wb2 : Nat → Int) (Wg2 : Nat → Int) (bs2 : Int), (r = none) ∧ (w' = [(g0, .inr (12, mO gA nr tm at_ to_ fa va np tn pc_ st_ pa_ ta ow of_ ot rl hb bs2 se)), cA Z (gA 13) 0 7 Mw, cA Z (gA 14) 0 7 Mo, cR Z (gA 0) 6 7 (gG 0), cR Z (gA 4) 6 7 (gG 4), cR Z (gA 5) 6 7 (gG 5), cR Z (gA 6) 6 7 (gG 6), cR Z (gA 9) 6 7 (gG 9), cA Z (xA 0) 0 8 Ml, cA Z (xA 4) 0 8 Mow, cA Z (xA 5) 0 8 Mof, cA Z (xA 6) 0 8 Mot, cA Z (xA 9) 0 8 Md, cA Z (gA 58) 0 4 Bp, cA Z (gA 59) 0 4 Br, cA Z (gA 60) 0 8 Wo, cA Z (gA 61) 0 8 Wf2, cA Z (gA 62) 0 8 Wb2, cA Z (gA 63) 0 4 Wg2]) ∧ ((-2147483648) ≤ bs2 ∧ bs2 ≤ 2147483647) ∧ (∀ j, j < 8 → (-2147483648) ≤ Wf2 j ∧ Wf2 j ≤ 2147483647) ∧ (∀ j, j < 8 → (-2147483648) ≤ Wb2 j ∧ Wb2 j ≤ 2147483647) ∧ (∀ j, j < 4 → (-2147483648) ≤ Wg2 j ∧ Wg2 j ≤ 2147483647))) args s 0 0 (va_A [(g0, .inr (12, mO gA nr tm at_ to_ fa va np tn pc_ st_ pa_ ta ow of_ ot rl hb bs se)), cA Z (gA 13) 0 7 Mw, cA Z (gA 14) 0 7 Mo, cR Z (gA 0) 6 7 (gG 0), cR Z (gA 4) 6 7 (gG 4), cR Z (gA 5) 6 7 (gG 5), cR Z (gA 6) 6 7 (gG 6), cR Z (gA 9) 6 7 (gG 9), cA Z (xA 0) 0 8 Ml, cA Z (xA 4) 0 8 Mow, cA Z (xA 5) 0 8 Mof, cA Z (xA 6) 0 8 Mot, cA Z (xA 9) 0 8 Md, cA Z (gA 58) 0 4 Bp, cA Z (gA 59) 0 4 Br, cA Z (gA 60) 0 8 Wo, cA Z (gA 61) 0 8 Wf, cA Z (gA 62) 0 8 Wb, cA Z (gA 63) 0 4 Wg] s.heap.size)) Z A 5 0 0 145 [(3, .int (iI b3)), (0, .ref g0), (1, .int (iI rm)), (2, .int (iI w))] [] [(g0, .inr (12, mO gA nr tm at_ to_ fa va np tn pc_ st_ pa_ ta ow of_ ot rl hb bs1 se)), cA Z (gA 13) 0 7 Mw, cA Z (gA 14) 0 7 Mo, cR Z (gA 0) 6 7 (gG 0), cR Z (gA 4) 6 7 (gG 4), cR Z (gA 5) 6 7 (gG 5), cR Z (gA 6) 6 7 (gG 6), cR Z (gA 9) 6 7 (gG 9), cA Z (xA 0) 0 8 Ml, cA Z (xA 4) 0 8 Mow, cA Z (xA 5) 0 8 Mof, cA Z (xA 6) 0 8 Mot, cA Z (xA 9) 0 8 Md, cA Z (gA 58) 0 4 Bp, cA Z (gA 59) 0 4 Br, cA Z (gA 60) 0 8 Wo, cA Z (gA 61) 0 8 Wf1, cA Z (gA 62) 0 8 Wb1, cA Z (gA 63) 0 4 Wg1] := by
      intro fuel
      induction fuel with
      | zero => intro b3 bs1 Wf1 Wb1 Wg1 _ _ _ _ _ hm; exact absurd hm (Nat.not_lt_zero _)
      | succ fuel ih =>
        intro b3 bs1 Wf1 Wb1 Wg1 b_b3 b_bs1 h_Wf1 h_Wb1 h_Wg1 hm
        refine g_iload_n (pc := 145) X 0 rfl dX12_shares_145 ?_
        refine g_aload_n (pc := 146) X 1 rfl dX12_shares_146 ?_
        refine g_get (pc := 147) X inlX12 0 rfl rfl 64 (by decide) mw_47_13 rfl dX12_shares_147 ?_
        refine g_icmp_geI (pc := 150) X 242 (by decide) (inRb b_b3 (by decide) (by decide)) (inRb b_hb (by decide) (by decide)) dX12_shares_150 (fun c150 => ?_) (fun c150 => ?_)
        · exact g_vret (pc := 242) X hA (⟨Wf1, Wb1, Wg1, bs1, rfl, rfl, (b_bs1), (h_Wf1), (h_Wb1), (h_Wg1)⟩) (by decide) (by decide) dX12_shares_242
        · refine g_aload_n (pc := 153) X 1 rfl dX12_shares_153 ?_
          refine g_get (pc := 154) X inlX12 0 rfl rfl 58 (by decide) mw_9_9 rfl dX12_shares_154 ?_
          refine g_iload_n (pc := 157) X 0 rfl dX12_shares_157 ?_
          refine g_ialdI (pc := 158) X 13 rfl (b_b3.1) (by (first | (clear b_nr b_tm b_at_ b_to_ b_fa b_va b_np b_tn b_pc_ b_st_ b_pa_ b_ta b_ow b_of_ b_ot b_rl b_hb b_bs b_se; omega) | omega)) (Int.le_trans b_b3.2 (by decide)) dX12_shares_158 ?_
          refine g_nameI (fun y2 ey2 => ?_)
          have by2 : (-2147483648) ≤ y2 ∧ y2 ≤ 2147483647 := by rw [ey2]; exact h_Bp _ (by (first | (clear b_nr b_tm b_at_ b_to_ b_fa b_va b_np b_tn b_pc_ b_st_ b_pa_ b_ta b_ow b_of_ b_ot b_rl b_hb b_bs b_se; omega) | omega))
          refine g_aload_n (pc := 159) X 1 rfl dX12_shares_159 ?_
          refine g_get (pc := 160) X inlX12 0 rfl rfl 49 (by decide) mw_28_2 rfl dX12_shares_160 ?_
          refine g_icmp_neI (pc := 163) X 236 (by decide) by2 (inRb b_pa_ (by decide) (by decide)) dX12_shares_163 (fun c163 => ?_) (fun c163 => ?_)
          · refine g_iincI (pc := 236) X 0 rfl (by decide) (lv' := [(3, .int (iI (b3 + 1))), (0, .ref g0), (1, .int (iI rm)), (2, .int (iI w))]) rfl dX12_shares_236 ?_
            refine g_goto (pc := 239) X 145 (by decide) dX12_shares_239 ?_
            exact ih (b3 + 1) bs1 Wf1 Wb1 Wg1 (by (first | (clear b_nr b_tm b_at_ b_to_ b_fa b_va b_np b_tn b_pc_ b_st_ b_pa_ b_ta b_ow b_of_ b_ot b_rl b_hb b_bs b_se; omega) | omega)) (b_bs1) (h_Wf1) (h_Wb1) (h_Wg1) (by (first | (clear b_nr b_tm b_at_ b_to_ b_fa b_va b_np b_tn b_pc_ b_st_ b_pa_ b_ta b_ow b_of_ b_ot b_rl b_hb b_bs b_se; omega) | omega))
          · refine g_aload_n (pc := 166) X 1 rfl dX12_shares_166 ?_
            refine g_get (pc := 167) X inlX12 0 rfl rfl 63 (by decide) mw_9_14 rfl dX12_shares_167 ?_
            refine g_iload_n (pc := 170) X 0 rfl dX12_shares_170 ?_
            refine g_ialdI (pc := 171) X 18 rfl (b_b3.1) (by (first | (clear b_nr b_tm b_at_ b_to_ b_fa b_va b_np b_tn b_pc_ b_st_ b_pa_ b_ta b_ow b_of_ b_ot b_rl b_hb b_bs b_se; omega) | omega)) (Int.le_trans b_b3.2 (by decide)) dX12_shares_171 ?_
            refine g_nameI (fun y3 ey3 => ?_)
            have by3 : (-2147483648) ≤ y3 ∧ y3 ≤ 2147483647 := by rw [ey3]; exact h_Wg1 _ (by (first | (clear b_nr b_tm b_at_ b_to_ b_fa b_va b_np b_tn b_pc_ b_st_ b_pa_ b_ta b_ow b_of_ b_ot b_rl b_hb b_bs b_se; omega) | omega))
            refine g_aload_n (pc := 172) X 1 rfl dX12_shares_172 ?_
            refine g_get (pc := 173) X inlX12 0 rfl rfl 60 (by decide) mw_9_11 rfl dX12_shares_173 ?_
            refine g_iload_n (pc := 176) X 3 rfl dX12_shares_176 ?_
            refine g_ialdI (pc := 177) X 15 rfl (b_w.1) (by (first | (clear b_nr b_tm b_at_ b_to_ b_fa b_va b_np b_tn b_pc_ b_st_ b_pa_ b_ta b_ow b_of_ b_ot b_rl b_hb b_bs b_se; omega) | omega)) (Int.le_trans b_w.2 (by decide)) dX12_shares_177 ?_
            refine g_nameI (fun y4 ey4 => ?_)
            have by4 : (-2147483648) ≤ y4 ∧ y4 ≤ 2147483647 := by rw [ey4]; exact h_Wo _ (by (first | (clear b_nr b_tm b_at_ b_to_ b_fa b_va b_np b_tn b_pc_ b_st_ b_pa_ b_ta b_ow b_of_ b_ot b_rl b_hb b_bs b_se; omega) | omega))
            refine g_iaddI (pc := 178) X dX12_shares_178 ?_
            refine g_any (fun y5 by5 => ?_)
            refine g_aload_n (pc := 179) X 1 rfl dX12_shares_179 ?_
            refine g_get (pc := 180) X inlX12 0 rfl rfl 59 (by decide) mw_9_10 rfl dX12_shares_180 ?_
            refine g_iload_n (pc := 183) X 0 rfl dX12_shares_183 ?_
            refine g_ialdI (pc := 184) X 14 rfl (b_b3.1) (by (first | (clear b_nr b_tm b_at_ b_to_ b_fa b_va b_np b_tn b_pc_ b_st_ b_pa_ b_ta b_ow b_of_ b_ot b_rl b_hb b_bs b_se; omega) | omega)) (Int.le_trans b_b3.2 (by decide)) dX12_shares_184 ?_
            refine g_nameI (fun y6 ey6 => ?_)
            have by6 : (-2147483648) ≤ y6 ∧ y6 ≤ 2147483647 := by rw [ey6]; exact h_Br _ (by (first | (clear b_nr b_tm b_at_ b_to_ b_fa b_va b_np b_tn b_pc_ b_st_ b_pa_ b_ta b_ow b_of_ b_ot b_rl b_hb b_bs b_se; omega) | omega))
            refine g_icmp_leI (pc := 185) X 191 (by decide) by5 by6 dX12_shares_185 (fun c185 => ?_) (fun c185 => ?_)
            · refine g_aload_n (pc := 191) X 1 rfl dX12_shares_191 ?_
              refine g_get (pc := 192) X inlX12 0 rfl rfl 63 (by decide) mw_9_14 rfl dX12_shares_192 ?_
              refine g_iload_n (pc := 195) X 0 rfl dX12_shares_195 ?_
              refine g_dup2 (pc := 196) X rfl rfl dX12_shares_196 ?_
              refine g_ialdI (pc := 197) X 18 rfl (b_b3.1) (by (first | (clear b_nr b_tm b_at_ b_to_ b_fa b_va b_np b_tn b_pc_ b_st_ b_pa_ b_ta b_ow b_of_ b_ot b_rl b_hb b_bs b_se; omega) | omega)) (Int.le_trans b_b3.2 (by decide)) dX12_shares_197 ?_
              refine g_nameI (fun y7 ey7 => ?_)
              have by7 : (-2147483648) ≤ y7 ∧ y7 ≤ 2147483647 := by rw [ey7]; exact h_Wg1 _ (by (first | (clear b_nr b_tm b_at_ b_to_ b_fa b_va b_np b_tn b_pc_ b_st_ b_pa_ b_ta b_ow b_of_ b_ot b_rl b_hb b_bs b_se; omega) | omega))
              refine g_aload_n (pc := 198) X 1 rfl dX12_shares_198 ?_
              refine g_get (pc := 199) X inlX12 0 rfl rfl 60 (by decide) mw_9_11 rfl dX12_shares_199 ?_
              refine g_iload_n (pc := 202) X 3 rfl dX12_shares_202 ?_
              refine g_ialdI (pc := 203) X 15 rfl (b_w.1) (by (first | (clear b_nr b_tm b_at_ b_to_ b_fa b_va b_np b_tn b_pc_ b_st_ b_pa_ b_ta b_ow b_of_ b_ot b_rl b_hb b_bs b_se; omega) | omega)) (Int.le_trans b_w.2 (by decide)) dX12_shares_203 ?_
              refine g_nameI (fun y8 ey8 => ?_)
              have by8 : (-2147483648) ≤ y8 ∧ y8 ≤ 2147483647 := by rw [ey8]; exact h_Wo _ (by (first | (clear b_nr b_tm b_at_ b_to_ b_fa b_va b_np b_tn b_pc_ b_st_ b_pa_ b_ta b_ow b_of_ b_ot b_rl b_hb b_bs b_se; omega) | omega))
              refine g_iaddI (pc := 204) X dX12_shares_204 ?_
              refine g_any (fun y9 by9 => ?_)
              refine g_iastG (pc := 205) X 18 rfl (b_b3.1) (by (first | (clear b_nr b_tm b_at_ b_to_ b_fa b_va b_np b_tn b_pc_ b_st_ b_pa_ b_ta b_ow b_of_ b_ot b_rl b_hb b_bs b_se; omega) | omega)) (Int.le_trans b_b3.2 (by decide)) (ws' := fun F10 => [(g0, .inr (12, mO gA nr tm at_ to_ fa va np tn pc_ st_ pa_ ta ow of_ ot rl hb bs1 se)), cA Z (gA 13) 0 7 Mw, cA Z (gA 14) 0 7 Mo, cR Z (gA 0) 6 7 (gG 0), cR Z (gA 4) 6 7 (gG 4), cR Z (gA 5) 6 7 (gG 5), cR Z (gA 6) 6 7 (gG 6), cR Z (gA 9) 6 7 (gG 9), cA Z (xA 0) 0 8 Ml, cA Z (xA 4) 0 8 Mow, cA Z (xA 5) 0 8 Mof, cA Z (xA 6) 0 8 Mot, cA Z (xA 9) 0 8 Md, cA Z (gA 58) 0 4 Bp, cA Z (gA 59) 0 4 Br, cA Z (gA 60) 0 8 Wo, cA Z (gA 61) 0 8 Wf1, cA Z (gA 62) 0 8 Wb1, cA Z (gA 63) 0 4 F10]) (fun _ => rfl) dX12_shares_205 (fun F10 eF10 => ?_)
              have hF10 : ∀ j, j < 4 → (-2147483648) ≤ F10 j ∧ F10 j ≤ 2147483647 := by rw [eF10]; exact updI_B h_Wg1 (by (first | (clear b_nr b_tm b_at_ b_to_ b_fa b_va b_np b_tn b_pc_ b_st_ b_pa_ b_ta b_ow b_of_ b_ot b_rl b_hb b_bs b_se; omega) | omega))
              refine g_aload_n (pc := 206) X 1 rfl dX12_shares_206 ?_
              refine g_get (pc := 207) X inlX12 0 rfl rfl 61 (by decide) mw_9_12 rfl dX12_shares_207 ?_
              refine g_iload_n (pc := 210) X 3 rfl dX12_shares_210 ?_
              refine g_iload_n (pc := 211) X 0 rfl dX12_shares_211 ?_
              refine g_iastG (pc := 212) X 16 rfl (b_w.1) (by (first | (clear b_nr b_tm b_at_ b_to_ b_fa b_va b_np b_tn b_pc_ b_st_ b_pa_ b_ta b_ow b_of_ b_ot b_rl b_hb b_bs b_se; omega) | omega)) (Int.le_trans b_w.2 (by decide)) (ws' := fun F11 => [(g0, .inr (12, mO gA nr tm at_ to_ fa va np tn pc_ st_ pa_ ta ow of_ ot rl hb bs1 se)), cA Z (gA 13) 0 7 Mw, cA Z (gA 14) 0 7 Mo, cR Z (gA 0) 6 7 (gG 0), cR Z (gA 4) 6 7 (gG 4), cR Z (gA 5) 6 7 (gG 5), cR Z (gA 6) 6 7 (gG 6), cR Z (gA 9) 6 7 (gG 9), cA Z (xA 0) 0 8 Ml, cA Z (xA 4) 0 8 Mow, cA Z (xA 5) 0 8 Mof, cA Z (xA 6) 0 8 Mot, cA Z (xA 9) 0 8 Md, cA Z (gA 58) 0 4 Bp, cA Z (gA 59) 0 4 Br, cA Z (gA 60) 0 8 Wo, cA Z (gA 61) 0 8 F11, cA Z (gA 62) 0 8 Wb1, cA Z (gA 63) 0 4 F10]) (fun _ => rfl) dX12_shares_212 (fun F11 eF11 => ?_)
              have hF11 : ∀ j, j < 8 → (-2147483648) ≤ F11 j ∧ F11 j ≤ 2147483647 := by rw [eF11]; exact updI_B h_Wf1 (by (first | (clear b_nr b_tm b_at_ b_to_ b_fa b_va b_np b_tn b_pc_ b_st_ b_pa_ b_ta b_ow b_of_ b_ot b_rl b_hb b_bs b_se; omega) | omega))
              refine g_aload_n (pc := 213) X 1 rfl dX12_shares_213 ?_
              refine g_iload_n (pc := 214) X 2 rfl dX12_shares_214 ?_
              refine g_iload_n (pc := 215) X 3 rfl dX12_shares_215 ?_
              refine g_iconst (pc := 216) X (iI 1) (by rfl) dX12_shares_216 ?_
              refine g_iaddI (pc := 217) X dX12_shares_217 ?_
              refine g_callV (pc := 218) X (k_X12_shares1 l Z g0 gA gG xA Mw Mo Ml Mow Mof Mot Md Bp Br Wo F11 Wb1 F10 rm (w + 1) nr tm at_ to_ fa va np tn pc_ st_ pa_ ta ow of_ ot rl hb bs1 se b_rm (by (first | (clear b_nr b_tm b_at_ b_to_ b_fa b_va b_np b_tn b_pc_ b_st_ b_pa_ b_ta b_ow b_of_ b_ot b_rl b_hb b_bs b_se; omega) | omega)) b_nr b_tm b_at_ b_to_ b_fa b_va b_np b_tn b_pc_ b_st_ b_pa_ b_ta b_ow b_of_ b_ot b_rl b_hb b_bs1 b_se (hG) (by (first | (clear b_nr b_tm b_at_ b_to_ b_fa b_va b_np b_tn b_pc_ b_st_ b_pa_ b_ta b_ow b_of_ b_ot b_rl b_hb b_bs b_se; omega) | omega)) (by (first | (clear b_nr b_tm b_at_ b_to_ b_fa b_va b_np b_tn b_pc_ b_st_ b_pa_ b_ta b_ow b_of_ b_ot b_rl b_hb b_bs b_se; omega) | omega)) (by (first | (clear b_nr b_tm b_at_ b_to_ b_fa b_va b_np b_tn b_pc_ b_st_ b_pa_ b_ta b_ow b_of_ b_ot b_rl b_hb b_bs b_se; omega) | omega)) (h_Mw) (h_Mo) (h_Ml) (h_Mow) (h_Mof) (h_Mot) (h_Md) (h_Bp) (h_Br) (h_Wo) (hF11) (h_Wb1) (hF10)) iM_X12_shares mw_50_2 mw_50_3 mw_50_4 0 rfl rfl [0, 1, 2, 3, 4, 5, 6, 7, 8, 9, 10, 11, 12, 13, 14, 15, 16, 17, 18] [] rfl (wr := []) rfl (by decide) rfl rfl (Nat.le_of_ble_eq_true rfl) (by decide) dX12_shares_218 (fun r w' hpo => ?_)
              refine exN_4 hpo fun F12 F13 F14 y15 hz => anD_6 hz fun e_r e_w hf218_b_bs2 hf218_h_Wf2 hf218_h_Wb2 hf218_h_Wg2 => ?_; clear hz hpo; subst e_r; subst e_w
              refine g_as (pc' := 221) (lv' := [(3, .int (iI b3)), (0, .ref g0), (1, .int (iI rm)), (2, .int (iI w))]) (st' := []) (ws' := [(g0, .inr (12, mO gA nr tm at_ to_ fa va np tn pc_ st_ pa_ ta ow of_ ot rl hb y15 se)), cA Z (gA 13) 0 7 Mw, cA Z (gA 14) 0 7 Mo, cR Z (gA 0) 6 7 (gG 0), cR Z (gA 4) 6 7 (gG 4), cR Z (gA 5) 6 7 (gG 5), cR Z (gA 6) 6 7 (gG 6), cR Z (gA 9) 6 7 (gG 9), cA Z (xA 0) 0 8 Ml, cA Z (xA 4) 0 8 Mow, cA Z (xA 5) 0 8 Mof, cA Z (xA 6) 0 8 Mot, cA Z (xA 9) 0 8 Md, cA Z (gA 58) 0 4 Bp, cA Z (gA 59) 0 4 Br, cA Z (gA 60) 0 8 Wo, cA Z (gA 61) 0 8 F12, cA Z (gA 62) 0 8 F13, cA Z (gA 63) 0 4 F14]) rfl rfl rfl rfl ?_
              refine g_aload_n (pc := 221) X 1 rfl dX12_shares_221 ?_
              refine g_get (pc := 222) X inlX12 0 rfl rfl 63 (by decide) mw_9_14 rfl dX12_shares_222 ?_
              refine g_iload_n (pc := 225) X 0 rfl dX12_shares_225 ?_
              refine g_dup2 (pc := 226) X rfl rfl dX12_shares_226 ?_
              refine g_ialdI (pc := 227) X 18 rfl (b_b3.1) (by (first | (clear b_nr b_tm b_at_ b_to_ b_fa b_va b_np b_tn b_pc_ b_st_ b_pa_ b_ta b_ow b_of_ b_ot b_rl b_hb b_bs b_se; omega) | omega)) (Int.le_trans b_b3.2 (by decide)) dX12_shares_227 ?_
              refine g_nameI (fun y17 ey17 => ?_)
              have by17 : (-2147483648) ≤ y17 ∧ y17 ≤ 2147483647 := by rw [ey17]; exact hf218_h_Wg2 _ (by (first | (clear b_nr b_tm b_at_ b_to_ b_fa b_va b_np b_tn b_pc_ b_st_ b_pa_ b_ta b_ow b_of_ b_ot b_rl b_hb b_bs b_se; omega) | omega))
              refine g_aload_n (pc := 228) X 1 rfl dX12_shares_228 ?_
              refine g_get (pc := 229) X inlX12 0 rfl rfl 60 (by decide) mw_9_11 rfl dX12_shares_229 ?_
              refine g_iload_n (pc := 232) X 3 rfl dX12_shares_232 ?_
              refine g_ialdI (pc := 233) X 15 rfl (b_w.1) (by (first | (clear b_nr b_tm b_at_ b_to_ b_fa b_va b_np b_tn b_pc_ b_st_ b_pa_ b_ta b_ow b_of_ b_ot b_rl b_hb b_bs b_se; omega) | omega)) (Int.le_trans b_w.2 (by decide)) dX12_shares_233 ?_
              refine g_nameI (fun y18 ey18 => ?_)
              have by18 : (-2147483648) ≤ y18 ∧ y18 ≤ 2147483647 := by rw [ey18]; exact h_Wo _ (by (first | (clear b_nr b_tm b_at_ b_to_ b_fa b_va b_np b_tn b_pc_ b_st_ b_pa_ b_ta b_ow b_of_ b_ot b_rl b_hb b_bs b_se; omega) | omega))
              refine g_isubI (pc := 234) X dX12_shares_234 ?_
              refine g_any (fun y19 by19 => ?_)
              refine g_iastG (pc := 235) X 18 rfl (b_b3.1) (by (first | (clear b_nr b_tm b_at_ b_to_ b_fa b_va b_np b_tn b_pc_ b_st_ b_pa_ b_ta b_ow b_of_ b_ot b_rl b_hb b_bs b_se; omega) | omega)) (Int.le_trans b_b3.2 (by decide)) (ws' := fun F20 => [(g0, .inr (12, mO gA nr tm at_ to_ fa va np tn pc_ st_ pa_ ta ow of_ ot rl hb y15 se)), cA Z (gA 13) 0 7 Mw, cA Z (gA 14) 0 7 Mo, cR Z (gA 0) 6 7 (gG 0), cR Z (gA 4) 6 7 (gG 4), cR Z (gA 5) 6 7 (gG 5), cR Z (gA 6) 6 7 (gG 6), cR Z (gA 9) 6 7 (gG 9), cA Z (xA 0) 0 8 Ml, cA Z (xA 4) 0 8 Mow, cA Z (xA 5) 0 8 Mof, cA Z (xA 6) 0 8 Mot, cA Z (xA 9) 0 8 Md, cA Z (gA 58) 0 4 Bp, cA Z (gA 59) 0 4 Br, cA Z (gA 60) 0 8 Wo, cA Z (gA 61) 0 8 F12, cA Z (gA 62) 0 8 F13, cA Z (gA 63) 0 4 F20]) (fun _ => rfl) dX12_shares_235 (fun F20 eF20 => ?_)
              have hF20 : ∀ j, j < 4 → (-2147483648) ≤ F20 j ∧ F20 j ≤ 2147483647 := by rw [eF20]; exact updI_B hf218_h_Wg2 (by (first | (clear b_nr b_tm b_at_ b_to_ b_fa b_va b_np b_tn b_pc_ b_st_ b_pa_ b_ta b_ow b_of_ b_ot b_rl b_hb b_bs b_se; omega) | omega))
              refine g_iincI (pc := 236) X 0 rfl (by decide) (lv' := [(3, .int (iI (b3 + 1))), (0, .ref g0), (1, .int (iI rm)), (2, .int (iI w))]) rfl dX12_shares_236 ?_
              refine g_goto (pc := 239) X 145 (by decide) dX12_shares_239 ?_
              exact ih (b3 + 1) y15 F12 F13 F20 (by (first | (clear b_nr b_tm b_at_ b_to_ b_fa b_va b_np b_tn b_pc_ b_st_ b_pa_ b_ta b_ow b_of_ b_ot b_rl b_hb b_bs b_se; omega) | omega)) (hf218_b_bs2) (hf218_h_Wf2) (hf218_h_Wb2) (hF20) (by (first | (clear b_nr b_tm b_at_ b_to_ b_fa b_va b_np b_tn b_pc_ b_st_ b_pa_ b_ta b_ow b_of_ b_ot b_rl b_hb b_bs b_se; omega) | omega))
            · refine g_goto (pc := 188) X 236 (by decide) dX12_shares_188 ?_
              refine g_iincI (pc := 236) X 0 rfl (by decide) (lv' := [(3, .int (iI (b3 + 1))), (0, .ref g0), (1, .int (iI rm)), (2, .int (iI w))]) rfl dX12_shares_236 ?_
              refine g_goto (pc := 239) X 145 (by decide) dX12_shares_239 ?_
              exact ih (b3 + 1) bs1 Wf1 Wb1 Wg1 (by (first | (clear b_nr b_tm b_at_ b_to_ b_fa b_va b_np b_tn b_pc_ b_st_ b_pa_ b_ta b_ow b_of_ b_ot b_rl b_hb b_bs b_se; omega) | omega)) (b_bs1) (h_Wf1) (h_Wb1) (h_Wg1) (by (first | (clear b_nr b_tm b_at_ b_to_ b_fa b_va b_np b_tn b_pc_ b_st_ b_pa_ b_ta b_ow b_of_ b_ot b_rl b_hb b_bs b_se; omega) | omega))
    exact loop145 _ 0 bs Wf Wb Wg (by (first | (clear b_nr b_tm b_at_ b_to_ b_fa b_va b_np b_tn b_pc_ b_st_ b_pa_ b_ta b_ow b_of_ b_ot b_rl b_hb b_bs b_se; omega) | omega)) (b_bs) (h_Wf) (h_Wb) (h_Wg) (Nat.lt_succ_self _)
  · refine g_iconst (pc := 10) X (iI 0) (by rfl) dX12_shares_10 ?_
    refine g_istore_n (pc := 11) X (i := 3) rfl (by decide) (lv' := [(3, .int (iI 0)), (0, .ref g0), (1, .int (iI rm)), (2, .int (iI w))]) rfl dX12_shares_11 ?_
    refine g_iconst (pc := 12) X (iI 0) (by rfl) dX12_shares_12 ?_
    refine g_istore (pc := 13) X (by decide) (lv' := [(4, .int (iI 0)), (3, .int (iI 0)), (0, .ref g0), (1, .int (iI rm)), (2, .int (iI w))]) rfl dX12_shares_13 ?_
    have loop15 : ∀ (fuel : Nat) (n1 : Int) (k1 : Int), ((-2147483648) ≤ n1 ∧ n1 ≤ 2147483647) → (0 ≤ k1 ∧ k1 ≤ 8) → (9 - k1).toNat < fuel → Gs p l e ({ frames := 3, cells := 0, slots := 0, locals := 72 } : Room) s m args below meth c (MQ below (gPost Z [(g0, .inr (12, mO gA nr tm at_ to_ fa va np tn pc_ st_ pa_ ta ow of_ ot rl hb bs se)), cA Z (gA 13) 0 7 Mw, cA Z (gA 14) 0 7 Mo, cR Z (gA 0) 6 7 (gG 0), cR Z (gA 4) 6 7 (gG 4), cR Z (gA 5) 6 7 (gG 5), cR Z (gA 6) 6 7 (gG 6), cR Z (gA 9) 6 7 (gG 9), cA Z (xA 0) 0 8 Ml, cA Z (xA 4) 0 8 Mow, cA Z (xA 5) 0 8 Mof, cA Z (xA 6) 0 8 Mot, cA Z (xA 9) 0 8 Md, cA Z (gA 58) 0 4 Bp, cA Z (gA 59) 0 4 Br, cA Z (gA 60) 0 8 Wo, cA Z (gA 61) 0 8 Wf, cA Z (gA 62) 0 8 Wb, cA Z (gA 63) 0 4 Wg] s.heap.size (fun r w' => ∃ (Wf2 : Nat → Int) (Wb2 : Nat → Int) (Wg2 : Nat → Int) (bs2 : Int), (r = none) ∧ (w' = [(g0, .inr (12, mO gA nr tm at_ to_ fa va np tn pc_ st_ pa_ ta ow of_ ot rl hb bs2 se)), cA Z (gA 13) 0 7 Mw, cA Z (gA 14) 0 7 Mo, cR Z (gA 0) 6 7 (gG 0), cR Z (gA 4) 6 7 (gG 4), cR Z (gA 5) 6 7 (gG 5), cR Z (gA 6) 6 7 (gG 6), cR Z (gA 9) 6 7 (gG 9), cA Z (xA 0) 0 8 Ml, cA Z (xA 4) 0 8 Mow, cA Z (xA 5) 0 8 Mof, cA Z (xA 6) 0 8 Mot, cA Z (xA 9) 0 8 Md, cA Z (gA 58) 0 4 Bp, cA Z (gA 59) 0 4 Br, cA Z (gA 60) 0 8 Wo, cA Z (gA 61) 0 8 Wf2, cA Z (gA 62) 0 8 Wb2, cA Z (gA 63) 0 4 Wg2]) ∧ ((-2147483648) ≤ bs2 ∧ bs2 ≤ 2147483647) ∧ (∀ j, j < 8 → (-2147483648) ≤ Wf2 j ∧ Wf2 j ≤ 2147483647) ∧ (∀ j, j < 8 → (-2147483648) ≤ Wb2 j ∧ Wb2 j ≤ 2147483647) ∧ (∀ j, j < 4 → (-2147483648) ≤ Wg2 j ∧ Wg2 j ≤ 2147483647))) args s 0 0 (va_A [(g0, .inr (12, mO gA nr tm at_ to_ fa va np tn pc_ st_ pa_ ta ow of_ ot rl hb bs se)), cA Z (gA 13) 0 7 Mw, cA Z (gA 14) 0 7 Mo, cR Z (gA 0) 6 7 (gG 0), cR Z (gA 4) 6 7 (gG 4), cR Z (gA 5) 6 7 (gG 5), cR Z (gA 6) 6 7 (gG 6), cR Z (gA 9) 6 7 (gG 9), cA Z (xA 0) 0 8 Ml, cA Z (xA 4) 0 8 Mow, cA Z (xA 5) 0 8 Mof, cA Z (xA 6) 0 8 Mot, cA Z (xA 9) 0 8 Md, cA Z (gA 58) 0 4 Bp, cA Z (gA 59) 0 4 Br, cA Z (gA 60) 0 8 Wo, cA Z (gA 61) 0 8 Wf, cA Z (gA 62) 0 8 Wb, cA Z (gA 63) 0 4 Wg] s.heap.size)) Z A 5 0 0 15 [(4, .int (iI k1)), (3, .int (iI n1)), (0, .ref g0), (1, .int (iI rm)), (2, .int (iI w))] [] [(g0, .inr (12, mO gA nr tm at_ to_ fa va np tn pc_ st_ pa_ ta ow of_ ot rl hb bs se)), cA Z (gA 13) 0 7 Mw, cA Z (gA 14) 0 7 Mo, cR Z (gA 0) 6 7 (gG 0), cR Z (gA 4) 6 7 (gG 4), cR Z (gA 5) 6 7 (gG 5), cR Z (gA 6) 6 7 (gG 6), cR Z (gA 9) 6 7 (gG 9), cA Z (xA 0) 0 8 Ml, cA Z (xA 4) 0 8 Mow, cA Z (xA 5) 0 8 Mof, cA Z (xA 6) 0 8 Mot, cA Z (xA 9) 0 8 Md, cA Z (gA 58) 0 4 Bp, cA Z (gA 59) 0 4 Br, cA Z (gA 60) 0 8 Wo, cA Z (gA 61) 0 8 Wf, cA Z (gA 62) 0 8 Wb, cA Z (gA 63) 0 4 Wg] := by
      intro fuel
      induction fuel with
      | zero => intro n1 k1 _ _ hm; exact absurd hm (Nat.not_lt_zero _)
      | succ fuel ih =>
        intro n1 k1 b_n1 b_k1 hm
        refine g_iload (pc := 15) X 0 rfl dX12_shares_15 ?_
        refine g_aload_n (pc := 17) X 2 rfl dX12_shares_17 ?_
        refine g_get (pc := 18) X inlX12 0 rfl rfl 13 (by decide) mw_8_1 rfl dX12_shares_18 ?_
        refine g_iload_n (pc := 21) X 3 rfl dX12_shares_21 ?_
        refine g_ialdI (pc := 22) X 1 rfl (b_rm.1) (Int.lt_of_le_of_lt b_rm.2 (by decide)) (Int.le_trans b_rm.2 (by decide)) dX12_shares_22 ?_
        refine g_nameI (fun y21 ey21 => ?_)
        have by21 : 0 ≤ y21 ∧ y21 ≤ 8 := by rw [ey21]; exact h_Mw _ (by (first | (clear b_nr b_tm b_at_ b_to_ b_fa b_va b_np b_tn b_pc_ b_st_ b_pa_ b_ta b_ow b_of_ b_ot b_rl b_hb b_bs b_se; omega) | omega))
        have ty21 : 1 ≤ y21 ∧ y21 ≤ 8 := by rw [ey21]; exact hwn
        refine g_icmp_geI (pc := 23) X 86 (by decide) (inRb b_k1 (by decide) (by decide)) (inRb by21 (by decide) (by decide)) dX12_shares_23 (fun c23 => ?_) (fun c23 => ?_)
        · refine g_aload_n (pc := 86) X 2 rfl dX12_shares_86 ?_
          refine g_get (pc := 87) X inlX12 0 rfl rfl 65 (by decide) mw_49_21 rfl dX12_shares_87 ?_
          refine g_iconst (pc := 90) X (iI (-1)) (by rfl) dX12_shares_90 ?_
          refine g_icmp_eqI (pc := 91) X 103 (by decide) b_bs ⟨by decide, by decide⟩ dX12_shares_91 (fun c91 => ?_) (fun c91 => ?_)
          · refine g_aload_n (pc := 103) X 2 rfl dX12_shares_103 ?_
            refine g_iload_n (pc := 104) X 1 rfl dX12_shares_104 ?_
            refine g_put (pc := 105) X inlX12 tyX12_ok nmX12 0 rfl rfl 65 (by decide) mw_49_21 rfl rfl rfl (Nat.le_of_ble_eq_true rfl) (ws' := [(g0, .inr (12, mO gA nr tm at_ to_ fa va np tn pc_ st_ pa_ ta ow of_ ot rl hb n1 se)), cA Z (gA 13) 0 7 Mw, cA Z (gA 14) 0 7 Mo, cR Z (gA 0) 6 7 (gG 0), cR Z (gA 4) 6 7 (gG 4), cR Z (gA 5) 6 7 (gG 5), cR Z (gA 6) 6 7 (gG 6), cR Z (gA 9) 6 7 (gG 9), cA Z (xA 0) 0 8 Ml, cA Z (xA 4) 0 8 Mow, cA Z (xA 5) 0 8 Mof, cA Z (xA 6) 0 8 Mot, cA Z (xA 9) 0 8 Md, cA Z (gA 58) 0 4 Bp, cA Z (gA 59) 0 4 Br, cA Z (gA 60) 0 8 Wo, cA Z (gA 61) 0 8 Wf, cA Z (gA 62) 0 8 Wb, cA Z (gA 63) 0 4 Wg]) rfl dX12_shares_105 ?_
            refine g_iconst (pc := 108) X (iI 0) (by rfl) dX12_shares_108 ?_
            refine g_istore (pc := 109) X (by decide) (lv' := [(4, .int (iI 0)), (3, .int (iI n1)), (0, .ref g0), (1, .int (iI rm)), (2, .int (iI w))]) rfl dX12_shares_109 ?_
            have loop111 : ∀ (fuel : Nat) (k2 : Int) (Wb1 : Nat → Int), (0 ≤ k2 ∧ k2 ≤ 8) → (∀ j, j < 8 → (-2147483648) ≤ Wb1 j ∧ Wb1 j ≤ 2147483647) → (9 - k2).toNat < fuel → Gs p l e ({ frames := 3, cells := 0, slots := 0, locals := 72 } : Room) s m args below meth c (MQ below (gPost Z [(g0, .inr (12, mO gA nr tm at_ to_ fa va np tn pc_ st_ pa_ ta ow of_ ot rl hb bs se)), cA Z (gA 13) 0 7 Mw, cA Z (gA 14) 0 7 Mo, cR Z (gA 0) 6 7 (gG 0), cR Z (gA 4) 6 7 (gG 4), cR Z (gA 5) 6 7 (gG 5), cR Z (gA 6) 6 7 (gG 6), cR Z (gA 9) 6 7 (gG 9), cA Z (xA 0) 0 8 Ml, cA Z (xA 4) 0 8 Mow, cA Z (xA 5) 0 8 Mof, cA Z (xA 6) 0 8 Mot, cA Z (xA 9) 0 8 Md, cA Z (gA 58) 0 4 Bp, cA Z (gA 59) 0 4 Br, cA Z (gA 60) 0 8 Wo, cA Z (gA 61) 0 8 Wf, cA Z (gA 62) 0 8 Wb, cA Z (gA 63) 0 4 Wg] s.heap.size (fun r w' => ∃ (Wf2 : Nat → Int) (Wb2 : Nat → Int) (Wg2 : Nat → Int) (bs2 : Int), (r = none) ∧ (w' = [(g0, .inr (12, mO gA nr tm at_ to_ fa va np tn pc_ st_ pa_ ta ow of_ ot rl hb bs2 se)), cA Z (gA 13) 0 7 Mw, cA Z (gA 14) 0 7 Mo, cR Z (gA 0) 6 7 (gG 0), cR Z (gA 4) 6 7 (gG 4), cR Z (gA 5) 6 7 (gG 5), cR Z (gA 6) 6 7 (gG 6), cR Z (gA 9) 6 7 (gG 9), cA Z (xA 0) 0 8 Ml, cA Z (xA 4) 0 8 Mow, cA Z (xA 5) 0 8 Mof, cA Z (xA 6) 0 8 Mot, cA Z (xA 9) 0 8 Md, cA Z (gA 58) 0 4 Bp, cA Z (gA 59) 0 4 Br, cA Z (gA 60) 0 8 Wo, cA Z (gA 61) 0 8 Wf2, cA Z (gA 62) 0 8 Wb2, cA Z (gA 63) 0 4 Wg2]) ∧ ((-2147483648) ≤ bs2 ∧ bs2 ≤ 2147483647) ∧ (∀ j, j < 8 → (-2147483648) ≤ Wf2 j ∧ Wf2 j ≤ 2147483647) ∧ (∀ j, j < 8 → (-2147483648) ≤ Wb2 j ∧ Wb2 j ≤ 2147483647) ∧ (∀ j, j < 4 → (-2147483648) ≤ Wg2 j ∧ Wg2 j ≤ 2147483647))) args s 0 0 (va_A [(g0, .inr (12, mO gA nr tm at_ to_ fa va np tn pc_ st_ pa_ ta ow of_ ot rl hb bs se)), cA Z (gA 13) 0 7 Mw, cA Z (gA 14) 0 7 Mo, cR Z (gA 0) 6 7 (gG 0), cR Z (gA 4) 6 7 (gG 4), cR Z (gA 5) 6 7 (gG 5), cR Z (gA 6) 6 7 (gG 6), cR Z (gA 9) 6 7 (gG 9), cA Z (xA 0) 0 8 Ml, cA Z (xA 4) 0 8 Mow, cA Z (xA 5) 0 8 Mof, cA Z (xA 6) 0 8 Mot, cA Z (xA 9) 0 8 Md, cA Z (gA 58) 0 4 Bp, cA Z (gA 59) 0 4 Br, cA Z (gA 60) 0 8 Wo, cA Z (gA 61) 0 8 Wf, cA Z (gA 62) 0 8 Wb, cA Z (gA 63) 0 4 Wg] s.heap.size)) Z A 5 0 0 111 [(4, .int (iI k2)), (3, .int (iI n1)), (0, .ref g0), (1, .int (iI rm)), (2, .int (iI w))] [] [(g0, .inr (12, mO gA nr tm at_ to_ fa va np tn pc_ st_ pa_ ta ow of_ ot rl hb n1 se)), cA Z (gA 13) 0 7 Mw, cA Z (gA 14) 0 7 Mo, cR Z (gA 0) 6 7 (gG 0), cR Z (gA 4) 6 7 (gG 4), cR Z (gA 5) 6 7 (gG 5), cR Z (gA 6) 6 7 (gG 6), cR Z (gA 9) 6 7 (gG 9), cA Z (xA 0) 0 8 Ml, cA Z (xA 4) 0 8 Mow, cA Z (xA 5) 0 8 Mof, cA Z (xA 6) 0 8 Mot, cA Z (xA 9) 0 8 Md, cA Z (gA 58) 0 4 Bp, cA Z (gA 59) 0 4 Br, cA Z (gA 60) 0 8 Wo, cA Z (gA 61) 0 8 Wf, cA Z (gA 62) 0 8 Wb1, cA Z (gA 63) 0 4 Wg] := by
              intro fuel
              induction fuel with
              | zero => intro k2 Wb1 _ _ hm; exact absurd hm (Nat.not_lt_zero _)
              | succ fuel ih =>
                intro k2 Wb1 b_k2 h_Wb1 hm
                refine g_iload (pc := 111) X 0 rfl dX12_shares_111 ?_
                refine g_aload_n (pc := 113) X 2 rfl dX12_shares_113 ?_
                refine g_get (pc := 114) X inlX12 0 rfl rfl 13 (by decide) mw_8_1 rfl dX12_shares_114 ?_
                refine g_iload_n (pc := 117) X 3 rfl dX12_shares_117 ?_
                refine g_ialdI (pc := 118) X 1 rfl (b_rm.1) (Int.lt_of_le_of_lt b_rm.2 (by decide)) (Int.le_trans b_rm.2 (by decide)) dX12_shares_118 ?_
                refine g_nameI (fun y22 ey22 => ?_)
                have by22 : 0 ≤ y22 ∧ y22 ≤ 8 := by rw [ey22]; exact h_Mw _ (by (first | (clear b_nr b_tm b_at_ b_to_ b_fa b_va b_np b_tn b_pc_ b_st_ b_pa_ b_ta b_ow b_of_ b_ot b_rl b_hb b_bs b_se; omega) | omega))
                have ty22 : 1 ≤ y22 ∧ y22 ≤ 8 := by rw [ey22]; exact hwn
                refine g_icmp_geI (pc := 119) X 142 (by decide) (inRb b_k2 (by decide) (by decide)) (inRb by22 (by decide) (by decide)) dX12_shares_119 (fun c119 => ?_) (fun c119 => ?_)
                · exact g_vret (pc := 142) X hA (⟨Wf, Wb1, Wg, n1, rfl, rfl, (b_n1), (h_Wf), (h_Wb1), (h_Wg)⟩) (by decide) (by decide) dX12_shares_142
                · refine g_aload_n (pc := 122) X 2 rfl dX12_shares_122 ?_
                  refine g_get (pc := 123) X inlX12 0 rfl rfl 62 (by decide) mw_9_13 rfl dX12_shares_123 ?_
                  refine g_iload (pc := 126) X 0 rfl dX12_shares_126 ?_
                  refine g_aload_n (pc := 128) X 2 rfl dX12_shares_128 ?_
                  refine g_get (pc := 129) X inlX12 0 rfl rfl 61 (by decide) mw_9_12 rfl dX12_shares_129 ?_
                  refine g_iload (pc := 132) X 0 rfl dX12_shares_132 ?_
                  refine g_ialdI (pc := 134) X 16 rfl (b_k2.1) (by (first | (clear b_nr b_tm b_at_ b_to_ b_fa b_va b_np b_tn b_pc_ b_st_ b_pa_ b_ta b_ow b_of_ b_ot b_rl b_hb b_bs b_se; omega) | omega)) (Int.le_trans b_k2.2 (by decide)) dX12_shares_134 ?_
                  refine g_nameI (fun y23 ey23 => ?_)
                  have by23 : (-2147483648) ≤ y23 ∧ y23 ≤ 2147483647 := by rw [ey23]; exact h_Wf _ (by (first | (clear b_nr b_tm b_at_ b_to_ b_fa b_va b_np b_tn b_pc_ b_st_ b_pa_ b_ta b_ow b_of_ b_ot b_rl b_hb b_bs b_se; omega) | omega))
                  refine g_iastG (pc := 135) X 17 rfl (b_k2.1) (by (first | (clear b_nr b_tm b_at_ b_to_ b_fa b_va b_np b_tn b_pc_ b_st_ b_pa_ b_ta b_ow b_of_ b_ot b_rl b_hb b_bs b_se; omega) | omega)) (Int.le_trans b_k2.2 (by decide)) (ws' := fun F24 => [(g0, .inr (12, mO gA nr tm at_ to_ fa va np tn pc_ st_ pa_ ta ow of_ ot rl hb n1 se)), cA Z (gA 13) 0 7 Mw, cA Z (gA 14) 0 7 Mo, cR Z (gA 0) 6 7 (gG 0), cR Z (gA 4) 6 7 (gG 4), cR Z (gA 5) 6 7 (gG 5), cR Z (gA 6) 6 7 (gG 6), cR Z (gA 9) 6 7 (gG 9), cA Z (xA 0) 0 8 Ml, cA Z (xA 4) 0 8 Mow, cA Z (xA 5) 0 8 Mof, cA Z (xA 6) 0 8 Mot, cA Z (xA 9) 0 8 Md, cA Z (gA 58) 0 4 Bp, cA Z (gA 59) 0 4 Br, cA Z (gA 60) 0 8 Wo, cA Z (gA 61) 0 8 Wf, cA Z (gA 62) 0 8 F24, cA Z (gA 63) 0 4 Wg]) (fun _ => rfl) dX12_shares_135 (fun F24 eF24 => ?_)
                  have hF24 : ∀ j, j < 8 → (-2147483648) ≤ F24 j ∧ F24 j ≤ 2147483647 := by rw [eF24]; exact updI_B h_Wb1 (by (first | (clear b_nr b_tm b_at_ b_to_ b_fa b_va b_np b_tn b_pc_ b_st_ b_pa_ b_ta b_ow b_of_ b_ot b_rl b_hb b_bs b_se; omega) | omega))
                  refine g_iincI (pc := 136) X 0 rfl (by decide) (lv' := [(4, .int (iI (k2 + 1))), (3, .int (iI n1)), (0, .ref g0), (1, .int (iI rm)), (2, .int (iI w))]) rfl dX12_shares_136 ?_
                  refine g_goto (pc := 139) X 111 (by decide) dX12_shares_139 ?_
                  exact ih (k2 + 1) F24 (by (first | (clear b_nr b_tm b_at_ b_to_ b_fa b_va b_np b_tn b_pc_ b_st_ b_pa_ b_ta b_ow b_of_ b_ot b_rl b_hb b_bs b_se; omega) | omega)) (hF24) (by (first | (clear b_nr b_tm b_at_ b_to_ b_fa b_va b_np b_tn b_pc_ b_st_ b_pa_ b_ta b_ow b_of_ b_ot b_rl b_hb b_bs b_se; omega) | omega))
            exact loop111 _ 0 Wb (by (first | (clear b_nr b_tm b_at_ b_to_ b_fa b_va b_np b_tn b_pc_ b_st_ b_pa_ b_ta b_ow b_of_ b_ot b_rl b_hb b_bs b_se; omega) | omega)) (h_Wb) (Nat.lt_succ_self _)
          · refine g_iload_n (pc := 94) X 1 rfl dX12_shares_94 ?_
            refine g_aload_n (pc := 95) X 2 rfl dX12_shares_95 ?_
            refine g_get (pc := 96) X inlX12 0 rfl rfl 65 (by decide) mw_49_21 rfl dX12_shares_96 ?_
            refine g_icmp_ltI (pc := 99) X 103 (by decide) b_n1 b_bs dX12_shares_99 (fun c99 => ?_) (fun c99 => ?_)
            · refine g_aload_n (pc := 103) X 2 rfl dX12_shares_103 ?_
              refine g_iload_n (pc := 104) X 1 rfl dX12_shares_104 ?_
              refine g_put (pc := 105) X inlX12 tyX12_ok nmX12 0 rfl rfl 65 (by decide) mw_49_21 rfl rfl rfl (Nat.le_of_ble_eq_true rfl) (ws' := [(g0, .inr (12, mO gA nr tm at_ to_ fa va np tn pc_ st_ pa_ ta ow of_ ot rl hb n1 se)), cA Z (gA 13) 0 7 Mw, cA Z (gA 14) 0 7 Mo, cR Z (gA 0) 6 7 (gG 0), cR Z (gA 4) 6 7 (gG 4), cR Z (gA 5) 6 7 (gG 5), cR Z (gA 6) 6 7 (gG 6), cR Z (gA 9) 6 7 (gG 9), cA Z (xA 0) 0 8 Ml, cA Z (xA 4) 0 8 Mow, cA Z (xA 5) 0 8 Mof, cA Z (xA 6) 0 8 Mot, cA Z (xA 9) 0 8 Md, cA Z (gA 58) 0 4 Bp, cA Z (gA 59) 0 4 Br, cA Z (gA 60) 0 8 Wo, cA Z (gA 61) 0 8 Wf, cA Z (gA 62) 0 8 Wb, cA Z (gA 63) 0 4 Wg]) rfl dX12_shares_105 ?_
              refine g_iconst (pc := 108) X (iI 0) (by rfl) dX12_shares_108 ?_
              refine g_istore (pc := 109) X (by decide) (lv' := [(4, .int (iI 0)), (3, .int (iI n1)), (0, .ref g0), (1, .int (iI rm)), (2, .int (iI w))]) rfl dX12_shares_109 ?_
              have loop111 : ∀ (fuel : Nat) (k2 : Int) (Wb1 : Nat → Int), (0 ≤ k2 ∧ k2 ≤ 8) → (∀ j, j < 8 → (-2147483648) ≤ Wb1 j ∧ Wb1 j ≤ 2147483647) → (9 - k2).toNat < fuel → Gs p l e ({ frames := 3, cells := 0, slots := 0, locals := 72 } : Room) s m args below meth c (MQ below (gPost Z [(g0, .inr (12, mO gA nr tm at_ to_ fa va np tn pc_ st_ pa_ ta ow of_ ot rl hb bs se)), cA Z (gA 13) 0 7 Mw, cA Z (gA 14) 0 7 Mo, cR Z (gA 0) 6 7 (gG 0), cR Z (gA 4) 6 7 (gG 4), cR Z (gA 5) 6 7 (gG 5), cR Z (gA 6) 6 7 (gG 6), cR Z (gA 9) 6 7 (gG 9), cA Z (xA 0) 0 8 Ml, cA Z (xA 4) 0 8 Mow, cA Z (xA 5) 0 8 Mof, cA Z (xA 6) 0 8 Mot, cA Z (xA 9) 0 8 Md, cA Z (gA 58) 0 4 Bp, cA Z (gA 59) 0 4 Br, cA Z (gA 60) 0 8 Wo, cA Z (gA 61) 0 8 Wf, cA Z (gA 62) 0 8 Wb, cA Z (gA 63) 0 4 Wg] s.heap.size (fun r w' => ∃ (Wf2 : Nat → Int) (Wb2 : Nat → Int) (Wg2 : Nat → Int) (bs2 : Int), (r = none) ∧ (w' = [(g0, .inr (12, mO gA nr tm at_ to_ fa va np tn pc_ st_ pa_ ta ow of_ ot rl hb bs2 se)), cA Z (gA 13) 0 7 Mw, cA Z (gA 14) 0 7 Mo, cR Z (gA 0) 6 7 (gG 0), cR Z (gA 4) 6 7 (gG 4), cR Z (gA 5) 6 7 (gG 5), cR Z (gA 6) 6 7 (gG 6), cR Z (gA 9) 6 7 (gG 9), cA Z (xA 0) 0 8 Ml, cA Z (xA 4) 0 8 Mow, cA Z (xA 5) 0 8 Mof, cA Z (xA 6) 0 8 Mot, cA Z (xA 9) 0 8 Md, cA Z (gA 58) 0 4 Bp, cA Z (gA 59) 0 4 Br, cA Z (gA 60) 0 8 Wo, cA Z (gA 61) 0 8 Wf2, cA Z (gA 62) 0 8 Wb2, cA Z (gA 63) 0 4 Wg2]) ∧ ((-2147483648) ≤ bs2 ∧ bs2 ≤ 2147483647) ∧ (∀ j, j < 8 → (-2147483648) ≤ Wf2 j ∧ Wf2 j ≤ 2147483647) ∧ (∀ j, j < 8 → (-2147483648) ≤ Wb2 j ∧ Wb2 j ≤ 2147483647) ∧ (∀ j, j < 4 → (-2147483648) ≤ Wg2 j ∧ Wg2 j ≤ 2147483647))) args s 0 0 (va_A [(g0, .inr (12, mO gA nr tm at_ to_ fa va np tn pc_ st_ pa_ ta ow of_ ot rl hb bs se)), cA Z (gA 13) 0 7 Mw, cA Z (gA 14) 0 7 Mo, cR Z (gA 0) 6 7 (gG 0), cR Z (gA 4) 6 7 (gG 4), cR Z (gA 5) 6 7 (gG 5), cR Z (gA 6) 6 7 (gG 6), cR Z (gA 9) 6 7 (gG 9), cA Z (xA 0) 0 8 Ml, cA Z (xA 4) 0 8 Mow, cA Z (xA 5) 0 8 Mof, cA Z (xA 6) 0 8 Mot, cA Z (xA 9) 0 8 Md, cA Z (gA 58) 0 4 Bp, cA Z (gA 59) 0 4 Br, cA Z (gA 60) 0 8 Wo, cA Z (gA 61) 0 8 Wf, cA Z (gA 62) 0 8 Wb, cA Z (gA 63) 0 4 Wg] s.heap.size)) Z A 5 0 0 111 [(4, .int (iI k2)), (3, .int (iI n1)), (0, .ref g0), (1, .int (iI rm)), (2, .int (iI w))] [] [(g0, .inr (12, mO gA nr tm at_ to_ fa va np tn pc_ st_ pa_ ta ow of_ ot rl hb n1 se)), cA Z (gA 13) 0 7 Mw, cA Z (gA 14) 0 7 Mo, cR Z (gA 0) 6 7 (gG 0), cR Z (gA 4) 6 7 (gG 4), cR Z (gA 5) 6 7 (gG 5), cR Z (gA 6) 6 7 (gG 6), cR Z (gA 9) 6 7 (gG 9), cA Z (xA 0) 0 8 Ml, cA Z (xA 4) 0 8 Mow, cA Z (xA 5) 0 8 Mof, cA Z (xA 6) 0 8 Mot, cA Z (xA 9) 0 8 Md, cA Z (gA 58) 0 4 Bp, cA Z (gA 59) 0 4 Br, cA Z (gA 60) 0 8 Wo, cA Z (gA 61) 0 8 Wf, cA Z (gA 62) 0 8 Wb1, cA Z (gA 63) 0 4 Wg] := by
                intro fuel
                induction fuel with
                | zero => intro k2 Wb1 _ _ hm; exact absurd hm (Nat.not_lt_zero _)
                | succ fuel ih =>
                  intro k2 Wb1 b_k2 h_Wb1 hm
                  refine g_iload (pc := 111) X 0 rfl dX12_shares_111 ?_
                  refine g_aload_n (pc := 113) X 2 rfl dX12_shares_113 ?_
                  refine g_get (pc := 114) X inlX12 0 rfl rfl 13 (by decide) mw_8_1 rfl dX12_shares_114 ?_
                  refine g_iload_n (pc := 117) X 3 rfl dX12_shares_117 ?_
                  refine g_ialdI (pc := 118) X 1 rfl (b_rm.1) (Int.lt_of_le_of_lt b_rm.2 (by decide)) (Int.le_trans b_rm.2 (by decide)) dX12_shares_118 ?_
                  refine g_nameI (fun y25 ey25 => ?_)
                  have by25 : 0 ≤ y25 ∧ y25 ≤ 8 := by rw [ey25]; exact h_Mw _ (by (first | (clear b_nr b_tm b_at_ b_to_ b_fa b_va b_np b_tn b_pc_ b_st_ b_pa_ b_ta b_ow b_of_ b_ot b_rl b_hb b_bs b_se; omega) | omega))
                  have ty25 : 1 ≤ y25 ∧ y25 ≤ 8 := by rw [ey25]; exact hwn
                  refine g_icmp_geI (pc := 119) X 142 (by decide) (inRb b_k2 (by decide) (by decide)) (inRb by25 (by decide) (by decide)) dX12_shares_119 (fun c119 => ?_) (fun c119 => ?_)
                  · exact g_vret (pc := 142) X hA (⟨Wf, Wb1, Wg, n1, rfl, rfl, (b_n1), (h_Wf), (h_Wb1), (h_Wg)⟩) (by decide) (by decide) dX12_shares_142
                  · refine g_aload_n (pc := 122) X 2 rfl dX12_shares_122 ?_
                    refine g_get (pc := 123) X inlX12 0 rfl rfl 62 (by decide) mw_9_13 rfl dX12_shares_123 ?_
                    refine g_iload (pc := 126) X 0 rfl dX12_shares_126 ?_
                    refine g_aload_n (pc := 128) X 2 rfl dX12_shares_128 ?_
                    refine g_get (pc := 129) X inlX12 0 rfl rfl 61 (by decide) mw_9_12 rfl dX12_shares_129 ?_
                    refine g_iload (pc := 132) X 0 rfl dX12_shares_132 ?_
                    refine g_ialdI (pc := 134) X 16 rfl (b_k2.1) (by (first | (clear b_nr b_tm b_at_ b_to_ b_fa b_va b_np b_tn b_pc_ b_st_ b_pa_ b_ta b_ow b_of_ b_ot b_rl b_hb b_bs b_se; omega) | omega)) (Int.le_trans b_k2.2 (by decide)) dX12_shares_134 ?_
                    refine g_nameI (fun y26 ey26 => ?_)
                    have by26 : (-2147483648) ≤ y26 ∧ y26 ≤ 2147483647 := by rw [ey26]; exact h_Wf _ (by (first | (clear b_nr b_tm b_at_ b_to_ b_fa b_va b_np b_tn b_pc_ b_st_ b_pa_ b_ta b_ow b_of_ b_ot b_rl b_hb b_bs b_se; omega) | omega))
                    refine g_iastG (pc := 135) X 17 rfl (b_k2.1) (by (first | (clear b_nr b_tm b_at_ b_to_ b_fa b_va b_np b_tn b_pc_ b_st_ b_pa_ b_ta b_ow b_of_ b_ot b_rl b_hb b_bs b_se; omega) | omega)) (Int.le_trans b_k2.2 (by decide)) (ws' := fun F27 => [(g0, .inr (12, mO gA nr tm at_ to_ fa va np tn pc_ st_ pa_ ta ow of_ ot rl hb n1 se)), cA Z (gA 13) 0 7 Mw, cA Z (gA 14) 0 7 Mo, cR Z (gA 0) 6 7 (gG 0), cR Z (gA 4) 6 7 (gG 4), cR Z (gA 5) 6 7 (gG 5), cR Z (gA 6) 6 7 (gG 6), cR Z (gA 9) 6 7 (gG 9), cA Z (xA 0) 0 8 Ml, cA Z (xA 4) 0 8 Mow, cA Z (xA 5) 0 8 Mof, cA Z (xA 6) 0 8 Mot, cA Z (xA 9) 0 8 Md, cA Z (gA 58) 0 4 Bp, cA Z (gA 59) 0 4 Br, cA Z (gA 60) 0 8 Wo, cA Z (gA 61) 0 8 Wf, cA Z (gA 62) 0 8 F27, cA Z (gA 63) 0 4 Wg]) (fun _ => rfl) dX12_shares_135 (fun F27 eF27 => ?_)
                    have hF27 : ∀ j, j < 8 → (-2147483648) ≤ F27 j ∧ F27 j ≤ 2147483647 := by rw [eF27]; exact updI_B h_Wb1 (by (first | (clear b_nr b_tm b_at_ b_to_ b_fa b_va b_np b_tn b_pc_ b_st_ b_pa_ b_ta b_ow b_of_ b_ot b_rl b_hb b_bs b_se; omega) | omega))
                    refine g_iincI (pc := 136) X 0 rfl (by decide) (lv' := [(4, .int (iI (k2 + 1))), (3, .int (iI n1)), (0, .ref g0), (1, .int (iI rm)), (2, .int (iI w))]) rfl dX12_shares_136 ?_
                    refine g_goto (pc := 139) X 111 (by decide) dX12_shares_139 ?_
                    exact ih (k2 + 1) F27 (by (first | (clear b_nr b_tm b_at_ b_to_ b_fa b_va b_np b_tn b_pc_ b_st_ b_pa_ b_ta b_ow b_of_ b_ot b_rl b_hb b_bs b_se; omega) | omega)) (hF27) (by (first | (clear b_nr b_tm b_at_ b_to_ b_fa b_va b_np b_tn b_pc_ b_st_ b_pa_ b_ta b_ow b_of_ b_ot b_rl b_hb b_bs b_se; omega) | omega))
              exact loop111 _ 0 Wb (by (first | (clear b_nr b_tm b_at_ b_to_ b_fa b_va b_np b_tn b_pc_ b_st_ b_pa_ b_ta b_ow b_of_ b_ot b_rl b_hb b_bs b_se; omega) | omega)) (h_Wb) (Nat.lt_succ_self _)
            · exact g_vret (pc := 102) X hA (⟨Wf, Wb, Wg, bs, rfl, rfl, (b_bs), (h_Wf), (h_Wb), (h_Wg)⟩) (by decide) (by decide) dX12_shares_102
        · refine g_aload_n (pc := 26) X 2 rfl dX12_shares_26 ?_
          refine g_get (pc := 27) X inlX12 0 rfl rfl 13 (by decide) mw_8_1 rfl dX12_shares_27 ?_
          refine g_iload_n (pc := 30) X 3 rfl dX12_shares_30 ?_
          refine g_ialdI (pc := 31) X 1 rfl (b_rm.1) (Int.lt_of_le_of_lt b_rm.2 (by decide)) (Int.le_trans b_rm.2 (by decide)) dX12_shares_31 ?_
          refine g_nameI (fun y28 ey28 => ?_)
          have by28 : 0 ≤ y28 ∧ y28 ≤ 8 := by rw [ey28]; exact h_Mw _ (by (first | (clear b_nr b_tm b_at_ b_to_ b_fa b_va b_np b_tn b_pc_ b_st_ b_pa_ b_ta b_ow b_of_ b_ot b_rl b_hb b_bs b_se; omega) | omega))
          have ty28 : 1 ≤ y28 ∧ y28 ≤ 8 := by rw [ey28]; exact hwn
          refine g_iconst (pc := 32) X (iI 1) (by rfl) dX12_shares_32 ?_
          refine g_icmp_leI (pc := 33) X 86 (by decide) (inRb by28 (by decide) (by decide)) ⟨by decide, by decide⟩ dX12_shares_33 (fun c33 => ?_) (fun c33 => ?_)
          · refine g_aload_n (pc := 86) X 2 rfl dX12_shares_86 ?_
            refine g_get (pc := 87) X inlX12 0 rfl rfl 65 (by decide) mw_49_21 rfl dX12_shares_87 ?_
            refine g_iconst (pc := 90) X (iI (-1)) (by rfl) dX12_shares_90 ?_
            refine g_icmp_eqI (pc := 91) X 103 (by decide) b_bs ⟨by decide, by decide⟩ dX12_shares_91 (fun c91 => ?_) (fun c91 => ?_)
            · refine g_aload_n (pc := 103) X 2 rfl dX12_shares_103 ?_
              refine g_iload_n (pc := 104) X 1 rfl dX12_shares_104 ?_
              refine g_put (pc := 105) X inlX12 tyX12_ok nmX12 0 rfl rfl 65 (by decide) mw_49_21 rfl rfl rfl (Nat.le_of_ble_eq_true rfl) (ws' := [(g0, .inr (12, mO gA nr tm at_ to_ fa va np tn pc_ st_ pa_ ta ow of_ ot rl hb n1 se)), cA Z (gA 13) 0 7 Mw, cA Z (gA 14) 0 7 Mo, cR Z (gA 0) 6 7 (gG 0), cR Z (gA 4) 6 7 (gG 4), cR Z (gA 5) 6 7 (gG 5), cR Z (gA 6) 6 7 (gG 6), cR Z (gA 9) 6 7 (gG 9), cA Z (xA 0) 0 8 Ml, cA Z (xA 4) 0 8 Mow, cA Z (xA 5) 0 8 Mof, cA Z (xA 6) 0 8 Mot, cA Z (xA 9) 0 8 Md, cA Z (gA 58) 0 4 Bp, cA Z (gA 59) 0 4 Br, cA Z (gA 60) 0 8 Wo, cA Z (gA 61) 0 8 Wf, cA Z (gA 62) 0 8 Wb, cA Z (gA 63) 0 4 Wg]) rfl dX12_shares_105 ?_
              refine g_iconst (pc := 108) X (iI 0) (by rfl) dX12_shares_108 ?_
              refine g_istore (pc := 109) X (by decide) (lv' := [(4, .int (iI 0)), (3, .int (iI n1)), (0, .ref g0), (1, .int (iI rm)), (2, .int (iI w))]) rfl dX12_shares_109 ?_
              have loop111 : ∀ (fuel : Nat) (k2 : Int) (Wb1 : Nat → Int), (0 ≤ k2 ∧ k2 ≤ 8) → (∀ j, j < 8 → (-2147483648) ≤ Wb1 j ∧ Wb1 j ≤ 2147483647) → (9 - k2).toNat < fuel → Gs p l e ({ frames := 3, cells := 0, slots := 0, locals := 72 } : Room) s m args below meth c (MQ below (gPost Z [(g0, .inr (12, mO gA nr tm at_ to_ fa va np tn pc_ st_ pa_ ta ow of_ ot rl hb bs se)), cA Z (gA 13) 0 7 Mw, cA Z (gA 14) 0 7 Mo, cR Z (gA 0) 6 7 (gG 0), cR Z (gA 4) 6 7 (gG 4), cR Z (gA 5) 6 7 (gG 5), cR Z (gA 6) 6 7 (gG 6), cR Z (gA 9) 6 7 (gG 9), cA Z (xA 0) 0 8 Ml, cA Z (xA 4) 0 8 Mow, cA Z (xA 5) 0 8 Mof, cA Z (xA 6) 0 8 Mot, cA Z (xA 9) 0 8 Md, cA Z (gA 58) 0 4 Bp, cA Z (gA 59) 0 4 Br, cA Z (gA 60) 0 8 Wo, cA Z (gA 61) 0 8 Wf, cA Z (gA 62) 0 8 Wb, cA Z (gA 63) 0 4 Wg] s.heap.size (fun r w' => ∃ (Wf2 : Nat → Int) (Wb2 : Nat → Int) (Wg2 : Nat → Int) (bs2 : Int), (r = none) ∧ (w' = [(g0, .inr (12, mO gA nr tm at_ to_ fa va np tn pc_ st_ pa_ ta ow of_ ot rl hb bs2 se)), cA Z (gA 13) 0 7 Mw, cA Z (gA 14) 0 7 Mo, cR Z (gA 0) 6 7 (gG 0), cR Z (gA 4) 6 7 (gG 4), cR Z (gA 5) 6 7 (gG 5), cR Z (gA 6) 6 7 (gG 6), cR Z (gA 9) 6 7 (gG 9), cA Z (xA 0) 0 8 Ml, cA Z (xA 4) 0 8 Mow, cA Z (xA 5) 0 8 Mof, cA Z (xA 6) 0 8 Mot, cA Z (xA 9) 0 8 Md, cA Z (gA 58) 0 4 Bp, cA Z (gA 59) 0 4 Br, cA Z (gA 60) 0 8 Wo, cA Z (gA 61) 0 8 Wf2, cA Z (gA 62) 0 8 Wb2, cA Z (gA 63) 0 4 Wg2]) ∧ ((-2147483648) ≤ bs2 ∧ bs2 ≤ 2147483647) ∧ (∀ j, j < 8 → (-2147483648) ≤ Wf2 j ∧ Wf2 j ≤ 2147483647) ∧ (∀ j, j < 8 → (-2147483648) ≤ Wb2 j ∧ Wb2 j ≤ 2147483647) ∧ (∀ j, j < 4 → (-2147483648) ≤ Wg2 j ∧ Wg2 j ≤ 2147483647))) args s 0 0 (va_A [(g0, .inr (12, mO gA nr tm at_ to_ fa va np tn pc_ st_ pa_ ta ow of_ ot rl hb bs se)), cA Z (gA 13) 0 7 Mw, cA Z (gA 14) 0 7 Mo, cR Z (gA 0) 6 7 (gG 0), cR Z (gA 4) 6 7 (gG 4), cR Z (gA 5) 6 7 (gG 5), cR Z (gA 6) 6 7 (gG 6), cR Z (gA 9) 6 7 (gG 9), cA Z (xA 0) 0 8 Ml, cA Z (xA 4) 0 8 Mow, cA Z (xA 5) 0 8 Mof, cA Z (xA 6) 0 8 Mot, cA Z (xA 9) 0 8 Md, cA Z (gA 58) 0 4 Bp, cA Z (gA 59) 0 4 Br, cA Z (gA 60) 0 8 Wo, cA Z (gA 61) 0 8 Wf, cA Z (gA 62) 0 8 Wb, cA Z (gA 63) 0 4 Wg] s.heap.size)) Z A 5 0 0 111 [(4, .int (iI k2)), (3, .int (iI n1)), (0, .ref g0), (1, .int (iI rm)), (2, .int (iI w))] [] [(g0, .inr (12, mO gA nr tm at_ to_ fa va np tn pc_ st_ pa_ ta ow of_ ot rl hb n1 se)), cA Z (gA 13) 0 7 Mw, cA Z (gA 14) 0 7 Mo, cR Z (gA 0) 6 7 (gG 0), cR Z (gA 4) 6 7 (gG 4), cR Z (gA 5) 6 7 (gG 5), cR Z (gA 6) 6 7 (gG 6), cR Z (gA 9) 6 7 (gG 9), cA Z (xA 0) 0 8 Ml, cA Z (xA 4) 0 8 Mow, cA Z (xA 5) 0 8 Mof, cA Z (xA 6) 0 8 Mot, cA Z (xA 9) 0 8 Md, cA Z (gA 58) 0 4 Bp, cA Z (gA 59) 0 4 Br, cA Z (gA 60) 0 8 Wo, cA Z (gA 61) 0 8 Wf, cA Z (gA 62) 0 8 Wb1, cA Z (gA 63) 0 4 Wg] := by
                intro fuel
                induction fuel with
                | zero => intro k2 Wb1 _ _ hm; exact absurd hm (Nat.not_lt_zero _)
                | succ fuel ih =>
                  intro k2 Wb1 b_k2 h_Wb1 hm
                  refine g_iload (pc := 111) X 0 rfl dX12_shares_111 ?_
                  refine g_aload_n (pc := 113) X 2 rfl dX12_shares_113 ?_
                  refine g_get (pc := 114) X inlX12 0 rfl rfl 13 (by decide) mw_8_1 rfl dX12_shares_114 ?_
                  refine g_iload_n (pc := 117) X 3 rfl dX12_shares_117 ?_
                  refine g_ialdI (pc := 118) X 1 rfl (b_rm.1) (Int.lt_of_le_of_lt b_rm.2 (by decide)) (Int.le_trans b_rm.2 (by decide)) dX12_shares_118 ?_
                  refine g_nameI (fun y29 ey29 => ?_)
                  have by29 : 0 ≤ y29 ∧ y29 ≤ 8 := by rw [ey29]; exact h_Mw _ (by (first | (clear b_nr b_tm b_at_ b_to_ b_fa b_va b_np b_tn b_pc_ b_st_ b_pa_ b_ta b_ow b_of_ b_ot b_rl b_hb b_bs b_se; omega) | omega))
                  have ty29 : 1 ≤ y29 ∧ y29 ≤ 8 := by rw [ey29]; exact hwn
                  refine g_icmp_geI (pc := 119) X 142 (by decide) (inRb b_k2 (by decide) (by decide)) (inRb by29 (by decide) (by decide)) dX12_shares_119 (fun c119 => ?_) (fun c119 => ?_)
                  · exact g_vret (pc := 142) X hA (⟨Wf, Wb1, Wg, n1, rfl, rfl, (b_n1), (h_Wf), (h_Wb1), (h_Wg)⟩) (by decide) (by decide) dX12_shares_142
                  · refine g_aload_n (pc := 122) X 2 rfl dX12_shares_122 ?_
                    refine g_get (pc := 123) X inlX12 0 rfl rfl 62 (by decide) mw_9_13 rfl dX12_shares_123 ?_
                    refine g_iload (pc := 126) X 0 rfl dX12_shares_126 ?_
                    refine g_aload_n (pc := 128) X 2 rfl dX12_shares_128 ?_
                    refine g_get (pc := 129) X inlX12 0 rfl rfl 61 (by decide) mw_9_12 rfl dX12_shares_129 ?_
                    refine g_iload (pc := 132) X 0 rfl dX12_shares_132 ?_
                    refine g_ialdI (pc := 134) X 16 rfl (b_k2.1) (by (first | (clear b_nr b_tm b_at_ b_to_ b_fa b_va b_np b_tn b_pc_ b_st_ b_pa_ b_ta b_ow b_of_ b_ot b_rl b_hb b_bs b_se; omega) | omega)) (Int.le_trans b_k2.2 (by decide)) dX12_shares_134 ?_
                    refine g_nameI (fun y30 ey30 => ?_)
                    have by30 : (-2147483648) ≤ y30 ∧ y30 ≤ 2147483647 := by rw [ey30]; exact h_Wf _ (by (first | (clear b_nr b_tm b_at_ b_to_ b_fa b_va b_np b_tn b_pc_ b_st_ b_pa_ b_ta b_ow b_of_ b_ot b_rl b_hb b_bs b_se; omega) | omega))
                    refine g_iastG (pc := 135) X 17 rfl (b_k2.1) (by (first | (clear b_nr b_tm b_at_ b_to_ b_fa b_va b_np b_tn b_pc_ b_st_ b_pa_ b_ta b_ow b_of_ b_ot b_rl b_hb b_bs b_se; omega) | omega)) (Int.le_trans b_k2.2 (by decide)) (ws' := fun F31 => [(g0, .inr (12, mO gA nr tm at_ to_ fa va np tn pc_ st_ pa_ ta ow of_ ot rl hb n1 se)), cA Z (gA 13) 0 7 Mw, cA Z (gA 14) 0 7 Mo, cR Z (gA 0) 6 7 (gG 0), cR Z (gA 4) 6 7 (gG 4), cR Z (gA 5) 6 7 (gG 5), cR Z (gA 6) 6 7 (gG 6), cR Z (gA 9) 6 7 (gG 9), cA Z (xA 0) 0 8 Ml, cA Z (xA 4) 0 8 Mow, cA Z (xA 5) 0 8 Mof, cA Z (xA 6) 0 8 Mot, cA Z (xA 9) 0 8 Md, cA Z (gA 58) 0 4 Bp, cA Z (gA 59) 0 4 Br, cA Z (gA 60) 0 8 Wo, cA Z (gA 61) 0 8 Wf, cA Z (gA 62) 0 8 F31, cA Z (gA 63) 0 4 Wg]) (fun _ => rfl) dX12_shares_135 (fun F31 eF31 => ?_)
                    have hF31 : ∀ j, j < 8 → (-2147483648) ≤ F31 j ∧ F31 j ≤ 2147483647 := by rw [eF31]; exact updI_B h_Wb1 (by (first | (clear b_nr b_tm b_at_ b_to_ b_fa b_va b_np b_tn b_pc_ b_st_ b_pa_ b_ta b_ow b_of_ b_ot b_rl b_hb b_bs b_se; omega) | omega))
                    refine g_iincI (pc := 136) X 0 rfl (by decide) (lv' := [(4, .int (iI (k2 + 1))), (3, .int (iI n1)), (0, .ref g0), (1, .int (iI rm)), (2, .int (iI w))]) rfl dX12_shares_136 ?_
                    refine g_goto (pc := 139) X 111 (by decide) dX12_shares_139 ?_
                    exact ih (k2 + 1) F31 (by (first | (clear b_nr b_tm b_at_ b_to_ b_fa b_va b_np b_tn b_pc_ b_st_ b_pa_ b_ta b_ow b_of_ b_ot b_rl b_hb b_bs b_se; omega) | omega)) (hF31) (by (first | (clear b_nr b_tm b_at_ b_to_ b_fa b_va b_np b_tn b_pc_ b_st_ b_pa_ b_ta b_ow b_of_ b_ot b_rl b_hb b_bs b_se; omega) | omega))
              exact loop111 _ 0 Wb (by (first | (clear b_nr b_tm b_at_ b_to_ b_fa b_va b_np b_tn b_pc_ b_st_ b_pa_ b_ta b_ow b_of_ b_ot b_rl b_hb b_bs b_se; omega) | omega)) (h_Wb) (Nat.lt_succ_self _)
            · refine g_iload_n (pc := 94) X 1 rfl dX12_shares_94 ?_
              refine g_aload_n (pc := 95) X 2 rfl dX12_shares_95 ?_
              refine g_get (pc := 96) X inlX12 0 rfl rfl 65 (by decide) mw_49_21 rfl dX12_shares_96 ?_
              refine g_icmp_ltI (pc := 99) X 103 (by decide) b_n1 b_bs dX12_shares_99 (fun c99 => ?_) (fun c99 => ?_)
              · refine g_aload_n (pc := 103) X 2 rfl dX12_shares_103 ?_
                refine g_iload_n (pc := 104) X 1 rfl dX12_shares_104 ?_
                refine g_put (pc := 105) X inlX12 tyX12_ok nmX12 0 rfl rfl 65 (by decide) mw_49_21 rfl rfl rfl (Nat.le_of_ble_eq_true rfl) (ws' := [(g0, .inr (12, mO gA nr tm at_ to_ fa va np tn pc_ st_ pa_ ta ow of_ ot rl hb n1 se)), cA Z (gA 13) 0 7 Mw, cA Z (gA 14) 0 7 Mo, cR Z (gA 0) 6 7 (gG 0), cR Z (gA 4) 6 7 (gG 4), cR Z (gA 5) 6 7 (gG 5), cR Z (gA 6) 6 7 (gG 6), cR Z (gA 9) 6 7 (gG 9), cA Z (xA 0) 0 8 Ml, cA Z (xA 4) 0 8 Mow, cA Z (xA 5) 0 8 Mof, cA Z (xA 6) 0 8 Mot, cA Z (xA 9) 0 8 Md, cA Z (gA 58) 0 4 Bp, cA Z (gA 59) 0 4 Br, cA Z (gA 60) 0 8 Wo, cA Z (gA 61) 0 8 Wf, cA Z (gA 62) 0 8 Wb, cA Z (gA 63) 0 4 Wg]) rfl dX12_shares_105 ?_
                refine g_iconst (pc := 108) X (iI 0) (by rfl) dX12_shares_108 ?_
                refine g_istore (pc := 109) X (by decide) (lv' := [(4, .int (iI 0)), (3, .int (iI n1)), (0, .ref g0), (1, .int (iI rm)), (2, .int (iI w))]) rfl dX12_shares_109 ?_
                have loop111 : ∀ (fuel : Nat) (k2 : Int) (Wb1 : Nat → Int), (0 ≤ k2 ∧ k2 ≤ 8) → (∀ j, j < 8 → (-2147483648) ≤ Wb1 j ∧ Wb1 j ≤ 2147483647) → (9 - k2).toNat < fuel → Gs p l e ({ frames := 3, cells := 0, slots := 0, locals := 72 } : Room) s m args below meth c (MQ below (gPost Z [(g0, .inr (12, mO gA nr tm at_ to_ fa va np tn pc_ st_ pa_ ta ow of_ ot rl hb bs se)), cA Z (gA 13) 0 7 Mw, cA Z (gA 14) 0 7 Mo, cR Z (gA 0) 6 7 (gG 0), cR Z (gA 4) 6 7 (gG 4), cR Z (gA 5) 6 7 (gG 5), cR Z (gA 6) 6 7 (gG 6), cR Z (gA 9) 6 7 (gG 9), cA Z (xA 0) 0 8 Ml, cA Z (xA 4) 0 8 Mow, cA Z (xA 5) 0 8 Mof, cA Z (xA 6) 0 8 Mot, cA Z (xA 9) 0 8 Md, cA Z (gA 58) 0 4 Bp, cA Z (gA 59) 0 4 Br, cA Z (gA 60) 0 8 Wo, cA Z (gA 61) 0 8 Wf, cA Z (gA 62) 0 8 Wb, cA Z (gA 63) 0 4 Wg] s.heap.size (fun r w' => ∃ (Wf2 : Nat → Int) (Wb2 : Nat → Int) (Wg2 : Nat → Int) (bs2 : Int), (r = none) ∧ (w' = [(g0, .inr (12, mO gA nr tm at_ to_ fa va np tn pc_ st_ pa_ ta ow of_ ot rl hb bs2 se)), cA Z (gA 13) 0 7 Mw, cA Z (gA 14) 0 7 Mo, cR Z (gA 0) 6 7 (gG 0), cR Z (gA 4) 6 7 (gG 4), cR Z (gA 5) 6 7 (gG 5), cR Z (gA 6) 6 7 (gG 6), cR Z (gA 9) 6 7 (gG 9), cA Z (xA 0) 0 8 Ml, cA Z (xA 4) 0 8 Mow, cA Z (xA 5) 0 8 Mof, cA Z (xA 6) 0 8 Mot, cA Z (xA 9) 0 8 Md, cA Z (gA 58) 0 4 Bp, cA Z (gA 59) 0 4 Br, cA Z (gA 60) 0 8 Wo, cA Z (gA 61) 0 8 Wf2, cA Z (gA 62) 0 8 Wb2, cA Z (gA 63) 0 4 Wg2]) ∧ ((-2147483648) ≤ bs2 ∧ bs2 ≤ 2147483647) ∧ (∀ j, j < 8 → (-2147483648) ≤ Wf2 j ∧ Wf2 j ≤ 2147483647) ∧ (∀ j, j < 8 → (-2147483648) ≤ Wb2 j ∧ Wb2 j ≤ 2147483647) ∧ (∀ j, j < 4 → (-2147483648) ≤ Wg2 j ∧ Wg2 j ≤ 2147483647))) args s 0 0 (va_A [(g0, .inr (12, mO gA nr tm at_ to_ fa va np tn pc_ st_ pa_ ta ow of_ ot rl hb bs se)), cA Z (gA 13) 0 7 Mw, cA Z (gA 14) 0 7 Mo, cR Z (gA 0) 6 7 (gG 0), cR Z (gA 4) 6 7 (gG 4), cR Z (gA 5) 6 7 (gG 5), cR Z (gA 6) 6 7 (gG 6), cR Z (gA 9) 6 7 (gG 9), cA Z (xA 0) 0 8 Ml, cA Z (xA 4) 0 8 Mow, cA Z (xA 5) 0 8 Mof, cA Z (xA 6) 0 8 Mot, cA Z (xA 9) 0 8 Md, cA Z (gA 58) 0 4 Bp, cA Z (gA 59) 0 4 Br, cA Z (gA 60) 0 8 Wo, cA Z (gA 61) 0 8 Wf, cA Z (gA 62) 0 8 Wb, cA Z (gA 63) 0 4 Wg] s.heap.size)) Z A 5 0 0 111 [(4, .int (iI k2)), (3, .int (iI n1)), (0, .ref g0), (1, .int (iI rm)), (2, .int (iI w))] [] [(g0, .inr (12, mO gA nr tm at_ to_ fa va np tn pc_ st_ pa_ ta ow of_ ot rl hb n1 se)), cA Z (gA 13) 0 7 Mw, cA Z (gA 14) 0 7 Mo, cR Z (gA 0) 6 7 (gG 0), cR Z (gA 4) 6 7 (gG 4), cR Z (gA 5) 6 7 (gG 5), cR Z (gA 6) 6 7 (gG 6), cR Z (gA 9) 6 7 (gG 9), cA Z (xA 0) 0 8 Ml, cA Z (xA 4) 0 8 Mow, cA Z (xA 5) 0 8 Mof, cA Z (xA 6) 0 8 Mot, cA Z (xA 9) 0 8 Md, cA Z (gA 58) 0 4 Bp, cA Z (gA 59) 0 4 Br, cA Z (gA 60) 0 8 Wo, cA Z (gA 61) 0 8 Wf, cA Z (gA 62) 0 8 Wb1, cA Z (gA 63) 0 4 Wg] := by
                  intro fuel
                  induction fuel with
                  | zero => intro k2 Wb1 _ _ hm; exact absurd hm (Nat.not_lt_zero _)
                  | succ fuel ih =>
                    intro k2 Wb1 b_k2 h_Wb1 hm
                    refine g_iload (pc := 111) X 0 rfl dX12_shares_111 ?_
                    refine g_aload_n (pc := 113) X 2 rfl dX12_shares_113 ?_
                    refine g_get (pc := 114) X inlX12 0 rfl rfl 13 (by decide) mw_8_1 rfl dX12_shares_114 ?_
                    refine g_iload_n (pc := 117) X 3 rfl dX12_shares_117 ?_
                    refine g_ialdI (pc := 118) X 1 rfl (b_rm.1) (Int.lt_of_le_of_lt b_rm.2 (by decide)) (Int.le_trans b_rm.2 (by decide)) dX12_shares_118 ?_
                    refine g_nameI (fun y32 ey32 => ?_)
                    have by32 : 0 ≤ y32 ∧ y32 ≤ 8 := by rw [ey32]; exact h_Mw _ (by (first | (clear b_nr b_tm b_at_ b_to_ b_fa b_va b_np b_tn b_pc_ b_st_ b_pa_ b_ta b_ow b_of_ b_ot b_rl b_hb b_bs b_se; omega) | omega))
                    have ty32 : 1 ≤ y32 ∧ y32 ≤ 8 := by rw [ey32]; exact hwn
                    refine g_icmp_geI (pc := 119) X 142 (by decide) (inRb b_k2 (by decide) (by decide)) (inRb by32 (by decide) (by decide)) dX12_shares_119 (fun c119 => ?_) (fun c119 => ?_)
                    · exact g_vret (pc := 142) X hA (⟨Wf, Wb1, Wg, n1, rfl, rfl, (b_n1), (h_Wf), (h_Wb1), (h_Wg)⟩) (by decide) (by decide) dX12_shares_142
                    · refine g_aload_n (pc := 122) X 2 rfl dX12_shares_122 ?_
                      refine g_get (pc := 123) X inlX12 0 rfl rfl 62 (by decide) mw_9_13 rfl dX12_shares_123 ?_
                      refine g_iload (pc := 126) X 0 rfl dX12_shares_126 ?_
                      refine g_aload_n (pc := 128) X 2 rfl dX12_shares_128 ?_
                      refine g_get (pc := 129) X inlX12 0 rfl rfl 61 (by decide) mw_9_12 rfl dX12_shares_129 ?_
                      refine g_iload (pc := 132) X 0 rfl dX12_shares_132 ?_
                      refine g_ialdI (pc := 134) X 16 rfl (b_k2.1) (by (first | (clear b_nr b_tm b_at_ b_to_ b_fa b_va b_np b_tn b_pc_ b_st_ b_pa_ b_ta b_ow b_of_ b_ot b_rl b_hb b_bs b_se; omega) | omega)) (Int.le_trans b_k2.2 (by decide)) dX12_shares_134 ?_
                      refine g_nameI (fun y33 ey33 => ?_)
                      have by33 : (-2147483648) ≤ y33 ∧ y33 ≤ 2147483647 := by rw [ey33]; exact h_Wf _ (by (first | (clear b_nr b_tm b_at_ b_to_ b_fa b_va b_np b_tn b_pc_ b_st_ b_pa_ b_ta b_ow b_of_ b_ot b_rl b_hb b_bs b_se; omega) | omega))
                      refine g_iastG (pc := 135) X 17 rfl (b_k2.1) (by (first | (clear b_nr b_tm b_at_ b_to_ b_fa b_va b_np b_tn b_pc_ b_st_ b_pa_ b_ta b_ow b_of_ b_ot b_rl b_hb b_bs b_se; omega) | omega)) (Int.le_trans b_k2.2 (by decide)) (ws' := fun F34 => [(g0, .inr (12, mO gA nr tm at_ to_ fa va np tn pc_ st_ pa_ ta ow of_ ot rl hb n1 se)), cA Z (gA 13) 0 7 Mw, cA Z (gA 14) 0 7 Mo, cR Z (gA 0) 6 7 (gG 0), cR Z (gA 4) 6 7 (gG 4), cR Z (gA 5) 6 7 (gG 5), cR Z (gA 6) 6 7 (gG 6), cR Z (gA 9) 6 7 (gG 9), cA Z (xA 0) 0 8 Ml, cA Z (xA 4) 0 8 Mow, cA Z (xA 5) 0 8 Mof, cA Z (xA 6) 0 8 Mot, cA Z (xA 9) 0 8 Md, cA Z (gA 58) 0 4 Bp, cA Z (gA 59) 0 4 Br, cA Z (gA 60) 0 8 Wo, cA Z (gA 61) 0 8 Wf, cA Z (gA 62) 0 8 F34, cA Z (gA 63) 0 4 Wg]) (fun _ => rfl) dX12_shares_135 (fun F34 eF34 => ?_)
                      have hF34 : ∀ j, j < 8 → (-2147483648) ≤ F34 j ∧ F34 j ≤ 2147483647 := by rw [eF34]; exact updI_B h_Wb1 (by (first | (clear b_nr b_tm b_at_ b_to_ b_fa b_va b_np b_tn b_pc_ b_st_ b_pa_ b_ta b_ow b_of_ b_ot b_rl b_hb b_bs b_se; omega) | omega))
                      refine g_iincI (pc := 136) X 0 rfl (by decide) (lv' := [(4, .int (iI (k2 + 1))), (3, .int (iI n1)), (0, .ref g0), (1, .int (iI rm)), (2, .int (iI w))]) rfl dX12_shares_136 ?_
                      refine g_goto (pc := 139) X 111 (by decide) dX12_shares_139 ?_
                      exact ih (k2 + 1) F34 (by (first | (clear b_nr b_tm b_at_ b_to_ b_fa b_va b_np b_tn b_pc_ b_st_ b_pa_ b_ta b_ow b_of_ b_ot b_rl b_hb b_bs b_se; omega) | omega)) (hF34) (by (first | (clear b_nr b_tm b_at_ b_to_ b_fa b_va b_np b_tn b_pc_ b_st_ b_pa_ b_ta b_ow b_of_ b_ot b_rl b_hb b_bs b_se; omega) | omega))
                exact loop111 _ 0 Wb (by (first | (clear b_nr b_tm b_at_ b_to_ b_fa b_va b_np b_tn b_pc_ b_st_ b_pa_ b_ta b_ow b_of_ b_ot b_rl b_hb b_bs b_se; omega) | omega)) (h_Wb) (Nat.lt_succ_self _)
              · exact g_vret (pc := 102) X hA (⟨Wf, Wb, Wg, bs, rfl, rfl, (b_bs), (h_Wf), (h_Wb), (h_Wg)⟩) (by decide) (by decide) dX12_shares_102
          · refine g_iload_n (pc := 36) X 1 rfl dX12_shares_36 ?_
            refine g_aload_n (pc := 37) X 2 rfl dX12_shares_37 ?_
            refine g_get (pc := 38) X inlX12 0 rfl rfl 61 (by decide) mw_9_12 rfl dX12_shares_38 ?_
            refine g_iload (pc := 41) X 0 rfl dX12_shares_41 ?_
            refine g_ialdI (pc := 43) X 16 rfl (b_k1.1) (by (first | (clear b_nr b_tm b_at_ b_to_ b_fa b_va b_np b_tn b_pc_ b_st_ b_pa_ b_ta b_ow b_of_ b_ot b_rl b_hb b_bs b_se; omega) | omega)) (Int.le_trans b_k1.2 (by decide)) dX12_shares_43 ?_
            refine g_nameI (fun y35 ey35 => ?_)
            have by35 : (-2147483648) ≤ y35 ∧ y35 ≤ 2147483647 := by rw [ey35]; exact h_Wf _ (by (first | (clear b_nr b_tm b_at_ b_to_ b_fa b_va b_np b_tn b_pc_ b_st_ b_pa_ b_ta b_ow b_of_ b_ot b_rl b_hb b_bs b_se; omega) | omega))
            refine g_aload_n (pc := 44) X 2 rfl dX12_shares_44 ?_
            refine g_get (pc := 45) X inlX12 0 rfl rfl 61 (by decide) mw_9_12 rfl dX12_shares_45 ?_
            refine g_iload (pc := 48) X 0 rfl dX12_shares_48 ?_
            refine g_iconst (pc := 50) X (iI 1) (by rfl) dX12_shares_50 ?_
            refine g_iaddI (pc := 51) X dX12_shares_51 ?_
            refine g_aload_n (pc := 52) X 2 rfl dX12_shares_52 ?_
            refine g_get (pc := 53) X inlX12 0 rfl rfl 13 (by decide) mw_8_1 rfl dX12_shares_53 ?_
            refine g_iload_n (pc := 56) X 3 rfl dX12_shares_56 ?_
            refine g_ialdI (pc := 57) X 1 rfl (b_rm.1) (Int.lt_of_le_of_lt b_rm.2 (by decide)) (Int.le_trans b_rm.2 (by decide)) dX12_shares_57 ?_
            refine g_nameI (fun y36 ey36 => ?_)
            have by36 : 0 ≤ y36 ∧ y36 ≤ 8 := by rw [ey36]; exact h_Mw _ (by (first | (clear b_nr b_tm b_at_ b_to_ b_fa b_va b_np b_tn b_pc_ b_st_ b_pa_ b_ta b_ow b_of_ b_ot b_rl b_hb b_bs b_se; omega) | omega))
            have ty36 : 1 ≤ y36 ∧ y36 ≤ 8 := by rw [ey36]; exact hwn
            refine g_iremP (pc := 58) X (by (first | (clear b_nr b_tm b_at_ b_to_ b_fa b_va b_np b_tn b_pc_ b_st_ b_pa_ b_ta b_ow b_of_ b_ot b_rl b_hb b_bs b_se; omega) | omega)) (by (first | (clear b_nr b_tm b_at_ b_to_ b_fa b_va b_np b_tn b_pc_ b_st_ b_pa_ b_ta b_ow b_of_ b_ot b_rl b_hb b_bs b_se; omega) | omega)) (by (first | (clear b_nr b_tm b_at_ b_to_ b_fa b_va b_np b_tn b_pc_ b_st_ b_pa_ b_ta b_ow b_of_ b_ot b_rl b_hb b_bs b_se; omega) | omega)) (by (first | (clear b_nr b_tm b_at_ b_to_ b_fa b_va b_np b_tn b_pc_ b_st_ b_pa_ b_ta b_ow b_of_ b_ot b_rl b_hb b_bs b_se; omega) | omega)) dX12_shares_58 ?_
            refine g_nameI (fun y37 ey37 => ?_)
            have by37 : 0 ≤ y37 ∧ y37 ≤ 7 := by rw [ey37]; exact modB (by (first | (clear b_nr b_tm b_at_ b_to_ b_fa b_va b_np b_tn b_pc_ b_st_ b_pa_ b_ta b_ow b_of_ b_ot b_rl b_hb b_bs b_se; omega) | omega)) (by (first | (clear b_nr b_tm b_at_ b_to_ b_fa b_va b_np b_tn b_pc_ b_st_ b_pa_ b_ta b_ow b_of_ b_ot b_rl b_hb b_bs b_se; omega) | omega)) (by (first | (clear b_nr b_tm b_at_ b_to_ b_fa b_va b_np b_tn b_pc_ b_st_ b_pa_ b_ta b_ow b_of_ b_ot b_rl b_hb b_bs b_se; omega) | omega))
            have cy37 : y37 < y36 := by rw [ey37]; exact Int.emod_lt_of_pos _ (by (first | (clear b_nr b_tm b_at_ b_to_ b_fa b_va b_np b_tn b_pc_ b_st_ b_pa_ b_ta b_ow b_of_ b_ot b_rl b_hb b_bs b_se; omega) | omega))
            refine g_ialdI (pc := 59) X 16 rfl (by (first | (clear b_nr b_tm b_at_ b_to_ b_fa b_va b_np b_tn b_pc_ b_st_ b_pa_ b_ta b_ow b_of_ b_ot b_rl b_hb b_bs b_se; omega) | omega)) (by (first | (clear b_nr b_tm b_at_ b_to_ b_fa b_va b_np b_tn b_pc_ b_st_ b_pa_ b_ta b_ow b_of_ b_ot b_rl b_hb b_bs b_se; omega) | omega)) (by (first | (clear b_nr b_tm b_at_ b_to_ b_fa b_va b_np b_tn b_pc_ b_st_ b_pa_ b_ta b_ow b_of_ b_ot b_rl b_hb b_bs b_se; omega) | omega)) dX12_shares_59 ?_
            refine g_nameI (fun y38 ey38 => ?_)
            have by38 : (-2147483648) ≤ y38 ∧ y38 ≤ 2147483647 := by rw [ey38]; exact h_Wf _ (by (first | (clear b_nr b_tm b_at_ b_to_ b_fa b_va b_np b_tn b_pc_ b_st_ b_pa_ b_ta b_ow b_of_ b_ot b_rl b_hb b_bs b_se; omega) | omega))
            refine g_icmp_eqI (pc := 60) X 77 (by decide) by35 by38 dX12_shares_60 (fun c60 => ?_) (fun c60 => ?_)
            · refine g_iconst (pc := 77) X (iI 0) (by rfl) dX12_shares_77 ?_
              refine g_iaddI (pc := 78) X dX12_shares_78 ?_
              refine g_istore_n (pc := 79) X (i := 3) rfl (by decide) (lv' := [(3, .int (iI (n1 + 0))), (4, .int (iI k1)), (0, .ref g0), (1, .int (iI rm)), (2, .int (iI w))]) rfl dX12_shares_79 ?_
              refine g_iincI (pc := 80) X 1 rfl (by decide) (lv' := [(4, .int (iI (k1 + 1))), (3, .int (iI (n1 + 0))), (0, .ref g0), (1, .int (iI rm)), (2, .int (iI w))]) rfl dX12_shares_80 ?_
              refine g_goto (pc := 83) X 15 (by decide) dX12_shares_83 ?_
              exact ih (n1 + 0) (k1 + 1) (by (first | (clear b_nr b_tm b_at_ b_to_ b_fa b_va b_np b_tn b_pc_ b_st_ b_pa_ b_ta b_ow b_of_ b_ot b_rl b_hb b_bs b_se; omega) | omega)) (by (first | (clear b_nr b_tm b_at_ b_to_ b_fa b_va b_np b_tn b_pc_ b_st_ b_pa_ b_ta b_ow b_of_ b_ot b_rl b_hb b_bs b_se; omega) | omega)) (by (first | (clear b_nr b_tm b_at_ b_to_ b_fa b_va b_np b_tn b_pc_ b_st_ b_pa_ b_ta b_ow b_of_ b_ot b_rl b_hb b_bs b_se; omega) | omega))
            · refine g_aload_n (pc := 63) X 2 rfl dX12_shares_63 ?_
              refine g_iload_n (pc := 64) X 3 rfl dX12_shares_64 ?_
              refine g_iload (pc := 65) X 0 rfl dX12_shares_65 ?_
              refine g_callV (pc := 67) X (k_X12_hasDoor l Z g0 gA gG xA Mw Mo Ml Mow Mof Mot Md rm k1 nr tm at_ to_ fa va np tn pc_ st_ pa_ ta ow of_ ot rl hb bs se b_rm (by (first | (clear b_nr b_tm b_at_ b_to_ b_fa b_va b_np b_tn b_pc_ b_st_ b_pa_ b_ta b_ow b_of_ b_ot b_rl b_hb b_bs b_se; omega) | omega)) b_nr b_tm b_at_ b_to_ b_fa b_va b_np b_tn b_pc_ b_st_ b_pa_ b_ta b_ow b_of_ b_ot b_rl b_hb b_bs b_se (hG) (by (first | (clear b_nr b_tm b_at_ b_to_ b_fa b_va b_np b_tn b_pc_ b_st_ b_pa_ b_ta b_ow b_of_ b_ot b_rl b_hb b_bs b_se; omega) | omega)) (h_Mw) (h_Mo) (h_Ml) (h_Mow) (h_Mof) (h_Mot) (h_Md)) iM_X12_hasDoor mw_50_6 mw_50_7 mw_50_8 0 rfl rfl [0, 1, 2, 3, 4, 5, 6, 7, 8, 9, 10, 11, 12] [13, 14, 15, 16, 17, 18] rfl (wr := [cA Z (gA 58) 0 4 Bp, cA Z (gA 59) 0 4 Br, cA Z (gA 60) 0 8 Wo, cA Z (gA 61) 0 8 Wf, cA Z (gA 62) 0 8 Wb, cA Z (gA 63) 0 4 Wg]) rfl (by decide) rfl rfl (Nat.le_of_ble_eq_true rfl) (by decide) dX12_shares_67 (fun r w' hpo => ?_)
              refine exN_1 hpo fun y39 hz => anD_3 hz fun e_r e_w hf67_b_y => ?_; clear hz hpo; subst e_r; subst e_w
              refine g_as (pc' := 70) (lv' := [(4, .int (iI k1)), (3, .int (iI n1)), (0, .ref g0), (1, .int (iI rm)), (2, .int (iI w))]) (st' := [.int (iI y39), .int (iI n1)]) (ws' := [cA Z (gA 58) 0 4 Bp, cA Z (gA 59) 0 4 Br, cA Z (gA 60) 0 8 Wo, cA Z (gA 61) 0 8 Wf, cA Z (gA 62) 0 8 Wb, cA Z (gA 63) 0 4 Wg, (g0, .inr (12, mO gA nr tm at_ to_ fa va np tn pc_ st_ pa_ ta ow of_ ot rl hb bs se)), cA Z (gA 13) 0 7 Mw, cA Z (gA 14) 0 7 Mo, cR Z (gA 0) 6 7 (gG 0), cR Z (gA 4) 6 7 (gG 4), cR Z (gA 5) 6 7 (gG 5), cR Z (gA 6) 6 7 (gG 6), cR Z (gA 9) 6 7 (gG 9), cA Z (xA 0) 0 8 Ml, cA Z (xA 4) 0 8 Mow, cA Z (xA 5) 0 8 Mof, cA Z (xA 6) 0 8 Mot, cA Z (xA 9) 0 8 Md]) rfl rfl rfl rfl ?_
              refine g_if_neI (pc := 70) X 77 (by decide) (inRb hf67_b_y (by decide) (by decide)) dX12_shares_70 (fun c70 => ?_) (fun c70 => ?_)
              · refine g_iconst (pc := 77) X (iI 0) (by rfl) dX12_shares_77 ?_
                refine g_iaddI (pc := 78) X dX12_shares_78 ?_
                refine g_istore_n (pc := 79) X (i := 3) rfl (by decide) (lv' := [(3, .int (iI (n1 + 0))), (4, .int (iI k1)), (0, .ref g0), (1, .int (iI rm)), (2, .int (iI w))]) rfl dX12_shares_79 ?_
                refine g_iincI (pc := 80) X 1 rfl (by decide) (lv' := [(4, .int (iI (k1 + 1))), (3, .int (iI (n1 + 0))), (0, .ref g0), (1, .int (iI rm)), (2, .int (iI w))]) rfl dX12_shares_80 ?_
                refine g_goto (pc := 83) X 15 (by decide) dX12_shares_83 ?_
                refine g_ws (ws' := [(g0, .inr (12, mO gA nr tm at_ to_ fa va np tn pc_ st_ pa_ ta ow of_ ot rl hb bs se)), cA Z (gA 13) 0 7 Mw, cA Z (gA 14) 0 7 Mo, cR Z (gA 0) 6 7 (gG 0), cR Z (gA 4) 6 7 (gG 4), cR Z (gA 5) 6 7 (gG 5), cR Z (gA 6) 6 7 (gG 6), cR Z (gA 9) 6 7 (gG 9), cA Z (xA 0) 0 8 Ml, cA Z (xA 4) 0 8 Mow, cA Z (xA 5) 0 8 Mof, cA Z (xA 6) 0 8 Mot, cA Z (xA 9) 0 8 Md, cA Z (gA 58) 0 4 Bp, cA Z (gA 59) 0 4 Br, cA Z (gA 60) 0 8 Wo, cA Z (gA 61) 0 8 Wf, cA Z (gA 62) 0 8 Wb, cA Z (gA 63) 0 4 Wg]) [6, 7, 8, 9, 10, 11, 12, 13, 14, 15, 16, 17, 18, 0, 1, 2, 3, 4, 5] (by decide) rfl ?_
                exact ih (n1 + 0) (k1 + 1) (by (first | (clear b_nr b_tm b_at_ b_to_ b_fa b_va b_np b_tn b_pc_ b_st_ b_pa_ b_ta b_ow b_of_ b_ot b_rl b_hb b_bs b_se; omega) | omega)) (by (first | (clear b_nr b_tm b_at_ b_to_ b_fa b_va b_np b_tn b_pc_ b_st_ b_pa_ b_ta b_ow b_of_ b_ot b_rl b_hb b_bs b_se; omega) | omega)) (by (first | (clear b_nr b_tm b_at_ b_to_ b_fa b_va b_np b_tn b_pc_ b_st_ b_pa_ b_ta b_ow b_of_ b_ot b_rl b_hb b_bs b_se; omega) | omega))
              · refine g_iconst (pc := 73) X (iI 1) (by rfl) dX12_shares_73 ?_
                refine g_goto (pc := 74) X 78 (by decide) dX12_shares_74 ?_
                refine g_iaddI (pc := 78) X dX12_shares_78 ?_
                refine g_any (fun y41 by41 => ?_)
                refine g_istore_n (pc := 79) X (i := 3) rfl (by decide) (lv' := [(3, .int (iI y41)), (4, .int (iI k1)), (0, .ref g0), (1, .int (iI rm)), (2, .int (iI w))]) rfl dX12_shares_79 ?_
                refine g_iincI (pc := 80) X 1 rfl (by decide) (lv' := [(4, .int (iI (k1 + 1))), (3, .int (iI y41)), (0, .ref g0), (1, .int (iI rm)), (2, .int (iI w))]) rfl dX12_shares_80 ?_
                refine g_goto (pc := 83) X 15 (by decide) dX12_shares_83 ?_
                refine g_ws (ws' := [(g0, .inr (12, mO gA nr tm at_ to_ fa va np tn pc_ st_ pa_ ta ow of_ ot rl hb bs se)), cA Z (gA 13) 0 7 Mw, cA Z (gA 14) 0 7 Mo, cR Z (gA 0) 6 7 (gG 0), cR Z (gA 4) 6 7 (gG 4), cR Z (gA 5) 6 7 (gG 5), cR Z (gA 6) 6 7 (gG 6), cR Z (gA 9) 6 7 (gG 9), cA Z (xA 0) 0 8 Ml, cA Z (xA 4) 0 8 Mow, cA Z (xA 5) 0 8 Mof, cA Z (xA 6) 0 8 Mot, cA Z (xA 9) 0 8 Md, cA Z (gA 58) 0 4 Bp, cA Z (gA 59) 0 4 Br, cA Z (gA 60) 0 8 Wo, cA Z (gA 61) 0 8 Wf, cA Z (gA 62) 0 8 Wb, cA Z (gA 63) 0 4 Wg]) [6, 7, 8, 9, 10, 11, 12, 13, 14, 15, 16, 17, 18, 0, 1, 2, 3, 4, 5] (by decide) rfl ?_
                exact ih y41 (k1 + 1) (by41) (by (first | (clear b_nr b_tm b_at_ b_to_ b_fa b_va b_np b_tn b_pc_ b_st_ b_pa_ b_ta b_ow b_of_ b_ot b_rl b_hb b_bs b_se; omega) | omega)) (by (first | (clear b_nr b_tm b_at_ b_to_ b_fa b_va b_np b_tn b_pc_ b_st_ b_pa_ b_ta b_ow b_of_ b_ot b_rl b_hb b_bs b_se; omega) | omega))
    exact loop15 _ 0 0 (by (first | (clear b_nr b_tm b_at_ b_to_ b_fa b_va b_np b_tn b_pc_ b_st_ b_pa_ b_ta b_ow b_of_ b_ot b_rl b_hb b_bs b_se; omega) | omega)) (by (first | (clear b_nr b_tm b_at_ b_to_ b_fa b_va b_np b_tn b_pc_ b_st_ b_pa_ b_ta b_ow b_of_ b_ot b_rl b_hb b_bs b_se; omega) | omega)) (Nat.lt_succ_self _)

set_option maxHeartbeats 4000000 in
set_option maxRecDepth 100000 in
theorem k_X12_shares3 (l : Launch) (Z : gZ) (g0 : Nat) (gA : Nat → Nat) (gG : Nat → Nat → Option Nat) (xA : Nat → Nat) (Mw : Nat → Int) (Mo : Nat → Int) (Ml : Nat → Int) (Mow : Nat → Int) (Mof : Nat → Int) (Mot : Nat → Int) (Md : Nat → Int) (Bp : Nat → Int) (Br : Nat → Int) (Wo : Nat → Int) (Wf : Nat → Int) (Wb : Nat → Int) (Wg : Nat → Int) (rm : Int) (w : Int) (nr : Int) (tm : Int) (at_ : Int) (to_ : Int) (fa : Int) (va : Int) (np : Int) (tn : Int) (pc_ : Int) (st_ : Int) (pa_ : Int) (ta : Int) (ow : Int) (of_ : Int) (ot : Int) (rl : Int) (hb : Int) (bs : Int) (se : Int) (b_rm : 0 ≤ rm ∧ rm ≤ 5) (b_w : 0 ≤ w ∧ w ≤ 8) (b_nr : 0 ≤ nr ∧ nr ≤ 6) (b_tm : 0 ≤ tm ∧ tm ≤ 400) (b_at_ : 0 ≤ at_ ∧ at_ ≤ 400) (b_to_ : 0 ≤ to_ ∧ to_ ≤ 400) (b_fa : (-1) ≤ fa ∧ fa ≤ 400) (b_va : (-2147483648) ≤ va ∧ va ≤ 2147483647) (b_np : 0 ≤ np ∧ np ≤ 4) (b_tn : 0 ≤ tn ∧ tn ≤ 20) (b_pc_ : 0 ≤ pc_ ∧ pc_ ≤ 480) (b_st_ : 0 ≤ st_ ∧ st_ ≤ 240) (b_pa_ : (-1) ≤ pa_ ∧ pa_ ≤ 3) (b_ta : (-2147483648) ≤ ta ∧ ta ≤ 2147483647) (b_ow : (-2147483648) ≤ ow ∧ ow ≤ 2147483647) (b_of_ : (-2147483648) ≤ of_ ∧ of_ ≤ 2147483647) (b_ot : (-2147483648) ≤ ot ∧ ot ≤ 2147483647) (b_rl : 0 ≤ rl ∧ rl ≤ 2880) (b_hb : 0 ≤ hb ∧ hb ≤ 4) (b_bs : (-2147483648) ≤ bs ∧ bs ≤ 2147483647) (b_se : 0 ≤ se ∧ se ≤ 10) (hG : ∀ k, gG k rm.toNat = some (xA k)) (hwn : 1 ≤ Mw rm.toNat ∧ Mw rm.toNat ≤ 8) (hd : Mw rm.toNat - w ≤ 3) (hw : w ≤ Mw rm.toNat) (h_Mw : ∀ j, j < 7 → 0 ≤ Mw j ∧ Mw j ≤ 8) (h_Mo : ∀ j, j < 7 → 0 ≤ Mo j ∧ Mo j ≤ 8) (h_Ml : ∀ j, j < 8 → 0 ≤ Ml j ∧ Ml j ≤ 600) (h_Mow : ∀ j, j < 8 → 0 ≤ Mow j ∧ Mow j ≤ 7) (h_Mof : ∀ j, j < 8 → 0 ≤ Mof j ∧ Mof j ≤ 600) (h_Mot : ∀ j, j < 8 → 0 ≤ Mot j ∧ Mot j ≤ 600) (h_Md : ∀ j, j < 8 → 0 ≤ Md j ∧ Md j ≤ 1) (h_Bp : ∀ j, j < 4 → (-2147483648) ≤ Bp j ∧ Bp j ≤ 2147483647) (h_Br : ∀ j, j < 4 → (-2147483648) ≤ Br j ∧ Br j ≤ 2147483647) (h_Wo : ∀ j, j < 8 → (-2147483648) ≤ Wo j ∧ Wo j ≤ 2147483647) (h_Wf : ∀ j, j < 8 → (-2147483648) ≤ Wf j ∧ Wf j ≤ 2147483647) (h_Wb : ∀ j, j < 8 → (-2147483648) ≤ Wb j ∧ Wb j ≤ 2147483647) (h_Wg : ∀ j, j < 4 → (-2147483648) ≤ Wg j ∧ Wg j ≤ 2147483647) : Con l Z yX12_shares cX12_shares 5 none 4 96 0 0 [.ref g0, .int (iI rm), .int (iI w)] [(g0, .inr (12, mO gA nr tm at_ to_ fa va np tn pc_ st_ pa_ ta ow of_ ot rl hb bs se)), cA Z (gA 13) 0 7 Mw, cA Z (gA 14) 0 7 Mo, cR Z (gA 0) 6 7 (gG 0), cR Z (gA 4) 6 7 (gG 4), cR Z (gA 5) 6 7 (gG 5), cR Z (gA 6) 6 7 (gG 6), cR Z (gA 9) 6 7 (gG 9), cA Z (xA 0) 0 8 Ml, cA Z (xA 4) 0 8 Mow, cA Z (xA 5) 0 8 Mof, cA Z (xA 6) 0 8 Mot, cA Z (xA 9) 0 8 Md, cA Z (gA 58) 0 4 Bp, cA Z (gA 59) 0 4 Br, cA Z (gA 60) 0 8 Wo, cA Z (gA 61) 0 8 Wf, cA Z (gA 62) 0 8 Wb, cA Z (gA 63) 0 4 Wg] (fun r w' => ∃ (Wf2 : Nat → Int) (Wb2 : Nat → Int) (Wg2 : Nat → Int) (bs2 : Int), (r = none) ∧ (w' = [(g0, .inr (12, mO gA nr tm at_ to_ fa va np tn pc_ st_ pa_ ta ow of_ ot rl hb bs2 se)), cA Z (gA 13) 0 7 Mw, cA Z (gA 14) 0 7 Mo, cR Z (gA 0) 6 7 (gG 0), cR Z (gA 4) 6 7 (gG 4), cR Z (gA 5) 6 7 (gG 5), cR Z (gA 6) 6 7 (gG 6), cR Z (gA 9) 6 7 (gG 9), cA Z (xA 0) 0 8 Ml, cA Z (xA 4) 0 8 Mow, cA Z (xA 5) 0 8 Mof, cA Z (xA 6) 0 8 Mot, cA Z (xA 9) 0 8 Md, cA Z (gA 58) 0 4 Bp, cA Z (gA 59) 0 4 Br, cA Z (gA 60) 0 8 Wo, cA Z (gA 61) 0 8 Wf2, cA Z (gA 62) 0 8 Wb2, cA Z (gA 63) 0 4 Wg2]) ∧ ((-2147483648) ≤ bs2 ∧ bs2 ≤ 2147483647) ∧ (∀ j, j < 8 → (-2147483648) ≤ Wf2 j ∧ Wf2 j ≤ 2147483647) ∧ (∀ j, j < 8 → (-2147483648) ≤ Wb2 j ∧ Wb2 j ≤ 2147483647) ∧ (∀ j, j < 4 → (-2147483648) ≤ Wg2 j ∧ Wg2 j ≤ 2147483647)) := by
  refine enter (by decide) (Nat.le_of_ble_eq_true rfl) ?_
  intro p e s m args below meth c A X hnm hA
  have X : Cx p s m args meth c cX12_shares 5 none RX12 Z A := X
  refine g_as (pc' := 0) (lv' := [(0, .ref g0), (1, .int (iI rm)), (2, .int (iI w))]) (st' := []) (ws' := [(g0, .inr (12, mO gA nr tm at_ to_ fa va np tn pc_ st_ pa_ ta ow of_ ot rl hb bs se)), cA Z (gA 13) 0 7 Mw, cA Z (gA 14) 0 7 Mo, cR Z (gA 0) 6 7 (gG 0), cR Z (gA 4) 6 7 (gG 4), cR Z (gA 5) 6 7 (gG 5), cR Z (gA 6) 6 7 (gG 6), cR Z (gA 9) 6 7 (gG 9), cA Z (xA 0) 0 8 Ml, cA Z (xA 4) 0 8 Mow, cA Z (xA 5) 0 8 Mof, cA Z (xA 6) 0 8 Mot, cA Z (xA 9) 0 8 Md, cA Z (gA 58) 0 4 Bp, cA Z (gA 59) 0 4 Br, cA Z (gA 60) 0 8 Wo, cA Z (gA 61) 0 8 Wf, cA Z (gA 62) 0 8 Wb, cA Z (gA 63) 0 4 Wg]) rfl rfl rfl rfl ?_
  refine g_iload_n (pc := 0) X 2 rfl dX12_shares_0 ?_
  refine g_aload_n (pc := 1) X 0 rfl dX12_shares_1 ?_
  refine g_get (pc := 2) X inlX12 0 rfl rfl 13 (by decide) mw_8_1 rfl dX12_shares_2 ?_
  refine g_iload_n (pc := 5) X 1 rfl dX12_shares_5 ?_
  refine g_ialdI (pc := 6) X 1 rfl (b_rm.1) (Int.lt_of_le_of_lt b_rm.2 (by decide)) (Int.le_trans b_rm.2 (by decide)) dX12_shares_6 ?_
  refine g_nameI (fun y1 ey1 => ?_)
  have by1 : 0 ≤ y1 ∧ y1 ≤ 8 := by rw [ey1]; exact h_Mw _ (by (first | (clear b_nr b_tm b_at_ b_to_ b_fa b_va b_np b_tn b_pc_ b_st_ b_pa_ b_ta b_ow b_of_ b_ot b_rl b_hb b_bs b_se; omega) | omega))
  have ty1 : 1 ≤ y1 ∧ y1 ≤ 8 := by rw [ey1]; exact hwn
  refine g_icmp_neI (pc := 7) X 143 (by decide) (inRb b_w (by decide) (by decide)) (inRb by1 (by decide) (by decide)) dX12_shares_7 (fun c7 => ?_) (fun c7 => ?_)
  · refine g_iconst (pc := 143) X (iI 0) (by rfl) dX12_shares_143 ?_
    refine g_istore_n (pc := 144) X (i := 3) rfl (by decide) (lv' := [(3, .int (iI 0)), (0, .ref g0), (1, .int (iI rm)), (2, .int (iI w))]) rfl dX12_shares_144 ?_
    have loop145 : ∀ (fuel : Nat) (b3 : Int) (bs1 : Int) (Wf1 : Nat → Int) (Wb1 : Nat → Int) (Wg1 : Nat → Int), (0 ≤ b3 ∧ b3 ≤ 4) → ((-2147483648) ≤ bs1 ∧ bs1 ≤ 2147483647) → (∀ j, j < 8 → (-2147483648) ≤ Wf1 j ∧ Wf1 j ≤ 2147483647) → (∀ j, j < 8 → (-2147483648) ≤ Wb1 j ∧ Wb1 j ≤ 2147483647) → (∀ j, j < 4 → (-2147483648) ≤ Wg1 j ∧ Wg1 j ≤ 2147483647) → (5 - b3).toNat < fuel → Gs p l e ({ frames := 4, cells := 0, slots := 0, locals := 96 } : Room) s m args below meth c (MQ below (gPost Z [(g0, .inr (12, mO gA nr tm at_ to_ fa va np tn pc_ st_ pa_ ta ow of_ ot rl hb bs se)), cA Z (gA 13) 0 7 Mw, cA Z (gA 14) 0 7 Mo, cR Z (gA 0) 6 7 (gG 0), cR Z (gA 4) 6 7 (gG 4), cR Z (gA 5) 6 7 (gG 5), cR Z (gA 6) 6 7 (gG 6), cR Z (gA 9) 6 7 (gG 9), cA Z (xA 0) 0 8 Ml, cA Z (xA 4) 0 8 Mow, cA Z (xA 5) 0 8 Mof, cA Z (xA 6) 0 8 Mot, cA Z (xA 9) 0 8 Md, cA Z (gA 58) 0 4 Bp, cA Z (gA 59) 0 4 Br, cA Z (gA 60) 0 8 Wo, cA Z (gA 61) 0 8 Wf, cA Z (gA 62) 0 8 Wb, cA Z (gA 63) 0 4 Wg] s.heap.size (fun r w' => ∃ (Wf2 : Nat → Int) (Wb2 : Nat → Int) (Wg2 : Nat → Int) (bs2 : Int), (r = none) ∧ (w' = [(g0, .inr (12, mO gA nr tm at_ to_ fa va np tn pc_ st_ pa_ ta ow of_ ot rl hb bs2 se)), cA Z (gA 13) 0 7 Mw, cA Z (gA 14) 0 7 Mo, cR Z (gA 0) 6 7 (gG 0), cR Z (gA 4) 6 7 (gG 4), cR Z (gA 5) 6 7 (gG 5), cR Z (gA 6) 6 7 (gG 6), cR Z (gA 9) 6 7 (gG 9), cA Z (xA 0) 0 8 Ml, cA Z (xA 4) 0 8 Mow, cA Z (xA 5) 0 8 Mof, cA Z (xA 6) 0 8 Mot, cA Z (xA 9) 0 8 Md, cA Z (gA 58) 0 4 Bp, cA Z (gA 59) 0 4 Br, cA Z (gA 60) 0 8 Wo, cA Z (gA 61) 0 8 Wf2, cA Z (gA 62) 0 8 Wb2, cA Z (gA 63) 0 4 Wg2]) ∧ ((-2147483648) ≤ bs2 ∧ bs2 ≤ 2147483647) ∧ (∀ j, j < 8 → (-2147483648) ≤ Wf2 j ∧ Wf2 j ≤ 2147483647) ∧ (∀ j, j < 8 → (-2147483648) ≤ Wb2 j ∧ Wb2 j ≤ 2147483647) ∧ (∀ j, j < 4 → (-2147483648) ≤ Wg2 j ∧ Wg2 j ≤ 2147483647))) args s 0 0 (va_A [(g0, .inr (12, mO gA nr tm at_ to_ fa va np tn pc_ st_ pa_ ta ow of_ ot rl hb bs se)), cA Z (gA 13) 0 7 Mw, cA Z (gA 14) 0 7 Mo, cR Z (gA 0) 6 7 (gG 0), cR Z (gA 4) 6 7 (gG 4), cR Z (gA 5) 6 7 (gG 5), cR Z (gA 6) 6 7 (gG 6), cR Z (gA 9) 6 7 (gG 9), cA Z (xA 0) 0 8 Ml, cA Z (xA 4) 0 8 Mow, cA Z (xA 5) 0 8 Mof, cA Z (xA 6) 0 8 Mot, cA Z (xA 9) 0 8 Md, cA Z (gA 58) 0 4 Bp, cA Z (gA 59) 0 4 Br, cA Z (gA 60) 0 8 Wo, cA Z (gA 61) 0 8 Wf, cA Z (gA 62) 0 8 Wb, cA Z (gA 63) 0 4 Wg] s.heap.size)) Z A 5 0 0 145 [(3, .int (iI b3)), (0, .ref g0), (1, .int (iI rm)), (2, .int (iI w))] [] [(g0, .inr (12, mO gA nr tm at_ to_ fa va np tn pc_ st_ pa_ ta ow of_ ot rl hb bs1 se)), cA Z (gA 13) 0 7 Mw, cA Z (gA 14) 0 7 Mo, cR Z (gA 0) 6 7 (gG 0), cR Z (gA 4) 6 7 (gG 4), cR Z (gA 5) 6 7 (gG 5), cR Z (gA 6) 6 7 (gG 6), cR Z (gA 9) 6 7 (gG 9), cA Z (xA 0) 0 8 Ml, cA Z (xA 4) 0 8 Mow, cA Z (xA 5) 0 8 Mof, cA Z (xA 6) 0 8 Mot, cA Z (xA 9) 0 8 Md, cA Z (gA 58) 0 4 Bp, cA Z (gA 59) 0 4 Br, cA Z (gA 60) 0 8 Wo, cA Z (gA 61) 0 8 Wf1, cA Z (gA 62) 0 8 Wb1, cA Z (gA 63) 0 4 Wg1] := by
      intro fuel
      induction fuel with
      | zero => intro b3 bs1 Wf1 Wb1 Wg1 _ _ _ _ _ hm; exact absurd hm (Nat.not_lt_zero _)
      | succ fuel ih =>
        intro b3 bs1 Wf1 Wb1 Wg1 b_b3 b_bs1 h_Wf1 h_Wb1 h_Wg1 hm
        refine g_iload_n (pc := 145) X 0 rfl dX12_shares_145 ?_
        refine g_aload_n (pc := 146) X 1 rfl dX12_shares_146 ?_
        refine g_get (pc := 147) X inlX12 0 rfl rfl 64 (by decide) mw_47_13 rfl dX12_shares_147 ?_
        refine g_icmp_geI (pc := 150) X 242 (by decide) (inRb b_b3 (by decide) (by decide)) (inRb b_hb (by decide) (by decide)) dX12_shares_150 (fun c150 => ?_) (fun c150 => ?_)
        · exact g_vret (pc := 242) X hA (⟨Wf1, Wb1, Wg1, bs1, rfl, rfl, (b_bs1), (h_Wf1), (h_Wb1), (h_Wg1)⟩) (by decide) (by decide) dX12_shares_242
        · refine g_aload_n (pc := 153) X 1 rfl dX12_shares_153 ?_
          refine g_get (pc := 154) X inlX12 0 rfl rfl 58 (by decide) mw_9_9 rfl dX12_shares_154 ?_
          refine g_iload_n (pc := 157) X 0 rfl dX12_shares_157 ?_
          refine g_ialdI (pc := 158) X 13 rfl (b_b3.1) (by (first | (clear b_nr b_tm b_at_ b_to_ b_fa b_va b_np b_tn b_pc_ b_st_ b_pa_ b_ta b_ow b_of_ b_ot b_rl b_hb b_bs b_se; omega) | omega)) (Int.le_trans b_b3.2 (by decide)) dX12_shares_158 ?_
          refine g_nameI (fun y2 ey2 => ?_)
          have by2 : (-2147483648) ≤ y2 ∧ y2 ≤ 2147483647 := by rw [ey2]; exact h_Bp _ (by (first | (clear b_nr b_tm b_at_ b_to_ b_fa b_va b_np b_tn b_pc_ b_st_ b_pa_ b_ta b_ow b_of_ b_ot b_rl b_hb b_bs b_se; omega) | omega))
          refine g_aload_n (pc := 159) X 1 rfl dX12_shares_159 ?_
          refine g_get (pc := 160) X inlX12 0 rfl rfl 49 (by decide) mw_28_2 rfl dX12_shares_160 ?_
          refine g_icmp_neI (pc := 163) X 236 (by decide) by2 (inRb b_pa_ (by decide) (by decide)) dX12_shares_163 (fun c163 => ?_) (fun c163 => ?_)
          · refine g_iincI (pc := 236) X 0 rfl (by decide) (lv' := [(3, .int (iI (b3 + 1))), (0, .ref g0), (1, .int (iI rm)), (2, .int (iI w))]) rfl dX12_shares_236 ?_
            refine g_goto (pc := 239) X 145 (by decide) dX12_shares_239 ?_
            exact ih (b3 + 1) bs1 Wf1 Wb1 Wg1 (by (first | (clear b_nr b_tm b_at_ b_to_ b_fa b_va b_np b_tn b_pc_ b_st_ b_pa_ b_ta b_ow b_of_ b_ot b_rl b_hb b_bs b_se; omega) | omega)) (b_bs1) (h_Wf1) (h_Wb1) (h_Wg1) (by (first | (clear b_nr b_tm b_at_ b_to_ b_fa b_va b_np b_tn b_pc_ b_st_ b_pa_ b_ta b_ow b_of_ b_ot b_rl b_hb b_bs b_se; omega) | omega))
          · refine g_aload_n (pc := 166) X 1 rfl dX12_shares_166 ?_
            refine g_get (pc := 167) X inlX12 0 rfl rfl 63 (by decide) mw_9_14 rfl dX12_shares_167 ?_
            refine g_iload_n (pc := 170) X 0 rfl dX12_shares_170 ?_
            refine g_ialdI (pc := 171) X 18 rfl (b_b3.1) (by (first | (clear b_nr b_tm b_at_ b_to_ b_fa b_va b_np b_tn b_pc_ b_st_ b_pa_ b_ta b_ow b_of_ b_ot b_rl b_hb b_bs b_se; omega) | omega)) (Int.le_trans b_b3.2 (by decide)) dX12_shares_171 ?_
            refine g_nameI (fun y3 ey3 => ?_)
            have by3 : (-2147483648) ≤ y3 ∧ y3 ≤ 2147483647 := by rw [ey3]; exact h_Wg1 _ (by (first | (clear b_nr b_tm b_at_ b_to_ b_fa b_va b_np b_tn b_pc_ b_st_ b_pa_ b_ta b_ow b_of_ b_ot b_rl b_hb b_bs b_se; omega) | omega))
            refine g_aload_n (pc := 172) X 1 rfl dX12_shares_172 ?_
            refine g_get (pc := 173) X inlX12 0 rfl rfl 60 (by decide) mw_9_11 rfl dX12_shares_173 ?_
            refine g_iload_n (pc := 176) X 3 rfl dX12_shares_176 ?_
            refine g_ialdI (pc := 177) X 15 rfl (b_w.1) (by (first | (clear b_nr b_tm b_at_ b_to_ b_fa b_va b_np b_tn b_pc_ b_st_ b_pa_ b_ta b_ow b_of_ b_ot b_rl b_hb b_bs b_se; omega) | omega)) (Int.le_trans b_w.2 (by decide)) dX12_shares_177 ?_
            refine g_nameI (fun y4 ey4 => ?_)
            have by4 : (-2147483648) ≤ y4 ∧ y4 ≤ 2147483647 := by rw [ey4]; exact h_Wo _ (by (first | (clear b_nr b_tm b_at_ b_to_ b_fa b_va b_np b_tn b_pc_ b_st_ b_pa_ b_ta b_ow b_of_ b_ot b_rl b_hb b_bs b_se; omega) | omega))
            refine g_iaddI (pc := 178) X dX12_shares_178 ?_
            refine g_any (fun y5 by5 => ?_)
            refine g_aload_n (pc := 179) X 1 rfl dX12_shares_179 ?_
            refine g_get (pc := 180) X inlX12 0 rfl rfl 59 (by decide) mw_9_10 rfl dX12_shares_180 ?_
            refine g_iload_n (pc := 183) X 0 rfl dX12_shares_183 ?_
            refine g_ialdI (pc := 184) X 14 rfl (b_b3.1) (by (first | (clear b_nr b_tm b_at_ b_to_ b_fa b_va b_np b_tn b_pc_ b_st_ b_pa_ b_ta b_ow b_of_ b_ot b_rl b_hb b_bs b_se; omega) | omega)) (Int.le_trans b_b3.2 (by decide)) dX12_shares_184 ?_
            refine g_nameI (fun y6 ey6 => ?_)
            have by6 : (-2147483648) ≤ y6 ∧ y6 ≤ 2147483647 := by rw [ey6]; exact h_Br _ (by (first | (clear b_nr b_tm b_at_ b_to_ b_fa b_va b_np b_tn b_pc_ b_st_ b_pa_ b_ta b_ow b_of_ b_ot b_rl b_hb b_bs b_se; omega) | omega))
            refine g_icmp_leI (pc := 185) X 191 (by decide) by5 by6 dX12_shares_185 (fun c185 => ?_) (fun c185 => ?_)
            · refine g_aload_n (pc := 191) X 1 rfl dX12_shares_191 ?_
              refine g_get (pc := 192) X inlX12 0 rfl rfl 63 (by decide) mw_9_14 rfl dX12_shares_192 ?_
              refine g_iload_n (pc := 195) X 0 rfl dX12_shares_195 ?_
              refine g_dup2 (pc := 196) X rfl rfl dX12_shares_196 ?_
              refine g_ialdI (pc := 197) X 18 rfl (b_b3.1) (by (first | (clear b_nr b_tm b_at_ b_to_ b_fa b_va b_np b_tn b_pc_ b_st_ b_pa_ b_ta b_ow b_of_ b_ot b_rl b_hb b_bs b_se; omega) | omega)) (Int.le_trans b_b3.2 (by decide)) dX12_shares_197 ?_
              refine g_nameI (fun y7 ey7 => ?_)
              have by7 : (-2147483648) ≤ y7 ∧ y7 ≤ 2147483647 := by rw [ey7]; exact h_Wg1 _ (by (first | (clear b_nr b_tm b_at_ b_to_ b_fa b_va b_np b_tn b_pc_ b_st_ b_pa_ b_ta b_ow b_of_ b_ot b_rl b_hb b_bs b_se; omega) | omega))
              refine g_aload_n (pc := 198) X 1 rfl dX12_shares_198 ?_
              refine g_get (pc := 199) X inlX12 0 rfl rfl 60 (by decide) mw_9_11 rfl dX12_shares_199 ?_
              refine g_iload_n (pc := 202) X 3 rfl dX12_shares_202 ?_
              refine g_ialdI (pc := 203) X 15 rfl (b_w.1) (by (first | (clear b_nr b_tm b_at_ b_to_ b_fa b_va b_np b_tn b_pc_ b_st_ b_pa_ b_ta b_ow b_of_ b_ot b_rl b_hb b_bs b_se; omega) | omega)) (Int.le_trans b_w.2 (by decide)) dX12_shares_203 ?_
              refine g_nameI (fun y8 ey8 => ?_)
              have by8 : (-2147483648) ≤ y8 ∧ y8 ≤ 2147483647 := by rw [ey8]; exact h_Wo _ (by (first | (clear b_nr b_tm b_at_ b_to_ b_fa b_va b_np b_tn b_pc_ b_st_ b_pa_ b_ta b_ow b_of_ b_ot b_rl b_hb b_bs b_se; omega) | omega))
              refine g_iaddI (pc := 204) X dX12_shares_204 ?_
              refine g_any (fun y9 by9 => ?_)
              refine g_iastG (pc := 205) X 18 rfl (b_b3.1) (by (first | (clear b_nr b_tm b_at_ b_to_ b_fa b_va b_np b_tn b_pc_ b_st_ b_pa_ b_ta b_ow b_of_ b_ot b_rl b_hb b_bs b_se; omega) | omega)) (Int.le_trans b_b3.2 (by decide)) (ws' := fun F10 => [(g0, .inr (12, mO gA nr tm at_ to_ fa va np tn pc_ st_ pa_ ta ow of_ ot rl hb bs1 se)), cA Z (gA 13) 0 7 Mw, cA Z (gA 14) 0 7 Mo, cR Z (gA 0) 6 7 (gG 0), cR Z (gA 4) 6 7 (gG 4), cR Z (gA 5) 6 7 (gG 5), cR Z (gA 6) 6 7 (gG 6), cR Z (gA 9) 6 7 (gG 9), cA Z (xA 0) 0 8 Ml, cA Z (xA 4) 0 8 Mow, cA Z (xA 5) 0 8 Mof, cA Z (xA 6) 0 8 Mot, cA Z (xA 9) 0 8 Md, cA Z (gA 58) 0 4 Bp, cA Z (gA 59) 0 4 Br, cA Z (gA 60) 0 8 Wo, cA Z (gA 61) 0 8 Wf1, cA Z (gA 62) 0 8 Wb1, cA Z (gA 63) 0 4 F10]) (fun _ => rfl) dX12_shares_205 (fun F10 eF10 => ?_)
              have hF10 : ∀ j, j < 4 → (-2147483648) ≤ F10 j ∧ F10 j ≤ 2147483647 := by rw [eF10]; exact updI_B h_Wg1 (by (first | (clear b_nr b_tm b_at_ b_to_ b_fa b_va b_np b_tn b_pc_ b_st_ b_pa_ b_ta b_ow b_of_ b_ot b_rl b_hb b_bs b_se; omega) | omega))
              refine g_aload_n (pc := 206) X 1 rfl dX12_shares_206 ?_
              refine g_get (pc := 207) X inlX12 0 rfl rfl 61 (by decide) mw_9_12 rfl dX12_shares_207 ?_
              refine g_iload_n (pc := 210) X 3 rfl dX12_shares_210 ?_
              refine g_iload_n (pc := 211) X 0 rfl dX12_shares_211 ?_
              refine g_iastG (pc := 212) X 16 rfl (b_w.1) (by (first | (clear b_nr b_tm b_at_ b_to_ b_fa b_va b_np b_tn b_pc_ b_st_ b_pa_ b_ta b_ow b_of_ b_ot b_rl b_hb b_bs b_se; omega) | omega)) (Int.le_trans b_w.2 (by decide)) (ws' := fun F11 => [(g0, .inr (12, mO gA nr tm at_ to_ fa va np tn pc_ st_ pa_ ta ow of_ ot rl hb bs1 se)), cA Z (gA 13) 0 7 Mw, cA Z (gA 14) 0 7 Mo, cR Z (gA 0) 6 7 (gG 0), cR Z (gA 4) 6 7 (gG 4), cR Z (gA 5) 6 7 (gG 5), cR Z (gA 6) 6 7 (gG 6), cR Z (gA 9) 6 7 (gG 9), cA Z (xA 0) 0 8 Ml, cA Z (xA 4) 0 8 Mow, cA Z (xA 5) 0 8 Mof, cA Z (xA 6) 0 8 Mot, cA Z (xA 9) 0 8 Md, cA Z (gA 58) 0 4 Bp, cA Z (gA 59) 0 4 Br, cA Z (gA 60) 0 8 Wo, cA Z (gA 61) 0 8 F11, cA Z (gA 62) 0 8 Wb1, cA Z (gA 63) 0 4 F10]) (fun _ => rfl) dX12_shares_212 (fun F11 eF11 => ?_)
              have hF11 : ∀ j, j < 8 → (-2147483648) ≤ F11 j ∧ F11 j ≤ 2147483647 := by rw [eF11]; exact updI_B h_Wf1 (by (first | (clear b_nr b_tm b_at_ b_to_ b_fa b_va b_np b_tn b_pc_ b_st_ b_pa_ b_ta b_ow b_of_ b_ot b_rl b_hb b_bs b_se; omega) | omega))
              refine g_aload_n (pc := 213) X 1 rfl dX12_shares_213 ?_
              refine g_iload_n (pc := 214) X 2 rfl dX12_shares_214 ?_
              refine g_iload_n (pc := 215) X 3 rfl dX12_shares_215 ?_
              refine g_iconst (pc := 216) X (iI 1) (by rfl) dX12_shares_216 ?_
              refine g_iaddI (pc := 217) X dX12_shares_217 ?_
              refine g_callV (pc := 218) X (k_X12_shares2 l Z g0 gA gG xA Mw Mo Ml Mow Mof Mot Md Bp Br Wo F11 Wb1 F10 rm (w + 1) nr tm at_ to_ fa va np tn pc_ st_ pa_ ta ow of_ ot rl hb bs1 se b_rm (by (first | (clear b_nr b_tm b_at_ b_to_ b_fa b_va b_np b_tn b_pc_ b_st_ b_pa_ b_ta b_ow b_of_ b_ot b_rl b_hb b_bs b_se; omega) | omega)) b_nr b_tm b_at_ b_to_ b_fa b_va b_np b_tn b_pc_ b_st_ b_pa_ b_ta b_ow b_of_ b_ot b_rl b_hb b_bs1 b_se (hG) (by (first | (clear b_nr b_tm b_at_ b_to_ b_fa b_va b_np b_tn b_pc_ b_st_ b_pa_ b_ta b_ow b_of_ b_ot b_rl b_hb b_bs b_se; omega) | omega)) (by (first | (clear b_nr b_tm b_at_ b_to_ b_fa b_va b_np b_tn b_pc_ b_st_ b_pa_ b_ta b_ow b_of_ b_ot b_rl b_hb b_bs b_se; omega) | omega)) (by (first | (clear b_nr b_tm b_at_ b_to_ b_fa b_va b_np b_tn b_pc_ b_st_ b_pa_ b_ta b_ow b_of_ b_ot b_rl b_hb b_bs b_se; omega) | omega)) (h_Mw) (h_Mo) (h_Ml) (h_Mow) (h_Mof) (h_Mot) (h_Md) (h_Bp) (h_Br) (h_Wo) (hF11) (h_Wb1) (hF10)) iM_X12_shares mw_50_2 mw_50_3 mw_50_4 0 rfl rfl [0, 1, 2, 3, 4, 5, 6, 7, 8, 9, 10, 11, 12, 13, 14, 15, 16, 17, 18] [] rfl (wr := []) rfl (by decide) rfl rfl (Nat.le_of_ble_eq_true rfl) (by decide) dX12_shares_218 (fun r w' hpo => ?_)
              refine exN_4 hpo fun F12 F13 F14 y15 hz => anD_6 hz fun e_r e_w hf218_b_bs2 hf218_h_Wf2 hf218_h_Wb2 hf218_h_Wg2 => ?_; clear hz hpo; subst e_r; subst e_w
              refine g_as (pc' := 221) (lv' := [(3, .int (iI b3)), (0, .ref g0), (1, .int (iI rm)), (2, .int (iI w))]) (st' := []) (ws' := [(g0, .inr (12, mO gA nr tm at_ to_ fa va np tn pc_ st_ pa_ ta ow of_ ot rl hb y15 se)), cA Z (gA 13) 0 7 Mw, cA Z (gA 14) 0 7 Mo, cR Z (gA 0) 6 7 (gG 0), cR Z (gA 4) 6 7 (gG 4), cR Z (gA 5) 6 7 (gG 5), cR Z (gA 6) 6 7 (gG 6), cR Z (gA 9) 6 7 (gG 9), cA Z (xA 0) 0 8 Ml, cA Z (xA 4) 0 8 Mow, cA Z (xA 5) 0 8 Mof, cA Z (xA 6) 0 8 Mot, cA Z (xA 9) 0 8 Md, cA Z (gA 58) 0 4 Bp, cA Z (gA 59) 0 4 Br, cA Z (gA 60) 0 8 Wo, cA Z (gA 61) 0 8 F12, cA Z (gA 62) 0 8 F13, cA Z (gA 63) 0 4 F14]) rfl rfl rfl rfl ?_
              refine g_aload_n (pc := 221) X 1 rfl dX12_shares_221 ?_
              refine g_get (pc := 222) X inlX12 0 rfl rfl 63 (by decide) mw_9_14 rfl dX12_shares_222 ?_
              refine g_iload_n (pc := 225) X 0 rfl dX12_shares_225 ?_
              refine g_dup2 (pc := 226) X rfl rfl dX12_shares_226 ?_
              refine g_ialdI (pc := 227) X 18 rfl (b_b3.1) (by (first | (clear b_nr b_tm b_at_ b_to_ b_fa b_va b_np b_tn b_pc_ b_st_ b_pa_ b_ta b_ow b_of_ b_ot b_rl b_hb b_bs b_se; omega) | omega)) (Int.le_trans b_b3.2 (by decide)) dX12_shares_227 ?_
              refine g_nameI (fun y17 ey17 => ?_)
              have by17 : (-2147483648) ≤ y17 ∧ y17 ≤ 2147483647 := by rw [ey17]; exact hf218_h_Wg2 _ (by (first | (clear b_nr b_tm b_at_ b_to_ b_fa b_va b_np b_tn b_pc_ b_st_ b_pa_ b_ta b_ow b_of_ b_ot b_rl b_hb b_bs b_se; omega) | omega))
              refine g_aload_n (pc := 228) X 1 rfl dX12_shares_228 ?_
              refine g_get (pc := 229) X inlX12 0 rfl rfl 60 (by decide) mw_9_11 rfl dX12_shares_229 ?_
              refine g_iload_n (pc := 232) X 3 rfl dX12_shares_232 ?_
              refine g_ialdI (pc := 233) X 15 rfl (b_w.1) (by (first | (clear b_nr b_tm b_at_ b_to_ b_fa b_va b_np b_tn b_pc_ b_st_ b_pa_ b_ta b_ow b_of_ b_ot b_rl b_hb b_bs b_se; omega) | omega)) (Int.le_trans b_w.2 (by decide)) dX12_shares_233 ?_
              refine g_nameI (fun y18 ey18 => ?_)
              have by18 : (-2147483648) ≤ y18 ∧ y18 ≤ 2147483647 := by rw [ey18]; exact h_Wo _ (by (first | (clear b_nr b_tm b_at_ b_to_ b_fa b_va b_np b_tn b_pc_ b_st_ b_pa_ b_ta b_ow b_of_ b_ot b_rl b_hb b_bs b_se; omega) | omega))
              refine g_isubI (pc := 234) X dX12_shares_234 ?_
              refine g_any (fun y19 by19 => ?_)
              refine g_iastG (pc := 235) X 18 rfl (b_b3.1) (by (first | (clear b_nr b_tm b_at_ b_to_ b_fa b_va b_np b_tn b_pc_ b_st_ b_pa_ b_ta b_ow b_of_ b_ot b_rl b_hb b_bs b_se; omega) | omega)) (Int.le_trans b_b3.2 (by decide)) (ws' := fun F20 => [(g0, .inr (12, mO gA nr tm at_ to_ fa va np tn pc_ st_ pa_ ta ow of_ ot rl hb y15 se)), cA Z (gA 13) 0 7 Mw, cA Z (gA 14) 0 7 Mo, cR Z (gA 0) 6 7 (gG 0), cR Z (gA 4) 6 7 (gG 4), cR Z (gA 5) 6 7 (gG 5), cR Z (gA 6) 6 7 (gG 6), cR Z (gA 9) 6 7 (gG 9), cA Z (xA 0) 0 8 Ml, cA Z (xA 4) 0 8 Mow, cA Z (xA 5) 0 8 Mof, cA Z (xA 6) 0 8 Mot, cA Z (xA 9) 0 8 Md, cA Z (gA 58) 0 4 Bp, cA Z (gA 59) 0 4 Br, cA Z (gA 60) 0 8 Wo, cA Z (gA 61) 0 8 F12, cA Z (gA 62) 0 8 F13, cA Z (gA 63) 0 4 F20]) (fun _ => rfl) dX12_shares_235 (fun F20 eF20 => ?_)
              have hF20 : ∀ j, j < 4 → (-2147483648) ≤ F20 j ∧ F20 j ≤ 2147483647 := by rw [eF20]; exact updI_B hf218_h_Wg2 (by (first | (clear b_nr b_tm b_at_ b_to_ b_fa b_va b_np b_tn b_pc_ b_st_ b_pa_ b_ta b_ow b_of_ b_ot b_rl b_hb b_bs b_se; omega) | omega))
              refine g_iincI (pc := 236) X 0 rfl (by decide) (lv' := [(3, .int (iI (b3 + 1))), (0, .ref g0), (1, .int (iI rm)), (2, .int (iI w))]) rfl dX12_shares_236 ?_
              refine g_goto (pc := 239) X 145 (by decide) dX12_shares_239 ?_
              exact ih (b3 + 1) y15 F12 F13 F20 (by (first | (clear b_nr b_tm b_at_ b_to_ b_fa b_va b_np b_tn b_pc_ b_st_ b_pa_ b_ta b_ow b_of_ b_ot b_rl b_hb b_bs b_se; omega) | omega)) (hf218_b_bs2) (hf218_h_Wf2) (hf218_h_Wb2) (hF20) (by (first | (clear b_nr b_tm b_at_ b_to_ b_fa b_va b_np b_tn b_pc_ b_st_ b_pa_ b_ta b_ow b_of_ b_ot b_rl b_hb b_bs b_se; omega) | omega))
            · refine g_goto (pc := 188) X 236 (by decide) dX12_shares_188 ?_
              refine g_iincI (pc := 236) X 0 rfl (by decide) (lv' := [(3, .int (iI (b3 + 1))), (0, .ref g0), (1, .int (iI rm)), (2, .int (iI w))]) rfl dX12_shares_236 ?_
              refine g_goto (pc := 239) X 145 (by decide) dX12_shares_239 ?_
              exact ih (b3 + 1) bs1 Wf1 Wb1 Wg1 (by (first | (clear b_nr b_tm b_at_ b_to_ b_fa b_va b_np b_tn b_pc_ b_st_ b_pa_ b_ta b_ow b_of_ b_ot b_rl b_hb b_bs b_se; omega) | omega)) (b_bs1) (h_Wf1) (h_Wb1) (h_Wg1) (by (first | (clear b_nr b_tm b_at_ b_to_ b_fa b_va b_np b_tn b_pc_ b_st_ b_pa_ b_ta b_ow b_of_ b_ot b_rl b_hb b_bs b_se; omega) | omega))
    exact loop145 _ 0 bs Wf Wb Wg (by (first | (clear b_nr b_tm b_at_ b_to_ b_fa b_va b_np b_tn b_pc_ b_st_ b_pa_ b_ta b_ow b_of_ b_ot b_rl b_hb b_bs b_se; omega) | omega)) (b_bs) (h_Wf) (h_Wb) (h_Wg) (Nat.lt_succ_self _)
  · refine g_iconst (pc := 10) X (iI 0) (by rfl) dX12_shares_10 ?_
    refine g_istore_n (pc := 11) X (i := 3) rfl (by decide) (lv' := [(3, .int (iI 0)), (0, .ref g0), (1, .int (iI rm)), (2, .int (iI w))]) rfl dX12_shares_11 ?_
    refine g_iconst (pc := 12) X (iI 0) (by rfl) dX12_shares_12 ?_
    refine g_istore (pc := 13) X (by decide) (lv' := [(4, .int (iI 0)), (3, .int (iI 0)), (0, .ref g0), (1, .int (iI rm)), (2, .int (iI w))]) rfl dX12_shares_13 ?_
    have loop15 : ∀ (fuel : Nat) (n1 : Int) (k1 : Int), ((-2147483648) ≤ n1 ∧ n1 ≤ 2147483647) → (0 ≤ k1 ∧ k1 ≤ 8) → (9 - k1).toNat < fuel → Gs p l e ({ frames := 4, cells := 0, slots := 0, locals := 96 } : Room) s m args below meth c (MQ below (gPost Z [(g0, .inr (12, mO gA nr tm at_ to_ fa va np tn pc_ st_ pa_ ta ow of_ ot rl hb bs se)), cA Z (gA 13) 0 7 Mw, cA Z (gA 14) 0 7 Mo, cR Z (gA 0) 6 7 (gG 0), cR Z (gA 4) 6 7 (gG 4), cR Z (gA 5) 6 7 (gG 5), cR Z (gA 6) 6 7 (gG 6), cR Z (gA 9) 6 7 (gG 9), cA Z (xA 0) 0 8 Ml, cA Z (xA 4) 0 8 Mow, cA Z (xA 5) 0 8 Mof, cA Z (xA 6) 0 8 Mot, cA Z (xA 9) 0 8 Md, cA Z (gA 58) 0 4 Bp, cA Z (gA 59) 0 4 Br, cA Z (gA 60) 0 8 Wo, cA Z (gA 61) 0 8 Wf, cA Z (gA 62) 0 8 Wb, cA Z (gA 63) 0 4 Wg] s.heap.size (fun r w' => ∃ (Wf2 : Nat → Int) (Wb2 : Nat → Int) (Wg2 : Nat → Int) (bs2 : Int), (r = none) ∧ (w' = [(g0, .inr (12, mO gA nr tm at_ to_ fa va np tn pc_ st_ pa_ ta ow of_ ot rl hb bs2 se)), cA Z (gA 13) 0 7 Mw, cA Z (gA 14) 0 7 Mo, cR Z (gA 0) 6 7 (gG 0), cR Z (gA 4) 6 7 (gG 4), cR Z (gA 5) 6 7 (gG 5), cR Z (gA 6) 6 7 (gG 6), cR Z (gA 9) 6 7 (gG 9), cA Z (xA 0) 0 8 Ml, cA Z (xA 4) 0 8 Mow, cA Z (xA 5) 0 8 Mof, cA Z (xA 6) 0 8 Mot, cA Z (xA 9) 0 8 Md, cA Z (gA 58) 0 4 Bp, cA Z (gA 59) 0 4 Br, cA Z (gA 60) 0 8 Wo, cA Z (gA 61) 0 8 Wf2, cA Z (gA 62) 0 8 Wb2, cA Z (gA 63) 0 4 Wg2]) ∧ ((-2147483648) ≤ bs2 ∧ bs2 ≤ 2147483647) ∧ (∀ j, j < 8 → (-2147483648) ≤ Wf2 j ∧ Wf2 j ≤ 2147483647) ∧ (∀ j, j < 8 → (-2147483648) ≤ Wb2 j ∧ Wb2 j ≤ 2147483647) ∧ (∀ j, j < 4 → (-2147483648) ≤ Wg2 j ∧ Wg2 j ≤ 2147483647))) args s 0 0 (va_A [(g0, .inr (12, mO gA nr tm at_ to_ fa va np tn pc_ st_ pa_ ta ow of_ ot rl hb bs se)), cA Z (gA 13) 0 7 Mw, cA Z (gA 14) 0 7 Mo, cR Z (gA 0) 6 7 (gG 0), cR Z (gA 4) 6 7 (gG 4), cR Z (gA 5) 6 7 (gG 5), cR Z (gA 6) 6 7 (gG 6), cR Z (gA 9) 6 7 (gG 9), cA Z (xA 0) 0 8 Ml, cA Z (xA 4) 0 8 Mow, cA Z (xA 5) 0 8 Mof, cA Z (xA 6) 0 8 Mot, cA Z (xA 9) 0 8 Md, cA Z (gA 58) 0 4 Bp, cA Z (gA 59) 0 4 Br, cA Z (gA 60) 0 8 Wo, cA Z (gA 61) 0 8 Wf, cA Z (gA 62) 0 8 Wb, cA Z (gA 63) 0 4 Wg] s.heap.size)) Z A 5 0 0 15 [(4, .int (iI k1)), (3, .int (iI n1)), (0, .ref g0), (1, .int (iI rm)), (2, .int (iI w))] [] [(g0, .inr (12, mO gA nr tm at_ to_ fa va np tn pc_ st_ pa_ ta ow of_ ot rl hb bs se)), cA Z (gA 13) 0 7 Mw, cA Z (gA 14) 0 7 Mo, cR Z (gA 0) 6 7 (gG 0), cR Z (gA 4) 6 7 (gG 4), cR Z (gA 5) 6 7 (gG 5), cR Z (gA 6) 6 7 (gG 6), cR Z (gA 9) 6 7 (gG 9), cA Z (xA 0) 0 8 Ml, cA Z (xA 4) 0 8 Mow, cA Z (xA 5) 0 8 Mof, cA Z (xA 6) 0 8 Mot, cA Z (xA 9) 0 8 Md, cA Z (gA 58) 0 4 Bp, cA Z (gA 59) 0 4 Br, cA Z (gA 60) 0 8 Wo, cA Z (gA 61) 0 8 Wf, cA Z (gA 62) 0 8 Wb, cA Z (gA 63) 0 4 Wg] := by
      intro fuel
      induction fuel with
      | zero => intro n1 k1 _ _ hm; exact absurd hm (Nat.not_lt_zero _)
      | succ fuel ih =>
        intro n1 k1 b_n1 b_k1 hm
        refine g_iload (pc := 15) X 0 rfl dX12_shares_15 ?_
        refine g_aload_n (pc := 17) X 2 rfl dX12_shares_17 ?_
        refine g_get (pc := 18) X inlX12 0 rfl rfl 13 (by decide) mw_8_1 rfl dX12_shares_18 ?_
        refine g_iload_n (pc := 21) X 3 rfl dX12_shares_21 ?_
        refine g_ialdI (pc := 22) X 1 rfl (b_rm.1) (Int.lt_of_le_of_lt b_rm.2 (by decide)) (Int.le_trans b_rm.2 (by decide)) dX12_shares_22 ?_
        refine g_nameI (fun y21 ey21 => ?_)
        have by21 : 0 ≤ y21 ∧ y21 ≤ 8 := by rw [ey21]; exact h_Mw _ (by (first | (clear b_nr b_tm b_at_ b_to_ b_fa b_va b_np b_tn b_pc_ b_st_ b_pa_ b_ta b_ow b_of_ b_ot b_rl b_hb b_bs b_se; omega) | omega))
        have ty21 : 1 ≤ y21 ∧ y21 ≤ 8 := by rw [ey21]; exact hwn
        refine g_icmp_geI (pc := 23) X 86 (by decide) (inRb b_k1 (by decide) (by decide)) (inRb by21 (by decide) (by decide)) dX12_shares_23 (fun c23 => ?_) (fun c23 => ?_)
        · refine g_aload_n (pc := 86) X 2 rfl dX12_shares_86 ?_
          refine g_get (pc := 87) X inlX12 0 rfl rfl 65 (by decide) mw_49_21 rfl dX12_shares_87 ?_
          refine g_iconst (pc := 90) X (iI (-1)) (by rfl) dX12_shares_90 ?_
          refine g_icmp_eqI (pc := 91) X 103 (by decide) b_bs ⟨by decide, by decide⟩ dX12_shares_91 (fun c91 => ?_) (fun c91 => ?_)
          · refine g_aload_n (pc := 103) X 2 rfl dX12_shares_103 ?_
            refine g_iload_n (pc := 104) X 1 rfl dX12_shares_104 ?_
            refine g_put (pc := 105) X inlX12 tyX12_ok nmX12 0 rfl rfl 65 (by decide) mw_49_21 rfl rfl rfl (Nat.le_of_ble_eq_true rfl) (ws' := [(g0, .inr (12, mO gA nr tm at_ to_ fa va np tn pc_ st_ pa_ ta ow of_ ot rl hb n1 se)), cA Z (gA 13) 0 7 Mw, cA Z (gA 14) 0 7 Mo, cR Z (gA 0) 6 7 (gG 0), cR Z (gA 4) 6 7 (gG 4), cR Z (gA 5) 6 7 (gG 5), cR Z (gA 6) 6 7 (gG 6), cR Z (gA 9) 6 7 (gG 9), cA Z (xA 0) 0 8 Ml, cA Z (xA 4) 0 8 Mow, cA Z (xA 5) 0 8 Mof, cA Z (xA 6) 0 8 Mot, cA Z (xA 9) 0 8 Md, cA Z (gA 58) 0 4 Bp, cA Z (gA 59) 0 4 Br, cA Z (gA 60) 0 8 Wo, cA Z (gA 61) 0 8 Wf, cA Z (gA 62) 0 8 Wb, cA Z (gA 63) 0 4 Wg]) rfl dX12_shares_105 ?_
            refine g_iconst (pc := 108) X (iI 0) (by rfl) dX12_shares_108 ?_
            refine g_istore (pc := 109) X (by decide) (lv' := [(4, .int (iI 0)), (3, .int (iI n1)), (0, .ref g0), (1, .int (iI rm)), (2, .int (iI w))]) rfl dX12_shares_109 ?_
            have loop111 : ∀ (fuel : Nat) (k2 : Int) (Wb1 : Nat → Int), (0 ≤ k2 ∧ k2 ≤ 8) → (∀ j, j < 8 → (-2147483648) ≤ Wb1 j ∧ Wb1 j ≤ 2147483647) → (9 - k2).toNat < fuel → Gs p l e ({ frames := 4, cells := 0, slots := 0, locals := 96 } : Room) s m args below meth c (MQ below (gPost Z [(g0, .inr (12, mO gA nr tm at_ to_ fa va np tn pc_ st_ pa_ ta ow of_ ot rl hb bs se)), cA Z (gA 13) 0 7 Mw, cA Z (gA 14) 0 7 Mo, cR Z (gA 0) 6 7 (gG 0), cR Z (gA 4) 6 7 (gG 4), cR Z (gA 5) 6 7 (gG 5), cR Z (gA 6) 6 7 (gG 6), cR Z (gA 9) 6 7 (gG 9), cA Z (xA 0) 0 8 Ml, cA Z (xA 4) 0 8 Mow, cA Z (xA 5) 0 8 Mof, cA Z (xA 6) 0 8 Mot, cA Z (xA 9) 0 8 Md, cA Z (gA 58) 0 4 Bp, cA Z (gA 59) 0 4 Br, cA Z (gA 60) 0 8 Wo, cA Z (gA 61) 0 8 Wf, cA Z (gA 62) 0 8 Wb, cA Z (gA 63) 0 4 Wg] s.heap.size (fun r w' => ∃ (Wf2 : Nat → Int) (Wb2 : Nat → Int) (Wg2 : Nat → Int) (bs2 : Int), (r = none) ∧ (w' = [(g0, .inr (12, mO gA nr tm at_ to_ fa va np tn pc_ st_ pa_ ta ow of_ ot rl hb bs2 se)), cA Z (gA 13) 0 7 Mw, cA Z (gA 14) 0 7 Mo, cR Z (gA 0) 6 7 (gG 0), cR Z (gA 4) 6 7 (gG 4), cR Z (gA 5) 6 7 (gG 5), cR Z (gA 6) 6 7 (gG 6), cR Z (gA 9) 6 7 (gG 9), cA Z (xA 0) 0 8 Ml, cA Z (xA 4) 0 8 Mow, cA Z (xA 5) 0 8 Mof, cA Z (xA 6) 0 8 Mot, cA Z (xA 9) 0 8 Md, cA Z (gA 58) 0 4 Bp, cA Z (gA 59) 0 4 Br, cA Z (gA 60) 0 8 Wo, cA Z (gA 61) 0 8 Wf2, cA Z (gA 62) 0 8 Wb2, cA Z (gA 63) 0 4 Wg2]) ∧ ((-2147483648) ≤ bs2 ∧ bs2 ≤ 2147483647) ∧ (∀ j, j < 8 → (-2147483648) ≤ Wf2 j ∧ Wf2 j ≤ 2147483647) ∧ (∀ j, j < 8 → (-2147483648) ≤ Wb2 j ∧ Wb2 j ≤ 2147483647) ∧ (∀ j, j < 4 → (-2147483648) ≤ Wg2 j ∧ Wg2 j ≤ 2147483647))) args s 0 0 (va_A [(g0, .inr (12, mO gA nr tm at_ to_ fa va np tn pc_ st_ pa_ ta ow of_ ot rl hb bs se)), cA Z (gA 13) 0 7 Mw, cA Z (gA 14) 0 7 Mo, cR Z (gA 0) 6 7 (gG 0), cR Z (gA 4) 6 7 (gG 4), cR Z (gA 5) 6 7 (gG 5), cR Z (gA 6) 6 7 (gG 6), cR Z (gA 9) 6 7 (gG 9), cA Z (xA 0) 0 8 Ml, cA Z (xA 4) 0 8 Mow, cA Z (xA 5) 0 8 Mof, cA Z (xA 6) 0 8 Mot, cA Z (xA 9) 0 8 Md, cA Z (gA 58) 0 4 Bp, cA Z (gA 59) 0 4 Br, cA Z (gA 60) 0 8 Wo, cA Z (gA 61) 0 8 Wf, cA Z (gA 62) 0 8 Wb, cA Z (gA 63) 0 4 Wg] s.heap.size)) Z A 5 0 0 111 [(4, .int (iI k2)), (3, .int (iI n1)), (0, .ref g0), (1, .int (iI rm)), (2, .int (iI w))] [] [(g0, .inr (12, mO gA nr tm at_ to_ fa va np tn pc_ st_ pa_ ta ow of_ ot rl hb n1 se)), cA Z (gA 13) 0 7 Mw, cA Z (gA 14) 0 7 Mo, cR Z (gA 0) 6 7 (gG 0), cR Z (gA 4) 6 7 (gG 4), cR Z (gA 5) 6 7 (gG 5), cR Z (gA 6) 6 7 (gG 6), cR Z (gA 9) 6 7 (gG 9), cA Z (xA 0) 0 8 Ml, cA Z (xA 4) 0 8 Mow, cA Z (xA 5) 0 8 Mof, cA Z (xA 6) 0 8 Mot, cA Z (xA 9) 0 8 Md, cA Z (gA 58) 0 4 Bp, cA Z (gA 59) 0 4 Br, cA Z (gA 60) 0 8 Wo, cA Z (gA 61) 0 8 Wf, cA Z (gA 62) 0 8 Wb1, cA Z (gA 63) 0 4 Wg] := by
              intro fuel
              induction fuel with
              | zero => intro k2 Wb1 _ _ hm; exact absurd hm (Nat.not_lt_zero _)
              | succ fuel ih =>
                intro k2 Wb1 b_k2 h_Wb1 hm
                refine g_iload (pc := 111) X 0 rfl dX12_shares_111 ?_
                refine g_aload_n (pc := 113) X 2 rfl dX12_shares_113 ?_
                refine g_get (pc := 114) X inlX12 0 rfl rfl 13 (by decide) mw_8_1 rfl dX12_shares_114 ?_
                refine g_iload_n (pc := 117) X 3 rfl dX12_shares_117 ?_
                refine g_ialdI (pc := 118) X 1 rfl (b_rm.1) (Int.lt_of_le_of_lt b_rm.2 (by decide)) (Int.le_trans b_rm.2 (by decide)) dX12_shares_118 ?_
                refine g_nameI (fun y22 ey22 => ?_)
                have by22 : 0 ≤ y22 ∧ y22 ≤ 8 := by rw [ey22]; exact h_Mw _ (by (first | (clear b_nr b_tm b_at_ b_to_ b_fa b_va b_np b_tn b_pc_ b_st_ b_pa_ b_ta b_ow b_of_ b_ot b_rl b_hb b_bs b_se; omega) | omega))
                have ty22 : 1 ≤ y22 ∧ y22 ≤ 8 := by rw [ey22]; exact hwn
                refine g_icmp_geI (pc := 119) X 142 (by decide) (inRb b_k2 (by decide) (by decide)) (inRb by22 (by decide) (by decide)) dX12_shares_119 (fun c119 => ?_) (fun c119 => ?_)
                · exact g_vret (pc := 142) X hA (⟨Wf, Wb1, Wg, n1, rfl, rfl, (b_n1), (h_Wf), (h_Wb1), (h_Wg)⟩) (by decide) (by decide) dX12_shares_142
                · refine g_aload_n (pc := 122) X 2 rfl dX12_shares_122 ?_
                  refine g_get (pc := 123) X inlX12 0 rfl rfl 62 (by decide) mw_9_13 rfl dX12_shares_123 ?_
                  refine g_iload (pc := 126) X 0 rfl dX12_shares_126 ?_
                  refine g_aload_n (pc := 128) X 2 rfl dX12_shares_128 ?_
                  refine g_get (pc := 129) X inlX12 0 rfl rfl 61 (by decide) mw_9_12 rfl dX12_shares_129 ?_
                  refine g_iload (pc := 132) X 0 rfl dX12_shares_132 ?_
                  refine g_ialdI (pc := 134) X 16 rfl (b_k2.1) (by (first | (clear b_nr b_tm b_at_ b_to_ b_fa b_va b_np b_tn b_pc_ b_st_ b_pa_ b_ta b_ow b_of_ b_ot b_rl b_hb b_bs b_se; omega) | omega)) (Int.le_trans b_k2.2 (by decide)) dX12_shares_134 ?_
                  refine g_nameI (fun y23 ey23 => ?_)
                  have by23 : (-2147483648) ≤ y23 ∧ y23 ≤ 2147483647 := by rw [ey23]; exact h_Wf _ (by (first | (clear b_nr b_tm b_at_ b_to_ b_fa b_va b_np b_tn b_pc_ b_st_ b_pa_ b_ta b_ow b_of_ b_ot b_rl b_hb b_bs b_se; omega) | omega))
                  refine g_iastG (pc := 135) X 17 rfl (b_k2.1) (by (first | (clear b_nr b_tm b_at_ b_to_ b_fa b_va b_np b_tn b_pc_ b_st_ b_pa_ b_ta b_ow b_of_ b_ot b_rl b_hb b_bs b_se; omega) | omega)) (Int.le_trans b_k2.2 (by decide)) (ws' := fun F24 => [(g0, .inr (12, mO gA nr tm at_ to_ fa va np tn pc_ st_ pa_ ta ow of_ ot rl hb n1 se)), cA Z (gA 13) 0 7 Mw, cA Z (gA 14) 0 7 Mo, cR Z (gA 0) 6 7 (gG 0), cR Z (gA 4) 6 7 (gG 4), cR Z (gA 5) 6 7 (gG 5), cR Z (gA 6) 6 7 (gG 6), cR Z (gA 9) 6 7 (gG 9), cA Z (xA 0) 0 8 Ml, cA Z (xA 4) 0 8 Mow, cA Z (xA 5) 0 8 Mof, cA Z (xA 6) 0 8 Mot, cA Z (xA 9) 0 8 Md, cA Z (gA 58) 0 4 Bp, cA Z (gA 59) 0 4 Br, cA Z (gA 60) 0 8 Wo, cA Z (gA 61) 0 8 Wf, cA Z (gA 62) 0 8 F24, cA Z (gA 63) 0 4 Wg]) (fun _ => rfl) dX12_shares_135 (fun F24 eF24 => ?_)
                  have hF24 : ∀ j, j < 8 → (-2147483648) ≤ F24 j ∧ F24 j ≤ 2147483647 := by rw [eF24]; exact updI_B h_Wb1 (by (first | (clear b_nr b_tm b_at_ b_to_ b_fa b_va b_np b_tn b_pc_ b_st_ b_pa_ b_ta b_ow b_of_ b_ot b_rl b_hb b_bs b_se; omega) | omega))
                  refine g_iincI (pc := 136) X 0 rfl (by decide) (lv' := [(4, .int (iI (k2 + 1))), (3, .int (iI n1)), (0, .ref g0), (1, .int (iI rm)), (2, .int (iI w))]) rfl dX12_shares_136 ?_
                  refine g_goto (pc := 139) X 111 (by decide) dX12_shares_139 ?_
                  exact ih (k2 + 1) F24 (by (first | (clear b_nr b_tm b_at_ b_to_ b_fa b_va b_np b_tn b_pc_ b_st_ b_pa_ b_ta b_ow b_of_ b_ot b_rl b_hb b_bs b_se; omega) | omega)) (hF24) (by (first | (clear b_nr b_tm b_at_ b_to_ b_fa b_va b_np b_tn b_pc_ b_st_ b_pa_ b_ta b_ow b_of_ b_ot b_rl b_hb b_bs b_se; omega) | omega))
            exact loop111 _ 0 Wb (by (first | (clear b_nr b_tm b_at_ b_to_ b_fa b_va b_np b_tn b_pc_ b_st_ b_pa_ b_ta b_ow b_of_ b_ot b_rl b_hb b_bs b_se; omega) | omega)) (h_Wb) (Nat.lt_succ_self _)
          · refine g_iload_n (pc := 94) X 1 rfl dX12_shares_94 ?_
            refine g_aload_n (pc := 95) X 2 rfl dX12_shares_95 ?_
            refine g_get (pc := 96) X inlX12 0 rfl rfl 65 (by decide) mw_49_21 rfl dX12_shares_96 ?_
            refine g_icmp_ltI (pc := 99) X 103 (by decide) b_n1 b_bs dX12_shares_99 (fun c99 => ?_) (fun c99 => ?_)
            · refine g_aload_n (pc := 103) X 2 rfl dX12_shares_103 ?_
              refine g_iload_n (pc := 104) X 1 rfl dX12_shares_104 ?_
              refine g_put (pc := 105) X inlX12 tyX12_ok nmX12 0 rfl rfl 65 (by decide) mw_49_21 rfl rfl rfl (Nat.le_of_ble_eq_true rfl) (ws' := [(g0, .inr (12, mO gA nr tm at_ to_ fa va np tn pc_ st_ pa_ ta ow of_ ot rl hb n1 se)), cA Z (gA 13) 0 7 Mw, cA Z (gA 14) 0 7 Mo, cR Z (gA 0) 6 7 (gG 0), cR Z (gA 4) 6 7 (gG 4), cR Z (gA 5) 6 7 (gG 5), cR Z (gA 6) 6 7 (gG 6), cR Z (gA 9) 6 7 (gG 9), cA Z (xA 0) 0 8 Ml, cA Z (xA 4) 0 8 Mow, cA Z (xA 5) 0 8 Mof, cA Z (xA 6) 0 8 Mot, cA Z (xA 9) 0 8 Md, cA Z (gA 58) 0 4 Bp, cA Z (gA 59) 0 4 Br, cA Z (gA 60) 0 8 Wo, cA Z (gA 61) 0 8 Wf, cA Z (gA 62) 0 8 Wb, cA Z (gA 63) 0 4 Wg]) rfl dX12_shares_105 ?_
              refine g_iconst (pc := 108) X (iI 0) (by rfl) dX12_shares_108 ?_
              refine g_istore (pc := 109) X (by decide) (lv' := [(4, .int (iI 0)), (3, .int (iI n1)), (0, .ref g0), (1, .int (iI rm)), (2, .int (iI w))]) rfl dX12_shares_109 ?_
              have loop111 : ∀ (fuel : Nat) (k2 : Int) (Wb1 : Nat → Int), (0 ≤ k2 ∧ k2 ≤ 8) → (∀ j, j < 8 → (-2147483648) ≤ Wb1 j ∧ Wb1 j ≤ 2147483647) → (9 - k2).toNat < fuel → Gs p l e ({ frames := 4, cells := 0, slots := 0, locals := 96 } : Room) s m args below meth c (MQ below (gPost Z [(g0, .inr (12, mO gA nr tm at_ to_ fa va np tn pc_ st_ pa_ ta ow of_ ot rl hb bs se)), cA Z (gA 13) 0 7 Mw, cA Z (gA 14) 0 7 Mo, cR Z (gA 0) 6 7 (gG 0), cR Z (gA 4) 6 7 (gG 4), cR Z (gA 5) 6 7 (gG 5), cR Z (gA 6) 6 7 (gG 6), cR Z (gA 9) 6 7 (gG 9), cA Z (xA 0) 0 8 Ml, cA Z (xA 4) 0 8 Mow, cA Z (xA 5) 0 8 Mof, cA Z (xA 6) 0 8 Mot, cA Z (xA 9) 0 8 Md, cA Z (gA 58) 0 4 Bp, cA Z (gA 59) 0 4 Br, cA Z (gA 60) 0 8 Wo, cA Z (gA 61) 0 8 Wf, cA Z (gA 62) 0 8 Wb, cA Z (gA 63) 0 4 Wg] s.heap.size (fun r w' => ∃ (Wf2 : Nat → Int) (Wb2 : Nat → Int) (Wg2 : Nat → Int) (bs2 : Int), (r = none) ∧ (w' = [(g0, .inr (12, mO gA nr tm at_ to_ fa va np tn pc_ st_ pa_ ta ow of_ ot rl hb bs2 se)), cA Z (gA 13) 0 7 Mw, cA Z (gA 14) 0 7 Mo, cR Z (gA 0) 6 7 (gG 0), cR Z (gA 4) 6 7 (gG 4), cR Z (gA 5) 6 7 (gG 5), cR Z (gA 6) 6 7 (gG 6), cR Z (gA 9) 6 7 (gG 9), cA Z (xA 0) 0 8 Ml, cA Z (xA 4) 0 8 Mow, cA Z (xA 5) 0 8 Mof, cA Z (xA 6) 0 8 Mot, cA Z (xA 9) 0 8 Md, cA Z (gA 58) 0 4 Bp, cA Z (gA 59) 0 4 Br, cA Z (gA 60) 0 8 Wo, cA Z (gA 61) 0 8 Wf2, cA Z (gA 62) 0 8 Wb2, cA Z (gA 63) 0 4 Wg2]) ∧ ((-2147483648) ≤ bs2 ∧ bs2 ≤ 2147483647) ∧ (∀ j, j < 8 → (-2147483648) ≤ Wf2 j ∧ Wf2 j ≤ 2147483647) ∧ (∀ j, j < 8 → (-2147483648) ≤ Wb2 j ∧ Wb2 j ≤ 2147483647) ∧ (∀ j, j < 4 → (-2147483648) ≤ Wg2 j ∧ Wg2 j ≤ 2147483647))) args s 0 0 (va_A [(g0, .inr (12, mO gA nr tm at_ to_ fa va np tn pc_ st_ pa_ ta ow of_ ot rl hb bs se)), cA Z (gA 13) 0 7 Mw, cA Z (gA 14) 0 7 Mo, cR Z (gA 0) 6 7 (gG 0), cR Z (gA 4) 6 7 (gG 4), cR Z (gA 5) 6 7 (gG 5), cR Z (gA 6) 6 7 (gG 6), cR Z (gA 9) 6 7 (gG 9), cA Z (xA 0) 0 8 Ml, cA Z (xA 4) 0 8 Mow, cA Z (xA 5) 0 8 Mof, cA Z (xA 6) 0 8 Mot, cA Z (xA 9) 0 8 Md, cA Z (gA 58) 0 4 Bp, cA Z (gA 59) 0 4 Br, cA Z (gA 60) 0 8 Wo, cA Z (gA 61) 0 8 Wf, cA Z (gA 62) 0 8 Wb, cA Z (gA 63) 0 4 Wg] s.heap.size)) Z A 5 0 0 111 [(4, .int (iI k2)), (3, .int (iI n1)), (0, .ref g0), (1, .int (iI rm)), (2, .int (iI w))] [] [(g0, .inr (12, mO gA nr tm at_ to_ fa va np tn pc_ st_ pa_ ta ow of_ ot rl hb n1 se)), cA Z (gA 13) 0 7 Mw, cA Z (gA 14) 0 7 Mo, cR Z (gA 0) 6 7 (gG 0), cR Z (gA 4) 6 7 (gG 4), cR Z (gA 5) 6 7 (gG 5), cR Z (gA 6) 6 7 (gG 6), cR Z (gA 9) 6 7 (gG 9), cA Z (xA 0) 0 8 Ml, cA Z (xA 4) 0 8 Mow, cA Z (xA 5) 0 8 Mof, cA Z (xA 6) 0 8 Mot, cA Z (xA 9) 0 8 Md, cA Z (gA 58) 0 4 Bp, cA Z (gA 59) 0 4 Br, cA Z (gA 60) 0 8 Wo, cA Z (gA 61) 0 8 Wf, cA Z (gA 62) 0 8 Wb1, cA Z (gA 63) 0 4 Wg] := by
                intro fuel
                induction fuel with
                | zero => intro k2 Wb1 _ _ hm; exact absurd hm (Nat.not_lt_zero _)
                | succ fuel ih =>
                  intro k2 Wb1 b_k2 h_Wb1 hm
                  refine g_iload (pc := 111) X 0 rfl dX12_shares_111 ?_
                  refine g_aload_n (pc := 113) X 2 rfl dX12_shares_113 ?_
                  refine g_get (pc := 114) X inlX12 0 rfl rfl 13 (by decide) mw_8_1 rfl dX12_shares_114 ?_
                  refine g_iload_n (pc := 117) X 3 rfl dX12_shares_117 ?_
                  refine g_ialdI (pc := 118) X 1 rfl (b_rm.1) (Int.lt_of_le_of_lt b_rm.2 (by decide)) (Int.le_trans b_rm.2 (by decide)) dX12_shares_118 ?_
                  refine g_nameI (fun y25 ey25 => ?_)
                  have by25 : 0 ≤ y25 ∧ y25 ≤ 8 := by rw [ey25]; exact h_Mw _ (by (first | (clear b_nr b_tm b_at_ b_to_ b_fa b_va b_np b_tn b_pc_ b_st_ b_pa_ b_ta b_ow b_of_ b_ot b_rl b_hb b_bs b_se; omega) | omega))
                  have ty25 : 1 ≤ y25 ∧ y25 ≤ 8 := by rw [ey25]; exact hwn
                  refine g_icmp_geI (pc := 119) X 142 (by decide) (inRb b_k2 (by decide) (by decide)) (inRb by25 (by decide) (by decide)) dX12_shares_119 (fun c119 => ?_) (fun c119 => ?_)
                  · exact g_vret (pc := 142) X hA (⟨Wf, Wb1, Wg, n1, rfl, rfl, (b_n1), (h_Wf), (h_Wb1), (h_Wg)⟩) (by decide) (by decide) dX12_shares_142
                  · refine g_aload_n (pc := 122) X 2 rfl dX12_shares_122 ?_
                    refine g_get (pc := 123) X inlX12 0 rfl rfl 62 (by decide) mw_9_13 rfl dX12_shares_123 ?_
                    refine g_iload (pc := 126) X 0 rfl dX12_shares_126 ?_
                    refine g_aload_n (pc := 128) X 2 rfl dX12_shares_128 ?_
                    refine g_get (pc := 129) X inlX12 0 rfl rfl 61 (by decide) mw_9_12 rfl dX12_shares_129 ?_
                    refine g_iload (pc := 132) X 0 rfl dX12_shares_132 ?_
                    refine g_ialdI (pc := 134) X 16 rfl (b_k2.1) (by (first | (clear b_nr b_tm b_at_ b_to_ b_fa b_va b_np b_tn b_pc_ b_st_ b_pa_ b_ta b_ow b_of_ b_ot b_rl b_hb b_bs b_se; omega) | omega)) (Int.le_trans b_k2.2 (by decide)) dX12_shares_134 ?_
                    refine g_nameI (fun y26 ey26 => ?_)
                    have by26 : (-2147483648) ≤ y26 ∧ y26 ≤ 2147483647 := by rw [ey26]; exact h_Wf _ (by (first | (clear b_nr b_tm b_at_ b_to_ b_fa b_va b_np b_tn b_pc_ b_st_ b_pa_ b_ta b_ow b_of_ b_ot b_rl b_hb b_bs b_se; omega) | omega))
                    refine g_iastG (pc := 135) X 17 rfl (b_k2.1) (by (first | (clear b_nr b_tm b_at_ b_to_ b_fa b_va b_np b_tn b_pc_ b_st_ b_pa_ b_ta b_ow b_of_ b_ot b_rl b_hb b_bs b_se; omega) | omega)) (Int.le_trans b_k2.2 (by decide)) (ws' := fun F27 => [(g0, .inr (12, mO gA nr tm at_ to_ fa va np tn pc_ st_ pa_ ta ow of_ ot rl hb n1 se)), cA Z (gA 13) 0 7 Mw, cA Z (gA 14) 0 7 Mo, cR Z (gA 0) 6 7 (gG 0), cR Z (gA 4) 6 7 (gG 4), cR Z (gA 5) 6 7 (gG 5), cR Z (gA 6) 6 7 (gG 6), cR Z (gA 9) 6 7 (gG 9), cA Z (xA 0) 0 8 Ml, cA Z (xA 4) 0 8 Mow, cA Z (xA 5) 0 8 Mof, cA Z (xA 6) 0 8 Mot, cA Z (xA 9) 0 8 Md, cA Z (gA 58) 0 4 Bp, cA Z (gA 59) 0 4 Br, cA Z (gA 60) 0 8 Wo, cA Z (gA 61) 0 8 Wf, cA Z (gA 62) 0 8 F27, cA Z (gA 63) 0 4 Wg]) (fun _ => rfl) dX12_shares_135 (fun F27 eF27 => ?_)
                    have hF27 : ∀ j, j < 8 → (-2147483648) ≤ F27 j ∧ F27 j ≤ 2147483647 := by rw [eF27]; exact updI_B h_Wb1 (by (first | (clear b_nr b_tm b_at_ b_to_ b_fa b_va b_np b_tn b_pc_ b_st_ b_pa_ b_ta b_ow b_of_ b_ot b_rl b_hb b_bs b_se; omega) | omega))
                    refine g_iincI (pc := 136) X 0 rfl (by decide) (lv' := [(4, .int (iI (k2 + 1))), (3, .int (iI n1)), (0, .ref g0), (1, .int (iI rm)), (2, .int (iI w))]) rfl dX12_shares_136 ?_
                    refine g_goto (pc := 139) X 111 (by decide) dX12_shares_139 ?_
                    exact ih (k2 + 1) F27 (by (first | (clear b_nr b_tm b_at_ b_to_ b_fa b_va b_np b_tn b_pc_ b_st_ b_pa_ b_ta b_ow b_of_ b_ot b_rl b_hb b_bs b_se; omega) | omega)) (hF27) (by (first | (clear b_nr b_tm b_at_ b_to_ b_fa b_va b_np b_tn b_pc_ b_st_ b_pa_ b_ta b_ow b_of_ b_ot b_rl b_hb b_bs b_se; omega) | omega))
              exact loop111 _ 0 Wb (by (first | (clear b_nr b_tm b_at_ b_to_ b_fa b_va b_np b_tn b_pc_ b_st_ b_pa_ b_ta b_ow b_of_ b_ot b_rl b_hb b_bs b_se; omega) | omega)) (h_Wb) (Nat.lt_succ_self _)
            · exact g_vret (pc := 102) X hA (⟨Wf, Wb, Wg, bs, rfl, rfl, (b_bs), (h_Wf), (h_Wb), (h_Wg)⟩) (by decide) (by decide) dX12_shares_102
        · refine g_aload_n (pc := 26) X 2 rfl dX12_shares_26 ?_
          refine g_get (pc := 27) X inlX12 0 rfl rfl 13 (by decide) mw_8_1 rfl dX12_shares_27 ?_
          refine g_iload_n (pc := 30) X 3 rfl dX12_shares_30 ?_
          refine g_ialdI (pc := 31) X 1 rfl (b_rm.1) (Int.lt_of_le_of_lt b_rm.2 (by decide)) (Int.le_trans b_rm.2 (by decide)) dX12_shares_31 ?_
          refine g_nameI (fun y28 ey28 => ?_)
          have by28 : 0 ≤ y28 ∧ y28 ≤ 8 := by rw [ey28]; exact h_Mw _ (by (first | (clear b_nr b_tm b_at_ b_to_ b_fa b_va b_np b_tn b_pc_ b_st_ b_pa_ b_ta b_ow b_of_ b_ot b_rl b_hb b_bs b_se; omega) | omega))
          have ty28 : 1 ≤ y28 ∧ y28 ≤ 8 := by rw [ey28]; exact hwn
          refine g_iconst (pc := 32) X (iI 1) (by rfl) dX12_shares_32 ?_
          refine g_icmp_leI (pc := 33) X 86 (by decide) (inRb by28 (by decide) (by decide)) ⟨by decide, by decide⟩ dX12_shares_33 (fun c33 => ?_) (fun c33 => ?_)
          · refine g_aload_n (pc := 86) X 2 rfl dX12_shares_86 ?_
            refine g_get (pc := 87) X inlX12 0 rfl rfl 65 (by decide) mw_49_21 rfl dX12_shares_87 ?_
            refine g_iconst (pc := 90) X (iI (-1)) (by rfl) dX12_shares_90 ?_
            refine g_icmp_eqI (pc := 91) X 103 (by decide) b_bs ⟨by decide, by decide⟩ dX12_shares_91 (fun c91 => ?_) (fun c91 => ?_)
            · refine g_aload_n (pc := 103) X 2 rfl dX12_shares_103 ?_
              refine g_iload_n (pc := 104) X 1 rfl dX12_shares_104 ?_
              refine g_put (pc := 105) X inlX12 tyX12_ok nmX12 0 rfl rfl 65 (by decide) mw_49_21 rfl rfl rfl (Nat.le_of_ble_eq_true rfl) (ws' := [(g0, .inr (12, mO gA nr tm at_ to_ fa va np tn pc_ st_ pa_ ta ow of_ ot rl hb n1 se)), cA Z (gA 13) 0 7 Mw, cA Z (gA 14) 0 7 Mo, cR Z (gA 0) 6 7 (gG 0), cR Z (gA 4) 6 7 (gG 4), cR Z (gA 5) 6 7 (gG 5), cR Z (gA 6) 6 7 (gG 6), cR Z (gA 9) 6 7 (gG 9), cA Z (xA 0) 0 8 Ml, cA Z (xA 4) 0 8 Mow, cA Z (xA 5) 0 8 Mof, cA Z (xA 6) 0 8 Mot, cA Z (xA 9) 0 8 Md, cA Z (gA 58) 0 4 Bp, cA Z (gA 59) 0 4 Br, cA Z (gA 60) 0 8 Wo, cA Z (gA 61) 0 8 Wf, cA Z (gA 62) 0 8 Wb, cA Z (gA 63) 0 4 Wg]) rfl dX12_shares_105 ?_
              refine g_iconst (pc := 108) X (iI 0) (by rfl) dX12_shares_108 ?_
              refine g_istore (pc := 109) X (by decide) (lv' := [(4, .int (iI 0)), (3, .int (iI n1)), (0, .ref g0), (1, .int (iI rm)), (2, .int (iI w))]) rfl dX12_shares_109 ?_
              have loop111 : ∀ (fuel : Nat) (k2 : Int) (Wb1 : Nat → Int), (0 ≤ k2 ∧ k2 ≤ 8) → (∀ j, j < 8 → (-2147483648) ≤ Wb1 j ∧ Wb1 j ≤ 2147483647) → (9 - k2).toNat < fuel → Gs p l e ({ frames := 4, cells := 0, slots := 0, locals := 96 } : Room) s m args below meth c (MQ below (gPost Z [(g0, .inr (12, mO gA nr tm at_ to_ fa va np tn pc_ st_ pa_ ta ow of_ ot rl hb bs se)), cA Z (gA 13) 0 7 Mw, cA Z (gA 14) 0 7 Mo, cR Z (gA 0) 6 7 (gG 0), cR Z (gA 4) 6 7 (gG 4), cR Z (gA 5) 6 7 (gG 5), cR Z (gA 6) 6 7 (gG 6), cR Z (gA 9) 6 7 (gG 9), cA Z (xA 0) 0 8 Ml, cA Z (xA 4) 0 8 Mow, cA Z (xA 5) 0 8 Mof, cA Z (xA 6) 0 8 Mot, cA Z (xA 9) 0 8 Md, cA Z (gA 58) 0 4 Bp, cA Z (gA 59) 0 4 Br, cA Z (gA 60) 0 8 Wo, cA Z (gA 61) 0 8 Wf, cA Z (gA 62) 0 8 Wb, cA Z (gA 63) 0 4 Wg] s.heap.size (fun r w' => ∃ (Wf2 : Nat → Int) (Wb2 : Nat → Int) (Wg2 : Nat → Int) (bs2 : Int), (r = none) ∧ (w' = [(g0, .inr (12, mO gA nr tm at_ to_ fa va np tn pc_ st_ pa_ ta ow of_ ot rl hb bs2 se)), cA Z (gA 13) 0 7 Mw, cA Z (gA 14) 0 7 Mo, cR Z (gA 0) 6 7 (gG 0), cR Z (gA 4) 6 7 (gG 4), cR Z (gA 5) 6 7 (gG 5), cR Z (gA 6) 6 7 (gG 6), cR Z (gA 9) 6 7 (gG 9), cA Z (xA 0) 0 8 Ml, cA Z (xA 4) 0 8 Mow, cA Z (xA 5) 0 8 Mof, cA Z (xA 6) 0 8 Mot, cA Z (xA 9) 0 8 Md, cA Z (gA 58) 0 4 Bp, cA Z (gA 59) 0 4 Br, cA Z (gA 60) 0 8 Wo, cA Z (gA 61) 0 8 Wf2, cA Z (gA 62) 0 8 Wb2, cA Z (gA 63) 0 4 Wg2]) ∧ ((-2147483648) ≤ bs2 ∧ bs2 ≤ 2147483647) ∧ (∀ j, j < 8 → (-2147483648) ≤ Wf2 j ∧ Wf2 j ≤ 2147483647) ∧ (∀ j, j < 8 → (-2147483648) ≤ Wb2 j ∧ Wb2 j ≤ 2147483647) ∧ (∀ j, j < 4 → (-2147483648) ≤ Wg2 j ∧ Wg2 j ≤ 2147483647))) args s 0 0 (va_A [(g0, .inr (12, mO gA nr tm at_ to_ fa va np tn pc_ st_ pa_ ta ow of_ ot rl hb bs se)), cA Z (gA 13) 0 7 Mw, cA Z (gA 14) 0 7 Mo, cR Z (gA 0) 6 7 (gG 0), cR Z (gA 4) 6 7 (gG 4), cR Z (gA 5) 6 7 (gG 5), cR Z (gA 6) 6 7 (gG 6), cR Z (gA 9) 6 7 (gG 9), cA Z (xA 0) 0 8 Ml, cA Z (xA 4) 0 8 Mow, cA Z (xA 5) 0 8 Mof, cA Z (xA 6) 0 8 Mot, cA Z (xA 9) 0 8 Md, cA Z (gA 58) 0 4 Bp, cA Z (gA 59) 0 4 Br, cA Z (gA 60) 0 8 Wo, cA Z (gA 61) 0 8 Wf, cA Z (gA 62) 0 8 Wb, cA Z (gA 63) 0 4 Wg] s.heap.size)) Z A 5 0 0 111 [(4, .int (iI k2)), (3, .int (iI n1)), (0, .ref g0), (1, .int (iI rm)), (2, .int (iI w))] [] [(g0, .inr (12, mO gA nr tm at_ to_ fa va np tn pc_ st_ pa_ ta ow of_ ot rl hb n1 se)), cA Z (gA 13) 0 7 Mw, cA Z (gA 14) 0 7 Mo, cR Z (gA 0) 6 7 (gG 0), cR Z (gA 4) 6 7 (gG 4), cR Z (gA 5) 6 7 (gG 5), cR Z (gA 6) 6 7 (gG 6), cR Z (gA 9) 6 7 (gG 9), cA Z (xA 0) 0 8 Ml, cA Z (xA 4) 0 8 Mow, cA Z (xA 5) 0 8 Mof, cA Z (xA 6) 0 8 Mot, cA Z (xA 9) 0 8 Md, cA Z (gA 58) 0 4 Bp, cA Z (gA 59) 0 4 Br, cA Z (gA 60) 0 8 Wo, cA Z (gA 61) 0 8 Wf, cA Z (gA 62) 0 8 Wb1, cA Z (gA 63) 0 4 Wg] := by
                intro fuel
                induction fuel with
                | zero => intro k2 Wb1 _ _ hm; exact absurd hm (Nat.not_lt_zero _)
                | succ fuel ih =>
                  intro k2 Wb1 b_k2 h_Wb1 hm
                  refine g_iload (pc := 111) X 0 rfl dX12_shares_111 ?_
                  refine g_aload_n (pc := 113) X 2 rfl dX12_shares_113 ?_
                  refine g_get (pc := 114) X inlX12 0 rfl rfl 13 (by decide) mw_8_1 rfl dX12_shares_114 ?_
                  refine g_iload_n (pc := 117) X 3 rfl dX12_shares_117 ?_
                  refine g_ialdI (pc := 118) X 1 rfl (b_rm.1) (Int.lt_of_le_of_lt b_rm.2 (by decide)) (Int.le_trans b_rm.2 (by decide)) dX12_shares_118 ?_
                  refine g_nameI (fun y29 ey29 => ?_)
                  have by29 : 0 ≤ y29 ∧ y29 ≤ 8 := by rw [ey29]; exact h_Mw _ (by (first | (clear b_nr b_tm b_at_ b_to_ b_fa b_va b_np b_tn b_pc_ b_st_ b_pa_ b_ta b_ow b_of_ b_ot b_rl b_hb b_bs b_se; omega) | omega))
                  have ty29 : 1 ≤ y29 ∧ y29 ≤ 8 := by rw [ey29]; exact hwn
                  refine g_icmp_geI (pc := 119) X 142 (by decide) (inRb b_k2 (by decide) (by decide)) (inRb by29 (by decide) (by decide)) dX12_shares_119 (fun c119 => ?_) (fun c119 => ?_)
                  · exact g_vret (pc := 142) X hA (⟨Wf, Wb1, Wg, n1, rfl, rfl, (b_n1), (h_Wf), (h_Wb1), (h_Wg)⟩) (by decide) (by decide) dX12_shares_142
                  · refine g_aload_n (pc := 122) X 2 rfl dX12_shares_122 ?_
                    refine g_get (pc := 123) X inlX12 0 rfl rfl 62 (by decide) mw_9_13 rfl dX12_shares_123 ?_
                    refine g_iload (pc := 126) X 0 rfl dX12_shares_126 ?_
                    refine g_aload_n (pc := 128) X 2 rfl dX12_shares_128 ?_
                    refine g_get (pc := 129) X inlX12 0 rfl rfl 61 (by decide) mw_9_12 rfl dX12_shares_129 ?_
                    refine g_iload (pc := 132) X 0 rfl dX12_shares_132 ?_
                    refine g_ialdI (pc := 134) X 16 rfl (b_k2.1) (by (first | (clear b_nr b_tm b_at_ b_to_ b_fa b_va b_np b_tn b_pc_ b_st_ b_pa_ b_ta b_ow b_of_ b_ot b_rl b_hb b_bs b_se; omega) | omega)) (Int.le_trans b_k2.2 (by decide)) dX12_shares_134 ?_
                    refine g_nameI (fun y30 ey30 => ?_)
                    have by30 : (-2147483648) ≤ y30 ∧ y30 ≤ 2147483647 := by rw [ey30]; exact h_Wf _ (by (first | (clear b_nr b_tm b_at_ b_to_ b_fa b_va b_np b_tn b_pc_ b_st_ b_pa_ b_ta b_ow b_of_ b_ot b_rl b_hb b_bs b_se; omega) | omega))
                    refine g_iastG (pc := 135) X 17 rfl (b_k2.1) (by (first | (clear b_nr b_tm b_at_ b_to_ b_fa b_va b_np b_tn b_pc_ b_st_ b_pa_ b_ta b_ow b_of_ b_ot b_rl b_hb b_bs b_se; omega) | omega)) (Int.le_trans b_k2.2 (by decide)) (ws' := fun F31 => [(g0, .inr (12, mO gA nr tm at_ to_ fa va np tn pc_ st_ pa_ ta ow of_ ot rl hb n1 se)), cA Z (gA 13) 0 7 Mw, cA Z (gA 14) 0 7 Mo, cR Z (gA 0) 6 7 (gG 0), cR Z (gA 4) 6 7 (gG 4), cR Z (gA 5) 6 7 (gG 5), cR Z (gA 6) 6 7 (gG 6), cR Z (gA 9) 6 7 (gG 9), cA Z (xA 0) 0 8 Ml, cA Z (xA 4) 0 8 Mow, cA Z (xA 5) 0 8 Mof, cA Z (xA 6) 0 8 Mot, cA Z (xA 9) 0 8 Md, cA Z (gA 58) 0 4 Bp, cA Z (gA 59) 0 4 Br, cA Z (gA 60) 0 8 Wo, cA Z (gA 61) 0 8 Wf, cA Z (gA 62) 0 8 F31, cA Z (gA 63) 0 4 Wg]) (fun _ => rfl) dX12_shares_135 (fun F31 eF31 => ?_)
                    have hF31 : ∀ j, j < 8 → (-2147483648) ≤ F31 j ∧ F31 j ≤ 2147483647 := by rw [eF31]; exact updI_B h_Wb1 (by (first | (clear b_nr b_tm b_at_ b_to_ b_fa b_va b_np b_tn b_pc_ b_st_ b_pa_ b_ta b_ow b_of_ b_ot b_rl b_hb b_bs b_se; omega) | omega))
                    refine g_iincI (pc := 136) X 0 rfl (by decide) (lv' := [(4, .int (iI (k2 + 1))), (3, .int (iI n1)), (0, .ref g0), (1, .int (iI rm)), (2, .int (iI w))]) rfl dX12_shares_136 ?_
                    refine g_goto (pc := 139) X 111 (by decide) dX12_shares_139 ?_
                    exact ih (k2 + 1) F31 (by (first | (clear b_nr b_tm b_at_ b_to_ b_fa b_va b_np b_tn b_pc_ b_st_ b_pa_ b_ta b_ow b_of_ b_ot b_rl b_hb b_bs b_se; omega) | omega)) (hF31) (by (first | (clear b_nr b_tm b_at_ b_to_ b_fa b_va b_np b_tn b_pc_ b_st_ b_pa_ b_ta b_ow b_of_ b_ot b_rl b_hb b_bs b_se; omega) | omega))
              exact loop111 _ 0 Wb (by (first | (clear b_nr b_tm b_at_ b_to_ b_fa b_va b_np b_tn b_pc_ b_st_ b_pa_ b_ta b_ow b_of_ b_ot b_rl b_hb b_bs b_se; omega) | omega)) (h_Wb) (Nat.lt_succ_self _)
            · refine g_iload_n (pc := 94) X 1 rfl dX12_shares_94 ?_
              refine g_aload_n (pc := 95) X 2 rfl dX12_shares_95 ?_
              refine g_get (pc := 96) X inlX12 0 rfl rfl 65 (by decide) mw_49_21 rfl dX12_shares_96 ?_
              refine g_icmp_ltI (pc := 99) X 103 (by decide) b_n1 b_bs dX12_shares_99 (fun c99 => ?_) (fun c99 => ?_)
              · refine g_aload_n (pc := 103) X 2 rfl dX12_shares_103 ?_
                refine g_iload_n (pc := 104) X 1 rfl dX12_shares_104 ?_
                refine g_put (pc := 105) X inlX12 tyX12_ok nmX12 0 rfl rfl 65 (by decide) mw_49_21 rfl rfl rfl (Nat.le_of_ble_eq_true rfl) (ws' := [(g0, .inr (12, mO gA nr tm at_ to_ fa va np tn pc_ st_ pa_ ta ow of_ ot rl hb n1 se)), cA Z (gA 13) 0 7 Mw, cA Z (gA 14) 0 7 Mo, cR Z (gA 0) 6 7 (gG 0), cR Z (gA 4) 6 7 (gG 4), cR Z (gA 5) 6 7 (gG 5), cR Z (gA 6) 6 7 (gG 6), cR Z (gA 9) 6 7 (gG 9), cA Z (xA 0) 0 8 Ml, cA Z (xA 4) 0 8 Mow, cA Z (xA 5) 0 8 Mof, cA Z (xA 6) 0 8 Mot, cA Z (xA 9) 0 8 Md, cA Z (gA 58) 0 4 Bp, cA Z (gA 59) 0 4 Br, cA Z (gA 60) 0 8 Wo, cA Z (gA 61) 0 8 Wf, cA Z (gA 62) 0 8 Wb, cA Z (gA 63) 0 4 Wg]) rfl dX12_shares_105 ?_
                refine g_iconst (pc := 108) X (iI 0) (by rfl) dX12_shares_108 ?_
                refine g_istore (pc := 109) X (by decide) (lv' := [(4, .int (iI 0)), (3, .int (iI n1)), (0, .ref g0), (1, .int (iI rm)), (2, .int (iI w))]) rfl dX12_shares_109 ?_
                have loop111 : ∀ (fuel : Nat) (k2 : Int) (Wb1 : Nat → Int), (0 ≤ k2 ∧ k2 ≤ 8) → (∀ j, j < 8 → (-2147483648) ≤ Wb1 j ∧ Wb1 j ≤ 2147483647) → (9 - k2).toNat < fuel → Gs p l e ({ frames := 4, cells := 0, slots := 0, locals := 96 } : Room) s m args below meth c (MQ below (gPost Z [(g0, .inr (12, mO gA nr tm at_ to_ fa va np tn pc_ st_ pa_ ta ow of_ ot rl hb bs se)), cA Z (gA 13) 0 7 Mw, cA Z (gA 14) 0 7 Mo, cR Z (gA 0) 6 7 (gG 0), cR Z (gA 4) 6 7 (gG 4), cR Z (gA 5) 6 7 (gG 5), cR Z (gA 6) 6 7 (gG 6), cR Z (gA 9) 6 7 (gG 9), cA Z (xA 0) 0 8 Ml, cA Z (xA 4) 0 8 Mow, cA Z (xA 5) 0 8 Mof, cA Z (xA 6) 0 8 Mot, cA Z (xA 9) 0 8 Md, cA Z (gA 58) 0 4 Bp, cA Z (gA 59) 0 4 Br, cA Z (gA 60) 0 8 Wo, cA Z (gA 61) 0 8 Wf, cA Z (gA 62) 0 8 Wb, cA Z (gA 63) 0 4 Wg] s.heap.size (fun r w' => ∃ (Wf2 : Nat → Int) (Wb2 : Nat → Int) (Wg2 : Nat → Int) (bs2 : Int), (r = none) ∧ (w' = [(g0, .inr (12, mO gA nr tm at_ to_ fa va np tn pc_ st_ pa_ ta ow of_ ot rl hb bs2 se)), cA Z (gA 13) 0 7 Mw, cA Z (gA 14) 0 7 Mo, cR Z (gA 0) 6 7 (gG 0), cR Z (gA 4) 6 7 (gG 4), cR Z (gA 5) 6 7 (gG 5), cR Z (gA 6) 6 7 (gG 6), cR Z (gA 9) 6 7 (gG 9), cA Z (xA 0) 0 8 Ml, cA Z (xA 4) 0 8 Mow, cA Z (xA 5) 0 8 Mof, cA Z (xA 6) 0 8 Mot, cA Z (xA 9) 0 8 Md, cA Z (gA 58) 0 4 Bp, cA Z (gA 59) 0 4 Br, cA Z (gA 60) 0 8 Wo, cA Z (gA 61) 0 8 Wf2, cA Z (gA 62) 0 8 Wb2, cA Z (gA 63) 0 4 Wg2]) ∧ ((-2147483648) ≤ bs2 ∧ bs2 ≤ 2147483647) ∧ (∀ j, j < 8 → (-2147483648) ≤ Wf2 j ∧ Wf2 j ≤ 2147483647) ∧ (∀ j, j < 8 → (-2147483648) ≤ Wb2 j ∧ Wb2 j ≤ 2147483647) ∧ (∀ j, j < 4 → (-2147483648) ≤ Wg2 j ∧ Wg2 j ≤ 2147483647))) args s 0 0 (va_A [(g0, .inr (12, mO gA nr tm at_ to_ fa va np tn pc_ st_ pa_ ta ow of_ ot rl hb bs se)), cA Z (gA 13) 0 7 Mw, cA Z (gA 14) 0 7 Mo, cR Z (gA 0) 6 7 (gG 0), cR Z (gA 4) 6 7 (gG 4), cR Z (gA 5) 6 7 (gG 5), cR Z (gA 6) 6 7 (gG 6), cR Z (gA 9) 6 7 (gG 9), cA Z (xA 0) 0 8 Ml, cA Z (xA 4) 0 8 Mow, cA Z (xA 5) 0 8 Mof, cA Z (xA 6) 0 8 Mot, cA Z (xA 9) 0 8 Md, cA Z (gA 58) 0 4 Bp, cA Z (gA 59) 0 4 Br, cA Z (gA 60) 0 8 Wo, cA Z (gA 61) 0 8 Wf, cA Z (gA 62) 0 8 Wb, cA Z (gA 63) 0 4 Wg] s.heap.size)) Z A 5 0 0 111 [(4, .int (iI k2)), (3, .int (iI n1)), (0, .ref g0), (1, .int (iI rm)), (2, .int (iI w))] [] [(g0, .inr (12, mO gA nr tm at_ to_ fa va np tn pc_ st_ pa_ ta ow of_ ot rl hb n1 se)), cA Z (gA 13) 0 7 Mw, cA Z (gA 14) 0 7 Mo, cR Z (gA 0) 6 7 (gG 0), cR Z (gA 4) 6 7 (gG 4), cR Z (gA 5) 6 7 (gG 5), cR Z (gA 6) 6 7 (gG 6), cR Z (gA 9) 6 7 (gG 9), cA Z (xA 0) 0 8 Ml, cA Z (xA 4) 0 8 Mow, cA Z (xA 5) 0 8 Mof, cA Z (xA 6) 0 8 Mot, cA Z (xA 9) 0 8 Md, cA Z (gA 58) 0 4 Bp, cA Z (gA 59) 0 4 Br, cA Z (gA 60) 0 8 Wo, cA Z (gA 61) 0 8 Wf, cA Z (gA 62) 0 8 Wb1, cA Z (gA 63) 0 4 Wg] := by
                  intro fuel
                  induction fuel with
                  | zero => intro k2 Wb1 _ _ hm; exact absurd hm (Nat.not_lt_zero _)
                  | succ fuel ih =>
                    intro k2 Wb1 b_k2 h_Wb1 hm
                    refine g_iload (pc := 111) X 0 rfl dX12_shares_111 ?_
                    refine g_aload_n (pc := 113) X 2 rfl dX12_shares_113 ?_
                    refine g_get (pc := 114) X inlX12 0 rfl rfl 13 (by decide) mw_8_1 rfl dX12_shares_114 ?_
                    refine g_iload_n (pc := 117) X 3 rfl dX12_shares_117 ?_
                    refine g_ialdI (pc := 118) X 1 rfl (b_rm.1) (Int.lt_of_le_of_lt b_rm.2 (by decide)) (Int.le_trans b_rm.2 (by decide)) dX12_shares_118 ?_
                    refine g_nameI (fun y32 ey32 => ?_)
                    have by32 : 0 ≤ y32 ∧ y32 ≤ 8 := by rw [ey32]; exact h_Mw _ (by (first | (clear b_nr b_tm b_at_ b_to_ b_fa b_va b_np b_tn b_pc_ b_st_ b_pa_ b_ta b_ow b_of_ b_ot b_rl b_hb b_bs b_se; omega) | omega))
                    have ty32 : 1 ≤ y32 ∧ y32 ≤ 8 := by rw [ey32]; exact hwn
                    refine g_icmp_geI (pc := 119) X 142 (by decide) (inRb b_k2 (by decide) (by decide)) (inRb by32 (by decide) (by decide)) dX12_shares_119 (fun c119 => ?_) (fun c119 => ?_)
                    · exact g_vret (pc := 142) X hA (⟨Wf, Wb1, Wg, n1, rfl, rfl, (b_n1), (h_Wf), (h_Wb1), (h_Wg)⟩) (by decide) (by decide) dX12_shares_142
                    · refine g_aload_n (pc := 122) X 2 rfl dX12_shares_122 ?_
                      refine g_get (pc := 123) X inlX12 0 rfl rfl 62 (by decide) mw_9_13 rfl dX12_shares_123 ?_
                      refine g_iload (pc := 126) X 0 rfl dX12_shares_126 ?_
                      refine g_aload_n (pc := 128) X 2 rfl dX12_shares_128 ?_
                      refine g_get (pc := 129) X inlX12 0 rfl rfl 61 (by decide) mw_9_12 rfl dX12_shares_129 ?_
                      refine g_iload (pc := 132) X 0 rfl dX12_shares_132 ?_
                      refine g_ialdI (pc := 134) X 16 rfl (b_k2.1) (by (first | (clear b_nr b_tm b_at_ b_to_ b_fa b_va b_np b_tn b_pc_ b_st_ b_pa_ b_ta b_ow b_of_ b_ot b_rl b_hb b_bs b_se; omega) | omega)) (Int.le_trans b_k2.2 (by decide)) dX12_shares_134 ?_
                      refine g_nameI (fun y33 ey33 => ?_)
                      have by33 : (-2147483648) ≤ y33 ∧ y33 ≤ 2147483647 := by rw [ey33]; exact h_Wf _ (by (first | (clear b_nr b_tm b_at_ b_to_ b_fa b_va b_np b_tn b_pc_ b_st_ b_pa_ b_ta b_ow b_of_ b_ot b_rl b_hb b_bs b_se; omega) | omega))
                      refine g_iastG (pc := 135) X 17 rfl (b_k2.1) (by (first | (clear b_nr b_tm b_at_ b_to_ b_fa b_va b_np b_tn b_pc_ b_st_ b_pa_ b_ta b_ow b_of_ b_ot b_rl b_hb b_bs b_se; omega) | omega)) (Int.le_trans b_k2.2 (by decide)) (ws' := fun F34 => [(g0, .inr (12, mO gA nr tm at_ to_ fa va np tn pc_ st_ pa_ ta ow of_ ot rl hb n1 se)), cA Z (gA 13) 0 7 Mw, cA Z (gA 14) 0 7 Mo, cR Z (gA 0) 6 7 (gG 0), cR Z (gA 4) 6 7 (gG 4), cR Z (gA 5) 6 7 (gG 5), cR Z (gA 6) 6 7 (gG 6), cR Z (gA 9) 6 7 (gG 9), cA Z (xA 0) 0 8 Ml, cA Z (xA 4) 0 8 Mow, cA Z (xA 5) 0 8 Mof, cA Z (xA 6) 0 8 Mot, cA Z (xA 9) 0 8 Md, cA Z (gA 58) 0 4 Bp, cA Z (gA 59) 0 4 Br, cA Z (gA 60) 0 8 Wo, cA Z (gA 61) 0 8 Wf, cA Z (gA 62) 0 8 F34, cA Z (gA 63) 0 4 Wg]) (fun _ => rfl) dX12_shares_135 (fun F34 eF34 => ?_)
                      have hF34 : ∀ j, j < 8 → (-2147483648) ≤ F34 j ∧ F34 j ≤ 2147483647 := by rw [eF34]; exact updI_B h_Wb1 (by (first | (clear b_nr b_tm b_at_ b_to_ b_fa b_va b_np b_tn b_pc_ b_st_ b_pa_ b_ta b_ow b_of_ b_ot b_rl b_hb b_bs b_se; omega) | omega))
                      refine g_iincI (pc := 136) X 0 rfl (by decide) (lv' := [(4, .int (iI (k2 + 1))), (3, .int (iI n1)), (0, .ref g0), (1, .int (iI rm)), (2, .int (iI w))]) rfl dX12_shares_136 ?_
                      refine g_goto (pc := 139) X 111 (by decide) dX12_shares_139 ?_
                      exact ih (k2 + 1) F34 (by (first | (clear b_nr b_tm b_at_ b_to_ b_fa b_va b_np b_tn b_pc_ b_st_ b_pa_ b_ta b_ow b_of_ b_ot b_rl b_hb b_bs b_se; omega) | omega)) (hF34) (by (first | (clear b_nr b_tm b_at_ b_to_ b_fa b_va b_np b_tn b_pc_ b_st_ b_pa_ b_ta b_ow b_of_ b_ot b_rl b_hb b_bs b_se; omega) | omega))
                exact loop111 _ 0 Wb (by (first | (clear b_nr b_tm b_at_ b_to_ b_fa b_va b_np b_tn b_pc_ b_st_ b_pa_ b_ta b_ow b_of_ b_ot b_rl b_hb b_bs b_se; omega) | omega)) (h_Wb) (Nat.lt_succ_self _)
              · exact g_vret (pc := 102) X hA (⟨Wf, Wb, Wg, bs, rfl, rfl, (b_bs), (h_Wf), (h_Wb), (h_Wg)⟩) (by decide) (by decide) dX12_shares_102
          · refine g_iload_n (pc := 36) X 1 rfl dX12_shares_36 ?_
            refine g_aload_n (pc := 37) X 2 rfl dX12_shares_37 ?_
            refine g_get (pc := 38) X inlX12 0 rfl rfl 61 (by decide) mw_9_12 rfl dX12_shares_38 ?_
            refine g_iload (pc := 41) X 0 rfl dX12_shares_41 ?_
            refine g_ialdI (pc := 43) X 16 rfl (b_k1.1) (by (first | (clear b_nr b_tm b_at_ b_to_ b_fa b_va b_np b_tn b_pc_ b_st_ b_pa_ b_ta b_ow b_of_ b_ot b_rl b_hb b_bs b_se; omega) | omega)) (Int.le_trans b_k1.2 (by decide)) dX12_shares_43 ?_
            refine g_nameI (fun y35 ey35 => ?_)
            have by35 : (-2147483648) ≤ y35 ∧ y35 ≤ 2147483647 := by rw [ey35]; exact h_Wf _ (by (first | (clear b_nr b_tm b_at_ b_to_ b_fa b_va b_np b_tn b_pc_ b_st_ b_pa_ b_ta b_ow b_of_ b_ot b_rl b_hb b_bs b_se; omega) | omega))
            refine g_aload_n (pc := 44) X 2 rfl dX12_shares_44 ?_
            refine g_get (pc := 45) X inlX12 0 rfl rfl 61 (by decide) mw_9_12 rfl dX12_shares_45 ?_
            refine g_iload (pc := 48) X 0 rfl dX12_shares_48 ?_
            refine g_iconst (pc := 50) X (iI 1) (by rfl) dX12_shares_50 ?_
            refine g_iaddI (pc := 51) X dX12_shares_51 ?_
            refine g_aload_n (pc := 52) X 2 rfl dX12_shares_52 ?_
            refine g_get (pc := 53) X inlX12 0 rfl rfl 13 (by decide) mw_8_1 rfl dX12_shares_53 ?_
            refine g_iload_n (pc := 56) X 3 rfl dX12_shares_56 ?_
            refine g_ialdI (pc := 57) X 1 rfl (b_rm.1) (Int.lt_of_le_of_lt b_rm.2 (by decide)) (Int.le_trans b_rm.2 (by decide)) dX12_shares_57 ?_
            refine g_nameI (fun y36 ey36 => ?_)
            have by36 : 0 ≤ y36 ∧ y36 ≤ 8 := by rw [ey36]; exact h_Mw _ (by (first | (clear b_nr b_tm b_at_ b_to_ b_fa b_va b_np b_tn b_pc_ b_st_ b_pa_ b_ta b_ow b_of_ b_ot b_rl b_hb b_bs b_se; omega) | omega))
            have ty36 : 1 ≤ y36 ∧ y36 ≤ 8 := by rw [ey36]; exact hwn
            refine g_iremP (pc := 58) X (by (first | (clear b_nr b_tm b_at_ b_to_ b_fa b_va b_np b_tn b_pc_ b_st_ b_pa_ b_ta b_ow b_of_ b_ot b_rl b_hb b_bs b_se; omega) | omega)) (by (first | (clear b_nr b_tm b_at_ b_to_ b_fa b_va b_np b_tn b_pc_ b_st_ b_pa_ b_ta b_ow b_of_ b_ot b_rl b_hb b_bs b_se; omega) | omega)) (by (first | (clear b_nr b_tm b_at_ b_to_ b_fa b_va b_np b_tn b_pc_ b_st_ b_pa_ b_ta b_ow b_of_ b_ot b_rl b_hb b_bs b_se; omega) | omega)) (by (first | (clear b_nr b_tm b_at_ b_to_ b_fa b_va b_np b_tn b_pc_ b_st_ b_pa_ b_ta b_ow b_of_ b_ot b_rl b_hb b_bs b_se; omega) | omega)) dX12_shares_58 ?_
            refine g_nameI (fun y37 ey37 => ?_)
            have by37 : 0 ≤ y37 ∧ y37 ≤ 7 := by rw [ey37]; exact modB (by (first | (clear b_nr b_tm b_at_ b_to_ b_fa b_va b_np b_tn b_pc_ b_st_ b_pa_ b_ta b_ow b_of_ b_ot b_rl b_hb b_bs b_se; omega) | omega)) (by (first | (clear b_nr b_tm b_at_ b_to_ b_fa b_va b_np b_tn b_pc_ b_st_ b_pa_ b_ta b_ow b_of_ b_ot b_rl b_hb b_bs b_se; omega) | omega)) (by (first | (clear b_nr b_tm b_at_ b_to_ b_fa b_va b_np b_tn b_pc_ b_st_ b_pa_ b_ta b_ow b_of_ b_ot b_rl b_hb b_bs b_se; omega) | omega))
            have cy37 : y37 < y36 := by rw [ey37]; exact Int.emod_lt_of_pos _ (by (first | (clear b_nr b_tm b_at_ b_to_ b_fa b_va b_np b_tn b_pc_ b_st_ b_pa_ b_ta b_ow b_of_ b_ot b_rl b_hb b_bs b_se; omega) | omega))
            refine g_ialdI (pc := 59) X 16 rfl (by (first | (clear b_nr b_tm b_at_ b_to_ b_fa b_va b_np b_tn b_pc_ b_st_ b_pa_ b_ta b_ow b_of_ b_ot b_rl b_hb b_bs b_se; omega) | omega)) (by (first | (clear b_nr b_tm b_at_ b_to_ b_fa b_va b_np b_tn b_pc_ b_st_ b_pa_ b_ta b_ow b_of_ b_ot b_rl b_hb b_bs b_se; omega) | omega)) (by (first | (clear b_nr b_tm b_at_ b_to_ b_fa b_va b_np b_tn b_pc_ b_st_ b_pa_ b_ta b_ow b_of_ b_ot b_rl b_hb b_bs b_se; omega) | omega)) dX12_shares_59 ?_
            refine g_nameI (fun y38 ey38 => ?_)
            have by38 : (-2147483648) ≤ y38 ∧ y38 ≤ 2147483647 := by rw [ey38]; exact h_Wf _ (by (first | (clear b_nr b_tm b_at_ b_to_ b_fa b_va b_np b_tn b_pc_ b_st_ b_pa_ b_ta b_ow b_of_ b_ot b_rl b_hb b_bs b_se; omega) | omega))
            refine g_icmp_eqI (pc := 60) X 77 (by decide) by35 by38 dX12_shares_60 (fun c60 => ?_) (fun c60 => ?_)
            · refine g_iconst (pc := 77) X (iI 0) (by rfl) dX12_shares_77 ?_
              refine g_iaddI (pc := 78) X dX12_shares_78 ?_
              refine g_istore_n (pc := 79) X (i := 3) rfl (by decide) (lv' := [(3, .int (iI (n1 + 0))), (4, .int (iI k1)), (0, .ref g0), (1, .int (iI rm)), (2, .int (iI w))]) rfl dX12_shares_79 ?_
              refine g_iincI (pc := 80) X 1 rfl (by decide) (lv' := [(4, .int (iI (k1 + 1))), (3, .int (iI (n1 + 0))), (0, .ref g0), (1, .int (iI rm)), (2, .int (iI w))]) rfl dX12_shares_80 ?_
              refine g_goto (pc := 83) X 15 (by decide) dX12_shares_83 ?_
              exact ih (n1 + 0) (k1 + 1) (by (first | (clear b_nr b_tm b_at_ b_to_ b_fa b_va b_np b_tn b_pc_ b_st_ b_pa_ b_ta b_ow b_of_ b_ot b_rl b_hb b_bs b_se; omega) | omega)) (by (first | (clear b_nr b_tm b_at_ b_to_ b_fa b_va b_np b_tn b_pc_ b_st_ b_pa_ b_ta b_ow b_of_ b_ot b_rl b_hb b_bs b_se; omega) | omega)) (by (first | (clear b_nr b_tm b_at_ b_to_ b_fa b_va b_np b_tn b_pc_ b_st_ b_pa_ b_ta b_ow b_of_ b_ot b_rl b_hb b_bs b_se; omega) | omega))
            · refine g_aload_n (pc := 63) X 2 rfl dX12_shares_63 ?_
              refine g_iload_n (pc := 64) X 3 rfl dX12_shares_64 ?_
              refine g_iload (pc := 65) X 0 rfl dX12_shares_65 ?_
              refine g_callV (pc := 67) X (k_X12_hasDoor l Z g0 gA gG xA Mw Mo Ml Mow Mof Mot Md rm k1 nr tm at_ to_ fa va np tn pc_ st_ pa_ ta ow of_ ot rl hb bs se b_rm (by (first | (clear b_nr b_tm b_at_ b_to_ b_fa b_va b_np b_tn b_pc_ b_st_ b_pa_ b_ta b_ow b_of_ b_ot b_rl b_hb b_bs b_se; omega) | omega)) b_nr b_tm b_at_ b_to_ b_fa b_va b_np b_tn b_pc_ b_st_ b_pa_ b_ta b_ow b_of_ b_ot b_rl b_hb b_bs b_se (hG) (by (first | (clear b_nr b_tm b_at_ b_to_ b_fa b_va b_np b_tn b_pc_ b_st_ b_pa_ b_ta b_ow b_of_ b_ot b_rl b_hb b_bs b_se; omega) | omega)) (h_Mw) (h_Mo) (h_Ml) (h_Mow) (h_Mof) (h_Mot) (h_Md)) iM_X12_hasDoor mw_50_6 mw_50_7 mw_50_8 0 rfl rfl [0, 1, 2, 3, 4, 5, 6, 7, 8, 9, 10, 11, 12] [13, 14, 15, 16, 17, 18] rfl (wr := [cA Z (gA 58) 0 4 Bp, cA Z (gA 59) 0 4 Br, cA Z (gA 60) 0 8 Wo, cA Z (gA 61) 0 8 Wf, cA Z (gA 62) 0 8 Wb, cA Z (gA 63) 0 4 Wg]) rfl (by decide) rfl rfl (Nat.le_of_ble_eq_true rfl) (by decide) dX12_shares_67 (fun r w' hpo => ?_)
              refine exN_1 hpo fun y39 hz => anD_3 hz fun e_r e_w hf67_b_y => ?_; clear hz hpo; subst e_r; subst e_w
              refine g_as (pc' := 70) (lv' := [(4, .int (iI k1)), (3, .int (iI n1)), (0, .ref g0), (1, .int (iI rm)), (2, .int (iI w))]) (st' := [.int (iI y39), .int (iI n1)]) (ws' := [cA Z (gA 58) 0 4 Bp, cA Z (gA 59) 0 4 Br, cA Z (gA 60) 0 8 Wo, cA Z (gA 61) 0 8 Wf, cA Z (gA 62) 0 8 Wb, cA Z (gA 63) 0 4 Wg, (g0, .inr (12, mO gA nr tm at_ to_ fa va np tn pc_ st_ pa_ ta ow of_ ot rl hb bs se)), cA Z (gA 13) 0 7 Mw, cA Z (gA 14) 0 7 Mo, cR Z (gA 0) 6 7 (gG 0), cR Z (gA 4) 6 7 (gG 4), cR Z (gA 5) 6 7 (gG 5), cR Z (gA 6) 6 7 (gG 6), cR Z (gA 9) 6 7 (gG 9), cA Z (xA 0) 0 8 Ml, cA Z (xA 4) 0 8 Mow, cA Z (xA 5) 0 8 Mof, cA Z (xA 6) 0 8 Mot, cA Z (xA 9) 0 8 Md]) rfl rfl rfl rfl ?_
              refine g_if_neI (pc := 70) X 77 (by decide) (inRb hf67_b_y (by decide) (by decide)) dX12_shares_70 (fun c70 => ?_) (fun c70 => ?_)
              · refine g_iconst (pc := 77) X (iI 0) (by rfl) dX12_shares_77 ?_
                refine g_iaddI (pc := 78) X dX12_shares_78 ?_
                refine g_istore_n (pc := 79) X (i := 3) rfl (by decide) (lv' := [(3, .int (iI (n1 + 0))), (4, .int (iI k1)), (0, .ref g0), (1, .int (iI rm)), (2, .int (iI w))]) rfl dX12_shares_79 ?_
                refine g_iincI (pc := 80) X 1 rfl (by decide) (lv' := [(4, .int (iI (k1 + 1))), (3, .int (iI (n1 + 0))), (0, .ref g0), (1, .int (iI rm)), (2, .int (iI w))]) rfl dX12_shares_80 ?_
                refine g_goto (pc := 83) X 15 (by decide) dX12_shares_83 ?_
                refine g_ws (ws' := [(g0, .inr (12, mO gA nr tm at_ to_ fa va np tn pc_ st_ pa_ ta ow of_ ot rl hb bs se)), cA Z (gA 13) 0 7 Mw, cA Z (gA 14) 0 7 Mo, cR Z (gA 0) 6 7 (gG 0), cR Z (gA 4) 6 7 (gG 4), cR Z (gA 5) 6 7 (gG 5), cR Z (gA 6) 6 7 (gG 6), cR Z (gA 9) 6 7 (gG 9), cA Z (xA 0) 0 8 Ml, cA Z (xA 4) 0 8 Mow, cA Z (xA 5) 0 8 Mof, cA Z (xA 6) 0 8 Mot, cA Z (xA 9) 0 8 Md, cA Z (gA 58) 0 4 Bp, cA Z (gA 59) 0 4 Br, cA Z (gA 60) 0 8 Wo, cA Z (gA 61) 0 8 Wf, cA Z (gA 62) 0 8 Wb, cA Z (gA 63) 0 4 Wg]) [6, 7, 8, 9, 10, 11, 12, 13, 14, 15, 16, 17, 18, 0, 1, 2, 3, 4, 5] (by decide) rfl ?_
                exact ih (n1 + 0) (k1 + 1) (by (first | (clear b_nr b_tm b_at_ b_to_ b_fa b_va b_np b_tn b_pc_ b_st_ b_pa_ b_ta b_ow b_of_ b_ot b_rl b_hb b_bs b_se; omega) | omega)) (by (first | (clear b_nr b_tm b_at_ b_to_ b_fa b_va b_np b_tn b_pc_ b_st_ b_pa_ b_ta b_ow b_of_ b_ot b_rl b_hb b_bs b_se; omega) | omega)) (by (first | (clear b_nr b_tm b_at_ b_to_ b_fa b_va b_np b_tn b_pc_ b_st_ b_pa_ b_ta b_ow b_of_ b_ot b_rl b_hb b_bs b_se; omega) | omega))
              · refine g_iconst (pc := 73) X (iI 1) (by rfl) dX12_shares_73 ?_
                refine g_goto (pc := 74) X 78 (by decide) dX12_shares_74 ?_
                refine g_iaddI (pc := 78) X dX12_shares_78 ?_
                refine g_any (fun y41 by41 => ?_)
                refine g_istore_n (pc := 79) X (i := 3) rfl (by decide) (lv' := [(3, .int (iI y41)), (4, .int (iI k1)), (0, .ref g0), (1, .int (iI rm)), (2, .int (iI w))]) rfl dX12_shares_79 ?_
                refine g_iincI (pc := 80) X 1 rfl (by decide) (lv' := [(4, .int (iI (k1 + 1))), (3, .int (iI y41)), (0, .ref g0), (1, .int (iI rm)), (2, .int (iI w))]) rfl dX12_shares_80 ?_
                refine g_goto (pc := 83) X 15 (by decide) dX12_shares_83 ?_
                refine g_ws (ws' := [(g0, .inr (12, mO gA nr tm at_ to_ fa va np tn pc_ st_ pa_ ta ow of_ ot rl hb bs se)), cA Z (gA 13) 0 7 Mw, cA Z (gA 14) 0 7 Mo, cR Z (gA 0) 6 7 (gG 0), cR Z (gA 4) 6 7 (gG 4), cR Z (gA 5) 6 7 (gG 5), cR Z (gA 6) 6 7 (gG 6), cR Z (gA 9) 6 7 (gG 9), cA Z (xA 0) 0 8 Ml, cA Z (xA 4) 0 8 Mow, cA Z (xA 5) 0 8 Mof, cA Z (xA 6) 0 8 Mot, cA Z (xA 9) 0 8 Md, cA Z (gA 58) 0 4 Bp, cA Z (gA 59) 0 4 Br, cA Z (gA 60) 0 8 Wo, cA Z (gA 61) 0 8 Wf, cA Z (gA 62) 0 8 Wb, cA Z (gA 63) 0 4 Wg]) [6, 7, 8, 9, 10, 11, 12, 13, 14, 15, 16, 17, 18, 0, 1, 2, 3, 4, 5] (by decide) rfl ?_
                exact ih y41 (k1 + 1) (by41) (by (first | (clear b_nr b_tm b_at_ b_to_ b_fa b_va b_np b_tn b_pc_ b_st_ b_pa_ b_ta b_ow b_of_ b_ot b_rl b_hb b_bs b_se; omega) | omega)) (by (first | (clear b_nr b_tm b_at_ b_to_ b_fa b_va b_np b_tn b_pc_ b_st_ b_pa_ b_ta b_ow b_of_ b_ot b_rl b_hb b_bs b_se; omega) | omega))
    exact loop15 _ 0 0 (by (first | (clear b_nr b_tm b_at_ b_to_ b_fa b_va b_np b_tn b_pc_ b_st_ b_pa_ b_ta b_ow b_of_ b_ot b_rl b_hb b_bs b_se; omega) | omega)) (by (first | (clear b_nr b_tm b_at_ b_to_ b_fa b_va b_np b_tn b_pc_ b_st_ b_pa_ b_ta b_ow b_of_ b_ot b_rl b_hb b_bs b_se; omega) | omega)) (Nat.lt_succ_self _)

set_option maxHeartbeats 4000000 in
set_option maxRecDepth 100000 in
theorem k_X12_shares4 (l : Launch) (Z : gZ) (g0 : Nat) (gA : Nat → Nat) (gG : Nat → Nat → Option Nat) (xA : Nat → Nat) (Mw : Nat → Int) (Mo : Nat → Int) (Ml : Nat → Int) (Mow : Nat → Int) (Mof : Nat → Int) (Mot : Nat → Int) (Md : Nat → Int) (Bp : Nat → Int) (Br : Nat → Int) (Wo : Nat → Int) (Wf : Nat → Int) (Wb : Nat → Int) (Wg : Nat → Int) (rm : Int) (w : Int) (nr : Int) (tm : Int) (at_ : Int) (to_ : Int) (fa : Int) (va : Int) (np : Int) (tn : Int) (pc_ : Int) (st_ : Int) (pa_ : Int) (ta : Int) (ow : Int) (of_ : Int) (ot : Int) (rl : Int) (hb : Int) (bs : Int) (se : Int) (b_rm : 0 ≤ rm ∧ rm ≤ 5) (b_w : 0 ≤ w ∧ w ≤ 8) (b_nr : 0 ≤ nr ∧ nr ≤ 6) (b_tm : 0 ≤ tm ∧ tm ≤ 400) (b_at_ : 0 ≤ at_ ∧ at_ ≤ 400) (b_to_ : 0 ≤ to_ ∧ to_ ≤ 400) (b_fa : (-1) ≤ fa ∧ fa ≤ 400) (b_va : (-2147483648) ≤ va ∧ va ≤ 2147483647) (b_np : 0 ≤ np ∧ np ≤ 4) (b_tn : 0 ≤ tn ∧ tn ≤ 20) (b_pc_ : 0 ≤ pc_ ∧ pc_ ≤ 480) (b_st_ : 0 ≤ st_ ∧ st_ ≤ 240) (b_pa_ : (-1) ≤ pa_ ∧ pa_ ≤ 3) (b_ta : (-2147483648) ≤ ta ∧ ta ≤ 2147483647) (b_ow : (-2147483648) ≤ ow ∧ ow ≤ 2147483647) (b_of_ : (-2147483648) ≤ of_ ∧ of_ ≤ 2147483647) (b_ot : (-2147483648) ≤ ot ∧ ot ≤ 2147483647) (b_rl : 0 ≤ rl ∧ rl ≤ 2880) (b_hb : 0 ≤ hb ∧ hb ≤ 4) (b_bs : (-2147483648) ≤ bs ∧ bs ≤ 2147483647) (b_se : 0 ≤ se ∧ se ≤ 10) (hG : ∀ k, gG k rm.toNat = some (xA k)) (hwn : 1 ≤ Mw rm.toNat ∧ Mw rm.toNat ≤ 8) (hd : Mw rm.toNat - w ≤ 4) (hw : w ≤ Mw rm.toNat) (h_Mw : ∀ j, j < 7 → 0 ≤ Mw j ∧ Mw j ≤ 8) (h_Mo : ∀ j, j < 7 → 0 ≤ Mo j ∧ Mo j ≤ 8) (h_Ml : ∀ j, j < 8 → 0 ≤ Ml j ∧ Ml j ≤ 600) (h_Mow : ∀ j, j < 8 → 0 ≤ Mow j ∧ Mow j ≤ 7) (h_Mof : ∀ j, j < 8 → 0 ≤ Mof j ∧ Mof j ≤ 600) (h_Mot : ∀ j, j < 8 → 0 ≤ Mot j ∧ Mot j ≤ 600) (h_Md : ∀ j, j < 8 → 0 ≤ Md j ∧ Md j ≤ 1) (h_Bp : ∀ j, j < 4 → (-2147483648) ≤ Bp j ∧ Bp j ≤ 2147483647) (h_Br : ∀ j, j < 4 → (-2147483648) ≤ Br j ∧ Br j ≤ 2147483647) (h_Wo : ∀ j, j < 8 → (-2147483648) ≤ Wo j ∧ Wo j ≤ 2147483647) (h_Wf : ∀ j, j < 8 → (-2147483648) ≤ Wf j ∧ Wf j ≤ 2147483647) (h_Wb : ∀ j, j < 8 → (-2147483648) ≤ Wb j ∧ Wb j ≤ 2147483647) (h_Wg : ∀ j, j < 4 → (-2147483648) ≤ Wg j ∧ Wg j ≤ 2147483647) : Con l Z yX12_shares cX12_shares 5 none 5 120 0 0 [.ref g0, .int (iI rm), .int (iI w)] [(g0, .inr (12, mO gA nr tm at_ to_ fa va np tn pc_ st_ pa_ ta ow of_ ot rl hb bs se)), cA Z (gA 13) 0 7 Mw, cA Z (gA 14) 0 7 Mo, cR Z (gA 0) 6 7 (gG 0), cR Z (gA 4) 6 7 (gG 4), cR Z (gA 5) 6 7 (gG 5), cR Z (gA 6) 6 7 (gG 6), cR Z (gA 9) 6 7 (gG 9), cA Z (xA 0) 0 8 Ml, cA Z (xA 4) 0 8 Mow, cA Z (xA 5) 0 8 Mof, cA Z (xA 6) 0 8 Mot, cA Z (xA 9) 0 8 Md, cA Z (gA 58) 0 4 Bp, cA Z (gA 59) 0 4 Br, cA Z (gA 60) 0 8 Wo, cA Z (gA 61) 0 8 Wf, cA Z (gA 62) 0 8 Wb, cA Z (gA 63) 0 4 Wg] (fun r w' => ∃ (Wf2 : Nat → Int) (Wb2 : Nat → Int) (Wg2 : Nat → Int) (bs2 : Int), (r = none) ∧ (w' = [(g0, .inr (12, mO gA nr tm at_ to_ fa va np tn pc_ st_ pa_ ta ow of_ ot rl hb bs2 se)), cA Z (gA 13) 0 7 Mw, cA Z (gA 14) 0 7 Mo, cR Z (gA 0) 6 7 (gG 0), cR Z (gA 4) 6 7 (gG 4), cR Z (gA 5) 6 7 (gG 5), cR Z (gA 6) 6 7 (gG 6), cR Z (gA 9) 6 7 (gG 9), cA Z (xA 0) 0 8 Ml, cA Z (xA 4) 0 8 Mow, cA Z (xA 5) 0 8 Mof, cA Z (xA 6) 0 8 Mot, cA Z (xA 9) 0 8 Md, cA Z (gA 58) 0 4 Bp, cA Z (gA 59) 0 4 Br, cA Z (gA 60) 0 8 Wo, cA Z (gA 61) 0 8 Wf2, cA Z (gA 62) 0 8 Wb2, cA Z (gA 63) 0 4 Wg2]) ∧ ((-2147483648) ≤ bs2 ∧ bs2 ≤ 2147483647) ∧ (∀ j, j < 8 → (-2147483648) ≤ Wf2 j ∧ Wf2 j ≤ 2147483647) ∧ (∀ j, j < 8 → (-2147483648) ≤ Wb2 j ∧ Wb2 j ≤ 2147483647) ∧ (∀ j, j < 4 → (-2147483648) ≤ Wg2 j ∧ Wg2 j ≤ 2147483647)) := by
  refine enter (by decide) (Nat.le_of_ble_eq_true rfl) ?_
  intro p e s m args below meth c A X hnm hA
  have X : Cx p s m args meth c cX12_shares 5 none RX12 Z A := X
  refine g_as (pc' := 0) (lv' := [(0, .ref g0), (1, .int (iI rm)), (2, .int (iI w))]) (st' := []) (ws' := [(g0, .inr (12, mO gA nr tm at_ to_ fa va np tn pc_ st_ pa_ ta ow of_ ot rl hb bs se)), cA Z (gA 13) 0 7 Mw, cA Z (gA 14) 0 7 Mo, cR Z (gA 0) 6 7 (gG 0), cR Z (gA 4) 6 7 (gG 4), cR Z (gA 5) 6 7 (gG 5), cR Z (gA 6) 6 7 (gG 6), cR Z (gA 9) 6 7 (gG 9), cA Z (xA 0) 0 8 Ml, cA Z (xA 4) 0 8 Mow, cA Z (xA 5) 0 8 Mof, cA Z (xA 6) 0 8 Mot, cA Z (xA 9) 0 8 Md, cA Z (gA 58) 0 4 Bp, cA Z (gA 59) 0 4 Br, cA Z (gA 60) 0 8 Wo, cA Z (gA 61) 0 8 Wf, cA Z (gA 62) 0 8 Wb, cA Z (gA 63) 0 4 Wg]) rfl rfl rfl rfl ?_
  refine g_iload_n (pc := 0) X 2 rfl dX12_shares_0 ?_
  refine g_aload_n (pc := 1) X 0 rfl dX12_shares_1 ?_
  refine g_get (pc := 2) X inlX12 0 rfl rfl 13 (by decide) mw_8_1 rfl dX12_shares_2 ?_
  refine g_iload_n (pc := 5) X 1 rfl dX12_shares_5 ?_
  refine g_ialdI (pc := 6) X 1 rfl (b_rm.1) (Int.lt_of_le_of_lt b_rm.2 (by decide)) (Int.le_trans b_rm.2 (by decide)) dX12_shares_6 ?_
  refine g_nameI (fun y1 ey1 => ?_)
  have by1 : 0 ≤ y1 ∧ y1 ≤ 8 := by rw [ey1]; exact h_Mw _ (by (first | (clear b_nr b_tm b_at_ b_to_ b_fa b_va b_np b_tn b_pc_ b_st_ b_pa_ b_ta b_ow b_of_ b_ot b_rl b_hb b_bs b_se; omega) | omega))
  have ty1 : 1 ≤ y1 ∧ y1 ≤ 8 := by rw [ey1]; exact hwn
  refine g_icmp_neI (pc := 7) X 143 (by decide) (inRb b_w (by decide) (by decide)) (inRb by1 (by decide) (by decide)) dX12_shares_7 (fun c7 => ?_) (fun c7 => ?_)
  · refine g_iconst (pc := 143) X (iI 0) (by rfl) dX12_shares_143 ?_
    refine g_istore_n (pc := 144) X (i := 3) rfl (by decide) (lv' := [(3, .int (iI 0)), (0, .ref g0), (1, .int (iI rm)), (2, .int (iI w))]) rfl dX12_shares_144 ?_
    have loop145 : ∀ (fuel : Nat) (b3 : Int) (bs1 : Int) (Wf1 : Nat → Int) (Wb1 : Nat → Int) (Wg1 : Nat → Int), (0 ≤ b3 ∧ b3 ≤ 4) → ((-2147483648) ≤ bs1 ∧ bs1 ≤ 2147483647) → (∀ j, j < 8 → (-2147483648) ≤ Wf1 j ∧ Wf1 j ≤ 2147483647) → (∀ j, j < 8 → (-2147483648) ≤ Wb1 j ∧ Wb1 j ≤ 2147483647) → (∀ j, j < 4 → (-2147483648) ≤ Wg1 j ∧ Wg1 j ≤ 2147483647) → (5 - b3).toNat < fuel → Gs p l e ({ frames := 5, cells := 0, slots := 0, locals := 120 } : Room) s m args below meth c (MQ below (gPost Z [(g0, .inr (12, mO gA nr tm at_ to_ fa va np tn pc_ st_ pa_ ta ow of_ ot rl hb bs se)), cA Z (gA 13) 0 7 Mw, cA Z (gA 14) 0 7 Mo, cR Z (gA 0) 6 7 (gG 0), cR Z (gA 4) 6 7 (gG 4), cR Z (gA 5) 6 7 (gG 5), cR Z (gA 6) 6 7 (gG 6), cR Z (gA 9) 6 7 (gG 9), cA Z (xA 0) 0 8 Ml, cA Z (xA 4) 0 8 Mow, cA Z (xA 5) 0 8 Mof, cA Z (xA 6) 0 8 Mot, cA Z (xA 9) 0 8 Md, cA Z (gA 58) 0 4 Bp, cA Z (gA 59) 0 4 Br, cA Z (gA 60) 0 8 Wo, cA Z (gA 61) 0 8 Wf, cA Z (gA 62) 0 8 Wb, cA Z (gA 63) 0 4 Wg] s.heap.size (fun r w' => ∃ (Wf2 : Nat → Int) (Wb2 : Nat → Int) (Wg2 : Nat → Int) (bs2 : Int), (r = none) ∧ (w' = [(g0, .inr (12, mO gA nr tm at_ to_ fa va np tn pc_ st_ pa_ ta ow of_ ot rl hb bs2 se)), cA Z (gA 13) 0 7 Mw, cA Z (gA 14) 0 7 Mo, cR Z (gA 0) 6 7 (gG 0), cR Z (gA 4) 6 7 (gG 4), cR Z (gA 5) 6 7 (gG 5), cR Z (gA 6) 6 7 (gG 6), cR Z (gA 9) 6 7 (gG 9), cA Z (xA 0) 0 8 Ml, cA Z (xA 4) 0 8 Mow, cA Z (xA 5) 0 8 Mof, cA Z (xA 6) 0 8 Mot, cA Z (xA 9) 0 8 Md, cA Z (gA 58) 0 4 Bp, cA Z (gA 59) 0 4 Br, cA Z (gA 60) 0 8 Wo, cA Z (gA 61) 0 8 Wf2, cA Z (gA 62) 0 8 Wb2, cA Z (gA 63) 0 4 Wg2]) ∧ ((-2147483648) ≤ bs2 ∧ bs2 ≤ 2147483647) ∧ (∀ j, j < 8 → (-2147483648) ≤ Wf2 j ∧ Wf2 j ≤ 2147483647) ∧ (∀ j, j < 8 → (-2147483648) ≤ Wb2 j ∧ Wb2 j ≤ 2147483647) ∧ (∀ j, j < 4 → (-2147483648) ≤ Wg2 j ∧ Wg2 j ≤ 2147483647))) args s 0 0 (va_A [(g0, .inr (12, mO gA nr tm at_ to_ fa va np tn pc_ st_ pa_ ta ow of_ ot rl hb bs se)), cA Z (gA 13) 0 7 Mw, cA Z (gA 14) 0 7 Mo, cR Z (gA 0) 6 7 (gG 0), cR Z (gA 4) 6 7 (gG 4), cR Z (gA 5) 6 7 (gG 5), cR Z (gA 6) 6 7 (gG 6), cR Z (gA 9) 6 7 (gG 9), cA Z (xA 0) 0 8 Ml, cA Z (xA 4) 0 8 Mow, cA Z (xA 5) 0 8 Mof, cA Z (xA 6) 0 8 Mot, cA Z (xA 9) 0 8 Md, cA Z (gA 58) 0 4 Bp, cA Z (gA 59) 0 4 Br, cA Z (gA 60) 0 8 Wo, cA Z (gA 61) 0 8 Wf, cA Z (gA 62) 0 8 Wb, cA Z (gA 63) 0 4 Wg] s.heap.size)) Z A 5 0 0 145 [(3, .int (iI b3)), (0, .ref g0), (1, .int (iI rm)), (2, .int (iI w))] [] [(g0, .inr (12, mO gA nr tm at_ to_ fa va np tn pc_ st_ pa_ ta ow of_ ot rl hb bs1 se)), cA Z (gA 13) 0 7 Mw, cA Z (gA 14) 0 7 Mo, cR Z (gA 0) 6 7 (gG 0), cR Z (gA 4) 6 7 (gG 4), cR Z (gA 5) 6 7 (gG 5), cR Z (gA 6) 6 7 (gG 6), cR Z (gA 9) 6 7 (gG 9), cA Z (xA 0) 0 8 Ml, cA Z (xA 4) 0 8 Mow, cA Z (xA 5) 0 8 Mof, cA Z (xA 6) 0 8 Mot, cA Z (xA 9) 0 8 Md, cA Z (gA 58) 0 4 Bp, cA Z (gA 59) 0 4 Br, cA Z (gA 60) 0 8 Wo, cA Z (gA 61) 0 8 Wf1, cA Z (gA 62) 0 8 Wb1, cA Z (gA 63) 0 4 Wg1] := by
      intro fuel
      induction fuel with
      | zero => intro b3 bs1 Wf1 Wb1 Wg1 _ _ _ _ _ hm; exact absurd hm (Nat.not_lt_zero _)
      | succ fuel ih =>
        intro b3 bs1 Wf1 Wb1 Wg1 b_b3 b_bs1 h_Wf1 h_Wb1 h_Wg1 hm
        refine g_iload_n (pc := 145) X 0 rfl dX12_shares_145 ?_
        refine g_aload_n (pc := 146) X 1 rfl dX12_shares_146 ?_
        refine g_get (pc := 147) X inlX12 0 rfl rfl 64 (by decide) mw_47_13 rfl dX12_shares_147 ?_
        refine g_icmp_geI (pc := 150) X 242 (by decide) (inRb b_b3 (by decide) (by decide)) (inRb b_hb (by decide) (by decide)) dX12_shares_150 (fun c150 => ?_) (fun c150 => ?_)
        · exact g_vret (pc := 242) X hA (⟨Wf1, Wb1, Wg1, bs1, rfl, rfl, (b_bs1), (h_Wf1), (h_Wb1), (h_Wg1)⟩) (by decide) (by decide) dX12_shares_242
        · refine g_aload_n (pc := 153) X 1 rfl dX12_shares_153 ?_
          refine g_get (pc := 154) X inlX12 0 rfl rfl 58 (by decide) mw_9_9 rfl dX12_shares_154 ?_
          refine g_iload_n (pc := 157) X 0 rfl dX12_shares_157 ?_
          refine g_ialdI (pc := 158) X 13 rfl (b_b3.1) (by (first | (clear b_nr b_tm b_at_ b_to_ b_fa b_va b_np b_tn b_pc_ b_st_ b_pa_ b_ta b_ow b_of_ b_ot b_rl b_hb b_bs b_se; omega) | omega)) (Int.le_trans b_b3.2 (by decide)) dX12_shares_158 ?_
          refine g_nameI (fun y2 ey2 => ?_)
          have by2 : (-2147483648) ≤ y2 ∧ y2 ≤ 2147483647 := by rw [ey2]; exact h_Bp _ (by (first | (clear b_nr b_tm b_at_ b_to_ b_fa b_va b_np b_tn b_pc_ b_st_ b_pa_ b_ta b_ow b_of_ b_ot b_rl b_hb b_bs b_se; omega) | omega))
          refine g_aload_n (pc := 159) X 1 rfl dX12_shares_159 ?_
          refine g_get (pc := 160) X inlX12 0 rfl rfl 49 (by decide) mw_28_2 rfl dX12_shares_160 ?_
          refine g_icmp_neI (pc := 163) X 236 (by decide) by2 (inRb b_pa_ (by decide) (by decide)) dX12_shares_163 (fun c163 => ?_) (fun c163 => ?_)
          · refine g_iincI (pc := 236) X 0 rfl (by decide) (lv' := [(3, .int (iI (b3 + 1))), (0, .ref g0), (1, .int (iI rm)), (2, .int (iI w))]) rfl dX12_shares_236 ?_
            refine g_goto (pc := 239) X 145 (by decide) dX12_shares_239 ?_
            exact ih (b3 + 1) bs1 Wf1 Wb1 Wg1 (by (first | (clear b_nr b_tm b_at_ b_to_ b_fa b_va b_np b_tn b_pc_ b_st_ b_pa_ b_ta b_ow b_of_ b_ot b_rl b_hb b_bs b_se; omega) | omega)) (b_bs1) (h_Wf1) (h_Wb1) (h_Wg1) (by (first | (clear b_nr b_tm b_at_ b_to_ b_fa b_va b_np b_tn b_pc_ b_st_ b_pa_ b_ta b_ow b_of_ b_ot b_rl b_hb b_bs b_se; omega) | omega))
          · refine g_aload_n (pc := 166) X 1 rfl dX12_shares_166 ?_
            refine g_get (pc := 167) X inlX12 0 rfl rfl 63 (by decide) mw_9_14 rfl dX12_shares_167 ?_
            refine g_iload_n (pc := 170) X 0 rfl dX12_shares_170 ?_
            refine g_ialdI (pc := 171) X 18 rfl (b_b3.1) (by (first | (clear b_nr b_tm b_at_ b_to_ b_fa b_va b_np b_tn b_pc_ b_st_ b_pa_ b_ta b_ow b_of_ b_ot b_rl b_hb b_bs b_se; omega) | omega)) (Int.le_trans b_b3.2 (by decide)) dX12_shares_171 ?_
            refine g_nameI (fun y3 ey3 => ?_)
            have by3 : (-2147483648) ≤ y3 ∧ y3 ≤ 2147483647 := by rw [ey3]; exact h_Wg1 _ (by (first | (clear b_nr b_tm b_at_ b_to_ b_fa b_va b_np b_tn b_pc_ b_st_ b_pa_ b_ta b_ow b_of_ b_ot b_rl b_hb b_bs b_se; omega) | omega))
            refine g_aload_n (pc := 172) X 1 rfl dX12_shares_172 ?_
            refine g_get (pc := 173) X inlX12 0 rfl rfl 60 (by decide) mw_9_11 rfl dX12_shares_173 ?_
            refine g_iload_n (pc := 176) X 3 rfl dX12_shares_176 ?_
            refine g_ialdI (pc := 177) X 15 rfl (b_w.1) (by (first | (clear b_nr b_tm b_at_ b_to_ b_fa b_va b_np b_tn b_pc_ b_st_ b_pa_ b_ta b_ow b_of_ b_ot b_rl b_hb b_bs b_se; omega) | omega)) (Int.le_trans b_w.2 (by decide)) dX12_shares_177 ?_
            refine g_nameI (fun y4 ey4 => ?_)
            have by4 : (-2147483648) ≤ y4 ∧ y4 ≤ 2147483647 := by rw [ey4]; exact h_Wo _ (by (first | (clear b_nr b_tm b_at_ b_to_ b_fa b_va b_np b_tn b_pc_ b_st_ b_pa_ b_ta b_ow b_of_ b_ot b_rl b_hb b_bs b_se; omega) | omega))
            refine g_iaddI (pc := 178) X dX12_shares_178 ?_
            refine g_any (fun y5 by5 => ?_)
            refine g_aload_n (pc := 179) X 1 rfl dX12_shares_179 ?_
            refine g_get (pc := 180) X inlX12 0 rfl rfl 59 (by decide) mw_9_10 rfl dX12_shares_180 ?_
            refine g_iload_n (pc := 183) X 0 rfl dX12_shares_183 ?_
            refine g_ialdI (pc := 184) X 14 rfl (b_b3.1) (by (first | (clear b_nr b_tm b_at_ b_to_ b_fa b_va b_np b_tn b_pc_ b_st_ b_pa_ b_ta b_ow b_of_ b_ot b_rl b_hb b_bs b_se; omega) | omega)) (Int.le_trans b_b3.2 (by decide)) dX12_shares_184 ?_
            refine g_nameI (fun y6 ey6 => ?_)
            have by6 : (-2147483648) ≤ y6 ∧ y6 ≤ 2147483647 := by rw [ey6]; exact h_Br _ (by (first | (clear b_nr b_tm b_at_ b_to_ b_fa b_va b_np b_tn b_pc_ b_st_ b_pa_ b_ta b_ow b_of_ b_ot b_rl b_hb b_bs b_se; omega) | omega))
            refine g_icmp_leI (pc := 185) X 191 (by decide) by5 by6 dX12_shares_185 (fun c185 => ?_) (fun c185 => ?_)
            · refine g_aload_n (pc := 191) X 1 rfl dX12_shares_191 ?_
              refine g_get (pc := 192) X inlX12 0 rfl rfl 63 (by decide) mw_9_14 rfl dX12_shares_192 ?_
              refine g_iload_n (pc := 195) X 0 rfl dX12_shares_195 ?_
              refine g_dup2 (pc := 196) X rfl rfl dX12_shares_196 ?_
              refine g_ialdI (pc := 197) X 18 rfl (b_b3.1) (by (first | (clear b_nr b_tm b_at_ b_to_ b_fa b_va b_np b_tn b_pc_ b_st_ b_pa_ b_ta b_ow b_of_ b_ot b_rl b_hb b_bs b_se; omega) | omega)) (Int.le_trans b_b3.2 (by decide)) dX12_shares_197 ?_
              refine g_nameI (fun y7 ey7 => ?_)
              have by7 : (-2147483648) ≤ y7 ∧ y7 ≤ 2147483647 := by rw [ey7]; exact h_Wg1 _ (by (first | (clear b_nr b_tm b_at_ b_to_ b_fa b_va b_np b_tn b_pc_ b_st_ b_pa_ b_ta b_ow b_of_ b_ot b_rl b_hb b_bs b_se; omega) | omega))
              refine g_aload_n (pc := 198) X 1 rfl dX12_shares_198 ?_
              refine g_get (pc := 199) X inlX12 0 rfl rfl 60 (by decide) mw_9_11 rfl dX12_shares_199 ?_
              refine g_iload_n (pc := 202) X 3 rfl dX12_shares_202 ?_
              refine g_ialdI (pc := 203) X 15 rfl (b_w.1) (by (first | (clear b_nr b_tm b_at_ b_to_ b_fa b_va b_np b_tn b_pc_ b_st_ b_pa_ b_ta b_ow b_of_ b_ot b_rl b_hb b_bs b_se; omega) | omega)) (Int.le_trans b_w.2 (by decide)) dX12_shares_203 ?_
              refine g_nameI (fun y8 ey8 => ?_)
              have by8 : (-2147483648) ≤ y8 ∧ y8 ≤ 2147483647 := by rw [ey8]; exact h_Wo _ (by (first | (clear b_nr b_tm b_at_ b_to_ b_fa b_va b_np b_tn b_pc_ b_st_ b_pa_ b_ta b_ow b_of_ b_ot b_rl b_hb b_bs b_se; omega) | omega))
              refine g_iaddI (pc := 204) X dX12_shares_204 ?_
              refine g_any (fun y9 by9 => ?_)
              refine g_iastG (pc := 205) X 18 rfl (b_b3.1) (by (first | (clear b_nr b_tm b_at_ b_to_ b_fa b_va b_np b_tn b_pc_ b_st_ b_pa_ b_ta b_ow b_of_ b_ot b_rl b_hb b_bs b_se; omega) | omega)) (Int.le_trans b_b3.2 (by decide)) (ws' := fun F10 => [(g0, .inr (12, mO gA nr tm at_ to_ fa va np tn pc_ st_ pa_ ta ow of_ ot rl hb bs1 se)), cA Z (gA 13) 0 7 Mw, cA Z (gA 14) 0 7 Mo, cR Z (gA 0) 6 7 (gG 0), cR Z (gA 4) 6 7 (gG 4), cR Z (gA 5) 6 7 (gG 5), cR Z (gA 6) 6 7 (gG 6), cR Z (gA 9) 6 7 (gG 9), cA Z (xA 0) 0 8 Ml, cA Z (xA 4) 0 8 Mow, cA Z (xA 5) 0 8 Mof, cA Z (xA 6) 0 8 Mot, cA Z (xA 9) 0 8 Md, cA Z (gA 58) 0 4 Bp, cA Z (gA 59) 0 4 Br, cA Z (gA 60) 0 8 Wo, cA Z (gA 61) 0 8 Wf1, cA Z (gA 62) 0 8 Wb1, cA Z (gA 63) 0 4 F10]) (fun _ => rfl) dX12_shares_205 (fun F10 eF10 => ?_)
              have hF10 : ∀ j, j < 4 → (-2147483648) ≤ F10 j ∧ F10 j ≤ 2147483647 := by rw [eF10]; exact updI_B h_Wg1 (by (first | (clear b_nr b_tm b_at_ b_to_ b_fa b_va b_np b_tn b_pc_ b_st_ b_pa_ b_ta b_ow b_of_ b_ot b_rl b_hb b_bs b_se; omega) | omega))
              refine g_aload_n (pc := 206) X 1 rfl dX12_shares_206 ?_
              refine g_get (pc := 207) X inlX12 0 rfl rfl 61 (by decide) mw_9_12 rfl dX12_shares_207 ?_
              refine g_iload_n (pc := 210) X 3 rfl dX12_shares_210 ?_
              refine g_iload_n (pc := 211) X 0 rfl dX12_shares_211 ?_
              refine g_iastG (pc := 212) X 16 rfl (b_w.1) (by (first | (clear b_nr b_tm b_at_ b_to_ b_fa b_va b_np b_tn b_pc_ b_st_ b_pa_ b_ta b_ow b_of_ b_ot b_rl b_hb b_bs b_se; omega) | omega)) (Int.le_trans b_w.2 (by decide)) (ws' := fun F11 => [(g0, .inr (12, mO gA nr tm at_ to_ fa va np tn pc_ st_ pa_ ta ow of_ ot rl hb bs1 se)), cA Z (gA 13) 0 7 Mw, cA Z (gA 14) 0 7 Mo, cR Z (gA 0) 6 7 (gG 0), cR Z (gA 4) 6 7 (gG 4), cR Z (gA 5) 6 7 (gG 5), cR Z (gA 6) 6 7 (gG 6), cR Z (gA 9) 6 7 (gG 9), cA Z (xA 0) 0 8 Ml, cA Z (xA 4) 0 8 Mow, cA Z (xA 5) 0 8 Mof, cA Z (xA 6) 0 8 Mot, cA Z (xA 9) 0 8 Md, cA Z (gA 58) 0 4 Bp, cA Z (gA 59) 0 4 Br, cA Z (gA 60) 0 8 Wo, cA Z (gA 61) 0 8 F11, cA Z (gA 62) 0 8 Wb1, cA Z (gA 63) 0 4 F10]) (fun _ => rfl) dX12_shares_212 (fun F11 eF11 => ?_)
              have hF11 : ∀ j, j < 8 → (-2147483648) ≤ F11 j ∧ F11 j ≤ 2147483647 := by rw [eF11]; exact updI_B h_Wf1 (by (first | (clear b_nr b_tm b_at_ b_to_ b_fa b_va b_np b_tn b_pc_ b_st_ b_pa_ b_ta b_ow b_of_ b_ot b_rl b_hb b_bs b_se; omega) | omega))
              refine g_aload_n (pc := 213) X 1 rfl dX12_shares_213 ?_
              refine g_iload_n (pc := 214) X 2 rfl dX12_shares_214 ?_
              refine g_iload_n (pc := 215) X 3 rfl dX12_shares_215 ?_
              refine g_iconst (pc := 216) X (iI 1) (by rfl) dX12_shares_216 ?_
              refine g_iaddI (pc := 217) X dX12_shares_217 ?_
              refine g_callV (pc := 218) X (k_X12_shares3 l Z g0 gA gG xA Mw Mo Ml Mow Mof Mot Md Bp Br Wo F11 Wb1 F10 rm (w + 1) nr tm at_ to_ fa va np tn pc_ st_ pa_ ta ow of_ ot rl hb bs1 se b_rm (by (first | (clear b_nr b_tm b_at_ b_to_ b_fa b_va b_np b_tn b_pc_ b_st_ b_pa_ b_ta b_ow b_of_ b_ot b_rl b_hb b_bs b_se; omega) | omega)) b_nr b_tm b_at_ b_to_ b_fa b_va b_np b_tn b_pc_ b_st_ b_pa_ b_ta b_ow b_of_ b_ot b_rl b_hb b_bs1 b_se (hG) (by (first | (clear b_nr b_tm b_at_ b_to_ b_fa b_va b_np b_tn b_pc_ b_st_ b_pa_ b_ta b_ow b_of_ b_ot b_rl b_hb b_bs b_se; omega) | omega)) (by (first | (clear b_nr b_tm b_at_ b_to_ b_fa b_va b_np b_tn b_pc_ b_st_ b_pa_ b_ta b_ow b_of_ b_ot b_rl b_hb b_bs b_se; omega) | omega)) (by (first | (clear b_nr b_tm b_at_ b_to_ b_fa b_va b_np b_tn b_pc_ b_st_ b_pa_ b_ta b_ow b_of_ b_ot b_rl b_hb b_bs b_se; omega) | omega)) (h_Mw) (h_Mo) (h_Ml) (h_Mow) (h_Mof) (h_Mot) (h_Md) (h_Bp) (h_Br) (h_Wo) (hF11) (h_Wb1) (hF10)) iM_X12_shares mw_50_2 mw_50_3 mw_50_4 0 rfl rfl [0, 1, 2, 3, 4, 5, 6, 7, 8, 9, 10, 11, 12, 13, 14, 15, 16, 17, 18] [] rfl (wr := []) rfl (by decide) rfl rfl (Nat.le_of_ble_eq_true rfl) (by decide) dX12_shares_218 (fun r w' hpo => ?_)
              refine exN_4 hpo fun F12 F13 F14 y15 hz => anD_6 hz fun e_r e_w hf218_b_bs2 hf218_h_Wf2 hf218_h_Wb2 hf218_h_Wg2 => ?_; clear hz hpo; subst e_r; subst e_w
              refine g_as (pc' := 221) (lv' := [(3, .int (iI b3)), (0, .ref g0), (1, .int (iI rm)), (2, .int (iI w))]) (st' := []) (ws' := [(g0, .inr (12, mO gA nr tm at_ to_ fa va np tn pc_ st_ pa_ ta ow of_ ot rl hb y15 se)), cA Z (gA 13) 0 7 Mw, cA Z (gA 14) 0 7 Mo, cR Z (gA 0) 6 7 (gG 0), cR Z (gA 4) 6 7 (gG 4), cR Z (gA 5) 6 7 (gG 5), cR Z (gA 6) 6 7 (gG 6), cR Z (gA 9) 6 7 (gG 9), cA Z (xA 0) 0 8 Ml, cA Z (xA 4) 0 8 Mow, cA Z (xA 5) 0 8 Mof, cA Z (xA 6) 0 8 Mot, cA Z (xA 9) 0 8 Md, cA Z (gA 58) 0 4 Bp, cA Z (gA 59) 0 4 Br, cA Z (gA 60) 0 8 Wo, cA Z (gA 61) 0 8 F12, cA Z (gA 62) 0 8 F13, cA Z (gA 63) 0 4 F14]) rfl rfl rfl rfl ?_
              refine g_aload_n (pc := 221) X 1 rfl dX12_shares_221 ?_
              refine g_get (pc := 222) X inlX12 0 rfl rfl 63 (by decide) mw_9_14 rfl dX12_shares_222 ?_
              refine g_iload_n (pc := 225) X 0 rfl dX12_shares_225 ?_
              refine g_dup2 (pc := 226) X rfl rfl dX12_shares_226 ?_
              refine g_ialdI (pc := 227) X 18 rfl (b_b3.1) (by (first | (clear b_nr b_tm b_at_ b_to_ b_fa b_va b_np b_tn b_pc_ b_st_ b_pa_ b_ta b_ow b_of_ b_ot b_rl b_hb b_bs b_se; omega) | omega)) (Int.le_trans b_b3.2 (by decide)) dX12_shares_227 ?_
              refine g_nameI (fun y17 ey17 => ?_)
              have by17 : (-2147483648) ≤ y17 ∧ y17 ≤ 2147483647 := by rw [ey17]; exact hf218_h_Wg2 _ (by (first | (clear b_nr b_tm b_at_ b_to_ b_fa b_va b_np b_tn b_pc_ b_st_ b_pa_ b_ta b_ow b_of_ b_ot b_rl b_hb b_bs b_se; omega) | omega))
              refine g_aload_n (pc := 228) X 1 rfl dX12_shares_228 ?_
              refine g_get (pc := 229) X inlX12 0 rfl rfl 60 (by decide) mw_9_11 rfl dX12_shares_229 ?_
              refine g_iload_n (pc := 232) X 3 rfl dX12_shares_232 ?_
              refine g_ialdI (pc := 233) X 15 rfl (b_w.1) (by (first | (clear b_nr b_tm b_at_ b_to_ b_fa b_va b_np b_tn b_pc_ b_st_ b_pa_ b_ta b_ow b_of_ b_ot b_rl b_hb b_bs b_se; omega) | omega)) (Int.le_trans b_w.2 (by decide)) dX12_shares_233 ?_
              refine g_nameI (fun y18 ey18 => ?_)
              have by18 : (-2147483648) ≤ y18 ∧ y18 ≤ 2147483647 := by rw [ey18]; exact h_Wo _ (by (first | (clear b_nr b_tm b_at_ b_to_ b_fa b_va b_np b_tn b_pc_ b_st_ b_pa_ b_ta b_ow b_of_ b_ot b_rl b_hb b_bs b_se; omega) | omega))
              refine g_isubI (pc := 234) X dX12_shares_234 ?_
              refine g_any (fun y19 by19 => ?_)
              refine g_iastG (pc := 235) X 18 rfl (b_b3.1) (by (first | (clear b_nr b_tm b_at_ b_to_ b_fa b_va b_np b_tn b_pc_ b_st_ b_pa_ b_ta b_ow b_of_ b_ot b_rl b_hb b_bs b_se; omega) | omega)) (Int.le_trans b_b3.2 (by decide)) (ws' := fun F20 => [(g0, .inr (12, mO gA nr tm at_ to_ fa va np tn pc_ st_ pa_ ta ow of_ ot rl hb y15 se)), cA Z (gA 13) 0 7 Mw, cA Z (gA 14) 0 7 Mo, cR Z (gA 0) 6 7 (gG 0), cR Z (gA 4) 6 7 (gG 4), cR Z (gA 5) 6 7 (gG 5), cR Z (gA 6) 6 7 (gG 6), cR Z (gA 9) 6 7 (gG 9), cA Z (xA 0) 0 8 Ml, cA Z (xA 4) 0 8 Mow, cA Z (xA 5) 0 8 Mof, cA Z (xA 6) 0 8 Mot, cA Z (xA 9) 0 8 Md, cA Z (gA 58) 0 4 Bp, cA Z (gA 59) 0 4 Br, cA Z (gA 60) 0 8 Wo, cA Z (gA 61) 0 8 F12, cA Z (gA 62) 0 8 F13, cA Z (gA 63) 0 4 F20]) (fun _ => rfl) dX12_shares_235 (fun F20 eF20 => ?_)
              have hF20 : ∀ j, j < 4 → (-2147483648) ≤ F20 j ∧ F20 j ≤ 2147483647 := by rw [eF20]; exact updI_B hf218_h_Wg2 (by (first | (clear b_nr b_tm b_at_ b_to_ b_fa b_va b_np b_tn b_pc_ b_st_ b_pa_ b_ta b_ow b_of_ b_ot b_rl b_hb b_bs b_se; omega) | omega))
              refine g_iincI (pc := 236) X 0 rfl (by decide) (lv' := [(3, .int (iI (b3 + 1))), (0, .ref g0), (1, .int (iI rm)), (2, .int (iI w))]) rfl dX12_shares_236 ?_
              refine g_goto (pc := 239) X 145 (by decide) dX12_shares_239 ?_
              exact ih (b3 + 1) y15 F12 F13 F20 (by (first | (clear b_nr b_tm b_at_ b_to_ b_fa b_va b_np b_tn b_pc_ b_st_ b_pa_ b_ta b_ow b_of_ b_ot b_rl b_hb b_bs b_se; omega) | omega)) (hf218_b_bs2) (hf218_h_Wf2) (hf218_h_Wb2) (hF20) (by (first | (clear b_nr b_tm b_at_ b_to_ b_fa b_va b_np b_tn b_pc_ b_st_ b_pa_ b_ta b_ow b_of_ b_ot b_rl b_hb b_bs b_se; omega) | omega))
            · refine g_goto (pc := 188) X 236 (by decide) dX12_shares_188 ?_
              refine g_iincI (pc := 236) X 0 rfl (by decide) (lv' := [(3, .int (iI (b3 + 1))), (0, .ref g0), (1, .int (iI rm)), (2, .int (iI w))]) rfl dX12_shares_236 ?_
              refine g_goto (pc := 239) X 145 (by decide) dX12_shares_239 ?_
              exact ih (b3 + 1) bs1 Wf1 Wb1 Wg1 (by (first | (clear b_nr b_tm b_at_ b_to_ b_fa b_va b_np b_tn b_pc_ b_st_ b_pa_ b_ta b_ow b_of_ b_ot b_rl b_hb b_bs b_se; omega) | omega)) (b_bs1) (h_Wf1) (h_Wb1) (h_Wg1) (by (first | (clear b_nr b_tm b_at_ b_to_ b_fa b_va b_np b_tn b_pc_ b_st_ b_pa_ b_ta b_ow b_of_ b_ot b_rl b_hb b_bs b_se; omega) | omega))
    exact loop145 _ 0 bs Wf Wb Wg (by (first | (clear b_nr b_tm b_at_ b_to_ b_fa b_va b_np b_tn b_pc_ b_st_ b_pa_ b_ta b_ow b_of_ b_ot b_rl b_hb b_bs b_se; omega) | omega)) (b_bs) (h_Wf) (h_Wb) (h_Wg) (Nat.lt_succ_self _)
  · refine g_iconst (pc := 10) X (iI 0) (by rfl) dX12_shares_10 ?_
    refine g_istore_n (pc := 11) X (i := 3) rfl (by decide) (lv' := [(3, .int (iI 0)), (0, .ref g0), (1, .int (iI rm)), (2, .int (iI w))]) rfl dX12_shares_11 ?_
    refine g_iconst (pc := 12) X (iI 0) (by rfl) dX12_shares_12 ?_
    refine g_istore (pc := 13) X (by decide) (lv' := [(4, .int (iI 0)), (3, .int (iI 0)), (0, .ref g0), (1, .int (iI rm)), (2, .int (iI w))]) rfl dX12_shares_13 ?_
    have loop15 : ∀ (fuel : Nat) (n1 : Int) (k1 : Int), ((-2147483648) ≤ n1 ∧ n1 ≤ 2147483647) → (0 ≤ k1 ∧ k1 ≤ 8) → (9 - k1).toNat < fuel → Gs p l e ({ frames := 5, cells := 0, slots := 0, locals := 120 } : Room) s m args below meth c (MQ below (gPost Z [(g0, .inr (12, mO gA nr tm at_ to_ fa va np tn pc_ st_ pa_ ta ow of_ ot rl hb bs se)), cA Z (gA 13) 0 7 Mw, cA Z (gA 14) 0 7 Mo, cR Z (gA 0) 6 7 (gG 0), cR Z (gA 4) 6 7 (gG 4), cR Z (gA 5) 6 7 (gG 5), cR Z (gA 6) 6 7 (gG 6), cR Z (gA 9) 6 7 (gG 9), cA Z (xA 0) 0 8 Ml, cA Z (xA 4) 0 8 Mow, cA Z (xA 5) 0 8 Mof, cA Z (xA 6) 0 8 Mot, cA Z (xA 9) 0 8 Md, cA Z (gA 58) 0 4 Bp, cA Z (gA 59) 0 4 Br, cA Z (gA 60) 0 8 Wo, cA Z (gA 61) 0 8 Wf, cA Z (gA 62) 0 8 Wb, cA Z (gA 63) 0 4 Wg] s.heap.size (fun r w' => ∃ (Wf2 : Nat → Int) (Wb2 : Nat → Int) (Wg2 : Nat → Int) (bs2 : Int), (r = none) ∧ (w' = [(g0, .inr (12, mO gA nr tm at_ to_ fa va np tn pc_ st_ pa_ ta ow of_ ot rl hb bs2 se)), cA Z (gA 13) 0 7 Mw, cA Z (gA 14) 0 7 Mo, cR Z (gA 0) 6 7 (gG 0), cR Z (gA 4) 6 7 (gG 4), cR Z (gA 5) 6 7 (gG 5), cR Z (gA 6) 6 7 (gG 6), cR Z (gA 9) 6 7 (gG 9), cA Z (xA 0) 0 8 Ml, cA Z (xA 4) 0 8 Mow, cA Z (xA 5) 0 8 Mof, cA Z (xA 6) 0 8 Mot, cA Z (xA 9) 0 8 Md, cA Z (gA 58) 0 4 Bp, cA Z (gA 59) 0 4 Br, cA Z (gA 60) 0 8 Wo, cA Z (gA 61) 0 8 Wf2, cA Z (gA 62) 0 8 Wb2, cA Z (gA 63) 0 4 Wg2]) ∧ ((-2147483648) ≤ bs2 ∧ bs2 ≤ 2147483647) ∧ (∀ j, j < 8 → (-2147483648) ≤ Wf2 j ∧ Wf2 j ≤ 2147483647) ∧ (∀ j, j < 8 → (-2147483648) ≤ Wb2 j ∧ Wb2 j ≤ 2147483647) ∧ (∀ j, j < 4 → (-2147483648) ≤ Wg2 j ∧ Wg2 j ≤ 2147483647))) args s 0 0 (va_A [(g0, .inr (12, mO gA nr tm at_ to_ fa va np tn pc_ st_ pa_ ta ow of_ ot rl hb bs se)), cA Z (gA 13) 0 7 Mw, cA Z (gA 14) 0 7 Mo, cR Z (gA 0) 6 7 (gG 0), cR Z (gA 4) 6 7 (gG 4), cR Z (gA 5) 6 7 (gG 5), cR Z (gA 6) 6 7 (gG 6), cR Z (gA 9) 6 7 (gG 9), cA Z (xA 0) 0 8 Ml, cA Z (xA 4) 0 8 Mow, cA Z (xA 5) 0 8 Mof, cA Z (xA 6) 0 8 Mot, cA Z (xA 9) 0 8 Md, cA Z (gA 58) 0 4 Bp, cA Z (gA 59) 0 4 Br, cA Z (gA 60) 0 8 Wo, cA Z (gA 61) 0 8 Wf, cA Z (gA 62) 0 8 Wb, cA Z (gA 63) 0 4 Wg] s.heap.size)) Z A 5 0 0 15 [(4, .int (iI k1)), (3, .int (iI n1)), (0, .ref g0), (1, .int (iI rm)), (2, .int (iI w))] [] [(g0, .inr (12, mO gA nr tm at_ to_ fa va np tn pc_ st_ pa_ ta ow of_ ot rl hb bs se)), cA Z (gA 13) 0 7 Mw, cA Z (gA 14) 0 7 Mo, cR Z (gA 0) 6 7 (gG 0), cR Z (gA 4) 6 7 (gG 4), cR Z (gA 5) 6 7 (gG 5), cR Z (gA 6) 6 7 (gG 6), cR Z (gA 9) 6 7 (gG 9), cA Z (xA 0) 0 8 Ml, cA Z (xA 4) 0 8 Mow, cA Z (xA 5) 0 8 Mof, cA Z (xA 6) 0 8 Mot, cA Z (xA 9) 0 8 Md, cA Z (gA 58) 0 4 Bp, cA Z (gA 59) 0 4 Br, cA Z (gA 60) 0 8 Wo, cA Z (gA 61) 0 8 Wf, cA Z (gA 62) 0 8 Wb, cA Z (gA 63) 0 4 Wg] := by
      intro fuel
      induction fuel with
      | zero => intro n1 k1 _ _ hm; exact absurd hm (Nat.not_lt_zero _)
      | succ fuel ih =>
        intro n1 k1 b_n1 b_k1 hm
        refine g_iload (pc := 15) X 0 rfl dX12_shares_15 ?_
        refine g_aload_n (pc := 17) X 2 rfl dX12_shares_17 ?_
        refine g_get (pc := 18) X inlX12 0 rfl rfl 13 (by decide) mw_8_1 rfl dX12_shares_18 ?_
        refine g_iload_n (pc := 21) X 3 rfl dX12_shares_21 ?_
        refine g_ialdI (pc := 22) X 1 rfl (b_rm.1) (Int.lt_of_le_of_lt b_rm.2 (by decide)) (Int.le_trans b_rm.2 (by decide)) dX12_shares_22 ?_
        refine g_nameI (fun y21 ey21 => ?_)
        have by21 : 0 ≤ y21 ∧ y21 ≤ 8 := by rw [ey21]; exact h_Mw _ (by (first | (clear b_nr b_tm b_at_ b_to_ b_fa b_va b_np b_tn b_pc_ b_st_ b_pa_ b_ta b_ow b_of_ b_ot b_rl b_hb b_bs b_se; omega) | omega))
        have ty21 : 1 ≤ y21 ∧ y21 ≤ 8 := by rw [ey21]; exact hwn
        refine g_icmp_geI (pc := 23) X 86 (by decide) (inRb b_k1 (by decide) (by decide)) (inRb by21 (by decide) (by decide)) dX12_shares_23 (fun c23 => ?_) (fun c23 => ?_)
        · refine g_aload_n (pc := 86) X 2 rfl dX12_shares_86 ?_
          refine g_get (pc := 87) X inlX12 0 rfl rfl 65 (by decide) mw_49_21 rfl dX12_shares_87 ?_
          refine g_iconst (pc := 90) X (iI (-1)) (by rfl) dX12_shares_90 ?_
          refine g_icmp_eqI (pc := 91) X 103 (by decide) b_bs ⟨by decide, by decide⟩ dX12_shares_91 (fun c91 => ?_) (fun c91 => ?_)
          · refine g_aload_n (pc := 103) X 2 rfl dX12_shares_103 ?_
            refine g_iload_n (pc := 104) X 1 rfl dX12_shares_104 ?_
            refine g_put (pc := 105) X inlX12 tyX12_ok nmX12 0 rfl rfl 65 (by decide) mw_49_21 rfl rfl rfl (Nat.le_of_ble_eq_true rfl) (ws' := [(g0, .inr (12, mO gA nr tm at_ to_ fa va np tn pc_ st_ pa_ ta ow of_ ot rl hb n1 se)), cA Z (gA 13) 0 7 Mw, cA Z (gA 14) 0 7 Mo, cR Z (gA 0) 6 7 (gG 0), cR Z (gA 4) 6 7 (gG 4), cR Z (gA 5) 6 7 (gG 5), cR Z (gA 6) 6 7 (gG 6), cR Z (gA 9) 6 7 (gG 9), cA Z (xA 0) 0 8 Ml, cA Z (xA 4) 0 8 Mow, cA Z (xA 5) 0 8 Mof, cA Z (xA 6) 0 8 Mot, cA Z (xA 9) 0 8 Md, cA Z (gA 58) 0 4 Bp, cA Z (gA 59) 0 4 Br, cA Z (gA 60) 0 8 Wo, cA Z (gA 61) 0 8 Wf, cA Z (gA 62) 0 8 Wb, cA Z (gA 63) 0 4 Wg]) rfl dX12_shares_105 ?_
            refine g_iconst (pc := 108) X (iI 0) (by rfl) dX12_shares_108 ?_
            refine g_istore (pc := 109) X (by decide) (lv' := [(4, .int (iI 0)), (3, .int (iI n1)), (0, .ref g0), (1, .int (iI rm)), (2, .int (iI w))]) rfl dX12_shares_109 ?_
            have loop111 : ∀ (fuel : Nat) (k2 : Int) (Wb1 : Nat → Int), (0 ≤ k2 ∧ k2 ≤ 8) → (∀ j, j < 8 → (-2147483648) ≤ Wb1 j ∧ Wb1 j ≤ 2147483647) → (9 - k2).toNat < fuel → Gs p l e ({ frames := 5, cells := 0, slots := 0, locals := 120 } : Room) s m args below meth c (MQ below (gPost Z [(g0, .inr (12, mO gA nr tm at_ to_ fa va np tn pc_ st_ pa_ ta ow of_ ot rl hb bs se)), cA Z (gA 13) 0 7 Mw, cA Z (gA 14) 0 7 Mo, cR Z (gA 0) 6 7 (gG 0), cR Z (gA 4) 6 7 (gG 4), cR Z (gA 5) 6 7 (gG 5), cR Z (gA 6) 6 7 (gG 6), cR Z (gA 9) 6 7 (gG 9), cA Z (xA 0) 0 8 Ml, cA Z (xA 4) 0 8 Mow, cA Z (xA 5) 0 8 Mof, cA Z (xA 6) 0 8 Mot, cA Z (xA 9) 0 8 Md, cA Z (gA 58) 0 4 Bp, cA Z (gA 59) 0 4 Br, cA Z (gA 60) 0 8 Wo, cA Z (gA 61) 0 8 Wf, cA Z (gA 62) 0 8 Wb, cA Z (gA 63) 0 4 Wg] s.heap.size (fun r w' => ∃ (Wf2 : Nat → Int) (Wb2 : Nat → Int) (Wg2 : Nat → Int) (bs2 : Int), (r = none) ∧ (w' = [(g0, .inr (12, mO gA nr tm at_ to_ fa va np tn pc_ st_ pa_ ta ow of_ ot rl hb bs2 se)), cA Z (gA 13) 0 7 Mw, cA Z (gA 14) 0 7 Mo, cR Z (gA 0) 6 7 (gG 0), cR Z (gA 4) 6 7 (gG 4), cR Z (gA 5) 6 7 (gG 5), cR Z (gA 6) 6 7 (gG 6), cR Z (gA 9) 6 7 (gG 9), cA Z (xA 0) 0 8 Ml, cA Z (xA 4) 0 8 Mow, cA Z (xA 5) 0 8 Mof, cA Z (xA 6) 0 8 Mot, cA Z (xA 9) 0 8 Md, cA Z (gA 58) 0 4 Bp, cA Z (gA 59) 0 4 Br, cA Z (gA 60) 0 8 Wo, cA Z (gA 61) 0 8 Wf2, cA Z (gA 62) 0 8 Wb2, cA Z (gA 63) 0 4 Wg2]) ∧ ((-2147483648) ≤ bs2 ∧ bs2 ≤ 2147483647) ∧ (∀ j, j < 8 → (-2147483648) ≤ Wf2 j ∧ Wf2 j ≤ 2147483647) ∧ (∀ j, j < 8 → (-2147483648) ≤ Wb2 j ∧ Wb2 j ≤ 2147483647) ∧ (∀ j, j < 4 → (-2147483648) ≤ Wg2 j ∧ Wg2 j ≤ 2147483647))) args s 0 0 (va_A [(g0, .inr (12, mO gA nr tm at_ to_ fa va np tn pc_ st_ pa_ ta ow of_ ot rl hb bs se)), cA Z (gA 13) 0 7 Mw, cA Z (gA 14) 0 7 Mo, cR Z (gA 0) 6 7 (gG 0), cR Z (gA 4) 6 7 (gG 4), cR Z (gA 5) 6 7 (gG 5), cR Z (gA 6) 6 7 (gG 6), cR Z (gA 9) 6 7 (gG 9), cA Z (xA 0) 0 8 Ml, cA Z (xA 4) 0 8 Mow, cA Z (xA 5) 0 8 Mof, cA Z (xA 6) 0 8 Mot, cA Z (xA 9) 0 8 Md, cA Z (gA 58) 0 4 Bp, cA Z (gA 59) 0 4 Br, cA Z (gA 60) 0 8 Wo, cA Z (gA 61) 0 8 Wf, cA Z (gA 62) 0 8 Wb, cA Z (gA 63) 0 4 Wg] s.heap.size)) Z A 5 0 0 111 [(4, .int (iI k2)), (3, .int (iI n1)), (0, .ref g0), (1, .int (iI rm)), (2, .int (iI w))] [] [(g0, .inr (12, mO gA nr tm at_ to_ fa va np tn pc_ st_ pa_ ta ow of_ ot rl hb n1 se)), cA Z (gA 13) 0 7 Mw, cA Z (gA 14) 0 7 Mo, cR Z (gA 0) 6 7 (gG 0), cR Z (gA 4) 6 7 (gG 4), cR Z (gA 5) 6 7 (gG 5), cR Z (gA 6) 6 7 (gG 6), cR Z (gA 9) 6 7 (gG 9), cA Z (xA 0) 0 8 Ml, cA Z (xA 4) 0 8 Mow, cA Z (xA 5) 0 8 Mof, cA Z (xA 6) 0 8 Mot, cA Z (xA 9) 0 8 Md, cA Z (gA 58) 0 4 Bp, cA Z (gA 59) 0 4 Br, cA Z (gA 60) 0 8 Wo, cA Z (gA 61) 0 8 Wf, cA Z (gA 62) 0 8 Wb1, cA Z (gA 63) 0 4 Wg] := by
              intro fuel
              induction fuel with
              | zero => intro k2 Wb1 _ _ hm; exact absurd hm (Nat.not_lt_zero _)
              | succ fuel ih =>
                intro k2 Wb1 b_k2 h_Wb1 hm
                refine g_iload (pc := 111) X 0 rfl dX12_shares_111 ?_
                refine g_aload_n (pc := 113) X 2 rfl dX12_shares_113 ?_
                refine g_get (pc := 114) X inlX12 0 rfl rfl 13 (by decide) mw_8_1 rfl dX12_shares_114 ?_
                refine g_iload_n (pc := 117) X 3 rfl dX12_shares_117 ?_
                refine g_ialdI (pc := 118) X 1 rfl (b_rm.1) (Int.lt_of_le_of_lt b_rm.2 (by decide)) (Int.le_trans b_rm.2 (by decide)) dX12_shares_118 ?_
                refine g_nameI (fun y22 ey22 => ?_)
                have by22 : 0 ≤ y22 ∧ y22 ≤ 8 := by rw [ey22]; exact h_Mw _ (by (first | (clear b_nr b_tm b_at_ b_to_ b_fa b_va b_np b_tn b_pc_ b_st_ b_pa_ b_ta b_ow b_of_ b_ot b_rl b_hb b_bs b_se; omega) | omega))
                have ty22 : 1 ≤ y22 ∧ y22 ≤ 8 := by rw [ey22]; exact hwn
                refine g_icmp_geI (pc := 119) X 142 (by decide) (inRb b_k2 (by decide) (by decide)) (inRb by22 (by decide) (by decide)) dX12_shares_119 (fun c119 => ?_) (fun c119 => ?_)
                · exact g_vret (pc := 142) X hA (⟨Wf, Wb1, Wg, n1, rfl, rfl, (b_n1), (h_Wf), (h_Wb1), (h_Wg)⟩) (by decide) (by decide) dX12_shares_142
                · refine g_aload_n (pc := 122) X 2 rfl dX12_shares_122 ?_
                  refine g_get (pc := 123) X inlX12 0 rfl rfl 62 (by decide) mw_9_13 rfl dX12_shares_123 ?_
                  refine g_iload (pc := 126) X 0 rfl dX12_shares_126 ?_
                  refine g_aload_n (pc := 128) X 2 rfl dX12_shares_128 ?_
                  refine g_get (pc := 129) X inlX12 0 rfl rfl 61 (by decide) mw_9_12 rfl dX12_shares_129 ?_
                  refine g_iload (pc := 132) X 0 rfl dX12_shares_132 ?_
                  refine g_ialdI (pc := 134) X 16 rfl (b_k2.1) (by (first | (clear b_nr b_tm b_at_ b_to_ b_fa b_va b_np b_tn b_pc_ b_st_ b_pa_ b_ta b_ow b_of_ b_ot b_rl b_hb b_bs b_se; omega) | omega)) (Int.le_trans b_k2.2 (by decide)) dX12_shares_134 ?_
                  refine g_nameI (fun y23 ey23 => ?_)
                  have by23 : (-2147483648) ≤ y23 ∧ y23 ≤ 2147483647 := by rw [ey23]; exact h_Wf _ (by (first | (clear b_nr b_tm b_at_ b_to_ b_fa b_va b_np b_tn b_pc_ b_st_ b_pa_ b_ta b_ow b_of_ b_ot b_rl b_hb b_bs b_se; omega) | omega))
                  refine g_iastG (pc := 135) X 17 rfl (b_k2.1) (by (first | (clear b_nr b_tm b_at_ b_to_ b_fa b_va b_np b_tn b_pc_ b_st_ b_pa_ b_ta b_ow b_of_ b_ot b_rl b_hb b_bs b_se; omega) | omega)) (Int.le_trans b_k2.2 (by decide)) (ws' := fun F24 => [(g0, .inr (12, mO gA nr tm at_ to_ fa va np tn pc_ st_ pa_ ta ow of_ ot rl hb n1 se)), cA Z (gA 13) 0 7 Mw, cA Z (gA 14) 0 7 Mo, cR Z (gA 0) 6 7 (gG 0), cR Z (gA 4) 6 7 (gG 4), cR Z (gA 5) 6 7 (gG 5), cR Z (gA 6) 6 7 (gG 6), cR Z (gA 9) 6 7 (gG 9), cA Z (xA 0) 0 8 Ml, cA Z (xA 4) 0 8 Mow, cA Z (xA 5) 0 8 Mof, cA Z (xA 6) 0 8 Mot, cA Z (xA 9) 0 8 Md, cA Z (gA 58) 0 4 Bp, cA Z (gA 59) 0 4 Br, cA Z (gA 60) 0 8 Wo, cA Z (gA 61) 0 8 Wf, cA Z (gA 62) 0 8 F24, cA Z (gA 63) 0 4 Wg]) (fun _ => rfl) dX12_shares_135 (fun F24 eF24 => ?_)
                  have hF24 : ∀ j, j < 8 → (-2147483648) ≤ F24 j ∧ F24 j ≤ 2147483647 := by rw [eF24]; exact updI_B h_Wb1 (by (first | (clear b_nr b_tm b_at_ b_to_ b_fa b_va b_np b_tn b_pc_ b_st_ b_pa_ b_ta b_ow b_of_ b_ot b_rl b_hb b_bs b_se; omega) | omega))
                  refine g_iincI (pc := 136) X 0 rfl (by decide) (lv' := [(4, .int (iI (k2 + 1))), (3, .int (iI n1)), (0, .ref g0), (1, .int (iI rm)), (2, .int (iI w))]) rfl dX12_shares_136 ?_
                  refine g_goto (pc := 139) X 111 (by decide) dX12_shares_139 ?_
                  exact ih (k2 + 1) F24 (by (first | (clear b_nr b_tm b_at_ b_to_ b_fa b_va b_np b_tn b_pc_ b_st_ b_pa_ b_ta b_ow b_of_ b_ot b_rl b_hb b_bs b_se; omega) | omega)) (hF24) (by (first | (clear b_nr b_tm b_at_ b_to_ b_fa b_va b_np b_tn b_pc_ b_st_ b_pa_ b_ta b_ow b_of_ b_ot b_rl b_hb b_bs b_se; omega) | omega))
            exact loop111 _ 0 Wb (by (first | (clear b_nr b_tm b_at_ b_to_ b_fa b_va b_np b_tn b_pc_ b_st_ b_pa_ b_ta b_ow b_of_ b_ot b_rl b_hb b_bs b_se; omega) | omega)) (h_Wb) (Nat.lt_succ_self _)
          · refine g_iload_n (pc := 94) X 1 rfl dX12_shares_94 ?_
            refine g_aload_n (pc := 95) X 2 rfl dX12_shares_95 ?_
            refine g_get (pc := 96) X inlX12 0 rfl rfl 65 (by decide) mw_49_21 rfl dX12_shares_96 ?_
            refine g_icmp_ltI (pc := 99) X 103 (by decide) b_n1 b_bs dX12_shares_99 (fun c99 => ?_) (fun c99 => ?_)
            · refine g_aload_n (pc := 103) X 2 rfl dX12_shares_103 ?_
              refine g_iload_n (pc := 104) X 1 rfl dX12_shares_104 ?_
              refine g_put (pc := 105) X inlX12 tyX12_ok nmX12 0 rfl rfl 65 (by decide) mw_49_21 rfl rfl rfl (Nat.le_of_ble_eq_true rfl) (ws' := [(g0, .inr (12, mO gA nr tm at_ to_ fa va np tn pc_ st_ pa_ ta ow of_ ot rl hb n1 se)), cA Z (gA 13) 0 7 Mw, cA Z (gA 14) 0 7 Mo, cR Z (gA 0) 6 7 (gG 0), cR Z (gA 4) 6 7 (gG 4), cR Z (gA 5) 6 7 (gG 5), cR Z (gA 6) 6 7 (gG 6), cR Z (gA 9) 6 7 (gG 9), cA Z (xA 0) 0 8 Ml, cA Z (xA 4) 0 8 Mow, cA Z (xA 5) 0 8 Mof, cA Z (xA 6) 0 8 Mot, cA Z (xA 9) 0 8 Md, cA Z (gA 58) 0 4 Bp, cA Z (gA 59) 0 4 Br, cA Z (gA 60) 0 8 Wo, cA Z (gA 61) 0 8 Wf, cA Z (gA 62) 0 8 Wb, cA Z (gA 63) 0 4 Wg]) rfl dX12_shares_105 ?_
              refine g_iconst (pc := 108) X (iI 0) (by rfl) dX12_shares_108 ?_
              refine g_istore (pc := 109) X (by decide) (lv' := [(4, .int (iI 0)), (3, .int (iI n1)), (0, .ref g0), (1, .int (iI rm)), (2, .int (iI w))]) rfl dX12_shares_109 ?_
              have loop111 : ∀ (fuel : Nat) (k2 : Int) (Wb1 : Nat → Int), (0 ≤ k2 ∧ k2 ≤ 8) → (∀ j, j < 8 → (-2147483648) ≤ Wb1 j ∧ Wb1 j ≤ 2147483647) → (9 - k2).toNat < fuel → Gs p l e ({ frames := 5, cells := 0, slots := 0, locals := 120 } : Room) s m args below meth c (MQ below (gPost Z [(g0, .inr (12, mO gA nr tm at_ to_ fa va np tn pc_ st_ pa_ ta ow of_ ot rl hb bs se)), cA Z (gA 13) 0 7 Mw, cA Z (gA 14) 0 7 Mo, cR Z (gA 0) 6 7 (gG 0), cR Z (gA 4) 6 7 (gG 4), cR Z (gA 5) 6 7 (gG 5), cR Z (gA 6) 6 7 (gG 6), cR Z (gA 9) 6 7 (gG 9), cA Z (xA 0) 0 8 Ml, cA Z (xA 4) 0 8 Mow, cA Z (xA 5) 0 8 Mof, cA Z (xA 6) 0 8 Mot, cA Z (xA 9) 0 8 Md, cA Z (gA 58) 0 4 Bp, cA Z (gA 59) 0 4 Br, cA Z (gA 60) 0 8 Wo, cA Z (gA 61) 0 8 Wf, cA Z (gA 62) 0 8 Wb, cA Z (gA 63) 0 4 Wg] s.heap.size (fun r w' => ∃ (Wf2 : Nat → Int) (Wb2 : Nat → Int) (Wg2 : Nat → Int) (bs2 : Int), (r = none) ∧ (w' = [(g0, .inr (12, mO gA nr tm at_ to_ fa va np tn pc_ st_ pa_ ta ow of_ ot rl hb bs2 se)), cA Z (gA 13) 0 7 Mw, cA Z (gA 14) 0 7 Mo, cR Z (gA 0) 6 7 (gG 0), cR Z (gA 4) 6 7 (gG 4), cR Z (gA 5) 6 7 (gG 5), cR Z (gA 6) 6 7 (gG 6), cR Z (gA 9) 6 7 (gG 9), cA Z (xA 0) 0 8 Ml, cA Z (xA 4) 0 8 Mow, cA Z (xA 5) 0 8 Mof, cA Z (xA 6) 0 8 Mot, cA Z (xA 9) 0 8 Md, cA Z (gA 58) 0 4 Bp, cA Z (gA 59) 0 4 Br, cA Z (gA 60) 0 8 Wo, cA Z (gA 61) 0 8 Wf2, cA Z (gA 62) 0 8 Wb2, cA Z (gA 63) 0 4 Wg2]) ∧ ((-2147483648) ≤ bs2 ∧ bs2 ≤ 2147483647) ∧ (∀ j, j < 8 → (-2147483648) ≤ Wf2 j ∧ Wf2 j ≤ 2147483647) ∧ (∀ j, j < 8 → (-2147483648) ≤ Wb2 j ∧ Wb2 j ≤ 2147483647) ∧ (∀ j, j < 4 → (-2147483648) ≤ Wg2 j ∧ Wg2 j ≤ 2147483647))) args s 0 0 (va_A [(g0, .inr (12, mO gA nr tm at_ to_ fa va np tn pc_ st_ pa_ ta ow of_ ot rl hb bs se)), cA Z (gA 13) 0 7 Mw, cA Z (gA 14) 0 7 Mo, cR Z (gA 0) 6 7 (gG 0), cR Z (gA 4) 6 7 (gG 4), cR Z (gA 5) 6 7 (gG 5), cR Z (gA 6) 6 7 (gG 6), cR Z (gA 9) 6 7 (gG 9), cA Z (xA 0) 0 8 Ml, cA Z (xA 4) 0 8 Mow, cA Z (xA 5) 0 8 Mof, cA Z (xA 6) 0 8 Mot, cA Z (xA 9) 0 8 Md, cA Z (gA 58) 0 4 Bp, cA Z (gA 59) 0 4 Br, cA Z (gA 60) 0 8 Wo, cA Z (gA 61) 0 8 Wf, cA Z (gA 62) 0 8 Wb, cA Z (gA 63) 0 4 Wg] s.heap.size)) Z A 5 0 0 111 [(4, .int (iI k2)), (3, .int (iI n1)), (0, .ref g0), (1, .int (iI rm)), (2, .int (iI w))] [] [(g0, .inr (12, mO gA nr tm at_ to_ fa va np tn pc_ st_ pa_ ta ow of_ ot rl hb n1 se)), cA Z (gA 13) 0 7 Mw, cA Z (gA 14) 0 7 Mo, cR Z (gA 0) 6 7 (gG 0), cR Z (gA 4) 6 7 (gG 4), cR Z (gA 5) 6 7 (gG 5), cR Z (gA 6) 6 7 (gG 6), cR Z (gA 9) 6 7 (gG 9), cA Z (xA 0) 0 8 Ml, cA Z (xA 4) 0 8 Mow, cA Z (xA 5) 0 8 Mof, cA Z (xA 6) 0 8 Mot, cA Z (xA 9) 0 8 Md, cA Z (gA 58) 0 4 Bp, cA Z (gA 59) 0 4 Br, cA Z (gA 60) 0 8 Wo, cA Z (gA 61) 0 8 Wf, cA Z (gA 62) 0 8 Wb1, cA Z (gA 63) 0 4 Wg] := by
                intro fuel
                induction fuel with
                | zero => intro k2 Wb1 _ _ hm; exact absurd hm (Nat.not_lt_zero _)
                | succ fuel ih =>
                  intro k2 Wb1 b_k2 h_Wb1 hm
                  refine g_iload (pc := 111) X 0 rfl dX12_shares_111 ?_
                  refine g_aload_n (pc := 113) X 2 rfl dX12_shares_113 ?_
                  refine g_get (pc := 114) X inlX12 0 rfl rfl 13 (by decide) mw_8_1 rfl dX12_shares_114 ?_
                  refine g_iload_n (pc := 117) X 3 rfl dX12_shares_117 ?_
                  refine g_ialdI (pc := 118) X 1 rfl (b_rm.1) (Int.lt_of_le_of_lt b_rm.2 (by decide)) (Int.le_trans b_rm.2 (by decide)) dX12_shares_118 ?_
                  refine g_nameI (fun y25 ey25 => ?_)
                  have by25 : 0 ≤ y25 ∧ y25 ≤ 8 := by rw [ey25]; exact h_Mw _ (by (first | (clear b_nr b_tm b_at_ b_to_ b_fa b_va b_np b_tn b_pc_ b_st_ b_pa_ b_ta b_ow b_of_ b_ot b_rl b_hb b_bs b_se; omega) | omega))
                  have ty25 : 1 ≤ y25 ∧ y25 ≤ 8 := by rw [ey25]; exact hwn
                  refine g_icmp_geI (pc := 119) X 142 (by decide) (inRb b_k2 (by decide) (by decide)) (inRb by25 (by decide) (by decide)) dX12_shares_119 (fun c119 => ?_) (fun c119 => ?_)
                  · exact g_vret (pc := 142) X hA (⟨Wf, Wb1, Wg, n1, rfl, rfl, (b_n1), (h_Wf), (h_Wb1), (h_Wg)⟩) (by decide) (by decide) dX12_shares_142
                  · refine g_aload_n (pc := 122) X 2 rfl dX12_shares_122 ?_
                    refine g_get (pc := 123) X inlX12 0 rfl rfl 62 (by decide) mw_9_13 rfl dX12_shares_123 ?_
                    refine g_iload (pc := 126) X 0 rfl dX12_shares_126 ?_
                    refine g_aload_n (pc := 128) X 2 rfl dX12_shares_128 ?_
                    refine g_get (pc := 129) X inlX12 0 rfl rfl 61 (by decide) mw_9_12 rfl dX12_shares_129 ?_
                    refine g_iload (pc := 132) X 0 rfl dX12_shares_132 ?_
                    refine g_ialdI (pc := 134) X 16 rfl (b_k2.1) (by (first | (clear b_nr b_tm b_at_ b_to_ b_fa b_va b_np b_tn b_pc_ b_st_ b_pa_ b_ta b_ow b_of_ b_ot b_rl b_hb b_bs b_se; omega) | omega)) (Int.le_trans b_k2.2 (by decide)) dX12_shares_134 ?_
                    refine g_nameI (fun y26 ey26 => ?_)
                    have by26 : (-2147483648) ≤ y26 ∧ y26 ≤ 2147483647 := by rw [ey26]; exact h_Wf _ (by (first | (clear b_nr b_tm b_at_ b_to_ b_fa b_va b_np b_tn b_pc_ b_st_ b_pa_ b_ta b_ow b_of_ b_ot b_rl b_hb b_bs b_se; omega) | omega))
                    refine g_iastG (pc := 135) X 17 rfl (b_k2.1) (by (first | (clear b_nr b_tm b_at_ b_to_ b_fa b_va b_np b_tn b_pc_ b_st_ b_pa_ b_ta b_ow b_of_ b_ot b_rl b_hb b_bs b_se; omega) | omega)) (Int.le_trans b_k2.2 (by decide)) (ws' := fun F27 => [(g0, .inr (12, mO gA nr tm at_ to_ fa va np tn pc_ st_ pa_ ta ow of_ ot rl hb n1 se)), cA Z (gA 13) 0 7 Mw, cA Z (gA 14) 0 7 Mo, cR Z (gA 0) 6 7 (gG 0), cR Z (gA 4) 6 7 (gG 4), cR Z (gA 5) 6 7 (gG 5), cR Z (gA 6) 6 7 (gG 6), cR Z (gA 9) 6 7 (gG 9), cA Z (xA 0) 0 8 Ml, cA Z (xA 4) 0 8 Mow, cA Z (xA 5) 0 8 Mof, cA Z (xA 6) 0 8 Mot, cA Z (xA 9) 0 8 Md, cA Z (gA 58) 0 4 Bp, cA Z (gA 59) 0 4 Br, cA Z (gA 60) 0 8 Wo, cA Z (gA 61) 0 8 Wf, cA Z (gA 62) 0 8 F27, cA Z (gA 63) 0 4 Wg]) (fun _ => rfl) dX12_shares_135 (fun F27 eF27 => ?_)
                    have hF27 : ∀ j, j < 8 → (-2147483648) ≤ F27 j ∧ F27 j ≤ 2147483647 := by rw [eF27]; exact updI_B h_Wb1 (by (first | (clear b_nr b_tm b_at_ b_to_ b_fa b_va b_np b_tn b_pc_ b_st_ b_pa_ b_ta b_ow b_of_ b_ot b_rl b_hb b_bs b_se; omega) | omega))
                    refine g_iincI (pc := 136) X 0 rfl (by decide) (lv' := [(4, .int (iI (k2 + 1))), (3, .int (iI n1)), (0, .ref g0), (1, .int (iI rm)), (2, .int (iI w))]) rfl dX12_shares_136 ?_
                    refine g_goto (pc := 139) X 111 (by decide) dX12_shares_139 ?_
                    exact ih (k2 + 1) F27 (by (first | (clear b_nr b_tm b_at_ b_to_ b_fa b_va b_np b_tn b_pc_ b_st_ b_pa_ b_ta b_ow b_of_ b_ot b_rl b_hb b_bs b_se; omega) | omega)) (hF27) (by (first | (clear b_nr b_tm b_at_ b_to_ b_fa b_va b_np b_tn b_pc_ b_st_ b_pa_ b_ta b_ow b_of_ b_ot b_rl b_hb b_bs b_se; omega) | omega))
              exact loop111 _ 0 Wb (by (first | (clear b_nr b_tm b_at_ b_to_ b_fa b_va b_np b_tn b_pc_ b_st_ b_pa_ b_ta b_ow b_of_ b_ot b_rl b_hb b_bs b_se; omega) | omega)) (h_Wb) (Nat.lt_succ_self _)
            · exact g_vret (pc := 102) X hA (⟨Wf, Wb, Wg, bs, rfl, rfl, (b_bs), (h_Wf), (h_Wb), (h_Wg)⟩) (by decide) (by decide) dX12_shares_102
        · refine g_aload_n (pc := 26) X 2 rfl dX12_shares_26 ?_
          refine g_get (pc := 27) X inlX12 0 rfl rfl 13 (by decide) mw_8_1 rfl dX12_shares_27 ?_
          refine g_iload_n (pc := 30) X 3 rfl dX12_shares_30 ?_
          refine g_ialdI (pc := 31) X 1 rfl (b_rm.1) (Int.lt_of_le_of_lt b_rm.2 (by decide)) (Int.le_trans b_rm.2 (by decide)) dX12_shares_31 ?_
          refine g_nameI (fun y28 ey28 => ?_)
          have by28 : 0 ≤ y28 ∧ y28 ≤ 8 := by rw [ey28]; exact h_Mw _ (by (first | (clear b_nr b_tm b_at_ b_to_ b_fa b_va b_np b_tn b_pc_ b_st_ b_pa_ b_ta b_ow b_of_ b_ot b_rl b_hb b_bs b_se; omega) | omega))
          have ty28 : 1 ≤ y28 ∧ y28 ≤ 8 := by rw [ey28]; exact hwn
          refine g_iconst (pc := 32) X (iI 1) (by rfl) dX12_shares_32 ?_
          refine g_icmp_leI (pc := 33) X 86 (by decide) (inRb by28 (by decide) (by decide)) ⟨by decide, by decide⟩ dX12_shares_33 (fun c33 => ?_) (fun c33 => ?_)
          · refine g_aload_n (pc := 86) X 2 rfl dX12_shares_86 ?_
            refine g_get (pc := 87) X inlX12 0 rfl rfl 65 (by decide) mw_49_21 rfl dX12_shares_87 ?_
            refine g_iconst (pc := 90) X (iI (-1)) (by rfl) dX12_shares_90 ?_
            refine g_icmp_eqI (pc := 91) X 103 (by decide) b_bs ⟨by decide, by decide⟩ dX12_shares_91 (fun c91 => ?_) (fun c91 => ?_)
            · refine g_aload_n (pc := 103) X 2 rfl dX12_shares_103 ?_
              refine g_iload_n (pc := 104) X 1 rfl dX12_shares_104 ?_
              refine g_put (pc := 105) X inlX12 tyX12_ok nmX12 0 rfl rfl 65 (by decide) mw_49_21 rfl rfl rfl (Nat.le_of_ble_eq_true rfl) (ws' := [(g0, .inr (12, mO gA nr tm at_ to_ fa va np tn pc_ st_ pa_ ta ow of_ ot rl hb n1 se)), cA Z (gA 13) 0 7 Mw, cA Z (gA 14) 0 7 Mo, cR Z (gA 0) 6 7 (gG 0), cR Z (gA 4) 6 7 (gG 4), cR Z (gA 5) 6 7 (gG 5), cR Z (gA 6) 6 7 (gG 6), cR Z (gA 9) 6 7 (gG 9), cA Z (xA 0) 0 8 Ml, cA Z (xA 4) 0 8 Mow, cA Z (xA 5) 0 8 Mof, cA Z (xA 6) 0 8 Mot, cA Z (xA 9) 0 8 Md, cA Z (gA 58) 0 4 Bp, cA Z (gA 59) 0 4 Br, cA Z (gA 60) 0 8 Wo, cA Z (gA 61) 0 8 Wf, cA Z (gA 62) 0 8 Wb, cA Z (gA 63) 0 4 Wg]) rfl dX12_shares_105 ?_
              refine g_iconst (pc := 108) X (iI 0) (by rfl) dX12_shares_108 ?_
              refine g_istore (pc := 109) X (by decide) (lv' := [(4, .int (iI 0)), (3, .int (iI n1)), (0, .ref g0), (1, .int (iI rm)), (2, .int (iI w))]) rfl dX12_shares_109 ?_
              have loop111 : ∀ (fuel : Nat) (k2 : Int) (Wb1 : Nat → Int), (0 ≤ k2 ∧ k2 ≤ 8) → (∀ j, j < 8 → (-2147483648) ≤ Wb1 j ∧ Wb1 j ≤ 2147483647) → (9 - k2).toNat < fuel → Gs p l e ({ frames := 5, cells := 0, slots := 0, locals := 120 } : Room) s m args below meth c (MQ below (gPost Z [(g0, .inr (12, mO gA nr tm at_ to_ fa va np tn pc_ st_ pa_ ta ow of_ ot rl hb bs se)), cA Z (gA 13) 0 7 Mw, cA Z (gA 14) 0 7 Mo, cR Z (gA 0) 6 7 (gG 0), cR Z (gA 4) 6 7 (gG 4), cR Z (gA 5) 6 7 (gG 5), cR Z (gA 6) 6 7 (gG 6), cR Z (gA 9) 6 7 (gG 9), cA Z (xA 0) 0 8 Ml, cA Z (xA 4) 0 8 Mow, cA Z (xA 5) 0 8 Mof, cA Z (xA 6) 0 8 Mot, cA Z (xA 9) 0 8 Md, cA Z (gA 58) 0 4 Bp, cA Z (gA 59) 0 4 Br, cA Z (gA 60) 0 8 Wo, cA Z (gA 61) 0 8 Wf, cA Z (gA 62) 0 8 Wb, cA Z (gA 63) 0 4 Wg] s.heap.size (fun r w' => ∃ (Wf2 : Nat → Int) (Wb2 : Nat → Int) (Wg2 : Nat → Int) (bs2 : Int), (r = none) ∧ (w' = [(g0, .inr (12, mO gA nr tm at_ to_ fa va np tn pc_ st_ pa_ ta ow of_ ot rl hb bs2 se)), cA Z (gA 13) 0 7 Mw, cA Z (gA 14) 0 7 Mo, cR Z (gA 0) 6 7 (gG 0), cR Z (gA 4) 6 7 (gG 4), cR Z (gA 5) 6 7 (gG 5), cR Z (gA 6) 6 7 (gG 6), cR Z (gA 9) 6 7 (gG 9), cA Z (xA 0) 0 8 Ml, cA Z (xA 4) 0 8 Mow, cA Z (xA 5) 0 8 Mof, cA Z (xA 6) 0 8 Mot, cA Z (xA 9) 0 8 Md, cA Z (gA 58) 0 4 Bp, cA Z (gA 59) 0 4 Br, cA Z (gA 60) 0 8 Wo, cA Z (gA 61) 0 8 Wf2, cA Z (gA 62) 0 8 Wb2, cA Z (gA 63) 0 4 Wg2]) ∧ ((-2147483648) ≤ bs2 ∧ bs2 ≤ 2147483647) ∧ (∀ j, j < 8 → (-2147483648) ≤ Wf2 j ∧ Wf2 j ≤ 2147483647) ∧ (∀ j, j < 8 → (-2147483648) ≤ Wb2 j ∧ Wb2 j ≤ 2147483647) ∧ (∀ j, j < 4 → (-2147483648) ≤ Wg2 j ∧ Wg2 j ≤ 2147483647))) args s 0 0 (va_A [(g0, .inr (12, mO gA nr tm at_ to_ fa va np tn pc_ st_ pa_ ta ow of_ ot rl hb bs se)), cA Z (gA 13) 0 7 Mw, cA Z (gA 14) 0 7 Mo, cR Z (gA 0) 6 7 (gG 0), cR Z (gA 4) 6 7 (gG 4), cR Z (gA 5) 6 7 (gG 5), cR Z (gA 6) 6 7 (gG 6), cR Z (gA 9) 6 7 (gG 9), cA Z (xA 0) 0 8 Ml, cA Z (xA 4) 0 8 Mow, cA Z (xA 5) 0 8 Mof, cA Z (xA 6) 0 8 Mot, cA Z (xA 9) 0 8 Md, cA Z (gA 58) 0 4 Bp, cA Z (gA 59) 0 4 Br, cA Z (gA 60) 0 8 Wo, cA Z (gA 61) 0 8 Wf, cA Z (gA 62) 0 8 Wb, cA Z (gA 63) 0 4 Wg] s.heap.size)) Z A 5 0 0 111 [(4, .int (iI k2)), (3, .int (iI n1)), (0, .ref g0), (1, .int (iI rm)), (2, .int (iI w))] [] [(g0, .inr (12, mO gA nr tm at_ to_ fa va np tn pc_ st_ pa_ ta ow of_ ot rl hb n1 se)), cA Z (gA 13) 0 7 Mw, cA Z (gA 14) 0 7 Mo, cR Z (gA 0) 6 7 (gG 0), cR Z (gA 4) 6 7 (gG 4), cR Z (gA 5) 6 7 (gG 5), cR Z (gA 6) 6 7 (gG 6), cR Z (gA 9) 6 7 (gG 9), cA Z (xA 0) 0 8 Ml, cA Z (xA 4) 0 8 Mow, cA Z (xA 5) 0 8 Mof, cA Z (xA 6) 0 8 Mot, cA Z (xA 9) 0 8 Md, cA Z (gA 58) 0 4 Bp, cA Z (gA 59) 0 4 Br, cA Z (gA 60) 0 8 Wo, cA Z (gA 61) 0 8 Wf, cA Z (gA 62) 0 8 Wb1, cA Z (gA 63) 0 4 Wg] := by
                intro fuel
                induction fuel with
                | zero => intro k2 Wb1 _ _ hm; exact absurd hm (Nat.not_lt_zero _)
                | succ fuel ih =>
                  intro k2 Wb1 b_k2 h_Wb1 hm
                  refine g_iload (pc := 111) X 0 rfl dX12_shares_111 ?_
                  refine g_aload_n (pc := 113) X 2 rfl dX12_shares_113 ?_
                  refine g_get (pc := 114) X inlX12 0 rfl rfl 13 (by decide) mw_8_1 rfl dX12_shares_114 ?_
                  refine g_iload_n (pc := 117) X 3 rfl dX12_shares_117 ?_
                  refine g_ialdI (pc := 118) X 1 rfl (b_rm.1) (Int.lt_of_le_of_lt b_rm.2 (by decide)) (Int.le_trans b_rm.2 (by decide)) dX12_shares_118 ?_
                  refine g_nameI (fun y29 ey29 => ?_)
                  have by29 : 0 ≤ y29 ∧ y29 ≤ 8 := by rw [ey29]; exact h_Mw _ (by (first | (clear b_nr b_tm b_at_ b_to_ b_fa b_va b_np b_tn b_pc_ b_st_ b_pa_ b_ta b_ow b_of_ b_ot b_rl b_hb b_bs b_se; omega) | omega))
                  have ty29 : 1 ≤ y29 ∧ y29 ≤ 8 := by rw [ey29]; exact hwn
                  refine g_icmp_geI (pc := 119) X 142 (by decide) (inRb b_k2 (by decide) (by decide)) (inRb by29 (by decide) (by decide)) dX12_shares_119 (fun c119 => ?_) (fun c119 => ?_)
                  · exact g_vret (pc := 142) X hA (⟨Wf, Wb1, Wg, n1, rfl, rfl, (b_n1), (h_Wf), (h_Wb1), (h_Wg)⟩) (by decide) (by decide) dX12_shares_142
                  · refine g_aload_n (pc := 122) X 2 rfl dX12_shares_122 ?_
                    refine g_get (pc := 123) X inlX12 0 rfl rfl 62 (by decide) mw_9_13 rfl dX12_shares_123 ?_
                    refine g_iload (pc := 126) X 0 rfl dX12_shares_126 ?_
                    refine g_aload_n (pc := 128) X 2 rfl dX12_shares_128 ?_
                    refine g_get (pc := 129) X inlX12 0 rfl rfl 61 (by decide) mw_9_12 rfl dX12_shares_129 ?_
                    refine g_iload (pc := 132) X 0 rfl dX12_shares_132 ?_
                    refine g_ialdI (pc := 134) X 16 rfl (b_k2.1) (by (first | (clear b_nr b_tm b_at_ b_to_ b_fa b_va b_np b_tn b_pc_ b_st_ b_pa_ b_ta b_ow b_of_ b_ot b_rl b_hb b_bs b_se; omega) | omega)) (Int.le_trans b_k2.2 (by decide)) dX12_shares_134 ?_
                    refine g_nameI (fun y30 ey30 => ?_)
                    have by30 : (-2147483648) ≤ y30 ∧ y30 ≤ 2147483647 := by rw [ey30]; exact h_Wf _ (by (first | (clear b_nr b_tm b_at_ b_to_ b_fa b_va b_np b_tn b_pc_ b_st_ b_pa_ b_ta b_ow b_of_ b_ot b_rl b_hb b_bs b_se; omega) | omega))
                    refine g_iastG (pc := 135) X 17 rfl (b_k2.1) (by (first | (clear b_nr b_tm b_at_ b_to_ b_fa b_va b_np b_tn b_pc_ b_st_ b_pa_ b_ta b_ow b_of_ b_ot b_rl b_hb b_bs b_se; omega) | omega)) (Int.le_trans b_k2.2 (by decide)) (ws' := fun F31 => [(g0, .inr (12, mO gA nr tm at_ to_ fa va np tn pc_ st_ pa_ ta ow of_ ot rl hb n1 se)), cA Z (gA 13) 0 7 Mw, cA Z (gA 14) 0 7 Mo, cR Z (gA 0) 6 7 (gG 0), cR Z (gA 4) 6 7 (gG 4), cR Z (gA 5) 6 7 (gG 5), cR Z (gA 6) 6 7 (gG 6), cR Z (gA 9) 6 7 (gG 9), cA Z (xA 0) 0 8 Ml, cA Z (xA 4) 0 8 Mow, cA Z (xA 5) 0 8 Mof, cA Z (xA 6) 0 8 Mot, cA Z (xA 9) 0 8 Md, cA Z (gA 58) 0 4 Bp, cA Z (gA 59) 0 4 Br, cA Z (gA 60) 0 8 Wo, cA Z (gA 61) 0 8 Wf, cA Z (gA 62) 0 8 F31, cA Z (gA 63) 0 4 Wg]) (fun _ => rfl) dX12_shares_135 (fun F31 eF31 => ?_)
                    have hF31 : ∀ j, j < 8 → (-2147483648) ≤ F31 j ∧ F31 j ≤ 2147483647 := by rw [eF31]; exact updI_B h_Wb1 (by (first | (clear b_nr b_tm b_at_ b_to_ b_fa b_va b_np b_tn b_pc_ b_st_ b_pa_ b_ta b_ow b_of_ b_ot b_rl b_hb b_bs b_se; omega) | omega))
                    refine g_iincI (pc := 136) X 0 rfl (by decide) (lv' := [(4, .int (iI (k2 + 1))), (3, .int (iI n1)), (0, .ref g0), (1, .int (iI rm)), (2, .int (iI w))]) rfl dX12_shares_136 ?_
                    refine g_goto (pc := 139) X 111 (by decide) dX12_shares_139 ?_
                    exact ih (k2 + 1) F31 (by (first | (clear b_nr b_tm b_at_ b_to_ b_fa b_va b_np b_tn b_pc_ b_st_ b_pa_ b_ta b_ow b_of_ b_ot b_rl b_hb b_bs b_se; omega) | omega)) (hF31) (by (first | (clear b_nr b_tm b_at_ b_to_ b_fa b_va b_np b_tn b_pc_ b_st_ b_pa_ b_ta b_ow b_of_ b_ot b_rl b_hb b_bs b_se; omega) | omega))
              exact loop111 _ 0 Wb (by (first | (clear b_nr b_tm b_at_ b_to_ b_fa b_va b_np b_tn b_pc_ b_st_ b_pa_ b_ta b_ow b_of_ b_ot b_rl b_hb b_bs b_se; omega) | omega)) (h_Wb) (Nat.lt_succ_self _)
            · refine g_iload_n (pc := 94) X 1 rfl dX12_shares_94 ?_
              refine g_aload_n (pc := 95) X 2 rfl dX12_shares_95 ?_
              refine g_get (pc := 96) X inlX12 0 rfl rfl 65 (by decide) mw_49_21 rfl dX12_shares_96 ?_
              refine g_icmp_ltI (pc := 99) X 103 (by decide) b_n1 b_bs dX12_shares_99 (fun c99 => ?_) (fun c99 => ?_)
              · refine g_aload_n (pc := 103) X 2 rfl dX12_shares_103 ?_
                refine g_iload_n (pc := 104) X 1 rfl dX12_shares_104 ?_
                refine g_put (pc := 105) X inlX12 tyX12_ok nmX12 0 rfl rfl 65 (by decide) mw_49_21 rfl rfl rfl (Nat.le_of_ble_eq_true rfl) (ws' := [(g0, .inr (12, mO gA nr tm at_ to_ fa va np tn pc_ st_ pa_ ta ow of_ ot rl hb n1 se)), cA Z (gA 13) 0 7 Mw, cA Z (gA 14) 0 7 Mo, cR Z (gA 0) 6 7 (gG 0), cR Z (gA 4) 6 7 (gG 4), cR Z (gA 5) 6 7 (gG 5), cR Z (gA 6) 6 7 (gG 6), cR Z (gA 9) 6 7 (gG 9), cA Z (xA 0) 0 8 Ml, cA Z (xA 4) 0 8 Mow, cA Z (xA 5) 0 8 Mof, cA Z (xA 6) 0 8 Mot, cA Z (xA 9) 0 8 Md, cA Z (gA 58) 0 4 Bp, cA Z (gA 59) 0 4 Br, cA Z (gA 60) 0 8 Wo, cA Z (gA 61) 0 8 Wf, cA Z (gA 62) 0 8 Wb, cA Z (gA 63) 0 4 Wg]) rfl dX12_shares_105 ?_
                refine g_iconst (pc := 108) X (iI 0) (by rfl) dX12_shares_108 ?_
                refine g_istore (pc := 109) X (by decide) (lv' := [(4, .int (iI 0)), (3, .int (iI n1)), (0, .ref g0), (1, .int (iI rm)), (2, .int (iI w))]) rfl dX12_shares_109 ?_
                have loop111 : ∀ (fuel : Nat) (k2 : Int) (Wb1 : Nat → Int), (0 ≤ k2 ∧ k2 ≤ 8) → (∀ j, j < 8 → (-2147483648) ≤ Wb1 j ∧ Wb1 j ≤ 2147483647) → (9 - k2).toNat < fuel → Gs p l e ({ frames := 5, cells := 0, slots := 0, locals := 120 } : Room) s m args below meth c (MQ below (gPost Z [(g0, .inr (12, mO gA nr tm at_ to_ fa va np tn pc_ st_ pa_ ta ow of_ ot rl hb bs se)), cA Z (gA 13) 0 7 Mw, cA Z (gA 14) 0 7 Mo, cR Z (gA 0) 6 7 (gG 0), cR Z (gA 4) 6 7 (gG 4), cR Z (gA 5) 6 7 (gG 5), cR Z (gA 6) 6 7 (gG 6), cR Z (gA 9) 6 7 (gG 9), cA Z (xA 0) 0 8 Ml, cA Z (xA 4) 0 8 Mow, cA Z (xA 5) 0 8 Mof, cA Z (xA 6) 0 8 Mot, cA Z (xA 9) 0 8 Md, cA Z (gA 58) 0 4 Bp, cA Z (gA 59) 0 4 Br, cA Z (gA 60) 0 8 Wo, cA Z (gA 61) 0 8 Wf, cA Z (gA 62) 0 8 Wb, cA Z (gA 63) 0 4 Wg] s.heap.size (fun r w' => ∃ (Wf2 : Nat → Int) (Wb2 : Nat → Int) (Wg2 : Nat → Int) (bs2 : Int), (r = none) ∧ (w' = [(g0, .inr (12, mO gA nr tm at_ to_ fa va np tn pc_ st_ pa_ ta ow of_ ot rl hb bs2 se)), cA Z (gA 13) 0 7 Mw, cA Z (gA 14) 0 7 Mo, cR Z (gA 0) 6 7 (gG 0), cR Z (gA 4) 6 7 (gG 4), cR Z (gA 5) 6 7 (gG 5), cR Z (gA 6) 6 7 (gG 6), cR Z (gA 9) 6 7 (gG 9), cA Z (xA 0) 0 8 Ml, cA Z (xA 4) 0 8 Mow, cA Z (xA 5) 0 8 Mof, cA Z (xA 6) 0 8 Mot, cA Z (xA 9) 0 8 Md, cA Z (gA 58) 0 4 Bp, cA Z (gA 59) 0 4 Br, cA Z (gA 60) 0 8 Wo, cA Z (gA 61) 0 8 Wf2, cA Z (gA 62) 0 8 Wb2, cA Z (gA 63) 0 4 Wg2]) ∧ ((-2147483648) ≤ bs2 ∧ bs2 ≤ 2147483647) ∧ (∀ j, j < 8 → (-2147483648) ≤ Wf2 j ∧ Wf2 j ≤ 2147483647) ∧ (∀ j, j < 8 → (-2147483648) ≤ Wb2 j ∧ Wb2 j ≤ 2147483647) ∧ (∀ j, j < 4 → (-2147483648) ≤ Wg2 j ∧ Wg2 j ≤ 2147483647))) args s 0 0 (va_A [(g0, .inr (12, mO gA nr tm at_ to_ fa va np tn pc_ st_ pa_ ta ow of_ ot rl hb bs se)), cA Z (gA 13) 0 7 Mw, cA Z (gA 14) 0 7 Mo, cR Z (gA 0) 6 7 (gG 0), cR Z (gA 4) 6 7 (gG 4), cR Z (gA 5) 6 7 (gG 5), cR Z (gA 6) 6 7 (gG 6), cR Z (gA 9) 6 7 (gG 9), cA Z (xA 0) 0 8 Ml, cA Z (xA 4) 0 8 Mow, cA Z (xA 5) 0 8 Mof, cA Z (xA 6) 0 8 Mot, cA Z (xA 9) 0 8 Md, cA Z (gA 58) 0 4 Bp, cA Z (gA 59) 0 4 Br, cA Z (gA 60) 0 8 Wo, cA Z (gA 61) 0 8 Wf, cA Z (gA 62) 0 8 Wb, cA Z (gA 63) 0 4 Wg] s.heap.size)) Z A 5 0 0 111 [(4, .int (iI k2)), (3, .int (iI n1)), (0, .ref g0), (1, .int (iI rm)), (2, .int (iI w))] [] [(g0, .inr (12, mO gA nr tm at_ to_ fa va np tn pc_ st_ pa_ ta ow of_ ot rl hb n1 se)), cA Z (gA 13) 0 7 Mw, cA Z (gA 14) 0 7 Mo, cR Z (gA 0) 6 7 (gG 0), cR Z (gA 4) 6 7 (gG 4), cR Z (gA 5) 6 7 (gG 5), cR Z (gA 6) 6 7 (gG 6), cR Z (gA 9) 6 7 (gG 9), cA Z (xA 0) 0 8 Ml, cA Z (xA 4) 0 8 Mow, cA Z (xA 5) 0 8 Mof, cA Z (xA 6) 0 8 Mot, cA Z (xA 9) 0 8 Md, cA Z (gA 58) 0 4 Bp, cA Z (gA 59) 0 4 Br, cA Z (gA 60) 0 8 Wo, cA Z (gA 61) 0 8 Wf, cA Z (gA 62) 0 8 Wb1, cA Z (gA 63) 0 4 Wg] := by
                  intro fuel
                  induction fuel with
                  | zero => intro k2 Wb1 _ _ hm; exact absurd hm (Nat.not_lt_zero _)
                  | succ fuel ih =>
                    intro k2 Wb1 b_k2 h_Wb1 hm
                    refine g_iload (pc := 111) X 0 rfl dX12_shares_111 ?_
                    refine g_aload_n (pc := 113) X 2 rfl dX12_shares_113 ?_
                    refine g_get (pc := 114) X inlX12 0 rfl rfl 13 (by decide) mw_8_1 rfl dX12_shares_114 ?_
                    refine g_iload_n (pc := 117) X 3 rfl dX12_shares_117 ?_
                    refine g_ialdI (pc := 118) X 1 rfl (b_rm.1) (Int.lt_of_le_of_lt b_rm.2 (by decide)) (Int.le_trans b_rm.2 (by decide)) dX12_shares_118 ?_
                    refine g_nameI (fun y32 ey32 => ?_)
                    have by32 : 0 ≤ y32 ∧ y32 ≤ 8 := by rw [ey32]; exact h_Mw _ (by (first | (clear b_nr b_tm b_at_ b_to_ b_fa b_va b_np b_tn b_pc_ b_st_ b_pa_ b_ta b_ow b_of_ b_ot b_rl b_hb b_bs b_se; omega) | omega))
                    have ty32 : 1 ≤ y32 ∧ y32 ≤ 8 := by rw [ey32]; exact hwn
                    refine g_icmp_geI (pc := 119) X 142 (by decide) (inRb b_k2 (by decide) (by decide)) (inRb by32 (by decide) (by decide)) dX12_shares_119 (fun c119 => ?_) (fun c119 => ?_)
                    · exact g_vret (pc := 142) X hA (⟨Wf, Wb1, Wg, n1, rfl, rfl, (b_n1), (h_Wf), (h_Wb1), (h_Wg)⟩) (by decide) (by decide) dX12_shares_142
                    · refine g_aload_n (pc := 122) X 2 rfl dX12_shares_122 ?_
                      refine g_get (pc := 123) X inlX12 0 rfl rfl 62 (by decide) mw_9_13 rfl dX12_shares_123 ?_
                      refine g_iload (pc := 126) X 0 rfl dX12_shares_126 ?_
                      refine g_aload_n (pc := 128) X 2 rfl dX12_shares_128 ?_
                      refine g_get (pc := 129) X inlX12 0 rfl rfl 61 (by decide) mw_9_12 rfl dX12_shares_129 ?_
                      refine g_iload (pc := 132) X 0 rfl dX12_shares_132 ?_
                      refine g_ialdI (pc := 134) X 16 rfl (b_k2.1) (by (first | (clear b_nr b_tm b_at_ b_to_ b_fa b_va b_np b_tn b_pc_ b_st_ b_pa_ b_ta b_ow b_of_ b_ot b_rl b_hb b_bs b_se; omega) | omega)) (Int.le_trans b_k2.2 (by decide)) dX12_shares_134 ?_
                      refine g_nameI (fun y33 ey33 => ?_)
                      have by33 : (-2147483648) ≤ y33 ∧ y33 ≤ 2147483647 := by rw [ey33]; exact h_Wf _ (by (first | (clear b_nr b_tm b_at_ b_to_ b_fa b_va b_np b_tn b_pc_ b_st_ b_pa_ b_ta b_ow b_of_ b_ot b_rl b_hb b_bs b_se; omega) | omega))
                      refine g_iastG (pc := 135) X 17 rfl (b_k2.1) (by (first | (clear b_nr b_tm b_at_ b_to_ b_fa b_va b_np b_tn b_pc_ b_st_ b_pa_ b_ta b_ow b_of_ b_ot b_rl b_hb b_bs b_se; omega) | omega)) (Int.le_trans b_k2.2 (by decide)) (ws' := fun F34 => [(g0, .inr (12, mO gA nr tm at_ to_ fa va np tn pc_ st_ pa_ ta ow of_ ot rl hb n1 se)), cA Z (gA 13) 0 7 Mw, cA Z (gA 14) 0 7 Mo, cR Z (gA 0) 6 7 (gG 0), cR Z (gA 4) 6 7 (gG 4), cR Z (gA 5) 6 7 (gG 5), cR Z (gA 6) 6 7 (gG 6), cR Z (gA 9) 6 7 (gG 9), cA Z (xA 0) 0 8 Ml, cA Z (xA 4) 0 8 Mow, cA Z (xA 5) 0 8 Mof, cA Z (xA 6) 0 8 Mot, cA Z (xA 9) 0 8 Md, cA Z (gA 58) 0 4 Bp, cA Z (gA 59) 0 4 Br, cA Z (gA 60) 0 8 Wo, cA Z (gA 61) 0 8 Wf, cA Z (gA 62) 0 8 F34, cA Z (gA 63) 0 4 Wg]) (fun _ => rfl) dX12_shares_135 (fun F34 eF34 => ?_)
                      have hF34 : ∀ j, j < 8 → (-2147483648) ≤ F34 j ∧ F34 j ≤ 2147483647 := by rw [eF34]; exact updI_B h_Wb1 (by (first | (clear b_nr b_tm b_at_ b_to_ b_fa b_va b_np b_tn b_pc_ b_st_ b_pa_ b_ta b_ow b_of_ b_ot b_rl b_hb b_bs b_se; omega) | omega))
                      refine g_iincI (pc := 136) X 0 rfl (by decide) (lv' := [(4, .int (iI (k2 + 1))), (3, .int (iI n1)), (0, .ref g0), (1, .int (iI rm)), (2, .int (iI w))]) rfl dX12_shares_136 ?_
                      refine g_goto (pc := 139) X 111 (by decide) dX12_shares_139 ?_
                      exact ih (k2 + 1) F34 (by (first | (clear b_nr b_tm b_at_ b_to_ b_fa b_va b_np b_tn b_pc_ b_st_ b_pa_ b_ta b_ow b_of_ b_ot b_rl b_hb b_bs b_se; omega) | omega)) (hF34) (by (first | (clear b_nr b_tm b_at_ b_to_ b_fa b_va b_np b_tn b_pc_ b_st_ b_pa_ b_ta b_ow b_of_ b_ot b_rl b_hb b_bs b_se; omega) | omega))
                exact loop111 _ 0 Wb (by (first | (clear b_nr b_tm b_at_ b_to_ b_fa b_va b_np b_tn b_pc_ b_st_ b_pa_ b_ta b_ow b_of_ b_ot b_rl b_hb b_bs b_se; omega) | omega)) (h_Wb) (Nat.lt_succ_self _)
              · exact g_vret (pc := 102) X hA (⟨Wf, Wb, Wg, bs, rfl, rfl, (b_bs), (h_Wf), (h_Wb), (h_Wg)⟩) (by decide) (by decide) dX12_shares_102
          · refine g_iload_n (pc := 36) X 1 rfl dX12_shares_36 ?_
            refine g_aload_n (pc := 37) X 2 rfl dX12_shares_37 ?_
            refine g_get (pc := 38) X inlX12 0 rfl rfl 61 (by decide) mw_9_12 rfl dX12_shares_38 ?_
            refine g_iload (pc := 41) X 0 rfl dX12_shares_41 ?_
            refine g_ialdI (pc := 43) X 16 rfl (b_k1.1) (by (first | (clear b_nr b_tm b_at_ b_to_ b_fa b_va b_np b_tn b_pc_ b_st_ b_pa_ b_ta b_ow b_of_ b_ot b_rl b_hb b_bs b_se; omega) | omega)) (Int.le_trans b_k1.2 (by decide)) dX12_shares_43 ?_
            refine g_nameI (fun y35 ey35 => ?_)
            have by35 : (-2147483648) ≤ y35 ∧ y35 ≤ 2147483647 := by rw [ey35]; exact h_Wf _ (by (first | (clear b_nr b_tm b_at_ b_to_ b_fa b_va b_np b_tn b_pc_ b_st_ b_pa_ b_ta b_ow b_of_ b_ot b_rl b_hb b_bs b_se; omega) | omega))
            refine g_aload_n (pc := 44) X 2 rfl dX12_shares_44 ?_
            refine g_get (pc := 45) X inlX12 0 rfl rfl 61 (by decide) mw_9_12 rfl dX12_shares_45 ?_
            refine g_iload (pc := 48) X 0 rfl dX12_shares_48 ?_
            refine g_iconst (pc := 50) X (iI 1) (by rfl) dX12_shares_50 ?_
            refine g_iaddI (pc := 51) X dX12_shares_51 ?_
            refine g_aload_n (pc := 52) X 2 rfl dX12_shares_52 ?_
            refine g_get (pc := 53) X inlX12 0 rfl rfl 13 (by decide) mw_8_1 rfl dX12_shares_53 ?_
            refine g_iload_n (pc := 56) X 3 rfl dX12_shares_56 ?_
            refine g_ialdI (pc := 57) X 1 rfl (b_rm.1) (Int.lt_of_le_of_lt b_rm.2 (by decide)) (Int.le_trans b_rm.2 (by decide)) dX12_shares_57 ?_
            refine g_nameI (fun y36 ey36 => ?_)
            have by36 : 0 ≤ y36 ∧ y36 ≤ 8 := by rw [ey36]; exact h_Mw _ (by (first | (clear b_nr b_tm b_at_ b_to_ b_fa b_va b_np b_tn b_pc_ b_st_ b_pa_ b_ta b_ow b_of_ b_ot b_rl b_hb b_bs b_se; omega) | omega))
            have ty36 : 1 ≤ y36 ∧ y36 ≤ 8 := by rw [ey36]; exact hwn
            refine g_iremP (pc := 58) X (by (first | (clear b_nr b_tm b_at_ b_to_ b_fa b_va b_np b_tn b_pc_ b_st_ b_pa_ b_ta b_ow b_of_ b_ot b_rl b_hb b_bs b_se; omega) | omega)) (by (first | (clear b_nr b_tm b_at_ b_to_ b_fa b_va b_np b_tn b_pc_ b_st_ b_pa_ b_ta b_ow b_of_ b_ot b_rl b_hb b_bs b_se; omega) | omega)) (by (first | (clear b_nr b_tm b_at_ b_to_ b_fa b_va b_np b_tn b_pc_ b_st_ b_pa_ b_ta b_ow b_of_ b_ot b_rl b_hb b_bs b_se; omega) | omega)) (by (first | (clear b_nr b_tm b_at_ b_to_ b_fa b_va b_np b_tn b_pc_ b_st_ b_pa_ b_ta b_ow b_of_ b_ot b_rl b_hb b_bs b_se; omega) | omega)) dX12_shares_58 ?_
            refine g_nameI (fun y37 ey37 => ?_)
            have by37 : 0 ≤ y37 ∧ y37 ≤ 7 := by rw [ey37]; exact modB (by (first | (clear b_nr b_tm b_at_ b_to_ b_fa b_va b_np b_tn b_pc_ b_st_ b_pa_ b_ta b_ow b_of_ b_ot b_rl b_hb b_bs b_se; omega) | omega)) (by (first | (clear b_nr b_tm b_at_ b_to_ b_fa b_va b_np b_tn b_pc_ b_st_ b_pa_ b_ta b_ow b_of_ b_ot b_rl b_hb b_bs b_se; omega) | omega)) (by (first | (clear b_nr b_tm b_at_ b_to_ b_fa b_va b_np b_tn b_pc_ b_st_ b_pa_ b_ta b_ow b_of_ b_ot b_rl b_hb b_bs b_se; omega) | omega))
            have cy37 : y37 < y36 := by rw [ey37]; exact Int.emod_lt_of_pos _ (by (first | (clear b_nr b_tm b_at_ b_to_ b_fa b_va b_np b_tn b_pc_ b_st_ b_pa_ b_ta b_ow b_of_ b_ot b_rl b_hb b_bs b_se; omega) | omega))
            refine g_ialdI (pc := 59) X 16 rfl (by (first | (clear b_nr b_tm b_at_ b_to_ b_fa b_va b_np b_tn b_pc_ b_st_ b_pa_ b_ta b_ow b_of_ b_ot b_rl b_hb b_bs b_se; omega) | omega)) (by (first | (clear b_nr b_tm b_at_ b_to_ b_fa b_va b_np b_tn b_pc_ b_st_ b_pa_ b_ta b_ow b_of_ b_ot b_rl b_hb b_bs b_se; omega) | omega)) (by (first | (clear b_nr b_tm b_at_ b_to_ b_fa b_va b_np b_tn b_pc_ b_st_ b_pa_ b_ta b_ow b_of_ b_ot b_rl b_hb b_bs b_se; omega) | omega)) dX12_shares_59 ?_
            refine g_nameI (fun y38 ey38 => ?_)
            have by38 : (-2147483648) ≤ y38 ∧ y38 ≤ 2147483647 := by rw [ey38]; exact h_Wf _ (by (first | (clear b_nr b_tm b_at_ b_to_ b_fa b_va b_np b_tn b_pc_ b_st_ b_pa_ b_ta b_ow b_of_ b_ot b_rl b_hb b_bs b_se; omega) | omega))
            refine g_icmp_eqI (pc := 60) X 77 (by decide) by35 by38 dX12_shares_60 (fun c60 => ?_) (fun c60 => ?_)
            · refine g_iconst (pc := 77) X (iI 0) (by rfl) dX12_shares_77 ?_
              refine g_iaddI (pc := 78) X dX12_shares_78 ?_
              refine g_istore_n (pc := 79) X (i := 3) rfl (by decide) (lv' := [(3, .int (iI (n1 + 0))), (4, .int (iI k1)), (0, .ref g0), (1, .int (iI rm)), (2, .int (iI w))]) rfl dX12_shares_79 ?_
              refine g_iincI (pc := 80) X 1 rfl (by decide) (lv' := [(4, .int (iI (k1 + 1))), (3, .int (iI (n1 + 0))), (0, .ref g0), (1, .int (iI rm)), (2, .int (iI w))]) rfl dX12_shares_80 ?_
              refine g_goto (pc := 83) X 15 (by decide) dX12_shares_83 ?_
              exact ih (n1 + 0) (k1 + 1) (by (first | (clear b_nr b_tm b_at_ b_to_ b_fa b_va b_np b_tn b_pc_ b_st_ b_pa_ b_ta b_ow b_of_ b_ot b_rl b_hb b_bs b_se; omega) | omega)) (by (first | (clear b_nr b_tm b_at_ b_to_ b_fa b_va b_np b_tn b_pc_ b_st_ b_pa_ b_ta b_ow b_of_ b_ot b_rl b_hb b_bs b_se; omega) | omega)) (by (first | (clear b_nr b_tm b_at_ b_to_ b_fa b_va b_np b_tn b_pc_ b_st_ b_pa_ b_ta b_ow b_of_ b_ot b_rl b_hb b_bs b_se; omega) | omega))
            · refine g_aload_n (pc := 63) X 2 rfl dX12_shares_63 ?_
              refine g_iload_n (pc := 64) X 3 rfl dX12_shares_64 ?_
              refine g_iload (pc := 65) X 0 rfl dX12_shares_65 ?_
              refine g_callV (pc := 67) X (k_X12_hasDoor l Z g0 gA gG xA Mw Mo Ml Mow Mof Mot Md rm k1 nr tm at_ to_ fa va np tn pc_ st_ pa_ ta ow of_ ot rl hb bs se b_rm (by (first | (clear b_nr b_tm b_at_ b_to_ b_fa b_va b_np b_tn b_pc_ b_st_ b_pa_ b_ta b_ow b_of_ b_ot b_rl b_hb b_bs b_se; omega) | omega)) b_nr b_tm b_at_ b_to_ b_fa b_va b_np b_tn b_pc_ b_st_ b_pa_ b_ta b_ow b_of_ b_ot b_rl b_hb b_bs b_se (hG) (by (first | (clear b_nr b_tm b_at_ b_to_ b_fa b_va b_np b_tn b_pc_ b_st_ b_pa_ b_ta b_ow b_of_ b_ot b_rl b_hb b_bs b_se; omega) | omega)) (h_Mw) (h_Mo) (h_Ml) (h_Mow) (h_Mof) (h_Mot) (h_Md)) iM_X12_hasDoor mw_50_6 mw_50_7 mw_50_8 0 rfl rfl [0, 1, 2, 3, 4, 5, 6, 7, 8, 9, 10, 11, 12] [13, 14, 15, 16, 17, 18] rfl (wr := [cA Z (gA 58) 0 4 Bp, cA Z (gA 59) 0 4 Br, cA Z (gA 60) 0 8 Wo, cA Z (gA 61) 0 8 Wf, cA Z (gA 62) 0 8 Wb, cA Z (gA 63) 0 4 Wg]) rfl (by decide) rfl rfl (Nat.le_of_ble_eq_true rfl) (by decide) dX12_shares_67 (fun r w' hpo => ?_)
              refine exN_1 hpo fun y39 hz => anD_3 hz fun e_r e_w hf67_b_y => ?_; clear hz hpo; subst e_r; subst e_w
              refine g_as (pc' := 70) (lv' := [(4, .int (iI k1)), (3, .int (iI n1)), (0, .ref g0), (1, .int (iI rm)), (2, .int (iI w))]) (st' := [.int (iI y39), .int (iI n1)]) (ws' := [cA Z (gA 58) 0 4 Bp, cA Z (gA 59) 0 4 Br, cA Z (gA 60) 0 8 Wo, cA Z (gA 61) 0 8 Wf, cA Z (gA 62) 0 8 Wb, cA Z (gA 63) 0 4 Wg, (g0, .inr (12, mO gA nr tm at_ to_ fa va np tn pc_ st_ pa_ ta ow of_ ot rl hb bs se)), cA Z (gA 13) 0 7 Mw, cA Z (gA 14) 0 7 Mo, cR Z (gA 0) 6 7 (gG 0), cR Z (gA 4) 6 7 (gG 4), cR Z (gA 5) 6 7 (gG 5), cR Z (gA 6) 6 7 (gG 6), cR Z (gA 9) 6 7 (gG 9), cA Z (xA 0) 0 8 Ml, cA Z (xA 4) 0 8 Mow, cA Z (xA 5) 0 8 Mof, cA Z (xA 6) 0 8 Mot, cA Z (xA 9) 0 8 Md]) rfl rfl rfl rfl ?_
              refine g_if_neI (pc := 70) X 77 (by decide) (inRb hf67_b_y (by decide) (by decide)) dX12_shares_70 (fun c70 => ?_) (fun c70 => ?_)
              · refine g_iconst (pc := 77) X (iI 0) (by rfl) dX12_shares_77 ?_
                refine g_iaddI (pc := 78) X dX12_shares_78 ?_
                refine g_istore_n (pc := 79) X (i := 3) rfl (by decide) (lv' := [(3, .int (iI (n1 + 0))), (4, .int (iI k1)), (0, .ref g0), (1, .int (iI rm)), (2, .int (iI w))]) rfl dX12_shares_79 ?_
                refine g_iincI (pc := 80) X 1 rfl (by decide) (lv' := [(4, .int (iI (k1 + 1))), (3, .int (iI (n1 + 0))), (0, .ref g0), (1, .int (iI rm)), (2, .int (iI w))]) rfl dX12_shares_80 ?_
                refine g_goto (pc := 83) X 15 (by decide) dX12_shares_83 ?_
                refine g_ws (ws' := [(g0, .inr (12, mO gA nr tm at_ to_ fa va np tn pc_ st_ pa_ ta ow of_ ot rl hb bs se)), cA Z (gA 13) 0 7 Mw, cA Z (gA 14) 0 7 Mo, cR Z (gA 0) 6 7 (gG 0), cR Z (gA 4) 6 7 (gG 4), cR Z (gA 5) 6 7 (gG 5), cR Z (gA 6) 6 7 (gG 6), cR Z (gA 9) 6 7 (gG 9), cA Z (xA 0) 0 8 Ml, cA Z (xA 4) 0 8 Mow, cA Z (xA 5) 0 8 Mof, cA Z (xA 6) 0 8 Mot, cA Z (xA 9) 0 8 Md, cA Z (gA 58) 0 4 Bp, cA Z (gA 59) 0 4 Br, cA Z (gA 60) 0 8 Wo, cA Z (gA 61) 0 8 Wf, cA Z (gA 62) 0 8 Wb, cA Z (gA 63) 0 4 Wg]) [6, 7, 8, 9, 10, 11, 12, 13, 14, 15, 16, 17, 18, 0, 1, 2, 3, 4, 5] (by decide) rfl ?_
                exact ih (n1 + 0) (k1 + 1) (by (first | (clear b_nr b_tm b_at_ b_to_ b_fa b_va b_np b_tn b_pc_ b_st_ b_pa_ b_ta b_ow b_of_ b_ot b_rl b_hb b_bs b_se; omega) | omega)) (by (first | (clear b_nr b_tm b_at_ b_to_ b_fa b_va b_np b_tn b_pc_ b_st_ b_pa_ b_ta b_ow b_of_ b_ot b_rl b_hb b_bs b_se; omega) | omega)) (by (first | (clear b_nr b_tm b_at_ b_to_ b_fa b_va b_np b_tn b_pc_ b_st_ b_pa_ b_ta b_ow b_of_ b_ot b_rl b_hb b_bs b_se; omega) | omega))
              · refine g_iconst (pc := 73) X (iI 1) (by rfl) dX12_shares_73 ?_
                refine g_goto (pc := 74) X 78 (by decide) dX12_shares_74 ?_
                refine g_iaddI (pc := 78) X dX12_shares_78 ?_
                refine g_any (fun y41 by41 => ?_)
                refine g_istore_n (pc := 79) X (i := 3) rfl (by decide) (lv' := [(3, .int (iI y41)), (4, .int (iI k1)), (0, .ref g0), (1, .int (iI rm)), (2, .int (iI w))]) rfl dX12_shares_79 ?_
                refine g_iincI (pc := 80) X 1 rfl (by decide) (lv' := [(4, .int (iI (k1 + 1))), (3, .int (iI y41)), (0, .ref g0), (1, .int (iI rm)), (2, .int (iI w))]) rfl dX12_shares_80 ?_
                refine g_goto (pc := 83) X 15 (by decide) dX12_shares_83 ?_
                refine g_ws (ws' := [(g0, .inr (12, mO gA nr tm at_ to_ fa va np tn pc_ st_ pa_ ta ow of_ ot rl hb bs se)), cA Z (gA 13) 0 7 Mw, cA Z (gA 14) 0 7 Mo, cR Z (gA 0) 6 7 (gG 0), cR Z (gA 4) 6 7 (gG 4), cR Z (gA 5) 6 7 (gG 5), cR Z (gA 6) 6 7 (gG 6), cR Z (gA 9) 6 7 (gG 9), cA Z (xA 0) 0 8 Ml, cA Z (xA 4) 0 8 Mow, cA Z (xA 5) 0 8 Mof, cA Z (xA 6) 0 8 Mot, cA Z (xA 9) 0 8 Md, cA Z (gA 58) 0 4 Bp, cA Z (gA 59) 0 4 Br, cA Z (gA 60) 0 8 Wo, cA Z (gA 61) 0 8 Wf, cA Z (gA 62) 0 8 Wb, cA Z (gA 63) 0 4 Wg]) [6, 7, 8, 9, 10, 11, 12, 13, 14, 15, 16, 17, 18, 0, 1, 2, 3, 4, 5] (by decide) rfl ?_
                exact ih y41 (k1 + 1) (by41) (by (first | (clear b_nr b_tm b_at_ b_to_ b_fa b_va b_np b_tn b_pc_ b_st_ b_pa_ b_ta b_ow b_of_ b_ot b_rl b_hb b_bs b_se; omega) | omega)) (by (first | (clear b_nr b_tm b_at_ b_to_ b_fa b_va b_np b_tn b_pc_ b_st_ b_pa_ b_ta b_ow b_of_ b_ot b_rl b_hb b_bs b_se; omega) | omega))
    exact loop15 _ 0 0 (by (first | (clear b_nr b_tm b_at_ b_to_ b_fa b_va b_np b_tn b_pc_ b_st_ b_pa_ b_ta b_ow b_of_ b_ot b_rl b_hb b_bs b_se; omega) | omega)) (by (first | (clear b_nr b_tm b_at_ b_to_ b_fa b_va b_np b_tn b_pc_ b_st_ b_pa_ b_ta b_ow b_of_ b_ot b_rl b_hb b_bs b_se; omega) | omega)) (Nat.lt_succ_self _)

set_option maxHeartbeats 4000000 in
set_option maxRecDepth 100000 in
theorem k_X12_shares5 (l : Launch) (Z : gZ) (g0 : Nat) (gA : Nat → Nat) (gG : Nat → Nat → Option Nat) (xA : Nat → Nat) (Mw : Nat → Int) (Mo : Nat → Int) (Ml : Nat → Int) (Mow : Nat → Int) (Mof : Nat → Int) (Mot : Nat → Int) (Md : Nat → Int) (Bp : Nat → Int) (Br : Nat → Int) (Wo : Nat → Int) (Wf : Nat → Int) (Wb : Nat → Int) (Wg : Nat → Int) (rm : Int) (w : Int) (nr : Int) (tm : Int) (at_ : Int) (to_ : Int) (fa : Int) (va : Int) (np : Int) (tn : Int) (pc_ : Int) (st_ : Int) (pa_ : Int) (ta : Int) (ow : Int) (of_ : Int) (ot : Int) (rl : Int) (hb : Int) (bs : Int) (se : Int) (b_rm : 0 ≤ rm ∧ rm ≤ 5) (b_w : 0 ≤ w ∧ w ≤ 8) (b_nr : 0 ≤ nr ∧ nr ≤ 6) (b_tm : 0 ≤ tm ∧ tm ≤ 400) (b_at_ : 0 ≤ at_ ∧ at_ ≤ 400) (b_to_ : 0 ≤ to_ ∧ to_ ≤ 400) (b_fa : (-1) ≤ fa ∧ fa ≤ 400) (b_va : (-2147483648) ≤ va ∧ va ≤ 2147483647) (b_np : 0 ≤ np ∧ np ≤ 4) (b_tn : 0 ≤ tn ∧ tn ≤ 20) (b_pc_ : 0 ≤ pc_ ∧ pc_ ≤ 480) (b_st_ : 0 ≤ st_ ∧ st_ ≤ 240) (b_pa_ : (-1) ≤ pa_ ∧ pa_ ≤ 3) (b_ta : (-2147483648) ≤ ta ∧ ta ≤ 2147483647) (b_ow : (-2147483648) ≤ ow ∧ ow ≤ 2147483647) (b_of_ : (-2147483648) ≤ of_ ∧ of_ ≤ 2147483647) (b_ot : (-2147483648) ≤ ot ∧ ot ≤ 2147483647) (b_rl : 0 ≤ rl ∧ rl ≤ 2880) (b_hb : 0 ≤ hb ∧ hb ≤ 4) (b_bs : (-2147483648) ≤ bs ∧ bs ≤ 2147483647) (b_se : 0 ≤ se ∧ se ≤ 10) (hG : ∀ k, gG k rm.toNat = some (xA k)) (hwn : 1 ≤ Mw rm.toNat ∧ Mw rm.toNat ≤ 8) (hd : Mw rm.toNat - w ≤ 5) (hw : w ≤ Mw rm.toNat) (h_Mw : ∀ j, j < 7 → 0 ≤ Mw j ∧ Mw j ≤ 8) (h_Mo : ∀ j, j < 7 → 0 ≤ Mo j ∧ Mo j ≤ 8) (h_Ml : ∀ j, j < 8 → 0 ≤ Ml j ∧ Ml j ≤ 600) (h_Mow : ∀ j, j < 8 → 0 ≤ Mow j ∧ Mow j ≤ 7) (h_Mof : ∀ j, j < 8 → 0 ≤ Mof j ∧ Mof j ≤ 600) (h_Mot : ∀ j, j < 8 → 0 ≤ Mot j ∧ Mot j ≤ 600) (h_Md : ∀ j, j < 8 → 0 ≤ Md j ∧ Md j ≤ 1) (h_Bp : ∀ j, j < 4 → (-2147483648) ≤ Bp j ∧ Bp j ≤ 2147483647) (h_Br : ∀ j, j < 4 → (-2147483648) ≤ Br j ∧ Br j ≤ 2147483647) (h_Wo : ∀ j, j < 8 → (-2147483648) ≤ Wo j ∧ Wo j ≤ 2147483647) (h_Wf : ∀ j, j < 8 → (-2147483648) ≤ Wf j ∧ Wf j ≤ 2147483647) (h_Wb : ∀ j, j < 8 → (-2147483648) ≤ Wb j ∧ Wb j ≤ 2147483647) (h_Wg : ∀ j, j < 4 → (-2147483648) ≤ Wg j ∧ Wg j ≤ 2147483647) : Con l Z yX12_shares cX12_shares 5 none 6 144 0 0 [.ref g0, .int (iI rm), .int (iI w)] [(g0, .inr (12, mO gA nr tm at_ to_ fa va np tn pc_ st_ pa_ ta ow of_ ot rl hb bs se)), cA Z (gA 13) 0 7 Mw, cA Z (gA 14) 0 7 Mo, cR Z (gA 0) 6 7 (gG 0), cR Z (gA 4) 6 7 (gG 4), cR Z (gA 5) 6 7 (gG 5), cR Z (gA 6) 6 7 (gG 6), cR Z (gA 9) 6 7 (gG 9), cA Z (xA 0) 0 8 Ml, cA Z (xA 4) 0 8 Mow, cA Z (xA 5) 0 8 Mof, cA Z (xA 6) 0 8 Mot, cA Z (xA 9) 0 8 Md, cA Z (gA 58) 0 4 Bp, cA Z (gA 59) 0 4 Br, cA Z (gA 60) 0 8 Wo, cA Z (gA 61) 0 8 Wf, cA Z (gA 62) 0 8 Wb, cA Z (gA 63) 0 4 Wg] (fun r w' => ∃ (Wf2 : Nat → Int) (Wb2 : Nat → Int) (Wg2 : Nat → Int) (bs2 : Int), (r = none) ∧ (w' = [(g0, .inr (12, mO gA nr tm at_ to_ fa va np tn pc_ st_ pa_ ta ow of_ ot rl hb bs2 se)), cA Z (gA 13) 0 7 Mw, cA Z (gA 14) 0 7 Mo, cR Z (gA 0) 6 7 (gG 0), cR Z (gA 4) 6 7 (gG 4), cR Z (gA 5) 6 7 (gG 5), cR Z (gA 6) 6 7 (gG 6), cR Z (gA 9) 6 7 (gG 9), cA Z (xA 0) 0 8 Ml, cA Z (xA 4) 0 8 Mow, cA Z (xA 5) 0 8 Mof, cA Z (xA 6) 0 8 Mot, cA Z (xA 9) 0 8 Md, cA Z (gA 58) 0 4 Bp, cA Z (gA 59) 0 4 Br, cA Z (gA 60) 0 8 Wo, cA Z (gA 61) 0 8 Wf2, cA Z (gA 62) 0 8 Wb2, cA Z (gA 63) 0 4 Wg2]) ∧ ((-2147483648) ≤ bs2 ∧ bs2 ≤ 2147483647) ∧ (∀ j, j < 8 → (-2147483648) ≤ Wf2 j ∧ Wf2 j ≤ 2147483647) ∧ (∀ j, j < 8 → (-2147483648) ≤ Wb2 j ∧ Wb2 j ≤ 2147483647) ∧ (∀ j, j < 4 → (-2147483648) ≤ Wg2 j ∧ Wg2 j ≤ 2147483647)) := by
  refine enter (by decide) (Nat.le_of_ble_eq_true rfl) ?_
  intro p e s m args below meth c A X hnm hA
  have X : Cx p s m args meth c cX12_shares 5 none RX12 Z A := X
  refine g_as (pc' := 0) (lv' := [(0, .ref g0), (1, .int (iI rm)), (2, .int (iI w))]) (st' := []) (ws' := [(g0, .inr (12, mO gA nr tm at_ to_ fa va np tn pc_ st_ pa_ ta ow of_ ot rl hb bs se)), cA Z (gA 13) 0 7 Mw, cA Z (gA 14) 0 7 Mo, cR Z (gA 0) 6 7 (gG 0), cR Z (gA 4) 6 7 (gG 4), cR Z (gA 5) 6 7 (gG 5), cR Z (gA 6) 6 7 (gG 6), cR Z (gA 9) 6 7 (gG 9), cA Z (xA 0) 0 8 Ml, cA Z (xA 4) 0 8 Mow, cA Z (xA 5) 0 8 Mof, cA Z (xA 6) 0 8 Mot, cA Z (xA 9) 0 8 Md, cA Z (gA 58) 0 4 Bp, cA Z (gA 59) 0 4 Br, cA Z (gA 60) 0 8 Wo, cA Z (gA 61) 0 8 Wf, cA Z (gA 62) 0 8 Wb, cA Z (gA 63) 0 4 Wg]) rfl rfl rfl rfl ?_
  refine g_iload_n (pc := 0) X 2 rfl dX12_shares_0 ?_
  refine g_aload_n (pc := 1) X 0 rfl dX12_shares_1 ?_
  refine g_get (pc := 2) X inlX12 0 rfl rfl 13 (by decide) mw_8_1 rfl dX12_shares_2 ?_
  refine g_iload_n (pc := 5) X 1 rfl dX12_shares_5 ?_
  refine g_ialdI (pc := 6) X 1 rfl (b_rm.1) (Int.lt_of_le_of_lt b_rm.2 (by decide)) (Int.le_trans b_rm.2 (by decide)) dX12_shares_6 ?_
  refine g_nameI (fun y1 ey1 => ?_)
  have by1 : 0 ≤ y1 ∧ y1 ≤ 8 := by rw [ey1]; exact h_Mw _ (by (first | (clear b_nr b_tm b_at_ b_to_ b_fa b_va b_np b_tn b_pc_ b_st_ b_pa_ b_ta b_ow b_of_ b_ot b_rl b_hb b_bs b_se; omega) | omega))
  have ty1 : 1 ≤ y1 ∧ y1 ≤ 8 := by rw [ey1]; exact hwn
  refine g_icmp_neI (pc := 7) X 143 (by decide) (inRb b_w (by decide) (by decide)) (inRb by1 (by decide) (by decide)) dX12_shares_7 (fun c7 => ?_) (fun c7 => ?_)
  · refine g_iconst (pc := 143) X (iI 0) (by rfl) dX12_shares_143 ?_
    refine g_istore_n (pc := 144) X (i := 3) rfl (by decide) (lv' := [(3, .int (iI 0)), (0, .ref g0), (1, .int (iI rm)), (2, .int (iI w))]) rfl dX12_shares_144 ?_
    have loop145 : ∀ (fuel : Nat) (b3 : Int) (bs1 : Int) (Wf1 : Nat → Int) (Wb1 : Nat → Int) (Wg1 : Nat → Int), (0 ≤ b3 ∧ b3 ≤ 4) → ((-2147483648) ≤ bs1 ∧ bs1 ≤ 2147483647) → (∀ j, j < 8 → (-2147483648) ≤ Wf1 j ∧ Wf1 j ≤ 2147483647) → (∀ j, j < 8 → (-2147483648) ≤ Wb1 j ∧ Wb1 j ≤ 2147483647) → (∀ j, j < 4 → (-2147483648) ≤ Wg1 j ∧ Wg1 j ≤ 2147483647) → (5 - b3).toNat < fuel → Gs p l e ({ frames := 6, cells := 0, slots := 0, locals := 144 } : Room) s m args below meth c (MQ below (gPost Z [(g0, .inr (12, mO gA nr tm at_ to_ fa va np tn pc_ st_ pa_ ta ow of_ ot rl hb bs se)), cA Z (gA 13) 0 7 Mw, cA Z (gA 14) 0 7 Mo, cR Z (gA 0) 6 7 (gG 0), cR Z (gA 4) 6 7 (gG 4), cR Z (gA 5) 6 7 (gG 5), cR Z (gA 6) 6 7 (gG 6), cR Z (gA 9) 6 7 (gG 9), cA Z (xA 0) 0 8 Ml, cA Z (xA 4) 0 8 Mow, cA Z (xA 5) 0 8 Mof, cA Z (xA 6) 0 8 Mot, cA Z (xA 9) 0 8 Md, cA Z (gA 58) 0 4 Bp, cA Z (gA 59) 0 4 Br, cA Z (gA 60) 0 8 Wo, cA Z (gA 61) 0 8 Wf, cA Z (gA 62) 0 8 Wb, cA Z (gA 63) 0 4 Wg] s.heap.size (fun r w' => ∃ (Wf2 : Nat → Int) (Wb2 : Nat → Int) (Wg2 : Nat → Int) (bs2 : Int), (r = none) ∧ (w' = [(g0, .inr (12, mO gA nr tm at_ to_ fa va np tn pc_ st_ pa_ ta ow of_ ot rl hb bs2 se)), cA Z (gA 13) 0 7 Mw, cA Z (gA 14) 0 7 Mo, cR Z (gA 0) 6 7 (gG 0), cR Z (gA 4) 6 7 (gG 4), cR Z (gA 5) 6 7 (gG 5), cR Z (gA 6) 6 7 (gG 6), cR Z (gA 9) 6 7 (gG 9), cA Z (xA 0) 0 8 Ml, cA Z (xA 4) 0 8 Mow, cA Z (xA 5) 0 8 Mof, cA Z (xA 6) 0 8 Mot, cA Z (xA 9) 0 8 Md, cA Z (gA 58) 0 4 Bp, cA Z (gA 59) 0 4 Br, cA Z (gA 60) 0 8 Wo, cA Z (gA 61) 0 8 Wf2, cA Z (gA 62) 0 8 Wb2, cA Z (gA 63) 0 4 Wg2]) ∧ ((-2147483648) ≤ bs2 ∧ bs2 ≤ 2147483647) ∧ (∀ j, j < 8 → (-2147483648) ≤ Wf2 j ∧ Wf2 j ≤ 2147483647) ∧ (∀ j, j < 8 → (-2147483648) ≤ Wb2 j ∧ Wb2 j ≤ 2147483647) ∧ (∀ j, j < 4 → (-2147483648) ≤ Wg2 j ∧ Wg2 j ≤ 2147483647))) args s 0 0 (va_A [(g0, .inr (12, mO gA nr tm at_ to_ fa va np tn pc_ st_ pa_ ta ow of_ ot rl hb bs se)), cA Z (gA 13) 0 7 Mw, cA Z (gA 14) 0 7 Mo, cR Z (gA 0) 6 7 (gG 0), cR Z (gA 4) 6 7 (gG 4), cR Z (gA 5) 6 7 (gG 5), cR Z (gA 6) 6 7 (gG 6), cR Z (gA 9) 6 7 (gG 9), cA Z (xA 0) 0 8 Ml, cA Z (xA 4) 0 8 Mow, cA Z (xA 5) 0 8 Mof, cA Z (xA 6) 0 8 Mot, cA Z (xA 9) 0 8 Md, cA Z (gA 58) 0 4 Bp, cA Z (gA 59) 0 4 Br, cA Z (gA 60) 0 8 Wo, cA Z (gA 61) 0 8 Wf, cA Z (gA 62) 0 8 Wb, cA Z (gA 63) 0 4 Wg] s.heap.size)) Z A 5 0 0 145 [(3, .int (iI b3)), (0, .ref g0), (1, .int (iI rm)), (2, .int (iI w))] [] [(g0, .inr (12, mO gA nr tm at_ to_ fa va np tn pc_ st_ pa_ ta ow of_ ot rl hb bs1 se)), cA Z (gA 13) 0 7 Mw, cA Z (gA 14) 0 7 Mo, cR Z (gA 0) 6 7 (gG 0), cR Z (gA 4) 6 7 (gG 4), cR Z (gA 5) 6 7 (gG 5), cR Z (gA 6) 6 7 (gG 6), cR Z (gA 9) 6 7 (gG 9), cA Z (xA 0) 0 8 Ml, cA Z (xA 4) 0 8 Mow, cA Z (xA 5) 0 8 Mof, cA Z (xA 6) 0 8 Mot, cA Z (xA 9) 0 8 Md, cA Z (gA 58) 0 4 Bp, cA Z (gA 59) 0 4 Br, cA Z (gA 60) 0 8 Wo, cA Z (gA 61) 0 8 Wf1, cA Z (gA 62) 0 8 Wb1, cA Z (gA 63) 0 4 Wg1] := by
      intro fuel
      induction fuel with
      | zero => intro b3 bs1 Wf1 Wb1 Wg1 _ _ _ _ _ hm; exact absurd hm (Nat.not_lt_zero _)
      | succ fuel ih =>
        intro b3 bs1 Wf1 Wb1 Wg1 b_b3 b_bs1 h_Wf1 h_Wb1 h_Wg1 hm
        refine g_iload_n (pc := 145) X 0 rfl dX12_shares_145 ?_
        refine g_aload_n (pc := 146) X 1 rfl dX12_shares_146 ?_
        refine g_get (pc := 147) X inlX12 0 rfl rfl 64 (by decide) mw_47_13 rfl dX12_shares_147 ?_
        refine g_icmp_geI (pc := 150) X 242 (by decide) (inRb b_b3 (by decide) (by decide)) (inRb b_hb (by decide) (by decide)) dX12_shares_150 (fun c150 => ?_) (fun c150 => ?_)
        · exact g_vret (pc := 242) X hA (⟨Wf1, Wb1, Wg1, bs1, rfl, rfl, (b_bs1), (h_Wf1), (h_Wb1), (h_Wg1)⟩) (by decide) (by decide) dX12_shares_242
        · refine g_aload_n (pc := 153) X 1 rfl dX12_shares_153 ?_
          refine g_get (pc := 154) X inlX12 0 rfl rfl 58 (by decide) mw_9_9 rfl dX12_shares_154 ?_
          refine g_iload_n (pc := 157) X 0 rfl dX12_shares_157 ?_
          refine g_ialdI (pc := 158) X 13 rfl (b_b3.1) (by (first | (clear b_nr b_tm b_at_ b_to_ b_fa b_va b_np b_tn b_pc_ b_st_ b_pa_ b_ta b_ow b_of_ b_ot b_rl b_hb b_bs b_se; omega) | omega)) (Int.le_trans b_b3.2 (by decide)) dX12_shares_158 ?_
          refine g_nameI (fun y2 ey2 => ?_)
          have by2 : (-2147483648) ≤ y2 ∧ y2 ≤ 2147483647 := by rw [ey2]; exact h_Bp _ (by (first | (clear b_nr b_tm b_at_ b_to_ b_fa b_va b_np b_tn b_pc_ b_st_ b_pa_ b_ta b_ow b_of_ b_ot b_rl b_hb b_bs b_se; omega) | omega))
          refine g_aload_n (pc := 159) X 1 rfl dX12_shares_159 ?_
          refine g_get (pc := 160) X inlX12 0 rfl rfl 49 (by decide) mw_28_2 rfl dX12_shares_160 ?_
          refine g_icmp_neI (pc := 163) X 236 (by decide) by2 (inRb b_pa_ (by decide) (by decide)) dX12_shares_163 (fun c163 => ?_) (fun c163 => ?_)
          · refine g_iincI (pc := 236) X 0 rfl (by decide) (lv' := [(3, .int (iI (b3 + 1))), (0, .ref g0), (1, .int (iI rm)), (2, .int (iI w))]) rfl dX12_shares_236 ?_
            refine g_goto (pc := 239) X 145 (by decide) dX12_shares_239 ?_
            exact ih (b3 + 1) bs1 Wf1 Wb1 Wg1 (by (first | (clear b_nr b_tm b_at_ b_to_ b_fa b_va b_np b_tn b_pc_ b_st_ b_pa_ b_ta b_ow b_of_ b_ot b_rl b_hb b_bs b_se; omega) | omega)) (b_bs1) (h_Wf1) (h_Wb1) (h_Wg1) (by (first | (clear b_nr b_tm b_at_ b_to_ b_fa b_va b_np b_tn b_pc_ b_st_ b_pa_ b_ta b_ow b_of_ b_ot b_rl b_hb b_bs b_se; omega) | omega))
          · refine g_aload_n (pc := 166) X 1 rfl dX12_shares_166 ?_
            refine g_get (pc := 167) X inlX12 0 rfl rfl 63 (by decide) mw_9_14 rfl dX12_shares_167 ?_
            refine g_iload_n (pc := 170) X 0 rfl dX12_shares_170 ?_
            refine g_ialdI (pc := 171) X 18 rfl (b_b3.1) (by (first | (clear b_nr b_tm b_at_ b_to_ b_fa b_va b_np b_tn b_pc_ b_st_ b_pa_ b_ta b_ow b_of_ b_ot b_rl b_hb b_bs b_se; omega) | omega)) (Int.le_trans b_b3.2 (by decide)) dX12_shares_171 ?_
            refine g_nameI (fun y3 ey3 => ?_)
            have by3 : (-2147483648) ≤ y3 ∧ y3 ≤ 2147483647 := by rw [ey3]; exact h_Wg1 _ (by (first | (clear b_nr b_tm b_at_ b_to_ b_fa b_va b_np b_tn b_pc_ b_st_ b_pa_ b_ta b_ow b_of_ b_ot b_rl b_hb b_bs b_se; omega) | omega))
            refine g_aload_n (pc := 172) X 1 rfl dX12_shares_172 ?_
            refine g_get (pc := 173) X inlX12 0 rfl rfl 60 (by decide) mw_9_11 rfl dX12_shares_173 ?_
            refine g_iload_n (pc := 176) X 3 rfl dX12_shares_176 ?_
            refine g_ialdI (pc := 177) X 15 rfl (b_w.1) (by (first | (clear b_nr b_tm b_at_ b_to_ b_fa b_va b_np b_tn b_pc_ b_st_ b_pa_ b_ta b_ow b_of_ b_ot b_rl b_hb b_bs b_se; omega) | omega)) (Int.le_trans b_w.2 (by decide)) dX12_shares_177 ?_
            refine g_nameI (fun y4 ey4 => ?_)
            have by4 : (-2147483648) ≤ y4 ∧ y4 ≤ 2147483647 := by rw [ey4]; exact h_Wo _ (by (first | (clear b_nr b_tm b_at_ b_to_ b_fa b_va b_np b_tn b_pc_ b_st_ b_pa_ b_ta b_ow b_of_ b_ot b_rl b_hb b_bs b_se; omega) | omega))
            refine g_iaddI (pc := 178) X dX12_shares_178 ?_
            refine g_any (fun y5 by5 => ?_)
            refine g_aload_n (pc := 179) X 1 rfl dX12_shares_179 ?_
            refine g_get (pc := 180) X inlX12 0 rfl rfl 59 (by decide) mw_9_10 rfl dX12_shares_180 ?_
            refine g_iload_n (pc := 183) X 0 rfl dX12_shares_183 ?_
            refine g_ialdI (pc := 184) X 14 rfl (b_b3.1) (by (first | (clear b_nr b_tm b_at_ b_to_ b_fa b_va b_np b_tn b_pc_ b_st_ b_pa_ b_ta b_ow b_of_ b_ot b_rl b_hb b_bs b_se; omega) | omega)) (Int.le_trans b_b3.2 (by decide)) dX12_shares_184 ?_
            refine g_nameI (fun y6 ey6 => ?_)
            have by6 : (-2147483648) ≤ y6 ∧ y6 ≤ 2147483647 := by rw [ey6]; exact h_Br _ (by (first | (clear b_nr b_tm b_at_ b_to_ b_fa b_va b_np b_tn b_pc_ b_st_ b_pa_ b_ta b_ow b_of_ b_ot b_rl b_hb b_bs b_se; omega) | omega))
            refine g_icmp_leI (pc := 185) X 191 (by decide) by5 by6 dX12_shares_185 (fun c185 => ?_) (fun c185 => ?_)
            · refine g_aload_n (pc := 191) X 1 rfl dX12_shares_191 ?_
              refine g_get (pc := 192) X inlX12 0 rfl rfl 63 (by decide) mw_9_14 rfl dX12_shares_192 ?_
              refine g_iload_n (pc := 195) X 0 rfl dX12_shares_195 ?_
              refine g_dup2 (pc := 196) X rfl rfl dX12_shares_196 ?_
              refine g_ialdI (pc := 197) X 18 rfl (b_b3.1) (by (first | (clear b_nr b_tm b_at_ b_to_ b_fa b_va b_np b_tn b_pc_ b_st_ b_pa_ b_ta b_ow b_of_ b_ot b_rl b_hb b_bs b_se; omega) | omega)) (Int.le_trans b_b3.2 (by decide)) dX12_shares_197 ?_
              refine g_nameI (fun y7 ey7 => ?_)
              have by7 : (-2147483648) ≤ y7 ∧ y7 ≤ 2147483647 := by rw [ey7]; exact h_Wg1 _ (by (first | (clear b_nr b_tm b_at_ b_to_ b_fa b_va b_np b_tn b_pc_ b_st_ b_pa_ b_ta b_ow b_of_ b_ot b_rl b_hb b_bs b_se; omega) | omega))
              refine g_aload_n (pc := 198) X 1 rfl dX12_shares_198 ?_
              refine g_get (pc := 199) X inlX12 0 rfl rfl 60 (by decide) mw_9_11 rfl dX12_shares_199 ?_
              refine g_iload_n (pc := 202) X 3 rfl dX12_shares_202 ?_
              refine g_ialdI (pc := 203) X 15 rfl (b_w.1) (by (first | (clear b_nr b_tm b_at_ b_to_ b_fa b_va b_np b_tn b_pc_ b_st_ b_pa_ b_ta b_ow b_of_ b_ot b_rl b_hb b_bs b_se; omega) | omega)) (Int.le_trans b_w.2 (by decide)) dX12_shares_203 ?_
              refine g_nameI (fun y8 ey8 => ?_)
              have by8 : (-2147483648) ≤ y8 ∧ y8 ≤ 2147483647 := by rw [ey8]; exact h_Wo _ (by (first | (clear b_nr b_tm b_at_ b_to_ b_fa b_va b_np b_tn b_pc_ b_st_ b_pa_ b_ta b_ow b_of_ b_ot b_rl b_hb b_bs b_se; omega) | omega))
              refine g_iaddI (pc := 204) X dX12_shares_204 ?_
              refine g_any (fun y9 by9 => ?_)
              refine g_iastG (pc := 205) X 18 rfl (b_b3.1) (by (first | (clear b_nr b_tm b_at_ b_to_ b_fa b_va b_np b_tn b_pc_ b_st_ b_pa_ b_ta b_ow b_of_ b_ot b_rl b_hb b_bs b_se; omega) | omega)) (Int.le_trans b_b3.2 (by decide)) (ws' := fun F10 => [(g0, .inr (12, mO gA nr tm at_ to_ fa va np tn pc_ st_ pa_ ta ow of_ ot rl hb bs1 se)), cA Z (gA 13) 0 7 Mw, cA Z (gA 14) 0 7 Mo, cR Z (gA 0) 6 7 (gG 0), cR Z (gA 4) 6 7 (gG 4), cR Z (gA 5) 6 7 (gG 5), cR Z (gA 6) 6 7 (gG 6), cR Z (gA 9) 6 7 (gG 9), cA Z (xA 0) 0 8 Ml, cA Z (xA 4) 0 8 Mow, cA Z (xA 5) 0 8 Mof, cA Z (xA 6) 0 8 Mot, cA Z (xA 9) 0 8 Md, cA Z (gA 58) 0 4 Bp, cA Z (gA 59) 0 4 Br, cA Z (gA 60) 0 8 Wo, cA Z (gA 61) 0 8 Wf1, cA Z (gA 62) 0 8 Wb1, cA Z (gA 63) 0 4 F10]) (fun _ => rfl) dX12_shares_205 (fun F10 eF10 => ?_)
              have hF10 : ∀ j, j < 4 → (-2147483648) ≤ F10 j ∧ F10 j ≤ 2147483647 := by rw [eF10]; exact updI_B h_Wg1 (by (first | (clear b_nr b_tm b_at_ b_to_ b_fa b_va b_np b_tn b_pc_ b_st_ b_pa_ b_ta b_ow b_of_ b_ot b_rl b_hb b_bs b_se; omega) | omega))
              refine g_aload_n (pc := 206) X 1 rfl dX12_shares_206 ?_
              refine g_get (pc := 207) X inlX12 0 rfl rfl 61 (by decide) mw_9_12 rfl dX12_shares_207 ?_
              refine g_iload_n (pc := 210) X 3 rfl dX12_shares_210 ?_
              refine g_iload_n (pc := 211) X 0 rfl dX12_shares_211 ?_
              refine g_iastG (pc := 212) X 16 rfl (b_w.1) (by (first | (clear b_nr b_tm b_at_ b_to_ b_fa b_va b_np b_tn b_pc_ b_st_ b_pa_ b_ta b_ow b_of_ b_ot b_rl b_hb b_bs b_se; omega) | omega)) (Int.le_trans b_w.2 (by decide)) (ws' := fun F11 => [(g0, .inr (12, mO gA nr tm at_ to_ fa va np tn pc_ st_ pa_ ta ow of_ ot rl hb bs1 se)), cA Z (gA 13) 0 7 Mw, cA Z (gA 14) 0 7 Mo, cR Z (gA 0) 6 7 (gG 0), cR Z (gA 4) 6 7 (gG 4), cR Z (gA 5) 6 7 (gG 5), cR Z (gA 6) 6 7 (gG 6), cR Z (gA 9) 6 7 (gG 9), cA Z (xA 0) 0 8 Ml, cA Z (xA 4) 0 8 Mow, cA Z (xA 5) 0 8 Mof, cA Z (xA 6) 0 8 Mot, cA Z (xA 9) 0 8 Md, cA Z (gA 58) 0 4 Bp, cA Z (gA 59) 0 4 Br, cA Z (gA 60) 0 8 Wo, cA Z (gA 61) 0 8 F11, cA Z (gA 62) 0 8 Wb1, cA Z (gA 63) 0 4 F10]) (fun _ => rfl) dX12_shares_212 (fun F11 eF11 => ?_)
              have hF11 : ∀ j, j < 8 → (-2147483648) ≤ F11 j ∧ F11 j ≤ 2147483647 := by rw [eF11]; exact updI_B h_Wf1 (by (first | (clear b_nr b_tm b_at_ b_to_ b_fa b_va b_np b_tn b_pc_ b_st_ b_pa_ b_ta b_ow b_of_ b_ot b_rl b_hb b_bs b_se; omega) | omega))
              refine g_aload_n (pc := 213) X 1 rfl dX12_shares_213 ?_
              refine g_iload_n (pc := 214) X 2 rfl dX12_shares_214 ?_
              refine g_iload_n (pc := 215) X 3 rfl dX12_shares_215 ?_
              refine g_iconst (pc := 216) X (iI 1) (by rfl) dX12_shares_216 ?_
              refine g_iaddI (pc := 217) X dX12_shares_217 ?_
              refine g_callV (pc := 218) X (k_X12_shares4 l Z g0 gA gG xA Mw Mo Ml Mow Mof Mot Md Bp Br Wo F11 Wb1 F10 rm (w + 1) nr tm at_ to_ fa va np tn pc_ st_ pa_ ta ow of_ ot rl hb bs1 se b_rm (by (first | (clear b_nr b_tm b_at_ b_to_ b_fa b_va b_np b_tn b_pc_ b_st_ b_pa_ b_ta b_ow b_of_ b_ot b_rl b_hb b_bs b_se; omega) | omega)) b_nr b_tm b_at_ b_to_ b_fa b_va b_np b_tn b_pc_ b_st_ b_pa_ b_ta b_ow b_of_ b_ot b_rl b_hb b_bs1 b_se (hG) (by (first | (clear b_nr b_tm b_at_ b_to_ b_fa b_va b_np b_tn b_pc_ b_st_ b_pa_ b_ta b_ow b_of_ b_ot b_rl b_hb b_bs b_se; omega) | omega)) (by (first | (clear b_nr b_tm b_at_ b_to_ b_fa b_va b_np b_tn b_pc_ b_st_ b_pa_ b_ta b_ow b_of_ b_ot b_rl b_hb b_bs b_se; omega) | omega)) (by (first | (clear b_nr b_tm b_at_ b_to_ b_fa b_va b_np b_tn b_pc_ b_st_ b_pa_ b_ta b_ow b_of_ b_ot b_rl b_hb b_bs b_se; omega) | omega)) (h_Mw) (h_Mo) (h_Ml) (h_Mow) (h_Mof) (h_Mot) (h_Md) (h_Bp) (h_Br) (h_Wo) (hF11) (h_Wb1) (hF10)) iM_X12_shares mw_50_2 mw_50_3 mw_50_4 0 rfl rfl [0, 1, 2, 3, 4, 5, 6, 7, 8, 9, 10, 11, 12, 13, 14, 15, 16, 17, 18] [] rfl (wr := []) rfl (by decide) rfl rfl (Nat.le_of_ble_eq_true rfl) (by decide) dX12_shares_218 (fun r w' hpo => ?_)
              refine exN_4 hpo fun F12 F13 F14 y15 hz => anD_6 hz fun e_r e_w hf218_b_bs2 hf218_h_Wf2 hf218_h_Wb2 hf218_h_Wg2 => ?_; clear hz hpo; subst e_r; subst e_w
              refine g_as (pc' := 221) (lv' := [(3, .int (iI b3)), (0, .ref g0), (1, .int (iI rm)), (2, .int (iI w))]) (st' := []) (ws' := [(g0, .inr (12, mO gA nr tm at_ to_ fa va np tn pc_ st_ pa_ ta ow of_ ot rl hb y15 se)), cA Z (gA 13) 0 7 Mw, cA Z (gA 14) 0 7 Mo, cR Z (gA 0) 6 7 (gG 0), cR Z (gA 4) 6 7 (gG 4), cR Z (gA 5) 6 7 (gG 5), cR Z (gA 6) 6 7 (gG 6), cR Z (gA 9) 6 7 (gG 9), cA Z (xA 0) 0 8 Ml, cA Z (xA 4) 0 8 Mow, cA Z (xA 5) 0 8 Mof, cA Z (xA 6) 0 8 Mot, cA Z (xA 9) 0 8 Md, cA Z (gA 58) 0 4 Bp, cA Z (gA 59) 0 4 Br, cA Z (gA 60) 0 8 Wo, cA Z (gA 61) 0 8 F12, cA Z (gA 62) 0 8 F13, cA Z (gA 63) 0 4 F14]) rfl rfl rfl rfl ?_
              refine g_aload_n (pc := 221) X 1 rfl dX12_shares_221 ?_
              refine g_get (pc := 222) X inlX12 0 rfl rfl 63 (by decide) mw_9_14 rfl dX12_shares_222 ?_
              refine g_iload_n (pc := 225) X 0 rfl dX12_shares_225 ?_
              refine g_dup2 (pc := 226) X rfl rfl dX12_shares_226 ?_
              refine g_ialdI (pc := 227) X 18 rfl (b_b3.1) (by (first | (clear b_nr b_tm b_at_ b_to_ b_fa b_va b_np b_tn b_pc_ b_st_ b_pa_ b_ta b_ow b_of_ b_ot b_rl b_hb b_bs b_se; omega) | omega)) (Int.le_trans b_b3.2 (by decide)) dX12_shares_227 ?_
              refine g_nameI (fun y17 ey17 => ?_)
              have by17 : (-2147483648) ≤ y17 ∧ y17 ≤ 2147483647 := by rw [ey17]; exact hf218_h_Wg2 _ (by (first | (clear b_nr b_tm b_at_ b_to_ b_fa b_va b_np b_tn b_pc_ b_st_ b_pa_ b_ta b_ow b_of_ b_ot b_rl b_hb b_bs b_se; omega) | omega))
              refine g_aload_n (pc := 228) X 1 rfl dX12_shares_228 ?_
              refine g_get (pc := 229) X inlX12 0 rfl rfl 60 (by decide) mw_9_11 rfl dX12_shares_229 ?_
              refine g_iload_n (pc := 232) X 3 rfl dX12_shares_232 ?_
              refine g_ialdI (pc := 233) X 15 rfl (b_w.1) (by (first | (clear b_nr b_tm b_at_ b_to_ b_fa b_va b_np b_tn b_pc_ b_st_ b_pa_ b_ta b_ow b_of_ b_ot b_rl b_hb b_bs b_se; omega) | omega)) (Int.le_trans b_w.2 (by decide)) dX12_shares_233 ?_
              refine g_nameI (fun y18 ey18 => ?_)
              have by18 : (-2147483648) ≤ y18 ∧ y18 ≤ 2147483647 := by rw [ey18]; exact h_Wo _ (by (first | (clear b_nr b_tm b_at_ b_to_ b_fa b_va b_np b_tn b_pc_ b_st_ b_pa_ b_ta b_ow b_of_ b_ot b_rl b_hb b_bs b_se; omega) | omega))
              refine g_isubI (pc := 234) X dX12_shares_234 ?_
              refine g_any (fun y19 by19 => ?_)
              refine g_iastG (pc := 235) X 18 rfl (b_b3.1) (by (first | (clear b_nr b_tm b_at_ b_to_ b_fa b_va b_np b_tn b_pc_ b_st_ b_pa_ b_ta b_ow b_of_ b_ot b_rl b_hb b_bs b_se; omega) | omega)) (Int.le_trans b_b3.2 (by decide)) (ws' := fun F20 => [(g0, .inr (12, mO gA nr tm at_ to_ fa va np tn pc_ st_ pa_ ta ow of_ ot rl hb y15 se)), cA Z (gA 13) 0 7 Mw, cA Z (gA 14) 0 7 Mo, cR Z (gA 0) 6 7 (gG 0), cR Z (gA 4) 6 7 (gG 4), cR Z (gA 5) 6 7 (gG 5), cR Z (gA 6) 6 7 (gG 6), cR Z (gA 9) 6 7 (gG 9), cA Z (xA 0) 0 8 Ml, cA Z (xA 4) 0 8 Mow, cA Z (xA 5) 0 8 Mof, cA Z (xA 6) 0 8 Mot, cA Z (xA 9) 0 8 Md, cA Z (gA 58) 0 4 Bp, cA Z (gA 59) 0 4 Br, cA Z (gA 60) 0 8 Wo, cA Z (gA 61) 0 8 F12, cA Z (gA 62) 0 8 F13, cA Z (gA 63) 0 4 F20]) (fun _ => rfl) dX12_shares_235 (fun F20 eF20 => ?_)
              have hF20 : ∀ j, j < 4 → (-2147483648) ≤ F20 j ∧ F20 j ≤ 2147483647 := by rw [eF20]; exact updI_B hf218_h_Wg2 (by (first | (clear b_nr b_tm b_at_ b_to_ b_fa b_va b_np b_tn b_pc_ b_st_ b_pa_ b_ta b_ow b_of_ b_ot b_rl b_hb b_bs b_se; omega) | omega))
              refine g_iincI (pc := 236) X 0 rfl (by decide) (lv' := [(3, .int (iI (b3 + 1))), (0, .ref g0), (1, .int (iI rm)), (2, .int (iI w))]) rfl dX12_shares_236 ?_
              refine g_goto (pc := 239) X 145 (by decide) dX12_shares_239 ?_
              exact ih (b3 + 1) y15 F12 F13 F20 (by (first | (clear b_nr b_tm b_at_ b_to_ b_fa b_va b_np b_tn b_pc_ b_st_ b_pa_ b_ta b_ow b_of_ b_ot b_rl b_hb b_bs b_se; omega) | omega)) (hf218_b_bs2) (hf218_h_Wf2) (hf218_h_Wb2) (hF20) (by (first | (clear b_nr b_tm b_at_ b_to_ b_fa b_va b_np b_tn b_pc_ b_st_ b_pa_ b_ta b_ow b_of_ b_ot b_rl b_hb b_bs b_se; omega) | omega))
            · refine g_goto (pc := 188) X 236 (by decide) dX12_shares_188 ?_
              refine g_iincI (pc := 236) X 0 rfl (by decide) (lv' := [(3, .int (iI (b3 + 1))), (0, .ref g0), (1, .int (iI rm)), (2, .int (iI w))]) rfl dX12_shares_236 ?_
              refine g_goto (pc := 239) X 145 (by decide) dX12_shares_239 ?_
              exact ih (b3 + 1) bs1 Wf1 Wb1 Wg1 (by (first | (clear b_nr b_tm b_at_ b_to_ b_fa b_va b_np b_tn b_pc_ b_st_ b_pa_ b_ta b_ow b_of_ b_ot b_rl b_hb b_bs b_se; omega) | omega)) (b_bs1) (h_Wf1) (h_Wb1) (h_Wg1) (by (first | (clear b_nr b_tm b_at_ b_to_ b_fa b_va b_np b_tn b_pc_ b_st_ b_pa_ b_ta b_ow b_of_ b_ot b_rl b_hb b_bs b_se; omega) | omega))
    exact loop145 _ 0 bs Wf Wb Wg (by (first | (clear b_nr b_tm b_at_ b_to_ b_fa b_va b_np b_tn b_pc_ b_st_ b_pa_ b_ta b_ow b_of_ b_ot b_rl b_hb b_bs b_se; omega) | omega)) (b_bs) (h_Wf) (h_Wb) (h_Wg) (Nat.lt_succ_self _)
  · refine g_iconst (pc := 10) X (iI 0) (by rfl) dX12_shares_10 ?_
    refine g_istore_n (pc := 11) X (i := 3) rfl (by decide) (lv' := [(3, .int (iI 0)), (0, .ref g0), (1, .int (iI rm)), (2, .int (iI w))]) rfl dX12_shares_11 ?_
    refine g_iconst (pc := 12) X (iI 0) (by rfl) dX12_shares_12 ?_
    refine g_istore (pc := 13) X (by decide) (lv' := [(4, .int (iI 0)), (3, .int (iI 0)), (0, .ref g0), (1, .int (iI rm)), (2, .int (iI w))]) rfl dX12_shares_13 ?_
    have loop15 : ∀ (fuel : Nat) (n1 : Int) (k1 : Int), ((-2147483648) ≤ n1 ∧ n1 ≤ 2147483647) → (0 ≤ k1 ∧ k1 ≤ 8) → (9 - k1).toNat < fuel → Gs p l e ({ frames := 6, cells := 0, slots := 0, locals := 144 } : Room) s m args below meth c (MQ below (gPost Z [(g0, .inr (12, mO gA nr tm at_ to_ fa va np tn pc_ st_ pa_ ta ow of_ ot rl hb bs se)), cA Z (gA 13) 0 7 Mw, cA Z (gA 14) 0 7 Mo, cR Z (gA 0) 6 7 (gG 0), cR Z (gA 4) 6 7 (gG 4), cR Z (gA 5) 6 7 (gG 5), cR Z (gA 6) 6 7 (gG 6), cR Z (gA 9) 6 7 (gG 9), cA Z (xA 0) 0 8 Ml, cA Z (xA 4) 0 8 Mow, cA Z (xA 5) 0 8 Mof, cA Z (xA 6) 0 8 Mot, cA Z (xA 9) 0 8 Md, cA Z (gA 58) 0 4 Bp, cA Z (gA 59) 0 4 Br, cA Z (gA 60) 0 8 Wo, cA Z (gA 61) 0 8 Wf, cA Z (gA 62) 0 8 Wb, cA Z (gA 63) 0 4 Wg] s.heap.size (fun r w' => ∃ (Wf2 : Nat → Int) (Wb2 : Nat → Int) (Wg2 : Nat → Int) (bs2 : Int), (r = none) ∧ (w' = [(g0, .inr (12, mO gA nr tm at_ to_ fa va np tn pc_ st_ pa_ ta ow of_ ot rl hb bs2 se)), cA Z (gA 13) 0 7 Mw, cA Z (gA 14) 0 7 Mo, cR Z (gA 0) 6 7 (gG 0), cR Z (gA 4) 6 7 (gG 4), cR Z (gA 5) 6 7 (gG 5), cR Z (gA 6) 6 7 (gG 6), cR Z (gA 9) 6 7 (gG 9), cA Z (xA 0) 0 8 Ml, cA Z (xA 4) 0 8 Mow, cA Z (xA 5) 0 8 Mof, cA Z (xA 6) 0 8 Mot, cA Z (xA 9) 0 8 Md, cA Z (gA 58) 0 4 Bp, cA Z (gA 59) 0 4 Br, cA Z (gA 60) 0 8 Wo, cA Z (gA 61) 0 8 Wf2, cA Z (gA 62) 0 8 Wb2, cA Z (gA 63) 0 4 Wg2]) ∧ ((-2147483648) ≤ bs2 ∧ bs2 ≤ 2147483647) ∧ (∀ j, j < 8 → (-2147483648) ≤ Wf2 j ∧ Wf2 j ≤ 2147483647) ∧ (∀ j, j < 8 → (-2147483648) ≤ Wb2 j ∧ Wb2 j ≤ 2147483647) ∧ (∀ j, j < 4 → (-2147483648) ≤ Wg2 j ∧ Wg2 j ≤ 2147483647))) args s 0 0 (va_A [(g0, .inr (12, mO gA nr tm at_ to_ fa va np tn pc_ st_ pa_ ta ow of_ ot rl hb bs se)), cA Z (gA 13) 0 7 Mw, cA Z (gA 14) 0 7 Mo, cR Z (gA 0) 6 7 (gG 0), cR Z (gA 4) 6 7 (gG 4), cR Z (gA 5) 6 7 (gG 5), cR Z (gA 6) 6 7 (gG 6), cR Z (gA 9) 6 7 (gG 9), cA Z (xA 0) 0 8 Ml, cA Z (xA 4) 0 8 Mow, cA Z (xA 5) 0 8 Mof, cA Z (xA 6) 0 8 Mot, cA Z (xA 9) 0 8 Md, cA Z (gA 58) 0 4 Bp, cA Z (gA 59) 0 4 Br, cA Z (gA 60) 0 8 Wo, cA Z (gA 61) 0 8 Wf, cA Z (gA 62) 0 8 Wb, cA Z (gA 63) 0 4 Wg] s.heap.size)) Z A 5 0 0 15 [(4, .int (iI k1)), (3, .int (iI n1)), (0, .ref g0), (1, .int (iI rm)), (2, .int (iI w))] [] [(g0, .inr (12, mO gA nr tm at_ to_ fa va np tn pc_ st_ pa_ ta ow of_ ot rl hb bs se)), cA Z (gA 13) 0 7 Mw, cA Z (gA 14) 0 7 Mo, cR Z (gA 0) 6 7 (gG 0), cR Z (gA 4) 6 7 (gG 4), cR Z (gA 5) 6 7 (gG 5), cR Z (gA 6) 6 7 (gG 6), cR Z (gA 9) 6 7 (gG 9), cA Z (xA 0) 0 8 Ml, cA Z (xA 4) 0 8 Mow, cA Z (xA 5) 0 8 Mof, cA Z (xA 6) 0 8 Mot, cA Z (xA 9) 0 8 Md, cA Z (gA 58) 0 4 Bp, cA Z (gA 59) 0 4 Br, cA Z (gA 60) 0 8 Wo, cA Z (gA 61) 0 8 Wf, cA Z (gA 62) 0 8 Wb, cA Z (gA 63) 0 4 Wg] := by
      intro fuel
      induction fuel with
      | zero => intro n1 k1 _ _ hm; exact absurd hm (Nat.not_lt_zero _)
      | succ fuel ih =>
        intro n1 k1 b_n1 b_k1 hm
        refine g_iload (pc := 15) X 0 rfl dX12_shares_15 ?_
        refine g_aload_n (pc := 17) X 2 rfl dX12_shares_17 ?_
        refine g_get (pc := 18) X inlX12 0 rfl rfl 13 (by decide) mw_8_1 rfl dX12_shares_18 ?_
        refine g_iload_n (pc := 21) X 3 rfl dX12_shares_21 ?_
        refine g_ialdI (pc := 22) X 1 rfl (b_rm.1) (Int.lt_of_le_of_lt b_rm.2 (by decide)) (Int.le_trans b_rm.2 (by decide)) dX12_shares_22 ?_
        refine g_nameI (fun y21 ey21 => ?_)
        have by21 : 0 ≤ y21 ∧ y21 ≤ 8 := by rw [ey21]; exact h_Mw _ (by (first | (clear b_nr b_tm b_at_ b_to_ b_fa b_va b_np b_tn b_pc_ b_st_ b_pa_ b_ta b_ow b_of_ b_ot b_rl b_hb b_bs b_se; omega) | omega))
        have ty21 : 1 ≤ y21 ∧ y21 ≤ 8 := by rw [ey21]; exact hwn
        refine g_icmp_geI (pc := 23) X 86 (by decide) (inRb b_k1 (by decide) (by decide)) (inRb by21 (by decide) (by decide)) dX12_shares_23 (fun c23 => ?_) (fun c23 => ?_)
        · refine g_aload_n (pc := 86) X 2 rfl dX12_shares_86 ?_
          refine g_get (pc := 87) X inlX12 0 rfl rfl 65 (by decide) mw_49_21 rfl dX12_shares_87 ?_
          refine g_iconst (pc := 90) X (iI (-1)) (by rfl) dX12_shares_90 ?_
          refine g_icmp_eqI (pc := 91) X 103 (by decide) b_bs ⟨by decide, by decide⟩ dX12_shares_91 (fun c91 => ?_) (fun c91 => ?_)
          · refine g_aload_n (pc := 103) X 2 rfl dX12_shares_103 ?_
            refine g_iload_n (pc := 104) X 1 rfl dX12_shares_104 ?_
            refine g_put (pc := 105) X inlX12 tyX12_ok nmX12 0 rfl rfl 65 (by decide) mw_49_21 rfl rfl rfl (Nat.le_of_ble_eq_true rfl) (ws' := [(g0, .inr (12, mO gA nr tm at_ to_ fa va np tn pc_ st_ pa_ ta ow of_ ot rl hb n1 se)), cA Z (gA 13) 0 7 Mw, cA Z (gA 14) 0 7 Mo, cR Z (gA 0) 6 7 (gG 0), cR Z (gA 4) 6 7 (gG 4), cR Z (gA 5) 6 7 (gG 5), cR Z (gA 6) 6 7 (gG 6), cR Z (gA 9) 6 7 (gG 9), cA Z (xA 0) 0 8 Ml, cA Z (xA 4) 0 8 Mow, cA Z (xA 5) 0 8 Mof, cA Z (xA 6) 0 8 Mot, cA Z (xA 9) 0 8 Md, cA Z (gA 58) 0 4 Bp, cA Z (gA 59) 0 4 Br, cA Z (gA 60) 0 8 Wo, cA Z (gA 61) 0 8 Wf, cA Z (gA 62) 0 8 Wb, cA Z (gA 63) 0 4 Wg]) rfl dX12_shares_105 ?_
            refine g_iconst (pc := 108) X (iI 0) (by rfl) dX12_shares_108 ?_
            refine g_istore (pc := 109) X (by decide) (lv' := [(4, .int (iI 0)), (3, .int (iI n1)), (0, .ref g0), (1, .int (iI rm)), (2, .int (iI w))]) rfl dX12_shares_109 ?_
            have loop111 : ∀ (fuel : Nat) (k2 : Int) (Wb1 : Nat → Int), (0 ≤ k2 ∧ k2 ≤ 8) → (∀ j, j < 8 → (-2147483648) ≤ Wb1 j ∧ Wb1 j ≤ 2147483647) → (9 - k2).toNat < fuel → Gs p l e ({ frames := 6, cells := 0, slots := 0, locals := 144 } : Room) s m args below meth c (MQ below (gPost Z [(g0, .inr (12, mO gA nr tm at_ to_ fa va np tn pc_ st_ pa_ ta ow of_ ot rl hb bs se)), cA Z (gA 13) 0 7 Mw, cA Z (gA 14) 0 7 Mo, cR Z (gA 0) 6 7 (gG 0), cR Z (gA 4) 6 7 (gG 4), cR Z (gA 5) 6 7 (gG 5), cR Z (gA 6) 6 7 (gG 6), cR Z (gA 9) 6 7 (gG 9), cA Z (xA 0) 0 8 Ml, cA Z (xA 4) 0 8 Mow, cA Z (xA 5) 0 8 Mof, cA Z (xA 6) 0 8 Mot, cA Z (xA 9) 0 8 Md, cA Z (gA 58) 0 4 Bp, cA Z (gA 59) 0 4 Br, cA Z (gA 60) 0 8 Wo, cA Z (gA 61) 0 8 Wf, cA Z (gA 62) 0 8 Wb, cA Z (gA 63) 0 4 Wg] s.heap.size (fun r w' => ∃ (Wf2 : Nat → Int) (Wb2 : Nat → Int) (Wg2 : Nat → Int) (bs2 : Int), (r = none) ∧ (w' = [(g0, .inr (12, mO gA nr tm at_ to_ fa va np tn pc_ st_ pa_ ta ow of_ ot rl hb bs2 se)), cA Z (gA 13) 0 7 Mw, cA Z (gA 14) 0 7 Mo, cR Z (gA 0) 6 7 (gG 0), cR Z (gA 4) 6 7 (gG 4), cR Z (gA 5) 6 7 (gG 5), cR Z (gA 6) 6 7 (gG 6), cR Z (gA 9) 6 7 (gG 9), cA Z (xA 0) 0 8 Ml, cA Z (xA 4) 0 8 Mow, cA Z (xA 5) 0 8 Mof, cA Z (xA 6) 0 8 Mot, cA Z (xA 9) 0 8 Md, cA Z (gA 58) 0 4 Bp, cA Z (gA 59) 0 4 Br, cA Z (gA 60) 0 8 Wo, cA Z (gA 61) 0 8 Wf2, cA Z (gA 62) 0 8 Wb2, cA Z (gA 63) 0 4 Wg2]) ∧ ((-2147483648) ≤ bs2 ∧ bs2 ≤ 2147483647) ∧ (∀ j, j < 8 → (-2147483648) ≤ Wf2 j ∧ Wf2 j ≤ 2147483647) ∧ (∀ j, j < 8 → (-2147483648) ≤ Wb2 j ∧ Wb2 j ≤ 2147483647) ∧ (∀ j, j < 4 → (-2147483648) ≤ Wg2 j ∧ Wg2 j ≤ 2147483647))) args s 0 0 (va_A [(g0, .inr (12, mO gA nr tm at_ to_ fa va np tn pc_ st_ pa_ ta ow of_ ot rl hb bs se)), cA Z (gA 13) 0 7 Mw, cA Z (gA 14) 0 7 Mo, cR Z (gA 0) 6 7 (gG 0), cR Z (gA 4) 6 7 (gG 4), cR Z (gA 5) 6 7 (gG 5), cR Z (gA 6) 6 7 (gG 6), cR Z (gA 9) 6 7 (gG 9), cA Z (xA 0) 0 8 Ml, cA Z (xA 4) 0 8 Mow, cA Z (xA 5) 0 8 Mof, cA Z (xA 6) 0 8 Mot, cA Z (xA 9) 0 8 Md, cA Z (gA 58) 0 4 Bp, cA Z (gA 59) 0 4 Br, cA Z (gA 60) 0 8 Wo, cA Z (gA 61) 0 8 Wf, cA Z (gA 62) 0 8 Wb, cA Z (gA 63) 0 4 Wg] s.heap.size)) Z A 5 0 0 111 [(4, .int (iI k2)), (3, .int (iI n1)), (0, .ref g0), (1, .int (iI rm)), (2, .int (iI w))] [] [(g0, .inr (12, mO gA nr tm at_ to_ fa va np tn pc_ st_ pa_ ta ow of_ ot rl hb n1 se)), cA Z (gA 13) 0 7 Mw, cA Z (gA 14) 0 7 Mo, cR Z (gA 0) 6 7 (gG 0), cR Z (gA 4) 6 7 (gG 4), cR Z (gA 5) 6 7 (gG 5), cR Z (gA 6) 6 7 (gG 6), cR Z (gA 9) 6 7 (gG 9), cA Z (xA 0) 0 8 Ml, cA Z (xA 4) 0 8 Mow, cA Z (xA 5) 0 8 Mof, cA Z (xA 6) 0 8 Mot, cA Z (xA 9) 0 8 Md, cA Z (gA 58) 0 4 Bp, cA Z (gA 59) 0 4 Br, cA Z (gA 60) 0 8 Wo, cA Z (gA 61) 0 8 Wf, cA Z (gA 62) 0 8 Wb1, cA Z (gA 63) 0 4 Wg] := by
              intro fuel
              induction fuel with
              | zero => intro k2 Wb1 _ _ hm; exact absurd hm (Nat.not_lt_zero _)
              | succ fuel ih =>
                intro k2 Wb1 b_k2 h_Wb1 hm
                refine g_iload (pc := 111) X 0 rfl dX12_shares_111 ?_
                refine g_aload_n (pc := 113) X 2 rfl dX12_shares_113 ?_
                refine g_get (pc := 114) X inlX12 0 rfl rfl 13 (by decide) mw_8_1 rfl dX12_shares_114 ?_
                refine g_iload_n (pc := 117) X 3 rfl dX12_shares_117 ?_
                refine g_ialdI (pc := 118) X 1 rfl (b_rm.1) (Int.lt_of_le_of_lt b_rm.2 (by decide)) (Int.le_trans b_rm.2 (by decide)) dX12_shares_118 ?_
                refine g_nameI (fun y22 ey22 => ?_)
                have by22 : 0 ≤ y22 ∧ y22 ≤ 8 := by rw [ey22]; exact h_Mw _ (by (first | (clear b_nr b_tm b_at_ b_to_ b_fa b_va b_np b_tn b_pc_ b_st_ b_pa_ b_ta b_ow b_of_ b_ot b_rl b_hb b_bs b_se; omega) | omega))
                have ty22 : 1 ≤ y22 ∧ y22 ≤ 8 := by rw [ey22]; exact hwn
                refine g_icmp_geI (pc := 119) X 142 (by decide) (inRb b_k2 (by decide) (by decide)) (inRb by22 (by decide) (by decide)) dX12_shares_119 (fun c119 => ?_) (fun c119 => ?_)
                · exact g_vret (pc := 142) X hA (⟨Wf, Wb1, Wg, n1, rfl, rfl, (b_n1), (h_Wf), (h_Wb1), (h_Wg)⟩) (by decide) (by decide) dX12_shares_142
                · refine g_aload_n (pc := 122) X 2 rfl dX12_shares_122 ?_
                  refine g_get (pc := 123) X inlX12 0 rfl rfl 62 (by decide) mw_9_13 rfl dX12_shares_123 ?_
                  refine g_iload (pc := 126) X 0 rfl dX12_shares_126 ?_
                  refine g_aload_n (pc := 128) X 2 rfl dX12_shares_128 ?_
                  refine g_get (pc := 129) X inlX12 0 rfl rfl 61 (by decide) mw_9_12 rfl dX12_shares_129 ?_
                  refine g_iload (pc := 132) X 0 rfl dX12_shares_132 ?_
                  refine g_ialdI (pc := 134) X 16 rfl (b_k2.1) (by (first | (clear b_nr b_tm b_at_ b_to_ b_fa b_va b_np b_tn b_pc_ b_st_ b_pa_ b_ta b_ow b_of_ b_ot b_rl b_hb b_bs b_se; omega) | omega)) (Int.le_trans b_k2.2 (by decide)) dX12_shares_134 ?_
                  refine g_nameI (fun y23 ey23 => ?_)
                  have by23 : (-2147483648) ≤ y23 ∧ y23 ≤ 2147483647 := by rw [ey23]; exact h_Wf _ (by (first | (clear b_nr b_tm b_at_ b_to_ b_fa b_va b_np b_tn b_pc_ b_st_ b_pa_ b_ta b_ow b_of_ b_ot b_rl b_hb b_bs b_se; omega) | omega))
                  refine g_iastG (pc := 135) X 17 rfl (b_k2.1) (by (first | (clear b_nr b_tm b_at_ b_to_ b_fa b_va b_np b_tn b_pc_ b_st_ b_pa_ b_ta b_ow b_of_ b_ot b_rl b_hb b_bs b_se; omega) | omega)) (Int.le_trans b_k2.2 (by decide)) (ws' := fun F24 => [(g0, .inr (12, mO gA nr tm at_ to_ fa va np tn pc_ st_ pa_ ta ow of_ ot rl hb n1 se)), cA Z (gA 13) 0 7 Mw, cA Z (gA 14) 0 7 Mo, cR Z (gA 0) 6 7 (gG 0), cR Z (gA 4) 6 7 (gG 4), cR Z (gA 5) 6 7 (gG 5), cR Z (gA 6) 6 7 (gG 6), cR Z (gA 9) 6 7 (gG 9), cA Z (xA 0) 0 8 Ml, cA Z (xA 4) 0 8 Mow, cA Z (xA 5) 0 8 Mof, cA Z (xA 6) 0 8 Mot, cA Z (xA 9) 0 8 Md, cA Z (gA 58) 0 4 Bp, cA Z (gA 59) 0 4 Br, cA Z (gA 60) 0 8 Wo, cA Z (gA 61) 0 8 Wf, cA Z (gA 62) 0 8 F24, cA Z (gA 63) 0 4 Wg]) (fun _ => rfl) dX12_shares_135 (fun F24 eF24 => ?_)
                  have hF24 : ∀ j, j < 8 → (-2147483648) ≤ F24 j ∧ F24 j ≤ 2147483647 := by rw [eF24]; exact updI_B h_Wb1 (by (first | (clear b_nr b_tm b_at_ b_to_ b_fa b_va b_np b_tn b_pc_ b_st_ b_pa_ b_ta b_ow b_of_ b_ot b_rl b_hb b_bs b_se; omega) | omega))
                  refine g_iincI (pc := 136) X 0 rfl (by decide) (lv' := [(4, .int (iI (k2 + 1))), (3, .int (iI n1)), (0, .ref g0), (1, .int (iI rm)), (2, .int (iI w))]) rfl dX12_shares_136 ?_
                  refine g_goto (pc := 139) X 111 (by decide) dX12_shares_139 ?_
                  exact ih (k2 + 1) F24 (by (first | (clear b_nr b_tm b_at_ b_to_ b_fa b_va b_np b_tn b_pc_ b_st_ b_pa_ b_ta b_ow b_of_ b_ot b_rl b_hb b_bs b_se; omega) | omega)) (hF24) (by (first | (clear b_nr b_tm b_at_ b_to_ b_fa b_va b_np b_tn b_pc_ b_st_ b_pa_ b_ta b_ow b_of_ b_ot b_rl b_hb b_bs b_se; omega) | omega))
            exact loop111 _ 0 Wb (by (first | (clear b_nr b_tm b_at_ b_to_ b_fa b_va b_np b_tn b_pc_ b_st_ b_pa_ b_ta b_ow b_of_ b_ot b_rl b_hb b_bs b_se; omega) | omega)) (h_Wb) (Nat.lt_succ_self _)
          · refine g_iload_n (pc := 94) X 1 rfl dX12_shares_94 ?_
            refine g_aload_n (pc := 95) X 2 rfl dX12_shares_95 ?_
            refine g_get (pc := 96) X inlX12 0 rfl rfl 65 (by decide) mw_49_21 rfl dX12_shares_96 ?_
            refine g_icmp_ltI (pc := 99) X 103 (by decide) b_n1 b_bs dX12_shares_99 (fun c99 => ?_) (fun c99 => ?_)
            · refine g_aload_n (pc := 103) X 2 rfl dX12_shares_103 ?_
              refine g_iload_n (pc := 104) X 1 rfl dX12_shares_104 ?_
              refine g_put (pc := 105) X inlX12 tyX12_ok nmX12 0 rfl rfl 65 (by decide) mw_49_21 rfl rfl rfl (Nat.le_of_ble_eq_true rfl) (ws' := [(g0, .inr (12, mO gA nr tm at_ to_ fa va np tn pc_ st_ pa_ ta ow of_ ot rl hb n1 se)), cA Z (gA 13) 0 7 Mw, cA Z (gA 14) 0 7 Mo, cR Z (gA 0) 6 7 (gG 0), cR Z (gA 4) 6 7 (gG 4), cR Z (gA 5) 6 7 (gG 5), cR Z (gA 6) 6 7 (gG 6), cR Z (gA 9) 6 7 (gG 9), cA Z (xA 0) 0 8 Ml, cA Z (xA 4) 0 8 Mow, cA Z (xA 5) 0 8 Mof, cA Z (xA 6) 0 8 Mot, cA Z (xA 9) 0 8 Md, cA Z (gA 58) 0 4 Bp, cA Z (gA 59) 0 4 Br, cA Z (gA 60) 0 8 Wo, cA Z (gA 61) 0 8 Wf, cA Z (gA 62) 0 8 Wb, cA Z (gA 63) 0 4 Wg]) rfl dX12_shares_105 ?_
              refine g_iconst (pc := 108) X (iI 0) (by rfl) dX12_shares_108 ?_
              refine g_istore (pc := 109) X (by decide) (lv' := [(4, .int (iI 0)), (3, .int (iI n1)), (0, .ref g0), (1, .int (iI rm)), (2, .int (iI w))]) rfl dX12_shares_109 ?_
              have loop111 : ∀ (fuel : Nat) (k2 : Int) (Wb1 : Nat → Int), (0 ≤ k2 ∧ k2 ≤ 8) → (∀ j, j < 8 → (-2147483648) ≤ Wb1 j ∧ Wb1 j ≤ 2147483647) → (9 - k2).toNat < fuel → Gs p l e ({ frames := 6, cells := 0, slots := 0, locals := 144 } : Room) s m args below meth c (MQ below (gPost Z [(g0, .inr (12, mO gA nr tm at_ to_ fa va np tn pc_ st_ pa_ ta ow of_ ot rl hb bs se)), cA Z (gA 13) 0 7 Mw, cA Z (gA 14) 0 7 Mo, cR Z (gA 0) 6 7 (gG 0), cR Z (gA 4) 6 7 (gG 4), cR Z (gA 5) 6 7 (gG 5), cR Z (gA 6) 6 7 (gG 6), cR Z (gA 9) 6 7 (gG 9), cA Z (xA 0) 0 8 Ml, cA Z (xA 4) 0 8 Mow, cA Z (xA 5) 0 8 Mof, cA Z (xA 6) 0 8 Mot, cA Z (xA 9) 0 8 Md, cA Z (gA 58) 0 4 Bp, cA Z (gA 59) 0 4 Br, cA Z (gA 60) 0 8 Wo, cA Z (gA 61) 0 8 Wf, cA Z (gA 62) 0 8 Wb, cA Z (gA 63) 0 4 Wg] s.heap.size (fun r w' => ∃ (Wf2 : Nat → Int) (Wb2 : Nat → Int) (Wg2 : Nat → Int) (bs2 : Int), (r = none) ∧ (w' = [(g0, .inr (12, mO gA nr tm at_ to_ fa va np tn pc_ st_ pa_ ta ow of_ ot rl hb bs2 se)), cA Z (gA 13) 0 7 Mw, cA Z (gA 14) 0 7 Mo, cR Z (gA 0) 6 7 (gG 0), cR Z (gA 4) 6 7 (gG 4), cR Z (gA 5) 6 7 (gG 5), cR Z (gA 6) 6 7 (gG 6), cR Z (gA 9) 6 7 (gG 9), cA Z (xA 0) 0 8 Ml, cA Z (xA 4) 0 8 Mow, cA Z (xA 5) 0 8 Mof, cA Z (xA 6) 0 8 Mot, cA Z (xA 9) 0 8 Md, cA Z (gA 58) 0 4 Bp, cA Z (gA 59) 0 4 Br, cA Z (gA 60) 0 8 Wo, cA Z (gA 61) 0 8 Wf2, cA Z (gA 62) 0 8 Wb2, cA Z (gA 63) 0 4 Wg2]) ∧ ((-2147483648) ≤ bs2 ∧ bs2 ≤ 2147483647) ∧ (∀ j, j < 8 → (-2147483648) ≤ Wf2 j ∧ Wf2 j ≤ 2147483647) ∧ (∀ j, j < 8 → (-2147483648) ≤ Wb2 j ∧ Wb2 j ≤ 2147483647) ∧ (∀ j, j < 4 → (-2147483648) ≤ Wg2 j ∧ Wg2 j ≤ 2147483647))) args s 0 0 (va_A [(g0, .inr (12, mO gA nr tm at_ to_ fa va np tn pc_ st_ pa_ ta ow of_ ot rl hb bs se)), cA Z (gA 13) 0 7 Mw, cA Z (gA 14) 0 7 Mo, cR Z (gA 0) 6 7 (gG 0), cR Z (gA 4) 6 7 (gG 4), cR Z (gA 5) 6 7 (gG 5), cR Z (gA 6) 6 7 (gG 6), cR Z (gA 9) 6 7 (gG 9), cA Z (xA 0) 0 8 Ml, cA Z (xA 4) 0 8 Mow, cA Z (xA 5) 0 8 Mof, cA Z (xA 6) 0 8 Mot, cA Z (xA 9) 0 8 Md, cA Z (gA 58) 0 4 Bp, cA Z (gA 59) 0 4 Br, cA Z (gA 60) 0 8 Wo, cA Z (gA 61) 0 8 Wf, cA Z (gA 62) 0 8 Wb, cA Z (gA 63) 0 4 Wg] s.heap.size)) Z A 5 0 0 111 [(4, .int (iI k2)), (3, .int (iI n1)), (0, .ref g0), (1, .int (iI rm)), (2, .int (iI w))] [] [(g0, .inr (12, mO gA nr tm at_ to_ fa va np tn pc_ st_ pa_ ta ow of_ ot rl hb n1 se)), cA Z (gA 13) 0 7 Mw, cA Z (gA 14) 0 7 Mo, cR Z (gA 0) 6 7 (gG 0), cR Z (gA 4) 6 7 (gG 4), cR Z (gA 5) 6 7 (gG 5), cR Z (gA 6) 6 7 (gG 6), cR Z (gA 9) 6 7 (gG 9), cA Z (xA 0) 0 8 Ml, cA Z (xA 4) 0 8 Mow, cA Z (xA 5) 0 8 Mof, cA Z (xA 6) 0 8 Mot, cA Z (xA 9) 0 8 Md, cA Z (gA 58) 0 4 Bp, cA Z (gA 59) 0 4 Br, cA Z (gA 60) 0 8 Wo, cA Z (gA 61) 0 8 Wf, cA Z (gA 62) 0 8 Wb1, cA Z (gA 63) 0 4 Wg] := by
                intro fuel
                induction fuel with
                | zero => intro k2 Wb1 _ _ hm; exact absurd hm (Nat.not_lt_zero _)
                | succ fuel ih =>
                  intro k2 Wb1 b_k2 h_Wb1 hm
                  refine g_iload (pc := 111) X 0 rfl dX12_shares_111 ?_
                  refine g_aload_n (pc := 113) X 2 rfl dX12_shares_113 ?_
                  refine g_get (pc := 114) X inlX12 0 rfl rfl 13 (by decide) mw_8_1 rfl dX12_shares_114 ?_
                  refine g_iload_n (pc := 117) X 3 rfl dX12_shares_117 ?_
                  refine g_ialdI (pc := 118) X 1 rfl (b_rm.1) (Int.lt_of_le_of_lt b_rm.2 (by decide)) (Int.le_trans b_rm.2 (by decide)) dX12_shares_118 ?_
                  refine g_nameI (fun y25 ey25 => ?_)
                  have by25 : 0 ≤ y25 ∧ y25 ≤ 8 := by rw [ey25]; exact h_Mw _ (by (first | (clear b_nr b_tm b_at_ b_to_ b_fa b_va b_np b_tn b_pc_ b_st_ b_pa_ b_ta b_ow b_of_ b_ot b_rl b_hb b_bs b_se; omega) | omega))
                  have ty25 : 1 ≤ y25 ∧ y25 ≤ 8 := by rw [ey25]; exact hwn
                  refine g_icmp_geI (pc := 119) X 142 (by decide) (inRb b_k2 (by decide) (by decide)) (inRb by25 (by decide) (by decide)) dX12_shares_119 (fun c119 => ?_) (fun c119 => ?_)
                  · exact g_vret (pc := 142) X hA (⟨Wf, Wb1, Wg, n1, rfl, rfl, (b_n1), (h_Wf), (h_Wb1), (h_Wg)⟩) (by decide) (by decide) dX12_shares_142
                  · refine g_aload_n (pc := 122) X 2 rfl dX12_shares_122 ?_
                    refine g_get (pc := 123) X inlX12 0 rfl rfl 62 (by decide) mw_9_13 rfl dX12_shares_123 ?_
                    refine g_iload (pc := 126) X 0 rfl dX12_shares_126 ?_
                    refine g_aload_n (pc := 128) X 2 rfl dX12_shares_128 ?_
                    refine g_get (pc := 129) X inlX12 0 rfl rfl 61 (by decide) mw_9_12 rfl dX12_shares_129 ?_
                    refine g_iload (pc := 132) X 0 rfl dX12_shares_132 ?_
                    refine g_ialdI (pc := 134) X 16 rfl (b_k2.1) (by (first | (clear b_nr b_tm b_at_ b_to_ b_fa b_va b_np b_tn b_pc_ b_st_ b_pa_ b_ta b_ow b_of_ b_ot b_rl b_hb b_bs b_se; omega) | omega)) (Int.le_trans b_k2.2 (by decide)) dX12_shares_134 ?_
                    refine g_nameI (fun y26 ey26 => ?_)
                    have by26 : (-2147483648) ≤ y26 ∧ y26 ≤ 2147483647 := by rw [ey26]; exact h_Wf _ (by (first | (clear b_nr b_tm b_at_ b_to_ b_fa b_va b_np b_tn b_pc_ b_st_ b_pa_ b_ta b_ow b_of_ b_ot b_rl b_hb b_bs b_se; omega) | omega))
                    refine g_iastG (pc := 135) X 17 rfl (b_k2.1) (by (first | (clear b_nr b_tm b_at_ b_to_ b_fa b_va b_np b_tn b_pc_ b_st_ b_pa_ b_ta b_ow b_of_ b_ot b_rl b_hb b_bs b_se; omega) | omega)) (Int.le_trans b_k2.2 (by decide)) (ws' := fun F27 => [(g0, .inr (12, mO gA nr tm at_ to_ fa va np tn pc_ st_ pa_ ta ow of_ ot rl hb n1 se)), cA Z (gA 13) 0 7 Mw, cA Z (gA 14) 0 7 Mo, cR Z (gA 0) 6 7 (gG 0), cR Z (gA 4) 6 7 (gG 4), cR Z (gA 5) 6 7 (gG 5), cR Z (gA 6) 6 7 (gG 6), cR Z (gA 9) 6 7 (gG 9), cA Z (xA 0) 0 8 Ml, cA Z (xA 4) 0 8 Mow, cA Z (xA 5) 0 8 Mof, cA Z (xA 6) 0 8 Mot, cA Z (xA 9) 0 8 Md, cA Z (gA 58) 0 4 Bp, cA Z (gA 59) 0 4 Br, cA Z (gA 60) 0 8 Wo, cA Z (gA 61) 0 8 Wf, cA Z (gA 62) 0 8 F27, cA Z (gA 63) 0 4 Wg]) (fun _ => rfl) dX12_shares_135 (fun F27 eF27 => ?_)
                    have hF27 : ∀ j, j < 8 → (-2147483648) ≤ F27 j ∧ F27 j ≤ 2147483647 := by rw [eF27]; exact updI_B h_Wb1 (by (first | (clear b_nr b_tm b_at_ b_to_ b_fa b_va b_np b_tn b_pc_ b_st_ b_pa_ b_ta b_ow b_of_ b_ot b_rl b_hb b_bs b_se; omega) | omega))
                    refine g_iincI (pc := 136) X 0 rfl (by decide) (lv' := [(4, .int (iI (k2 + 1))), (3, .int (iI n1)), (0, .ref g0), (1, .int (iI rm)), (2, .int (iI w))]) rfl dX12_shares_136 ?_
                    refine g_goto (pc := 139) X 111 (by decide) dX12_shares_139 ?_
                    exact ih (k2 + 1) F27 (by (first | (clear b_nr b_tm b_at_ b_to_ b_fa b_va b_np b_tn b_pc_ b_st_ b_pa_ b_ta b_ow b_of_ b_ot b_rl b_hb b_bs b_se; omega) | omega)) (hF27) (by (first | (clear b_nr b_tm b_at_ b_to_ b_fa b_va b_np b_tn b_pc_ b_st_ b_pa_ b_ta b_ow b_of_ b_ot b_rl b_hb b_bs b_se; omega) | omega))
              exact loop111 _ 0 Wb (by (first | (clear b_nr b_tm b_at_ b_to_ b_fa b_va b_np b_tn b_pc_ b_st_ b_pa_ b_ta b_ow b_of_ b_ot b_rl b_hb b_bs b_se; omega) | omega)) (h_Wb) (Nat.lt_succ_self _)
            · exact g_vret (pc := 102) X hA (⟨Wf, Wb, Wg, bs, rfl, rfl, (b_bs), (h_Wf), (h_Wb), (h_Wg)⟩) (by decide) (by decide) dX12_shares_102
        · refine g_aload_n (pc := 26) X 2 rfl dX12_shares_26 ?_
          refine g_get (pc := 27) X inlX12 0 rfl rfl 13 (by decide) mw_8_1 rfl dX12_shares_27 ?_
          refine g_iload_n (pc := 30) X 3 rfl dX12_shares_30 ?_
          refine g_ialdI (pc := 31) X 1 rfl (b_rm.1) (Int.lt_of_le_of_lt b_rm.2 (by decide)) (Int.le_trans b_rm.2 (by decide)) dX12_shares_31 ?_
          refine g_nameI (fun y28 ey28 => ?_)
          have by28 : 0 ≤ y28 ∧ y28 ≤ 8 := by rw [ey28]; exact h_Mw _ (by (first | (clear b_nr b_tm b_at_ b_to_ b_fa b_va b_np b_tn b_pc_ b_st_ b_pa_ b_ta b_ow b_of_ b_ot b_rl b_hb b_bs b_se; omega) | omega))
          have ty28 : 1 ≤ y28 ∧ y28 ≤ 8 := by rw [ey28]; exact hwn
          refine g_iconst (pc := 32) X (iI 1) (by rfl) dX12_shares_32 ?_
          refine g_icmp_leI (pc := 33) X 86 (by decide) (inRb by28 (by decide) (by decide)) ⟨by decide, by decide⟩ dX12_shares_33 (fun c33 => ?_) (fun c33 => ?_)
          · refine g_aload_n (pc := 86) X 2 rfl dX12_shares_86 ?_
            refine g_get (pc := 87) X inlX12 0 rfl rfl 65 (by decide) mw_49_21 rfl dX12_shares_87 ?_
            refine g_iconst (pc := 90) X (iI (-1)) (by rfl) dX12_shares_90 ?_
            refine g_icmp_eqI (pc := 91) X 103 (by decide) b_bs ⟨by decide, by decide⟩ dX12_shares_91 (fun c91 => ?_) (fun c91 => ?_)
            · refine g_aload_n (pc := 103) X 2 rfl dX12_shares_103 ?_
              refine g_iload_n (pc := 104) X 1 rfl dX12_shares_104 ?_
              refine g_put (pc := 105) X inlX12 tyX12_ok nmX12 0 rfl rfl 65 (by decide) mw_49_21 rfl rfl rfl (Nat.le_of_ble_eq_true rfl) (ws' := [(g0, .inr (12, mO gA nr tm at_ to_ fa va np tn pc_ st_ pa_ ta ow of_ ot rl hb n1 se)), cA Z (gA 13) 0 7 Mw, cA Z (gA 14) 0 7 Mo, cR Z (gA 0) 6 7 (gG 0), cR Z (gA 4) 6 7 (gG 4), cR Z (gA 5) 6 7 (gG 5), cR Z (gA 6) 6 7 (gG 6), cR Z (gA 9) 6 7 (gG 9), cA Z (xA 0) 0 8 Ml, cA Z (xA 4) 0 8 Mow, cA Z (xA 5) 0 8 Mof, cA Z (xA 6) 0 8 Mot, cA Z (xA 9) 0 8 Md, cA Z (gA 58) 0 4 Bp, cA Z (gA 59) 0 4 Br, cA Z (gA 60) 0 8 Wo, cA Z (gA 61) 0 8 Wf, cA Z (gA 62) 0 8 Wb, cA Z (gA 63) 0 4 Wg]) rfl dX12_shares_105 ?_
              refine g_iconst (pc := 108) X (iI 0) (by rfl) dX12_shares_108 ?_
              refine g_istore (pc := 109) X (by decide) (lv' := [(4, .int (iI 0)), (3, .int (iI n1)), (0, .ref g0), (1, .int (iI rm)), (2, .int (iI w))]) rfl dX12_shares_109 ?_
              have loop111 : ∀ (fuel : Nat) (k2 : Int) (Wb1 : Nat → Int), (0 ≤ k2 ∧ k2 ≤ 8) → (∀ j, j < 8 → (-2147483648) ≤ Wb1 j ∧ Wb1 j ≤ 2147483647) → (9 - k2).toNat < fuel → Gs p l e ({ frames := 6, cells := 0, slots := 0, locals := 144 } : Room) s m args below meth c (MQ below (gPost Z [(g0, .inr (12, mO gA nr tm at_ to_ fa va np tn pc_ st_ pa_ ta ow of_ ot rl hb bs se)), cA Z (gA 13) 0 7 Mw, cA Z (gA 14) 0 7 Mo, cR Z (gA 0) 6 7 (gG 0), cR Z (gA 4) 6 7 (gG 4), cR Z (gA 5) 6 7 (gG 5), cR Z (gA 6) 6 7 (gG 6), cR Z (gA 9) 6 7 (gG 9), cA Z (xA 0) 0 8 Ml, cA Z (xA 4) 0 8 Mow, cA Z (xA 5) 0 8 Mof, cA Z (xA 6) 0 8 Mot, cA Z (xA 9) 0 8 Md, cA Z (gA 58) 0 4 Bp, cA Z (gA 59) 0 4 Br, cA Z (gA 60) 0 8 Wo, cA Z (gA 61) 0 8 Wf, cA Z (gA 62) 0 8 Wb, cA Z (gA 63) 0 4 Wg] s.heap.size (fun r w' => ∃ (Wf2 : Nat → Int) (Wb2 : Nat → Int) (Wg2 : Nat → Int) (bs2 : Int), (r = none) ∧ (w' = [(g0, .inr (12, mO gA nr tm at_ to_ fa va np tn pc_ st_ pa_ ta ow of_ ot rl hb bs2 se)), cA Z (gA 13) 0 7 Mw, cA Z (gA 14) 0 7 Mo, cR Z (gA 0) 6 7 (gG 0), cR Z (gA 4) 6 7 (gG 4), cR Z (gA 5) 6 7 (gG 5), cR Z (gA 6) 6 7 (gG 6), cR Z (gA 9) 6 7 (gG 9), cA Z (xA 0) 0 8 Ml, cA Z (xA 4) 0 8 Mow, cA Z (xA 5) 0 8 Mof, cA Z (xA 6) 0 8 Mot, cA Z (xA 9) 0 8 Md, cA Z (gA 58) 0 4 Bp, cA Z (gA 59) 0 4 Br, cA Z (gA 60) 0 8 Wo, cA Z (gA 61) 0 8 Wf2, cA Z (gA 62) 0 8 Wb2, cA Z (gA 63) 0 4 Wg2]) ∧ ((-2147483648) ≤ bs2 ∧ bs2 ≤ 2147483647) ∧ (∀ j, j < 8 → (-2147483648) ≤ Wf2 j ∧ Wf2 j ≤ 2147483647) ∧ (∀ j, j < 8 → (-2147483648) ≤ Wb2 j ∧ Wb2 j ≤ 2147483647) ∧ (∀ j, j < 4 → (-2147483648) ≤ Wg2 j ∧ Wg2 j ≤ 2147483647))) args s 0 0 (va_A [(g0, .inr (12, mO gA nr tm at_ to_ fa va np tn pc_ st_ pa_ ta ow of_ ot rl hb bs se)), cA Z (gA 13) 0 7 Mw, cA Z (gA 14) 0 7 Mo, cR Z (gA 0) 6 7 (gG 0), cR Z (gA 4) 6 7 (gG 4), cR Z (gA 5) 6 7 (gG 5), cR Z (gA 6) 6 7 (gG 6), cR Z (gA 9) 6 7 (gG 9), cA Z (xA 0) 0 8 Ml, cA Z (xA 4) 0 8 Mow, cA Z (xA 5) 0 8 Mof, cA Z (xA 6) 0 8 Mot, cA Z (xA 9) 0 8 Md, cA Z (gA 58) 0 4 Bp, cA Z (gA 59) 0 4 Br, cA Z (gA 60) 0 8 Wo, cA Z (gA 61) 0 8 Wf, cA Z (gA 62) 0 8 Wb, cA Z (gA 63) 0 4 Wg] s.heap.size)) Z A 5 0 0 111 [(4, .int (iI k2)), (3, .int (iI n1)), (0, .ref g0), (1, .int (iI rm)), (2, .int (iI w))] [] [(g0, .inr (12, mO gA nr tm at_ to_ fa va np tn pc_ st_ pa_ ta ow of_ ot rl hb n1 se)), cA Z (gA 13) 0 7 Mw, cA Z (gA 14) 0 7 Mo, cR Z (gA 0) 6 7 (gG 0), cR Z (gA 4) 6 7 (gG 4), cR Z (gA 5) 6 7 (gG 5), cR Z (gA 6) 6 7 (gG 6), cR Z (gA 9) 6 7 (gG 9), cA Z (xA 0) 0 8 Ml, cA Z (xA 4) 0 8 Mow, cA Z (xA 5) 0 8 Mof, cA Z (xA 6) 0 8 Mot, cA Z (xA 9) 0 8 Md, cA Z (gA 58) 0 4 Bp, cA Z (gA 59) 0 4 Br, cA Z (gA 60) 0 8 Wo, cA Z (gA 61) 0 8 Wf, cA Z (gA 62) 0 8 Wb1, cA Z (gA 63) 0 4 Wg] := by
                intro fuel
                induction fuel with
                | zero => intro k2 Wb1 _ _ hm; exact absurd hm (Nat.not_lt_zero _)
                | succ fuel ih =>
                  intro k2 Wb1 b_k2 h_Wb1 hm
                  refine g_iload (pc := 111) X 0 rfl dX12_shares_111 ?_
                  refine g_aload_n (pc := 113) X 2 rfl dX12_shares_113 ?_
                  refine g_get (pc := 114) X inlX12 0 rfl rfl 13 (by decide) mw_8_1 rfl dX12_shares_114 ?_
                  refine g_iload_n (pc := 117) X 3 rfl dX12_shares_117 ?_
                  refine g_ialdI (pc := 118) X 1 rfl (b_rm.1) (Int.lt_of_le_of_lt b_rm.2 (by decide)) (Int.le_trans b_rm.2 (by decide)) dX12_shares_118 ?_
                  refine g_nameI (fun y29 ey29 => ?_)
                  have by29 : 0 ≤ y29 ∧ y29 ≤ 8 := by rw [ey29]; exact h_Mw _ (by (first | (clear b_nr b_tm b_at_ b_to_ b_fa b_va b_np b_tn b_pc_ b_st_ b_pa_ b_ta b_ow b_of_ b_ot b_rl b_hb b_bs b_se; omega) | omega))
                  have ty29 : 1 ≤ y29 ∧ y29 ≤ 8 := by rw [ey29]; exact hwn
                  refine g_icmp_geI (pc := 119) X 142 (by decide) (inRb b_k2 (by decide) (by decide)) (inRb by29 (by decide) (by decide)) dX12_shares_119 (fun c119 => ?_) (fun c119 => ?_)
                  · exact g_vret (pc := 142) X hA (⟨Wf, Wb1, Wg, n1, rfl, rfl, (b_n1), (h_Wf), (h_Wb1), (h_Wg)⟩) (by decide) (by decide) dX12_shares_142
                  · refine g_aload_n (pc := 122) X 2 rfl dX12_shares_122 ?_
                    refine g_get (pc := 123) X inlX12 0 rfl rfl 62 (by decide) mw_9_13 rfl dX12_shares_123 ?_
                    refine g_iload (pc := 126) X 0 rfl dX12_shares_126 ?_
                    refine g_aload_n (pc := 128) X 2 rfl dX12_shares_128 ?_
                    refine g_get (pc := 129) X inlX12 0 rfl rfl 61 (by decide) mw_9_12 rfl dX12_shares_129 ?_
                    refine g_iload (pc := 132) X 0 rfl dX12_shares_132 ?_
                    refine g_ialdI (pc := 134) X 16 rfl (b_k2.1) (by (first | (clear b_nr b_tm b_at_ b_to_ b_fa b_va b_np b_tn b_pc_ b_st_ b_pa_ b_ta b_ow b_of_ b_ot b_rl b_hb b_bs b_se; omega) | omega)) (Int.le_trans b_k2.2 (by decide)) dX12_shares_134 ?_
                    refine g_nameI (fun y30 ey30 => ?_)
                    have by30 : (-2147483648) ≤ y30 ∧ y30 ≤ 2147483647 := by rw [ey30]; exact h_Wf _ (by (first | (clear b_nr b_tm b_at_ b_to_ b_fa b_va b_np b_tn b_pc_ b_st_ b_pa_ b_ta b_ow b_of_ b_ot b_rl b_hb b_bs b_se; omega) | omega))
                    refine g_iastG (pc := 135) X 17 rfl (b_k2.1) (by (first | (clear b_nr b_tm b_at_ b_to_ b_fa b_va b_np b_tn b_pc_ b_st_ b_pa_ b_ta b_ow b_of_ b_ot b_rl b_hb b_bs b_se; omega) | omega)) (Int.le_trans b_k2.2 (by decide)) (ws' := fun F31 => [(g0, .inr (12, mO gA nr tm at_ to_ fa va np tn pc_ st_ pa_ ta ow of_ ot rl hb n1 se)), cA Z (gA 13) 0 7 Mw, cA Z (gA 14) 0 7 Mo, cR Z (gA 0) 6 7 (gG 0), cR Z (gA 4) 6 7 (gG 4), cR Z (gA 5) 6 7 (gG 5), cR Z (gA 6) 6 7 (gG 6), cR Z (gA 9) 6 7 (gG 9), cA Z (xA 0) 0 8 Ml, cA Z (xA 4) 0 8 Mow, cA Z (xA 5) 0 8 Mof, cA Z (xA 6) 0 8 Mot, cA Z (xA 9) 0 8 Md, cA Z (gA 58) 0 4 Bp, cA Z (gA 59) 0 4 Br, cA Z (gA 60) 0 8 Wo, cA Z (gA 61) 0 8 Wf, cA Z (gA 62) 0 8 F31, cA Z (gA 63) 0 4 Wg]) (fun _ => rfl) dX12_shares_135 (fun F31 eF31 => ?_)
                    have hF31 : ∀ j, j < 8 → (-2147483648) ≤ F31 j ∧ F31 j ≤ 2147483647 := by rw [eF31]; exact updI_B h_Wb1 (by (first | (clear b_nr b_tm b_at_ b_to_ b_fa b_va b_np b_tn b_pc_ b_st_ b_pa_ b_ta b_ow b_of_ b_ot b_rl b_hb b_bs b_se; omega) | omega))
                    refine g_iincI (pc := 136) X 0 rfl (by decide) (lv' := [(4, .int (iI (k2 + 1))), (3, .int (iI n1)), (0, .ref g0), (1, .int (iI rm)), (2, .int (iI w))]) rfl dX12_shares_136 ?_
                    refine g_goto (pc := 139) X 111 (by decide) dX12_shares_139 ?_
                    exact ih (k2 + 1) F31 (by (first | (clear b_nr b_tm b_at_ b_to_ b_fa b_va b_np b_tn b_pc_ b_st_ b_pa_ b_ta b_ow b_of_ b_ot b_rl b_hb b_bs b_se; omega) | omega)) (hF31) (by (first | (clear b_nr b_tm b_at_ b_to_ b_fa b_va b_np b_tn b_pc_ b_st_ b_pa_ b_ta b_ow b_of_ b_ot b_rl b_hb b_bs b_se; omega) | omega))
              exact loop111 _ 0 Wb (by (first | (clear b_nr b_tm b_at_ b_to_ b_fa b_va b_np b_tn b_pc_ b_st_ b_pa_ b_ta b_ow b_of_ b_ot b_rl b_hb b_bs b_se; omega) | omega)) (h_Wb) (Nat.lt_succ_self _)
            · refine g_iload_n (pc := 94) X 1 rfl dX12_shares_94 ?_
              refine g_aload_n (pc := 95) X 2 rfl dX12_shares_95 ?_
              refine g_get (pc := 96) X inlX12 0 rfl rfl 65 (by decide) mw_49_21 rfl dX12_shares_96 ?_
              refine g_icmp_ltI (pc := 99) X 103 (by decide) b_n1 b_bs dX12_shares_99 (fun c99 => ?_) (fun c99 => ?_)
              · refine g_aload_n (pc := 103) X 2 rfl dX12_shares_103 ?_
                refine g_iload_n (pc := 104) X 1 rfl dX12_shares_104 ?_
                refine g_put (pc := 105) X inlX12 tyX12_ok nmX12 0 rfl rfl 65 (by decide) mw_49_21 rfl rfl rfl (Nat.le_of_ble_eq_true rfl) (ws' := [(g0, .inr (12, mO gA nr tm at_ to_ fa va np tn pc_ st_ pa_ ta ow of_ ot rl hb n1 se)), cA Z (gA 13) 0 7 Mw, cA Z (gA 14) 0 7 Mo, cR Z (gA 0) 6 7 (gG 0), cR Z (gA 4) 6 7 (gG 4), cR Z (gA 5) 6 7 (gG 5), cR Z (gA 6) 6 7 (gG 6), cR Z (gA 9) 6 7 (gG 9), cA Z (xA 0) 0 8 Ml, cA Z (xA 4) 0 8 Mow, cA Z (xA 5) 0 8 Mof, cA Z (xA 6) 0 8 Mot, cA Z (xA 9) 0 8 Md, cA Z (gA 58) 0 4 Bp, cA Z (gA 59) 0 4 Br, cA Z (gA 60) 0 8 Wo, cA Z (gA 61) 0 8 Wf, cA Z (gA 62) 0 8 Wb, cA Z (gA 63) 0 4 Wg]) rfl dX12_shares_105 ?_
                refine g_iconst (pc := 108) X (iI 0) (by rfl) dX12_shares_108 ?_
                refine g_istore (pc := 109) X (by decide) (lv' := [(4, .int (iI 0)), (3, .int (iI n1)), (0, .ref g0), (1, .int (iI rm)), (2, .int (iI w))]) rfl dX12_shares_109 ?_
                have loop111 : ∀ (fuel : Nat) (k2 : Int) (Wb1 : Nat → Int), (0 ≤ k2 ∧ k2 ≤ 8) → (∀ j, j < 8 → (-2147483648) ≤ Wb1 j ∧ Wb1 j ≤ 2147483647) → (9 - k2).toNat < fuel → Gs p l e ({ frames := 6, cells := 0, slots := 0, locals := 144 } : Room) s m args below meth c (MQ below (gPost Z [(g0, .inr (12, mO gA nr tm at_ to_ fa va np tn pc_ st_ pa_ ta ow of_ ot rl hb bs se)), cA Z (gA 13) 0 7 Mw, cA Z (gA 14) 0 7 Mo, cR Z (gA 0) 6 7 (gG 0), cR Z (gA 4) 6 7 (gG 4), cR Z (gA 5) 6 7 (gG 5), cR Z (gA 6) 6 7 (gG 6), cR Z (gA 9) 6 7 (gG 9), cA Z (xA 0) 0 8 Ml, cA Z (xA 4) 0 8 Mow, cA Z (xA 5) 0 8 Mof, cA Z (xA 6) 0 8 Mot, cA Z (xA 9) 0 8 Md, cA Z (gA 58) 0 4 Bp, cA Z (gA 59) 0 4 Br, cA Z (gA 60) 0 8 Wo, cA Z (gA 61) 0 8 Wf, cA Z (gA 62) 0 8 Wb, cA Z (gA 63) 0 4 Wg] s.heap.size (fun r w' => ∃ (Wf2 : Nat → Int) (Wb2 : Nat → Int) (Wg2 : Nat → Int) (bs2 : Int), (r = none) ∧ (w' = [(g0, .inr (12, mO gA nr tm at_ to_ fa va np tn pc_ st_ pa_ ta ow of_ ot rl hb bs2 se)), cA Z (gA 13) 0 7 Mw, cA Z (gA 14) 0 7 Mo, cR Z (gA 0) 6 7 (gG 0), cR Z (gA 4) 6 7 (gG 4), cR Z (gA 5) 6 7 (gG 5), cR Z (gA 6) 6 7 (gG 6), cR Z (gA 9) 6 7 (gG 9), cA Z (xA 0) 0 8 Ml, cA Z (xA 4) 0 8 Mow, cA Z (xA 5) 0 8 Mof, cA Z (xA 6) 0 8 Mot, cA Z (xA 9) 0 8 Md, cA Z (gA 58) 0 4 Bp, cA Z (gA 59) 0 4 Br, cA Z (gA 60) 0 8 Wo, cA Z (gA 61) 0 8 Wf2, cA Z (gA 62) 0 8 Wb2, cA Z (gA 63) 0 4 Wg2]) ∧ ((-2147483648) ≤ bs2 ∧ bs2 ≤ 2147483647) ∧ (∀ j, j < 8 → (-2147483648) ≤ Wf2 j ∧ Wf2 j ≤ 2147483647) ∧ (∀ j, j < 8 → (-2147483648) ≤ Wb2 j ∧ Wb2 j ≤ 2147483647) ∧ (∀ j, j < 4 → (-2147483648) ≤ Wg2 j ∧ Wg2 j ≤ 2147483647))) args s 0 0 (va_A [(g0, .inr (12, mO gA nr tm at_ to_ fa va np tn pc_ st_ pa_ ta ow of_ ot rl hb bs se)), cA Z (gA 13) 0 7 Mw, cA Z (gA 14) 0 7 Mo, cR Z (gA 0) 6 7 (gG 0), cR Z (gA 4) 6 7 (gG 4), cR Z (gA 5) 6 7 (gG 5), cR Z (gA 6) 6 7 (gG 6), cR Z (gA 9) 6 7 (gG 9), cA Z (xA 0) 0 8 Ml, cA Z (xA 4) 0 8 Mow, cA Z (xA 5) 0 8 Mof, cA Z (xA 6) 0 8 Mot, cA Z (xA 9) 0 8 Md, cA Z (gA 58) 0 4 Bp, cA Z (gA 59) 0 4 Br, cA Z (gA 60) 0 8 Wo, cA Z (gA 61) 0 8 Wf, cA Z (gA 62) 0 8 Wb, cA Z (gA 63) 0 4 Wg] s.heap.size)) Z A 5 0 0 111 [(4, .int (iI k2)), (3, .int (iI n1)), (0, .ref g0), (1, .int (iI rm)), (2, .int (iI w))] [] [(g0, .inr (12, mO gA nr tm at_ to_ fa va np tn pc_ st_ pa_ ta ow of_ ot rl hb n1 se)), cA Z (gA 13) 0 7 Mw, cA Z (gA 14) 0 7 Mo, cR Z (gA 0) 6 7 (gG 0), cR Z (gA 4) 6 7 (gG 4), cR Z (gA 5) 6 7 (gG 5), cR Z (gA 6) 6 7 (gG 6), cR Z (gA 9) 6 7 (gG 9), cA Z (xA 0) 0 8 Ml, cA Z (xA 4) 0 8 Mow, cA Z (xA 5) 0 8 Mof, cA Z (xA 6) 0 8 Mot, cA Z (xA 9) 0 8 Md, cA Z (gA 58) 0 4 Bp, cA Z (gA 59) 0 4 Br, cA Z (gA 60) 0 8 Wo, cA Z (gA 61) 0 8 Wf, cA Z (gA 62) 0 8 Wb1, cA Z (gA 63) 0 4 Wg] := by
                  intro fuel
                  induction fuel with
                  | zero => intro k2 Wb1 _ _ hm; exact absurd hm (Nat.not_lt_zero _)
                  | succ fuel ih =>
                    intro k2 Wb1 b_k2 h_Wb1 hm
                    refine g_iload (pc := 111) X 0 rfl dX12_shares_111 ?_
                    refine g_aload_n (pc := 113) X 2 rfl dX12_shares_113 ?_
                    refine g_get (pc := 114) X inlX12 0 rfl rfl 13 (by decide) mw_8_1 rfl dX12_shares_114 ?_
                    refine g_iload_n (pc := 117) X 3 rfl dX12_shares_117 ?_
                    refine g_ialdI (pc := 118) X 1 rfl (b_rm.1) (Int.lt_of_le_of_lt b_rm.2 (by decide)) (Int.le_trans b_rm.2 (by decide)) dX12_shares_118 ?_
                    refine g_nameI (fun y32 ey32 => ?_)
                    have by32 : 0 ≤ y32 ∧ y32 ≤ 8 := by rw [ey32]; exact h_Mw _ (by (first | (clear b_nr b_tm b_at_ b_to_ b_fa b_va b_np b_tn b_pc_ b_st_ b_pa_ b_ta b_ow b_of_ b_ot b_rl b_hb b_bs b_se; omega) | omega))
                    have ty32 : 1 ≤ y32 ∧ y32 ≤ 8 := by rw [ey32]; exact hwn
                    refine g_icmp_geI (pc := 119) X 142 (by decide) (inRb b_k2 (by decide) (by decide)) (inRb by32 (by decide) (by decide)) dX12_shares_119 (fun c119 => ?_) (fun c119 => ?_)
                    · exact g_vret (pc := 142) X hA (⟨Wf, Wb1, Wg, n1, rfl, rfl, (b_n1), (h_Wf), (h_Wb1), (h_Wg)⟩) (by decide) (by decide) dX12_shares_142
                    · refine g_aload_n (pc := 122) X 2 rfl dX12_shares_122 ?_
                      refine g_get (pc := 123) X inlX12 0 rfl rfl 62 (by decide) mw_9_13 rfl dX12_shares_123 ?_
                      refine g_iload (pc := 126) X 0 rfl dX12_shares_126 ?_
                      refine g_aload_n (pc := 128) X 2 rfl dX12_shares_128 ?_
                      refine g_get (pc := 129) X inlX12 0 rfl rfl 61 (by decide) mw_9_12 rfl dX12_shares_129 ?_
                      refine g_iload (pc := 132) X 0 rfl dX12_shares_132 ?_
                      refine g_ialdI (pc := 134) X 16 rfl (b_k2.1) (by (first | (clear b_nr b_tm b_at_ b_to_ b_fa b_va b_np b_tn b_pc_ b_st_ b_pa_ b_ta b_ow b_of_ b_ot b_rl b_hb b_bs b_se; omega) | omega)) (Int.le_trans b_k2.2 (by decide)) dX12_shares_134 ?_
                      refine g_nameI (fun y33 ey33 => ?_)
                      have by33 : (-2147483648) ≤ y33 ∧ y33 ≤ 2147483647 := by rw [ey33]; exact h_Wf _ (by (first | (clear b_nr b_tm b_at_ b_to_ b_fa b_va b_np b_tn b_pc_ b_st_ b_pa_ b_ta b_ow b_of_ b_ot b_rl b_hb b_bs b_se; omega) | omega))
                      refine g_iastG (pc := 135) X 17 rfl (b_k2.1) (by (first | (clear b_nr b_tm b_at_ b_to_ b_fa b_va b_np b_tn b_pc_ b_st_ b_pa_ b_ta b_ow b_of_ b_ot b_rl b_hb b_bs b_se; omega) | omega)) (Int.le_trans b_k2.2 (by decide)) (ws' := fun F34 => [(g0, .inr (12, mO gA nr tm at_ to_ fa va np tn pc_ st_ pa_ ta ow of_ ot rl hb n1 se)), cA Z (gA 13) 0 7 Mw, cA Z (gA 14) 0 7 Mo, cR Z (gA 0) 6 7 (gG 0), cR Z (gA 4) 6 7 (gG 4), cR Z (gA 5) 6 7 (gG 5), cR Z (gA 6) 6 7 (gG 6), cR Z (gA 9) 6 7 (gG 9), cA Z (xA 0) 0 8 Ml, cA Z (xA 4) 0 8 Mow, cA Z (xA 5) 0 8 Mof, cA Z (xA 6) 0 8 Mot, cA Z (xA 9) 0 8 Md, cA Z (gA 58) 0 4 Bp, cA Z (gA 59) 0 4 Br, cA Z (gA 60) 0 8 Wo, cA Z (gA 61) 0 8 Wf, cA Z (gA 62) 0 8 F34, cA Z (gA 63) 0 4 Wg]) (fun _ => rfl) dX12_shares_135 (fun F34 eF34 => ?_)
                      have hF34 : ∀ j, j < 8 → (-2147483648) ≤ F34 j ∧ F34 j ≤ 2147483647 := by rw [eF34]; exact updI_B h_Wb1 (by (first | (clear b_nr b_tm b_at_ b_to_ b_fa b_va b_np b_tn b_pc_ b_st_ b_pa_ b_ta b_ow b_of_ b_ot b_rl b_hb b_bs b_se; omega) | omega))
                      refine g_iincI (pc := 136) X 0 rfl (by decide) (lv' := [(4, .int (iI (k2 + 1))), (3, .int (iI n1)), (0, .ref g0), (1, .int (iI rm)), (2, .int (iI w))]) rfl dX12_shares_136 ?_
                      refine g_goto (pc := 139) X 111 (by decide) dX12_shares_139 ?_
                      exact ih (k2 + 1) F34 (by (first | (clear b_nr b_tm b_at_ b_to_ b_fa b_va b_np b_tn b_pc_ b_st_ b_pa_ b_ta b_ow b_of_ b_ot b_rl b_hb b_bs b_se; omega) | omega)) (hF34) (by (first | (clear b_nr b_tm b_at_ b_to_ b_fa b_va b_np b_tn b_pc_ b_st_ b_pa_ b_ta b_ow b_of_ b_ot b_rl b_hb b_bs b_se; omega) | omega))
                exact loop111 _ 0 Wb (by (first | (clear b_nr b_tm b_at_ b_to_ b_fa b_va b_np b_tn b_pc_ b_st_ b_pa_ b_ta b_ow b_of_ b_ot b_rl b_hb b_bs b_se; omega) | omega)) (h_Wb) (Nat.lt_succ_self _)
              · exact g_vret (pc := 102) X hA (⟨Wf, Wb, Wg, bs, rfl, rfl, (b_bs), (h_Wf), (h_Wb), (h_Wg)⟩) (by decide) (by decide) dX12_shares_102
          · refine g_iload_n (pc := 36) X 1 rfl dX12_shares_36 ?_
            refine g_aload_n (pc := 37) X 2 rfl dX12_shares_37 ?_
            refine g_get (pc := 38) X inlX12 0 rfl rfl 61 (by decide) mw_9_12 rfl dX12_shares_38 ?_
            refine g_iload (pc := 41) X 0 rfl dX12_shares_41 ?_
            refine g_ialdI (pc := 43) X 16 rfl (b_k1.1) (by (first | (clear b_nr b_tm b_at_ b_to_ b_fa b_va b_np b_tn b_pc_ b_st_ b_pa_ b_ta b_ow b_of_ b_ot b_rl b_hb b_bs b_se; omega) | omega)) (Int.le_trans b_k1.2 (by decide)) dX12_shares_43 ?_
            refine g_nameI (fun y35 ey35 => ?_)
            have by35 : (-2147483648) ≤ y35 ∧ y35 ≤ 2147483647 := by rw [ey35]; exact h_Wf _ (by (first | (clear b_nr b_tm b_at_ b_to_ b_fa b_va b_np b_tn b_pc_ b_st_ b_pa_ b_ta b_ow b_of_ b_ot b_rl b_hb b_bs b_se; omega) | omega))
            refine g_aload_n (pc := 44) X 2 rfl dX12_shares_44 ?_
            refine g_get (pc := 45) X inlX12 0 rfl rfl 61 (by decide) mw_9_12 rfl dX12_shares_45 ?_
            refine g_iload (pc := 48) X 0 rfl dX12_shares_48 ?_
            refine g_iconst (pc := 50) X (iI 1) (by rfl) dX12_shares_50 ?_
            refine g_iaddI (pc := 51) X dX12_shares_51 ?_
            refine g_aload_n (pc := 52) X 2 rfl dX12_shares_52 ?_
            refine g_get (pc := 53) X inlX12 0 rfl rfl 13 (by decide) mw_8_1 rfl dX12_shares_53 ?_
            refine g_iload_n (pc := 56) X 3 rfl dX12_shares_56 ?_
            refine g_ialdI (pc := 57) X 1 rfl (b_rm.1) (Int.lt_of_le_of_lt b_rm.2 (by decide)) (Int.le_trans b_rm.2 (by decide)) dX12_shares_57 ?_
            refine g_nameI (fun y36 ey36 => ?_)
            have by36 : 0 ≤ y36 ∧ y36 ≤ 8 := by rw [ey36]; exact h_Mw _ (by (first | (clear b_nr b_tm b_at_ b_to_ b_fa b_va b_np b_tn b_pc_ b_st_ b_pa_ b_ta b_ow b_of_ b_ot b_rl b_hb b_bs b_se; omega) | omega))
            have ty36 : 1 ≤ y36 ∧ y36 ≤ 8 := by rw [ey36]; exact hwn
            refine g_iremP (pc := 58) X (by (first | (clear b_nr b_tm b_at_ b_to_ b_fa b_va b_np b_tn b_pc_ b_st_ b_pa_ b_ta b_ow b_of_ b_ot b_rl b_hb b_bs b_se; omega) | omega)) (by (first | (clear b_nr b_tm b_at_ b_to_ b_fa b_va b_np b_tn b_pc_ b_st_ b_pa_ b_ta b_ow b_of_ b_ot b_rl b_hb b_bs b_se; omega) | omega)) (by (first | (clear b_nr b_tm b_at_ b_to_ b_fa b_va b_np b_tn b_pc_ b_st_ b_pa_ b_ta b_ow b_of_ b_ot b_rl b_hb b_bs b_se; omega) | omega)) (by (first | (clear b_nr b_tm b_at_ b_to_ b_fa b_va b_np b_tn b_pc_ b_st_ b_pa_ b_ta b_ow b_of_ b_ot b_rl b_hb b_bs b_se; omega) | omega)) dX12_shares_58 ?_
            refine g_nameI (fun y37 ey37 => ?_)
            have by37 : 0 ≤ y37 ∧ y37 ≤ 7 := by rw [ey37]; exact modB (by (first | (clear b_nr b_tm b_at_ b_to_ b_fa b_va b_np b_tn b_pc_ b_st_ b_pa_ b_ta b_ow b_of_ b_ot b_rl b_hb b_bs b_se; omega) | omega)) (by (first | (clear b_nr b_tm b_at_ b_to_ b_fa b_va b_np b_tn b_pc_ b_st_ b_pa_ b_ta b_ow b_of_ b_ot b_rl b_hb b_bs b_se; omega) | omega)) (by (first | (clear b_nr b_tm b_at_ b_to_ b_fa b_va b_np b_tn b_pc_ b_st_ b_pa_ b_ta b_ow b_of_ b_ot b_rl b_hb b_bs b_se; omega) | omega))
            have cy37 : y37 < y36 := by rw [ey37]; exact Int.emod_lt_of_pos _ (by (first | (clear b_nr b_tm b_at_ b_to_ b_fa b_va b_np b_tn b_pc_ b_st_ b_pa_ b_ta b_ow b_of_ b_ot b_rl b_hb b_bs b_se; omega) | omega))
            refine g_ialdI (pc := 59) X 16 rfl (by (first | (clear b_nr b_tm b_at_ b_to_ b_fa b_va b_np b_tn b_pc_ b_st_ b_pa_ b_ta b_ow b_of_ b_ot b_rl b_hb b_bs b_se; omega) | omega)) (by (first | (clear b_nr b_tm b_at_ b_to_ b_fa b_va b_np b_tn b_pc_ b_st_ b_pa_ b_ta b_ow b_of_ b_ot b_rl b_hb b_bs b_se; omega) | omega)) (by (first | (clear b_nr b_tm b_at_ b_to_ b_fa b_va b_np b_tn b_pc_ b_st_ b_pa_ b_ta b_ow b_of_ b_ot b_rl b_hb b_bs b_se; omega) | omega)) dX12_shares_59 ?_
            refine g_nameI (fun y38 ey38 => ?_)
            have by38 : (-2147483648) ≤ y38 ∧ y38 ≤ 2147483647 := by rw [ey38]; exact h_Wf _ (by (first | (clear b_nr b_tm b_at_ b_to_ b_fa b_va b_np b_tn b_pc_ b_st_ b_pa_ b_ta b_ow b_of_ b_ot b_rl b_hb b_bs b_se; omega) | omega))
            refine g_icmp_eqI (pc := 60) X 77 (by decide) by35 by38 dX12_shares_60 (fun c60 => ?_) (fun c60 => ?_)
            · refine g_iconst (pc := 77) X (iI 0) (by rfl) dX12_shares_77 ?_
              refine g_iaddI (pc := 78) X dX12_shares_78 ?_
              refine g_istore_n (pc := 79) X (i := 3) rfl (by decide) (lv' := [(3, .int (iI (n1 + 0))), (4, .int (iI k1)), (0, .ref g0), (1, .int (iI rm)), (2, .int (iI w))]) rfl dX12_shares_79 ?_
              refine g_iincI (pc := 80) X 1 rfl (by decide) (lv' := [(4, .int (iI (k1 + 1))), (3, .int (iI (n1 + 0))), (0, .ref g0), (1, .int (iI rm)), (2, .int (iI w))]) rfl dX12_shares_80 ?_
              refine g_goto (pc := 83) X 15 (by decide) dX12_shares_83 ?_
              exact ih (n1 + 0) (k1 + 1) (by (first | (clear b_nr b_tm b_at_ b_to_ b_fa b_va b_np b_tn b_pc_ b_st_ b_pa_ b_ta b_ow b_of_ b_ot b_rl b_hb b_bs b_se; omega) | omega)) (by (first | (clear b_nr b_tm b_at_ b_to_ b_fa b_va b_np b_tn b_pc_ b_st_ b_pa_ b_ta b_ow b_of_ b_ot b_rl b_hb b_bs b_se; omega) | omega)) (by (first | (clear b_nr b_tm b_at_ b_to_ b_fa b_va b_np b_tn b_pc_ b_st_ b_pa_ b_ta b_ow b_of_ b_ot b_rl b_hb b_bs b_se; omega) | omega))
            · refine g_aload_n (pc := 63) X 2 rfl dX12_shares_63 ?_
              refine g_iload_n (pc := 64) X 3 rfl dX12_shares_64 ?_
              refine g_iload (pc := 65) X 0 rfl dX12_shares_65 ?_
              refine g_callV (pc := 67) X (k_X12_hasDoor l Z g0 gA gG xA Mw Mo Ml Mow Mof Mot Md rm k1 nr tm at_ to_ fa va np tn pc_ st_ pa_ ta ow of_ ot rl hb bs se b_rm (by (first | (clear b_nr b_tm b_at_ b_to_ b_fa b_va b_np b_tn b_pc_ b_st_ b_pa_ b_ta b_ow b_of_ b_ot b_rl b_hb b_bs b_se; omega) | omega)) b_nr b_tm b_at_ b_to_ b_fa b_va b_np b_tn b_pc_ b_st_ b_pa_ b_ta b_ow b_of_ b_ot b_rl b_hb b_bs b_se (hG) (by (first | (clear b_nr b_tm b_at_ b_to_ b_fa b_va b_np b_tn b_pc_ b_st_ b_pa_ b_ta b_ow b_of_ b_ot b_rl b_hb b_bs b_se; omega) | omega)) (h_Mw) (h_Mo) (h_Ml) (h_Mow) (h_Mof) (h_Mot) (h_Md)) iM_X12_hasDoor mw_50_6 mw_50_7 mw_50_8 0 rfl rfl [0, 1, 2, 3, 4, 5, 6, 7, 8, 9, 10, 11, 12] [13, 14, 15, 16, 17, 18] rfl (wr := [cA Z (gA 58) 0 4 Bp, cA Z (gA 59) 0 4 Br, cA Z (gA 60) 0 8 Wo, cA Z (gA 61) 0 8 Wf, cA Z (gA 62) 0 8 Wb, cA Z (gA 63) 0 4 Wg]) rfl (by decide) rfl rfl (Nat.le_of_ble_eq_true rfl) (by decide) dX12_shares_67 (fun r w' hpo => ?_)
              refine exN_1 hpo fun y39 hz => anD_3 hz fun e_r e_w hf67_b_y => ?_; clear hz hpo; subst e_r; subst e_w
              refine g_as (pc' := 70) (lv' := [(4, .int (iI k1)), (3, .int (iI n1)), (0, .ref g0), (1, .int (iI rm)), (2, .int (iI w))]) (st' := [.int (iI y39), .int (iI n1)]) (ws' := [cA Z (gA 58) 0 4 Bp, cA Z (gA 59) 0 4 Br, cA Z (gA 60) 0 8 Wo, cA Z (gA 61) 0 8 Wf, cA Z (gA 62) 0 8 Wb, cA Z (gA 63) 0 4 Wg, (g0, .inr (12, mO gA nr tm at_ to_ fa va np tn pc_ st_ pa_ ta ow of_ ot rl hb bs se)), cA Z (gA 13) 0 7 Mw, cA Z (gA 14) 0 7 Mo, cR Z (gA 0) 6 7 (gG 0), cR Z (gA 4) 6 7 (gG 4), cR Z (gA 5) 6 7 (gG 5), cR Z (gA 6) 6 7 (gG 6), cR Z (gA 9) 6 7 (gG 9), cA Z (xA 0) 0 8 Ml, cA Z (xA 4) 0 8 Mow, cA Z (xA 5) 0 8 Mof, cA Z (xA 6) 0 8 Mot, cA Z (xA 9) 0 8 Md]) rfl rfl rfl rfl ?_
              refine g_if_neI (pc := 70) X 77 (by decide) (inRb hf67_b_y (by decide) (by decide)) dX12_shares_70 (fun c70 => ?_) (fun c70 => ?_)
              · refine g_iconst (pc := 77) X (iI 0) (by rfl) dX12_shares_77 ?_
                refine g_iaddI (pc := 78) X dX12_shares_78 ?_
                refine g_istore_n (pc := 79) X (i := 3) rfl (by decide) (lv' := [(3, .int (iI (n1 + 0))), (4, .int (iI k1)), (0, .ref g0), (1, .int (iI rm)), (2, .int (iI w))]) rfl dX12_shares_79 ?_
                refine g_iincI (pc := 80) X 1 rfl (by decide) (lv' := [(4, .int (iI (k1 + 1))), (3, .int (iI (n1 + 0))), (0, .ref g0), (1, .int (iI rm)), (2, .int (iI w))]) rfl dX12_shares_80 ?_
                refine g_goto (pc := 83) X 15 (by decide) dX12_shares_83 ?_
                refine g_ws (ws' := [(g0, .inr (12, mO gA nr tm at_ to_ fa va np tn pc_ st_ pa_ ta ow of_ ot rl hb bs se)), cA Z (gA 13) 0 7 Mw, cA Z (gA 14) 0 7 Mo, cR Z (gA 0) 6 7 (gG 0), cR Z (gA 4) 6 7 (gG 4), cR Z (gA 5) 6 7 (gG 5), cR Z (gA 6) 6 7 (gG 6), cR Z (gA 9) 6 7 (gG 9), cA Z (xA 0) 0 8 Ml, cA Z (xA 4) 0 8 Mow, cA Z (xA 5) 0 8 Mof, cA Z (xA 6) 0 8 Mot, cA Z (xA 9) 0 8 Md, cA Z (gA 58) 0 4 Bp, cA Z (gA 59) 0 4 Br, cA Z (gA 60) 0 8 Wo, cA Z (gA 61) 0 8 Wf, cA Z (gA 62) 0 8 Wb, cA Z (gA 63) 0 4 Wg]) [6, 7, 8, 9, 10, 11, 12, 13, 14, 15, 16, 17, 18, 0, 1, 2, 3, 4, 5] (by decide) rfl ?_
                exact ih (n1 + 0) (k1 + 1) (by (first | (clear b_nr b_tm b_at_ b_to_ b_fa b_va b_np b_tn b_pc_ b_st_ b_pa_ b_ta b_ow b_of_ b_ot b_rl b_hb b_bs b_se; omega) | omega)) (by (first | (clear b_nr b_tm b_at_ b_to_ b_fa b_va b_np b_tn b_pc_ b_st_ b_pa_ b_ta b_ow b_of_ b_ot b_rl b_hb b_bs b_se; omega) | omega)) (by (first | (clear b_nr b_tm b_at_ b_to_ b_fa b_va b_np b_tn b_pc_ b_st_ b_pa_ b_ta b_ow b_of_ b_ot b_rl b_hb b_bs b_se; omega) | omega))
              · refine g_iconst (pc := 73) X (iI 1) (by rfl) dX12_shares_73 ?_
                refine g_goto (pc := 74) X 78 (by decide) dX12_shares_74 ?_
                refine g_iaddI (pc := 78) X dX12_shares_78 ?_
                refine g_any (fun y41 by41 => ?_)
                refine g_istore_n (pc := 79) X (i := 3) rfl (by decide) (lv' := [(3, .int (iI y41)), (4, .int (iI k1)), (0, .ref g0), (1, .int (iI rm)), (2, .int (iI w))]) rfl dX12_shares_79 ?_
                refine g_iincI (pc := 80) X 1 rfl (by decide) (lv' := [(4, .int (iI (k1 + 1))), (3, .int (iI y41)), (0, .ref g0), (1, .int (iI rm)), (2, .int (iI w))]) rfl dX12_shares_80 ?_
                refine g_goto (pc := 83) X 15 (by decide) dX12_shares_83 ?_
                refine g_ws (ws' := [(g0, .inr (12, mO gA nr tm at_ to_ fa va np tn pc_ st_ pa_ ta ow of_ ot rl hb bs se)), cA Z (gA 13) 0 7 Mw, cA Z (gA 14) 0 7 Mo, cR Z (gA 0) 6 7 (gG 0), cR Z (gA 4) 6 7 (gG 4), cR Z (gA 5) 6 7 (gG 5), cR Z (gA 6) 6 7 (gG 6), cR Z (gA 9) 6 7 (gG 9), cA Z (xA 0) 0 8 Ml, cA Z (xA 4) 0 8 Mow, cA Z (xA 5) 0 8 Mof, cA Z (xA 6) 0 8 Mot, cA Z (xA 9) 0 8 Md, cA Z (gA 58) 0 4 Bp, cA Z (gA 59) 0 4 Br, cA Z (gA 60) 0 8 Wo, cA Z (gA 61) 0 8 Wf, cA Z (gA 62) 0 8 Wb, cA Z (gA 63) 0 4 Wg]) [6, 7, 8, 9, 10, 11, 12, 13, 14, 15, 16, 17, 18, 0, 1, 2, 3, 4, 5] (by decide) rfl ?_
                exact ih y41 (k1 + 1) (by41) (by (first | (clear b_nr b_tm b_at_ b_to_ b_fa b_va b_np b_tn b_pc_ b_st_ b_pa_ b_ta b_ow b_of_ b_ot b_rl b_hb b_bs b_se; omega) | omega)) (by (first | (clear b_nr b_tm b_at_ b_to_ b_fa b_va b_np b_tn b_pc_ b_st_ b_pa_ b_ta b_ow b_of_ b_ot b_rl b_hb b_bs b_se; omega) | omega))
    exact loop15 _ 0 0 (by (first | (clear b_nr b_tm b_at_ b_to_ b_fa b_va b_np b_tn b_pc_ b_st_ b_pa_ b_ta b_ow b_of_ b_ot b_rl b_hb b_bs b_se; omega) | omega)) (by (first | (clear b_nr b_tm b_at_ b_to_ b_fa b_va b_np b_tn b_pc_ b_st_ b_pa_ b_ta b_ow b_of_ b_ot b_rl b_hb b_bs b_se; omega) | omega)) (Nat.lt_succ_self _)

set_option maxHeartbeats 4000000 in
set_option maxRecDepth 100000 in
theorem k_X12_shares6 (l : Launch) (Z : gZ) (g0 : Nat) (gA : Nat → Nat) (gG : Nat → Nat → Option Nat) (xA : Nat → Nat) (Mw : Nat → Int) (Mo : Nat → Int) (Ml : Nat → Int) (Mow : Nat → Int) (Mof : Nat → Int) (Mot : Nat → Int) (Md : Nat → Int) (Bp : Nat → Int) (Br : Nat → Int) (Wo : Nat → Int) (Wf : Nat → Int) (Wb : Nat → Int) (Wg : Nat → Int) (rm : Int) (w : Int) (nr : Int) (tm : Int) (at_ : Int) (to_ : Int) (fa : Int) (va : Int) (np : Int) (tn : Int) (pc_ : Int) (st_ : Int) (pa_ : Int) (ta : Int) (ow : Int) (of_ : Int) (ot : Int) (rl : Int) (hb : Int) (bs : Int) (se : Int) (b_rm : 0 ≤ rm ∧ rm ≤ 5) (b_w : 0 ≤ w ∧ w ≤ 8) (b_nr : 0 ≤ nr ∧ nr ≤ 6) (b_tm : 0 ≤ tm ∧ tm ≤ 400) (b_at_ : 0 ≤ at_ ∧ at_ ≤ 400) (b_to_ : 0 ≤ to_ ∧ to_ ≤ 400) (b_fa : (-1) ≤ fa ∧ fa ≤ 400) (b_va : (-2147483648) ≤ va ∧ va ≤ 2147483647) (b_np : 0 ≤ np ∧ np ≤ 4) (b_tn : 0 ≤ tn ∧ tn ≤ 20) (b_pc_ : 0 ≤ pc_ ∧ pc_ ≤ 480) (b_st_ : 0 ≤ st_ ∧ st_ ≤ 240) (b_pa_ : (-1) ≤ pa_ ∧ pa_ ≤ 3) (b_ta : (-2147483648) ≤ ta ∧ ta ≤ 2147483647) (b_ow : (-2147483648) ≤ ow ∧ ow ≤ 2147483647) (b_of_ : (-2147483648) ≤ of_ ∧ of_ ≤ 2147483647) (b_ot : (-2147483648) ≤ ot ∧ ot ≤ 2147483647) (b_rl : 0 ≤ rl ∧ rl ≤ 2880) (b_hb : 0 ≤ hb ∧ hb ≤ 4) (b_bs : (-2147483648) ≤ bs ∧ bs ≤ 2147483647) (b_se : 0 ≤ se ∧ se ≤ 10) (hG : ∀ k, gG k rm.toNat = some (xA k)) (hwn : 1 ≤ Mw rm.toNat ∧ Mw rm.toNat ≤ 8) (hd : Mw rm.toNat - w ≤ 6) (hw : w ≤ Mw rm.toNat) (h_Mw : ∀ j, j < 7 → 0 ≤ Mw j ∧ Mw j ≤ 8) (h_Mo : ∀ j, j < 7 → 0 ≤ Mo j ∧ Mo j ≤ 8) (h_Ml : ∀ j, j < 8 → 0 ≤ Ml j ∧ Ml j ≤ 600) (h_Mow : ∀ j, j < 8 → 0 ≤ Mow j ∧ Mow j ≤ 7) (h_Mof : ∀ j, j < 8 → 0 ≤ Mof j ∧ Mof j ≤ 600) (h_Mot : ∀ j, j < 8 → 0 ≤ Mot j ∧ Mot j ≤ 600) (h_Md : ∀ j, j < 8 → 0 ≤ Md j ∧ Md j ≤ 1) (h_Bp : ∀ j, j < 4 → (-2147483648) ≤ Bp j ∧ Bp j ≤ 2147483647) (h_Br : ∀ j, j < 4 → (-2147483648) ≤ Br j ∧ Br j ≤ 2147483647) (h_Wo : ∀ j, j < 8 → (-2147483648) ≤ Wo j ∧ Wo j ≤ 2147483647) (h_Wf : ∀ j, j < 8 → (-2147483648) ≤ Wf j ∧ Wf j ≤ 2147483647) (h_Wb : ∀ j, j < 8 → (-2147483648) ≤ Wb j ∧ Wb j ≤ 2147483647) (h_Wg : ∀ j, j < 4 → (-2147483648) ≤ Wg j ∧ Wg j ≤ 2147483647) : Con l Z yX12_shares cX12_shares 5 none 7 168 0 0 [.ref g0, .int (iI rm), .int (iI w)] [(g0, .inr (12, mO gA nr tm at_ to_ fa va np tn pc_ st_ pa_ ta ow of_ ot rl hb bs se)), cA Z (gA 13) 0 7 Mw, cA Z (gA 14) 0 7 Mo, cR Z (gA 0) 6 7 (gG 0), cR Z (gA 4) 6 7 (gG 4), cR Z (gA 5) 6 7 (gG 5), cR Z (gA 6) 6 7 (gG 6), cR Z (gA 9) 6 7 (gG 9), cA Z (xA 0) 0 8 Ml, cA Z (xA 4) 0 8 Mow, cA Z (xA 5) 0 8 Mof, cA Z (xA 6) 0 8 Mot, cA Z (xA 9) 0 8 Md, cA Z (gA 58) 0 4 Bp, cA Z (gA 59) 0 4 Br, cA Z (gA 60) 0 8 Wo, cA Z (gA 61) 0 8 Wf, cA Z (gA 62) 0 8 Wb, cA Z (gA 63) 0 4 Wg] (fun r w' => ∃ (Wf2 : Nat → Int) (Wb2 : Nat → Int) (Wg2 : Nat → Int) (bs2 : Int), (r = none) ∧ (w' = [(g0, .inr (12, mO gA nr tm at_ to_ fa va np tn pc_ st_ pa_ ta ow of_ ot rl hb bs2 se)), cA Z (gA 13) 0 7 Mw, cA Z (gA 14) 0 7 Mo, cR Z (gA 0) 6 7 (gG 0), cR Z (gA 4) 6 7 (gG 4), cR Z (gA 5) 6 7 (gG 5), cR Z (gA 6) 6 7 (gG 6), cR Z (gA 9) 6 7 (gG 9), cA Z (xA 0) 0 8 Ml, cA Z (xA 4) 0 8 Mow, cA Z (xA 5) 0 8 Mof, cA Z (xA 6) 0 8 Mot, cA Z (xA 9) 0 8 Md, cA Z (gA 58) 0 4 Bp, cA Z (gA 59) 0 4 Br, cA Z (gA 60) 0 8 Wo, cA Z (gA 61) 0 8 Wf2, cA Z (gA 62) 0 8 Wb2, cA Z (gA 63) 0 4 Wg2]) ∧ ((-2147483648) ≤ bs2 ∧ bs2 ≤ 2147483647) ∧ (∀ j, j < 8 → (-2147483648) ≤ Wf2 j ∧ Wf2 j ≤ 2147483647) ∧ (∀ j, j < 8 → (-2147483648) ≤ Wb2 j ∧ Wb2 j ≤ 2147483647) ∧ (∀ j, j < 4 → (-2147483648) ≤ Wg2 j ∧ Wg2 j ≤ 2147483647)) := by
  refine enter (by decide) (Nat.le_of_ble_eq_true rfl) ?_
  intro p e s m args below meth c A X hnm hA
  have X : Cx p s m args meth c cX12_shares 5 none RX12 Z A := X
  refine g_as (pc' := 0) (lv' := [(0, .ref g0), (1, .int (iI rm)), (2, .int (iI w))]) (st' := []) (ws' := [(g0, .inr (12, mO gA nr tm at_ to_ fa va np tn pc_ st_ pa_ ta ow of_ ot rl hb bs se)), cA Z (gA 13) 0 7 Mw, cA Z (gA 14) 0 7 Mo, cR Z (gA 0) 6 7 (gG 0), cR Z (gA 4) 6 7 (gG 4), cR Z (gA 5) 6 7 (gG 5), cR Z (gA 6) 6 7 (gG 6), cR Z (gA 9) 6 7 (gG 9), cA Z (xA 0) 0 8 Ml, cA Z (xA 4) 0 8 Mow, cA Z (xA 5) 0 8 Mof, cA Z (xA 6) 0 8 Mot, cA Z (xA 9) 0 8 Md, cA Z (gA 58) 0 4 Bp, cA Z (gA 59) 0 4 Br, cA Z (gA 60) 0 8 Wo, cA Z (gA 61) 0 8 Wf, cA Z (gA 62) 0 8 Wb, cA Z (gA 63) 0 4 Wg]) rfl rfl rfl rfl ?_
  refine g_iload_n (pc := 0) X 2 rfl dX12_shares_0 ?_
  refine g_aload_n (pc := 1) X 0 rfl dX12_shares_1 ?_
  refine g_get (pc := 2) X inlX12 0 rfl rfl 13 (by decide) mw_8_1 rfl dX12_shares_2 ?_
  refine g_iload_n (pc := 5) X 1 rfl dX12_shares_5 ?_
  refine g_ialdI (pc := 6) X 1 rfl (b_rm.1) (Int.lt_of_le_of_lt b_rm.2 (by decide)) (Int.le_trans b_rm.2 (by decide)) dX12_shares_6 ?_
  refine g_nameI (fun y1 ey1 => ?_)
  have by1 : 0 ≤ y1 ∧ y1 ≤ 8 := by rw [ey1]; exact h_Mw _ (by (first | (clear b_nr b_tm b_at_ b_to_ b_fa b_va b_np b_tn b_pc_ b_st_ b_pa_ b_ta b_ow b_of_ b_ot b_rl b_hb b_bs b_se; omega) | omega))
  have ty1 : 1 ≤ y1 ∧ y1 ≤ 8 := by rw [ey1]; exact hwn
  refine g_icmp_neI (pc := 7) X 143 (by decide) (inRb b_w (by decide) (by decide)) (inRb by1 (by decide) (by decide)) dX12_shares_7 (fun c7 => ?_) (fun c7 => ?_)
  · refine g_iconst (pc := 143) X (iI 0) (by rfl) dX12_shares_143 ?_
    refine g_istore_n (pc := 144) X (i := 3) rfl (by decide) (lv' := [(3, .int (iI 0)), (0, .ref g0), (1, .int (iI rm)), (2, .int (iI w))]) rfl dX12_shares_144 ?_
    have loop145 : ∀ (fuel : Nat) (b3 : Int) (bs1 : Int) (Wf1 : Nat → Int) (Wb1 : Nat → Int) (Wg1 : Nat → Int), (0 ≤ b3 ∧ b3 ≤ 4) → ((-2147483648) ≤ bs1 ∧ bs1 ≤ 2147483647) → (∀ j, j < 8 → (-2147483648) ≤ Wf1 j ∧ Wf1 j ≤ 2147483647) → (∀ j, j < 8 → (-2147483648) ≤ Wb1 j ∧ Wb1 j ≤ 2147483647) → (∀ j, j < 4 → (-2147483648) ≤ Wg1 j ∧ Wg1 j ≤ 2147483647) → (5 - b3).toNat < fuel → Gs p l e ({ frames := 7, cells := 0, slots := 0, locals := 168 } : Room) s m args below meth c (MQ below (gPost Z [(g0, .inr (12, mO gA nr tm at_ to_ fa va np tn pc_ st_ pa_ ta ow of_ ot rl hb bs se)), cA Z (gA 13) 0 7 Mw, cA Z (gA 14) 0 7 Mo, cR Z (gA 0) 6 7 (gG 0), cR Z (gA 4) 6 7 (gG 4), cR Z (gA 5) 6 7 (gG 5), cR Z (gA 6) 6 7 (gG 6), cR Z (gA 9) 6 7 (gG 9), cA Z (xA 0) 0 8 Ml, cA Z (xA 4) 0 8 Mow, cA Z (xA 5) 0 8 Mof, cA Z (xA 6) 0 8 Mot, cA Z (xA 9) 0 8 Md, cA Z (gA 58) 0 4 Bp, cA Z (gA 59) 0 4 Br, cA Z (gA 60) 0 8 Wo, cA Z (gA 61) 0 8 Wf, cA Z (gA 62) 0 8 Wb, cA Z (gA 63) 0 4 Wg] s.heap.size (fun r w' => ∃ (Wf2 : Nat → Int) (Wb2 : Nat → Int) (Wg2 : Nat → Int) (bs2 : Int), (r = none) ∧ (w' = [(g0, .inr (12, mO gA nr tm at_ to_ fa va np tn pc_ st_ pa_ ta ow of_ ot rl hb bs2 se)), cA Z (gA 13) 0 7 Mw, cA Z (gA 14) 0 7 Mo, cR Z (gA 0) 6 7 (gG 0), cR Z (gA 4) 6 7 (gG 4), cR Z (gA 5) 6 7 (gG 5), cR Z (gA 6) 6 7 (gG 6), cR Z (gA 9) 6 7 (gG 9), cA Z (xA 0) 0 8 Ml, cA Z (xA 4) 0 8 Mow, cA Z (xA 5) 0 8 Mof, cA Z (xA 6) 0 8 Mot, cA Z (xA 9) 0 8 Md, cA Z (gA 58) 0 4 Bp, cA Z (gA 59) 0 4 Br, cA Z (gA 60) 0 8 Wo, cA Z (gA 61) 0 8 Wf2, cA Z (gA 62) 0 8 Wb2, cA Z (gA 63) 0 4 Wg2]) ∧ ((-2147483648) ≤ bs2 ∧ bs2 ≤ 2147483647) ∧ (∀ j, j < 8 → (-2147483648) ≤ Wf2 j ∧ Wf2 j ≤ 2147483647) ∧ (∀ j, j < 8 → (-2147483648) ≤ Wb2 j ∧ Wb2 j ≤ 2147483647) ∧ (∀ j, j < 4 → (-2147483648) ≤ Wg2 j ∧ Wg2 j ≤ 2147483647))) args s 0 0 (va_A [(g0, .inr (12, mO gA nr tm at_ to_ fa va np tn pc_ st_ pa_ ta ow of_ ot rl hb bs se)), cA Z (gA 13) 0 7 Mw, cA Z (gA 14) 0 7 Mo, cR Z (gA 0) 6 7 (gG 0), cR Z (gA 4) 6 7 (gG 4), cR Z (gA 5) 6 7 (gG 5), cR Z (gA 6) 6 7 (gG 6), cR Z (gA 9) 6 7 (gG 9), cA Z (xA 0) 0 8 Ml, cA Z (xA 4) 0 8 Mow, cA Z (xA 5) 0 8 Mof, cA Z (xA 6) 0 8 Mot, cA Z (xA 9) 0 8 Md, cA Z (gA 58) 0 4 Bp, cA Z (gA 59) 0 4 Br, cA Z (gA 60) 0 8 Wo, cA Z (gA 61) 0 8 Wf, cA Z (gA 62) 0 8 Wb, cA Z (gA 63) 0 4 Wg] s.heap.size)) Z A 5 0 0 145 [(3, .int (iI b3)), (0, .ref g0), (1, .int (iI rm)), (2, .int (iI w))] [] [(g0, .inr (12, mO gA nr tm at_ to_ fa va np tn pc_ st_ pa_ ta ow of_ ot rl hb bs1 se)), cA Z (gA 13) 0 7 Mw, cA Z (gA 14) 0 7 Mo, cR Z (gA 0) 6 7 (gG 0), cR Z (gA 4) 6 7 (gG 4), cR Z (gA 5) 6 7 (gG 5), cR Z (gA 6) 6 7 (gG 6), cR Z (gA 9) 6 7 (gG 9), cA Z (xA 0) 0 8 Ml, cA Z (xA 4) 0 8 Mow, cA Z (xA 5) 0 8 Mof, cA Z (xA 6) 0 8 Mot, cA Z (xA 9) 0 8 Md, cA Z (gA 58) 0 4 Bp, cA Z (gA 59) 0 4 Br, cA Z (gA 60) 0 8 Wo, cA Z (gA 61) 0 8 Wf1, cA Z (gA 62) 0 8 Wb1, cA Z (gA 63) 0 4 Wg1] := by
      intro fuel
      induction fuel with
      | zero => intro b3 bs1 Wf1 Wb1 Wg1 _ _ _ _ _ hm; exact absurd hm (Nat.not_lt_zero _)
      | succ fuel ih =>
        intro b3 bs1 Wf1 Wb1 Wg1 b_b3 b_bs1 h_Wf1 h_Wb1 h_Wg1 hm
        refine g_iload_n (pc := 145) X 0 rfl dX12_shares_145 ?_
        refine g_aload_n (pc := 146) X 1 rfl dX12_shares_146 ?_
        refine g_get (pc := 147) X inlX12 0 rfl rfl 64 (by decide) mw_47_13 rfl dX12_shares_147 ?_
        refine g_icmp_geI (pc := 150) X 242 (by decide) (inRb b_b3 (by decide) (by decide)) (inRb b_hb (by decide) (by decide)) dX12_shares_150 (fun c150 => ?_) (fun c150 => ?_)
        · exact g_vret (pc := 242) X hA (⟨Wf1, Wb1, Wg1, bs1, rfl, rfl, (b_bs1), (h_Wf1), (h_Wb1), (h_Wg1)⟩) (by decide) (by decide) dX12_shares_242
        · refine g_aload_n (pc := 153) X 1 rfl dX12_shares_153 ?_
          refine g_get (pc := 154) X inlX12 0 rfl rfl 58 (by decide) mw_9_9 rfl dX12_shares_154 ?_
          refine g_iload_n (pc := 157) X 0 rfl dX12_shares_157 ?_
          refine g_ialdI (pc := 158) X 13 rfl (b_b3.1) (by (first | (clear b_nr b_tm b_at_ b_to_ b_fa b_va b_np b_tn b_pc_ b_st_ b_pa_ b_ta b_ow b_of_ b_ot b_rl b_hb b_bs b_se; omega) | omega)) (Int.le_trans b_b3.2 (by decide)) dX12_shares_158 ?_
          refine g_nameI (fun y2 ey2 => ?_)
          have by2 : (-2147483648) ≤ y2 ∧ y2 ≤ 2147483647 := by rw [ey2]; exact h_Bp _ (by (first | (clear b_nr b_tm b_at_ b_to_ b_fa b_va b_np b_tn b_pc_ b_st_ b_pa_ b_ta b_ow b_of_ b_ot b_rl b_hb b_bs b_se; omega) | omega))
          refine g_aload_n (pc := 159) X 1 rfl dX12_shares_159 ?_
          refine g_get (pc := 160) X inlX12 0 rfl rfl 49 (by decide) mw_28_2 rfl dX12_shares_160 ?_
          refine g_icmp_neI (pc := 163) X 236 (by decide) by2 (inRb b_pa_ (by decide) (by decide)) dX12_shares_163 (fun c163 => ?_) (fun c163 => ?_)
          · refine g_iincI (pc := 236) X 0 rfl (by decide) (lv' := [(3, .int (iI (b3 + 1))), (0, .ref g0), (1, .int (iI rm)), (2, .int (iI w))]) rfl dX12_shares_236 ?_
            refine g_goto (pc := 239) X 145 (by decide) dX12_shares_239 ?_
            exact ih (b3 + 1) bs1 Wf1 Wb1 Wg1 (by (first | (clear b_nr b_tm b_at_ b_to_ b_fa b_va b_np b_tn b_pc_ b_st_ b_pa_ b_ta b_ow b_of_ b_ot b_rl b_hb b_bs b_se; omega) | omega)) (b_bs1) (h_Wf1) (h_Wb1) (h_Wg1) (by (first | (clear b_nr b_tm b_at_ b_to_ b_fa b_va b_np b_tn b_pc_ b_st_ b_pa_ b_ta b_ow b_of_ b_ot b_rl b_hb b_bs b_se; omega) | omega))
          · refine g_aload_n (pc := 166) X 1 rfl dX12_shares_166 ?_
            refine g_get (pc := 167) X inlX12 0 rfl rfl 63 (by decide) mw_9_14 rfl dX12_shares_167 ?_
            refine g_iload_n (pc := 170) X 0 rfl dX12_shares_170 ?_
            refine g_ialdI (pc := 171) X 18 rfl (b_b3.1) (by (first | (clear b_nr b_tm b_at_ b_to_ b_fa b_va b_np b_tn b_pc_ b_st_ b_pa_ b_ta b_ow b_of_ b_ot b_rl b_hb b_bs b_se; omega) | omega)) (Int.le_trans b_b3.2 (by decide)) dX12_shares_171 ?_
            refine g_nameI (fun y3 ey3 => ?_)
            have by3 : (-2147483648) ≤ y3 ∧ y3 ≤ 2147483647 := by rw [ey3]; exact h_Wg1 _ (by (first | (clear b_nr b_tm b_at_ b_to_ b_fa b_va b_np b_tn b_pc_ b_st_ b_pa_ b_ta b_ow b_of_ b_ot b_rl b_hb b_bs b_se; omega) | omega))
            refine g_aload_n (pc := 172) X 1 rfl dX12_shares_172 ?_
            refine g_get (pc := 173) X inlX12 0 rfl rfl 60 (by decide) mw_9_11 rfl dX12_shares_173 ?_
            refine g_iload_n (pc := 176) X 3 rfl dX12_shares_176 ?_
            refine g_ialdI (pc := 177) X 15 rfl (b_w.1) (by (first | (clear b_nr b_tm b_at_ b_to_ b_fa b_va b_np b_tn b_pc_ b_st_ b_pa_ b_ta b_ow b_of_ b_ot b_rl b_hb b_bs b_se; omega) | omega)) (Int.le_trans b_w.2 (by decide)) dX12_shares_177 ?_
            refine g_nameI (fun y4 ey4 => ?_)
            have by4 : (-2147483648) ≤ y4 ∧ y4 ≤ 2147483647 := by rw [ey4]; exact h_Wo _ (by (first | (clear b_nr b_tm b_at_ b_to_ b_fa b_va b_np b_tn b_pc_ b_st_ b_pa_ b_ta b_ow b_of_ b_ot b_rl b_hb b_bs b_se; omega) | omega))
            refine g_iaddI (pc := 178) X dX12_shares_178 ?_
            refine g_any (fun y5 by5 => ?_)
            refine g_aload_n (pc := 179) X 1 rfl dX12_shares_179 ?_
            refine g_get (pc := 180) X inlX12 0 rfl rfl 59 (by decide) mw_9_10 rfl dX12_shares_180 ?_
            refine g_iload_n (pc := 183) X 0 rfl dX12_shares_183 ?_
            refine g_ialdI (pc := 184) X 14 rfl (b_b3.1) (by (first | (clear b_nr b_tm b_at_ b_to_ b_fa b_va b_np b_tn b_pc_ b_st_ b_pa_ b_ta b_ow b_of_ b_ot b_rl b_hb b_bs b_se; omega) | omega)) (Int.le_trans b_b3.2 (by decide)) dX12_shares_184 ?_
            refine g_nameI (fun y6 ey6 => ?_)
            have by6 : (-2147483648) ≤ y6 ∧ y6 ≤ 2147483647 := by rw [ey6]; exact h_Br _ (by (first | (clear b_nr b_tm b_at_ b_to_ b_fa b_va b_np b_tn b_pc_ b_st_ b_pa_ b_ta b_ow b_of_ b_ot b_rl b_hb b_bs b_se; omega) | omega))
            refine g_icmp_leI (pc := 185) X 191 (by decide) by5 by6 dX12_shares_185 (fun c185 => ?_) (fun c185 => ?_)
            · refine g_aload_n (pc := 191) X 1 rfl dX12_shares_191 ?_
              refine g_get (pc := 192) X inlX12 0 rfl rfl 63 (by decide) mw_9_14 rfl dX12_shares_192 ?_
              refine g_iload_n (pc := 195) X 0 rfl dX12_shares_195 ?_
              refine g_dup2 (pc := 196) X rfl rfl dX12_shares_196 ?_
              refine g_ialdI (pc := 197) X 18 rfl (b_b3.1) (by (first | (clear b_nr b_tm b_at_ b_to_ b_fa b_va b_np b_tn b_pc_ b_st_ b_pa_ b_ta b_ow b_of_ b_ot b_rl b_hb b_bs b_se; omega) | omega)) (Int.le_trans b_b3.2 (by decide)) dX12_shares_197 ?_
              refine g_nameI (fun y7 ey7 => ?_)
              have by7 : (-2147483648) ≤ y7 ∧ y7 ≤ 2147483647 := by rw [ey7]; exact h_Wg1 _ (by (first | (clear b_nr b_tm b_at_ b_to_ b_fa b_va b_np b_tn b_pc_ b_st_ b_pa_ b_ta b_ow b_of_ b_ot b_rl b_hb b_bs b_se; omega) | omega))
              refine g_aload_n (pc := 198) X 1 rfl dX12_shares_198 ?_
              refine g_get (pc := 199) X inlX12 0 rfl rfl 60 (by decide) mw_9_11 rfl dX12_shares_199 ?_
              refine g_iload_n (pc := 202) X 3 rfl dX12_shares_202 ?_
              refine g_ialdI (pc := 203) X 15 rfl (b_w.1) (by (first | (clear b_nr b_tm b_at_ b_to_ b_fa b_va b_np b_tn b_pc_ b_st_ b_pa_ b_ta b_ow b_of_ b_ot b_rl b_hb b_bs b_se; omega) | omega)) (Int.le_trans b_w.2 (by decide)) dX12_shares_203 ?_
              refine g_nameI (fun y8 ey8 => ?_)
              have by8 : (-2147483648) ≤ y8 ∧ y8 ≤ 2147483647 := by rw [ey8]; exact h_Wo _ (by (first | (clear b_nr b_tm b_at_ b_to_ b_fa b_va b_np b_tn b_pc_ b_st_ b_pa_ b_ta b_ow b_of_ b_ot b_rl b_hb b_bs b_se; omega) | omega))
              refine g_iaddI (pc := 204) X dX12_shares_204 ?_
              refine g_any (fun y9 by9 => ?_)
              refine g_iastG (pc := 205) X 18 rfl (b_b3.1) (by (first | (clear b_nr b_tm b_at_ b_to_ b_fa b_va b_np b_tn b_pc_ b_st_ b_pa_ b_ta b_ow b_of_ b_ot b_rl b_hb b_bs b_se; omega) | omega)) (Int.le_trans b_b3.2 (by decide)) (ws' := fun F10 => [(g0, .inr (12, mO gA nr tm at_ to_ fa va np tn pc_ st_ pa_ ta ow of_ ot rl hb bs1 se)), cA Z (gA 13) 0 7 Mw, cA Z (gA 14) 0 7 Mo, cR Z (gA 0) 6 7 (gG 0), cR Z (gA 4) 6 7 (gG 4), cR Z (gA 5) 6 7 (gG 5), cR Z (gA 6) 6 7 (gG 6), cR Z (gA 9) 6 7 (gG 9), cA Z (xA 0) 0 8 Ml, cA Z (xA 4) 0 8 Mow, cA Z (xA 5) 0 8 Mof, cA Z (xA 6) 0 8 Mot, cA Z (xA 9) 0 8 Md, cA Z (gA 58) 0 4 Bp, cA Z (gA 59) 0 4 Br, cA Z (gA 60) 0 8 Wo, cA Z (gA 61) 0 8 Wf1, cA Z (gA 62) 0 8 Wb1, cA Z (gA 63) 0 4 F10]) (fun _ => rfl) dX12_shares_205 (fun F10 eF10 => ?_)
              have hF10 : ∀ j, j < 4 → (-2147483648) ≤ F10 j ∧ F10 j ≤ 2147483647 := by rw [eF10]; exact updI_B h_Wg1 (by (first | (clear b_nr b_tm b_at_ b_to_ b_fa b_va b_np b_tn b_pc_ b_st_ b_pa_ b_ta b_ow b_of_ b_ot b_rl b_hb b_bs b_se; omega) | omega))
              refine g_aload_n (pc := 206) X 1 rfl dX12_shares_206 ?_
              refine g_get (pc := 207) X inlX12 0 rfl rfl 61 (by decide) mw_9_12 rfl dX12_shares_207 ?_
              refine g_iload_n (pc := 210) X 3 rfl dX12_shares_210 ?_
              refine g_iload_n (pc := 211) X 0 rfl dX12_shares_211 ?_
              refine g_iastG (pc := 212) X 16 rfl (b_w.1) (by (first | (clear b_nr b_tm b_at_ b_to_ b_fa b_va b_np b_tn b_pc_ b_st_ b_pa_ b_ta b_ow b_of_ b_ot b_rl b_hb b_bs b_se; omega) | omega)) (Int.le_trans b_w.2 (by decide)) (ws' := fun F11 => [(g0, .inr (12, mO gA nr tm at_ to_ fa va np tn pc_ st_ pa_ ta ow of_ ot rl hb bs1 se)), cA Z (gA 13) 0 7 Mw, cA Z (gA 14) 0 7 Mo, cR Z (gA 0) 6 7 (gG 0), cR Z (gA 4) 6 7 (gG 4), cR Z (gA 5) 6 7 (gG 5), cR Z (gA 6) 6 7 (gG 6), cR Z (gA 9) 6 7 (gG 9), cA Z (xA 0) 0 8 Ml, cA Z (xA 4) 0 8 Mow, cA Z (xA 5) 0 8 Mof, cA Z (xA 6) 0 8 Mot, cA Z (xA 9) 0 8 Md, cA Z (gA 58) 0 4 Bp, cA Z (gA 59) 0 4 Br, cA Z (gA 60) 0 8 Wo, cA Z (gA 61) 0 8 F11, cA Z (gA 62) 0 8 Wb1, cA Z (gA 63) 0 4 F10]) (fun _ => rfl) dX12_shares_212 (fun F11 eF11 => ?_)
              have hF11 : ∀ j, j < 8 → (-2147483648) ≤ F11 j ∧ F11 j ≤ 2147483647 := by rw [eF11]; exact updI_B h_Wf1 (by (first | (clear b_nr b_tm b_at_ b_to_ b_fa b_va b_np b_tn b_pc_ b_st_ b_pa_ b_ta b_ow b_of_ b_ot b_rl b_hb b_bs b_se; omega) | omega))
              refine g_aload_n (pc := 213) X 1 rfl dX12_shares_213 ?_
              refine g_iload_n (pc := 214) X 2 rfl dX12_shares_214 ?_
              refine g_iload_n (pc := 215) X 3 rfl dX12_shares_215 ?_
              refine g_iconst (pc := 216) X (iI 1) (by rfl) dX12_shares_216 ?_
              refine g_iaddI (pc := 217) X dX12_shares_217 ?_
              refine g_callV (pc := 218) X (k_X12_shares5 l Z g0 gA gG xA Mw Mo Ml Mow Mof Mot Md Bp Br Wo F11 Wb1 F10 rm (w + 1) nr tm at_ to_ fa va np tn pc_ st_ pa_ ta ow of_ ot rl hb bs1 se b_rm (by (first | (clear b_nr b_tm b_at_ b_to_ b_fa b_va b_np b_tn b_pc_ b_st_ b_pa_ b_ta b_ow b_of_ b_ot b_rl b_hb b_bs b_se; omega) | omega)) b_nr b_tm b_at_ b_to_ b_fa b_va b_np b_tn b_pc_ b_st_ b_pa_ b_ta b_ow b_of_ b_ot b_rl b_hb b_bs1 b_se (hG) (by (first | (clear b_nr b_tm b_at_ b_to_ b_fa b_va b_np b_tn b_pc_ b_st_ b_pa_ b_ta b_ow b_of_ b_ot b_rl b_hb b_bs b_se; omega) | omega)) (by (first | (clear b_nr b_tm b_at_ b_to_ b_fa b_va b_np b_tn b_pc_ b_st_ b_pa_ b_ta b_ow b_of_ b_ot b_rl b_hb b_bs b_se; omega) | omega)) (by (first | (clear b_nr b_tm b_at_ b_to_ b_fa b_va b_np b_tn b_pc_ b_st_ b_pa_ b_ta b_ow b_of_ b_ot b_rl b_hb b_bs b_se; omega) | omega)) (h_Mw) (h_Mo) (h_Ml) (h_Mow) (h_Mof) (h_Mot) (h_Md) (h_Bp) (h_Br) (h_Wo) (hF11) (h_Wb1) (hF10)) iM_X12_shares mw_50_2 mw_50_3 mw_50_4 0 rfl rfl [0, 1, 2, 3, 4, 5, 6, 7, 8, 9, 10, 11, 12, 13, 14, 15, 16, 17, 18] [] rfl (wr := []) rfl (by decide) rfl rfl (Nat.le_of_ble_eq_true rfl) (by decide) dX12_shares_218 (fun r w' hpo => ?_)
              refine exN_4 hpo fun F12 F13 F14 y15 hz => anD_6 hz fun e_r e_w hf218_b_bs2 hf218_h_Wf2 hf218_h_Wb2 hf218_h_Wg2 => ?_; clear hz hpo; subst e_r; subst e_w
              refine g_as (pc' := 221) (lv' := [(3, .int (iI b3)), (0, .ref g0), (1, .int (iI rm)), (2, .int (iI w))]) (st' := []) (ws' := [(g0, .inr (12, mO gA nr tm at_ to_ fa va np tn pc_ st_ pa_ ta ow of_ ot rl hb y15 se)), cA Z (gA 13) 0 7 Mw, cA Z (gA 14) 0 7 Mo, cR Z (gA 0) 6 7 (gG 0), cR Z (gA 4) 6 7 (gG 4), cR Z (gA 5) 6 7 (gG 5), cR Z (gA 6) 6 7 (gG 6), cR Z (gA 9) 6 7 (gG 9), cA Z (xA 0) 0 8 Ml, cA Z (xA 4) 0 8 Mow, cA Z (xA 5) 0 8 Mof, cA Z (xA 6) 0 8 Mot, cA Z (xA 9) 0 8 Md, cA Z (gA 58) 0 4 Bp, cA Z (gA 59) 0 4 Br, cA Z (gA 60) 0 8 Wo, cA Z (gA 61) 0 8 F12, cA Z (gA 62) 0 8 F13, cA Z (gA 63) 0 4 F14]) rfl rfl rfl rfl ?_
              refine g_aload_n (pc := 221) X 1 rfl dX12_shares_221 ?_
              refine g_get (pc := 222) X inlX12 0 rfl rfl 63 (by decide) mw_9_14 rfl dX12_shares_222 ?_
              refine g_iload_n (pc := 225) X 0 rfl dX12_shares_225 ?_
              refine g_dup2 (pc := 226) X rfl rfl dX12_shares_226 ?_
              refine g_ialdI (pc := 227) X 18 rfl (b_b3.1) (by (first | (clear b_nr b_tm b_at_ b_to_ b_fa b_va b_np b_tn b_pc_ b_st_ b_pa_ b_ta b_ow b_of_ b_ot b_rl b_hb b_bs b_se; omega) | omega)) (Int.le_trans b_b3.2 (by decide)) dX12_shares_227 ?_
              refine g_nameI (fun y17 ey17 => ?_)
              have by17 : (-2147483648) ≤ y17 ∧ y17 ≤ 2147483647 := by rw [ey17]; exact hf218_h_Wg2 _ (by (first | (clear b_nr b_tm b_at_ b_to_ b_fa b_va b_np b_tn b_pc_ b_st_ b_pa_ b_ta b_ow b_of_ b_ot b_rl b_hb b_bs b_se; omega) | omega))
              refine g_aload_n (pc := 228) X 1 rfl dX12_shares_228 ?_
              refine g_get (pc := 229) X inlX12 0 rfl rfl 60 (by decide) mw_9_11 rfl dX12_shares_229 ?_
              refine g_iload_n (pc := 232) X 3 rfl dX12_shares_232 ?_
              refine g_ialdI (pc := 233) X 15 rfl (b_w.1) (by (first | (clear b_nr b_tm b_at_ b_to_ b_fa b_va b_np b_tn b_pc_ b_st_ b_pa_ b_ta b_ow b_of_ b_ot b_rl b_hb b_bs b_se; omega) | omega)) (Int.le_trans b_w.2 (by decide)) dX12_shares_233 ?_
              refine g_nameI (fun y18 ey18 => ?_)
              have by18 : (-2147483648) ≤ y18 ∧ y18 ≤ 2147483647 := by rw [ey18]; exact h_Wo _ (by (first | (clear b_nr b_tm b_at_ b_to_ b_fa b_va b_np b_tn b_pc_ b_st_ b_pa_ b_ta b_ow b_of_ b_ot b_rl b_hb b_bs b_se; omega) | omega))
              refine g_isubI (pc := 234) X dX12_shares_234 ?_
              refine g_any (fun y19 by19 => ?_)
              refine g_iastG (pc := 235) X 18 rfl (b_b3.1) (by (first | (clear b_nr b_tm b_at_ b_to_ b_fa b_va b_np b_tn b_pc_ b_st_ b_pa_ b_ta b_ow b_of_ b_ot b_rl b_hb b_bs b_se; omega) | omega)) (Int.le_trans b_b3.2 (by decide)) (ws' := fun F20 => [(g0, .inr (12, mO gA nr tm at_ to_ fa va np tn pc_ st_ pa_ ta ow of_ ot rl hb y15 se)), cA Z (gA 13) 0 7 Mw, cA Z (gA 14) 0 7 Mo, cR Z (gA 0) 6 7 (gG 0), cR Z (gA 4) 6 7 (gG 4), cR Z (gA 5) 6 7 (gG 5), cR Z (gA 6) 6 7 (gG 6), cR Z (gA 9) 6 7 (gG 9), cA Z (xA 0) 0 8 Ml, cA Z (xA 4) 0 8 Mow, cA Z (xA 5) 0 8 Mof, cA Z (xA 6) 0 8 Mot, cA Z (xA 9) 0 8 Md, cA Z (gA 58) 0 4 Bp, cA Z (gA 59) 0 4 Br, cA Z (gA 60) 0 8 Wo, cA Z (gA 61) 0 8 F12, cA Z (gA 62) 0 8 F13, cA Z (gA 63) 0 4 F20]) (fun _ => rfl) dX12_shares_235 (fun F20 eF20 => ?_)
              have hF20 : ∀ j, j < 4 → (-2147483648) ≤ F20 j ∧ F20 j ≤ 2147483647 := by rw [eF20]; exact updI_B hf218_h_Wg2 (by (first | (clear b_nr b_tm b_at_ b_to_ b_fa b_va b_np b_tn b_pc_ b_st_ b_pa_ b_ta b_ow b_of_ b_ot b_rl b_hb b_bs b_se; omega) | omega))
              refine g_iincI (pc := 236) X 0 rfl (by decide) (lv' := [(3, .int (iI (b3 + 1))), (0, .ref g0), (1, .int (iI rm)), (2, .int (iI w))]) rfl dX12_shares_236 ?_
              refine g_goto (pc := 239) X 145 (by decide) dX12_shares_239 ?_
              exact ih (b3 + 1) y15 F12 F13 F20 (by (first | (clear b_nr b_tm b_at_ b_to_ b_fa b_va b_np b_tn b_pc_ b_st_ b_pa_ b_ta b_ow b_of_ b_ot b_rl b_hb b_bs b_se; omega) | omega)) (hf218_b_bs2) (hf218_h_Wf2) (hf218_h_Wb2) (hF20) (by (first | (clear b_nr b_tm b_at_ b_to_ b_fa b_va b_np b_tn b_pc_ b_st_ b_pa_ b_ta b_ow b_of_ b_ot b_rl b_hb b_bs b_se; omega) | omega))
            · refine g_goto (pc := 188) X 236 (by decide) dX12_shares_188 ?_
              refine g_iincI (pc := 236) X 0 rfl (by decide) (lv' := [(3, .int (iI (b3 + 1))), (0, .ref g0), (1, .int (iI rm)), (2, .int (iI w))]) rfl dX12_shares_236 ?_
              refine g_goto (pc := 239) X 145 (by decide) dX12_shares_239 ?_
              exact ih (b3 + 1) bs1 Wf1 Wb1 Wg1 (by (first | (clear b_nr b_tm b_at_ b_to_ b_fa b_va b_np b_tn b_pc_ b_st_ b_pa_ b_ta b_ow b_of_ b_ot b_rl b_hb b_bs b_se; omega) | omega)) (b_bs1) (h_Wf1) (h_Wb1) (h_Wg1) (by (first | (clear b_nr b_tm b_at_ b_to_ b_fa b_va b_np b_tn b_pc_ b_st_ b_pa_ b_ta b_ow b_of_ b_ot b_rl b_hb b_bs b_se; omega) | omega))
    exact loop145 _ 0 bs Wf Wb Wg (by (first | (clear b_nr b_tm b_at_ b_to_ b_fa b_va b_np b_tn b_pc_ b_st_ b_pa_ b_ta b_ow b_of_ b_ot b_rl b_hb b_bs b_se; omega) | omega)) (b_bs) (h_Wf) (h_Wb) (h_Wg) (Nat.lt_succ_self _)
  · refine g_iconst (pc := 10) X (iI 0) (by rfl) dX12_shares_10 ?_
    refine g_istore_n (pc := 11) X (i := 3) rfl (by decide) (lv' := [(3, .int (iI 0)), (0, .ref g0), (1, .int (iI rm)), (2, .int (iI w))]) rfl dX12_shares_11 ?_
    refine g_iconst (pc := 12) X (iI 0) (by rfl) dX12_shares_12 ?_
    refine g_istore (pc := 13) X (by decide) (lv' := [(4, .int (iI 0)), (3, .int (iI 0)), (0, .ref g0), (1, .int (iI rm)), (2, .int (iI w))]) rfl dX12_shares_13 ?_
    have loop15 : ∀ (fuel : Nat) (n1 : Int) (k1 : Int), ((-2147483648) ≤ n1 ∧ n1 ≤ 2147483647) → (0 ≤ k1 ∧ k1 ≤ 8) → (9 - k1).toNat < fuel → Gs p l e ({ frames := 7, cells := 0, slots := 0, locals := 168 } : Room) s m args below meth c (MQ below (gPost Z [(g0, .inr (12, mO gA nr tm at_ to_ fa va np tn pc_ st_ pa_ ta ow of_ ot rl hb bs se)), cA Z (gA 13) 0 7 Mw, cA Z (gA 14) 0 7 Mo, cR Z (gA 0) 6 7 (gG 0), cR Z (gA 4) 6 7 (gG 4), cR Z (gA 5) 6 7 (gG 5), cR Z (gA 6) 6 7 (gG 6), cR Z (gA 9) 6 7 (gG 9), cA Z (xA 0) 0 8 Ml, cA Z (xA 4) 0 8 Mow, cA Z (xA 5) 0 8 Mof, cA Z (xA 6) 0 8 Mot, cA Z (xA 9) 0 8 Md, cA Z (gA 58) 0 4 Bp, cA Z (gA 59) 0 4 Br, cA Z (gA 60) 0 8 Wo, cA Z (gA 61) 0 8 Wf, cA Z (gA 62) 0 8 Wb, cA Z (gA 63) 0 4 Wg] s.heap.size (fun r w' => ∃ (Wf2 : Nat → Int) (Wb2 : Nat → Int) (Wg2 : Nat → Int) (bs2 : Int), (r = none) ∧ (w' = [(g0, .inr (12, mO gA nr tm at_ to_ fa va np tn pc_ st_ pa_ ta ow of_ ot rl hb bs2 se)), cA Z (gA 13) 0 7 Mw, cA Z (gA 14) 0 7 Mo, cR Z (gA 0) 6 7 (gG 0), cR Z (gA 4) 6 7 (gG 4), cR Z (gA 5) 6 7 (gG 5), cR Z (gA 6) 6 7 (gG 6), cR Z (gA 9) 6 7 (gG 9), cA Z (xA 0) 0 8 Ml, cA Z (xA 4) 0 8 Mow, cA Z (xA 5) 0 8 Mof, cA Z (xA 6) 0 8 Mot, cA Z (xA 9) 0 8 Md, cA Z (gA 58) 0 4 Bp, cA Z (gA 59) 0 4 Br, cA Z (gA 60) 0 8 Wo, cA Z (gA 61) 0 8 Wf2, cA Z (gA 62) 0 8 Wb2, cA Z (gA 63) 0 4 Wg2]) ∧ ((-2147483648) ≤ bs2 ∧ bs2 ≤ 2147483647) ∧ (∀ j, j < 8 → (-2147483648) ≤ Wf2 j ∧ Wf2 j ≤ 2147483647) ∧ (∀ j, j < 8 → (-2147483648) ≤ Wb2 j ∧ Wb2 j ≤ 2147483647) ∧ (∀ j, j < 4 → (-2147483648) ≤ Wg2 j ∧ Wg2 j ≤ 2147483647))) args s 0 0 (va_A [(g0, .inr (12, mO gA nr tm at_ to_ fa va np tn pc_ st_ pa_ ta ow of_ ot rl hb bs se)), cA Z (gA 13) 0 7 Mw, cA Z (gA 14) 0 7 Mo, cR Z (gA 0) 6 7 (gG 0), cR Z (gA 4) 6 7 (gG 4), cR Z (gA 5) 6 7 (gG 5), cR Z (gA 6) 6 7 (gG 6), cR Z (gA 9) 6 7 (gG 9), cA Z (xA 0) 0 8 Ml, cA Z (xA 4) 0 8 Mow, cA Z (xA 5) 0 8 Mof, cA Z (xA 6) 0 8 Mot, cA Z (xA 9) 0 8 Md, cA Z (gA 58) 0 4 Bp, cA Z (gA 59) 0 4 Br, cA Z (gA 60) 0 8 Wo, cA Z (gA 61) 0 8 Wf, cA Z (gA 62) 0 8 Wb, cA Z (gA 63) 0 4 Wg] s.heap.size)) Z A 5 0 0 15 [(4, .int (iI k1)), (3, .int (iI n1)), (0, .ref g0), (1, .int (iI rm)), (2, .int (iI w))] [] [(g0, .inr (12, mO gA nr tm at_ to_ fa va np tn pc_ st_ pa_ ta ow of_ ot rl hb bs se)), cA Z (gA 13) 0 7 Mw, cA Z (gA 14) 0 7 Mo, cR Z (gA 0) 6 7 (gG 0), cR Z (gA 4) 6 7 (gG 4), cR Z (gA 5) 6 7 (gG 5), cR Z (gA 6) 6 7 (gG 6), cR Z (gA 9) 6 7 (gG 9), cA Z (xA 0) 0 8 Ml, cA Z (xA 4) 0 8 Mow, cA Z (xA 5) 0 8 Mof, cA Z (xA 6) 0 8 Mot, cA Z (xA 9) 0 8 Md, cA Z (gA 58) 0 4 Bp, cA Z (gA 59) 0 4 Br, cA Z (gA 60) 0 8 Wo, cA Z (gA 61) 0 8 Wf, cA Z (gA 62) 0 8 Wb, cA Z (gA 63) 0 4 Wg] := by
      intro fuel
      induction fuel with
      | zero => intro n1 k1 _ _ hm; exact absurd hm (Nat.not_lt_zero _)
      | succ fuel ih =>
        intro n1 k1 b_n1 b_k1 hm
        refine g_iload (pc := 15) X 0 rfl dX12_shares_15 ?_
        refine g_aload_n (pc := 17) X 2 rfl dX12_shares_17 ?_
        refine g_get (pc := 18) X inlX12 0 rfl rfl 13 (by decide) mw_8_1 rfl dX12_shares_18 ?_
        refine g_iload_n (pc := 21) X 3 rfl dX12_shares_21 ?_
        refine g_ialdI (pc := 22) X 1 rfl (b_rm.1) (Int.lt_of_le_of_lt b_rm.2 (by decide)) (Int.le_trans b_rm.2 (by decide)) dX12_shares_22 ?_
        refine g_nameI (fun y21 ey21 => ?_)
        have by21 : 0 ≤ y21 ∧ y21 ≤ 8 := by rw [ey21]; exact h_Mw _ (by (first | (clear b_nr b_tm b_at_ b_to_ b_fa b_va b_np b_tn b_pc_ b_st_ b_pa_ b_ta b_ow b_of_ b_ot b_rl b_hb b_bs b_se; omega) | omega))
        have ty21 : 1 ≤ y21 ∧ y21 ≤ 8 := by rw [ey21]; exact hwn
        refine g_icmp_geI (pc := 23) X 86 (by decide) (inRb b_k1 (by decide) (by decide)) (inRb by21 (by decide) (by decide)) dX12_shares_23 (fun c23 => ?_) (fun c23 => ?_)
        · refine g_aload_n (pc := 86) X 2 rfl dX12_shares_86 ?_
          refine g_get (pc := 87) X inlX12 0 rfl rfl 65 (by decide) mw_49_21 rfl dX12_shares_87 ?_
          refine g_iconst (pc := 90) X (iI (-1)) (by rfl) dX12_shares_90 ?_
          refine g_icmp_eqI (pc := 91) X 103 (by decide) b_bs ⟨by decide, by decide⟩ dX12_shares_91 (fun c91 => ?_) (fun c91 => ?_)
          · refine g_aload_n (pc := 103) X 2 rfl dX12_shares_103 ?_
            refine g_iload_n (pc := 104) X 1 rfl dX12_shares_104 ?_
            refine g_put (pc := 105) X inlX12 tyX12_ok nmX12 0 rfl rfl 65 (by decide) mw_49_21 rfl rfl rfl (Nat.le_of_ble_eq_true rfl) (ws' := [(g0, .inr (12, mO gA nr tm at_ to_ fa va np tn pc_ st_ pa_ ta ow of_ ot rl hb n1 se)), cA Z (gA 13) 0 7 Mw, cA Z (gA 14) 0 7 Mo, cR Z (gA 0) 6 7 (gG 0), cR Z (gA 4) 6 7 (gG 4), cR Z (gA 5) 6 7 (gG 5), cR Z (gA 6) 6 7 (gG 6), cR Z (gA 9) 6 7 (gG 9), cA Z (xA 0) 0 8 Ml, cA Z (xA 4) 0 8 Mow, cA Z (xA 5) 0 8 Mof, cA Z (xA 6) 0 8 Mot, cA Z (xA 9) 0 8 Md, cA Z (gA 58) 0 4 Bp, cA Z (gA 59) 0 4 Br, cA Z (gA 60) 0 8 Wo, cA Z (gA 61) 0 8 Wf, cA Z (gA 62) 0 8 Wb, cA Z (gA 63) 0 4 Wg]) rfl dX12_shares_105 ?_
            refine g_iconst (pc := 108) X (iI 0) (by rfl) dX12_shares_108 ?_
            refine g_istore (pc := 109) X (by decide) (lv' := [(4, .int (iI 0)), (3, .int (iI n1)), (0, .ref g0), (1, .int (iI rm)), (2, .int (iI w))]) rfl dX12_shares_109 ?_
            have loop111 : ∀ (fuel : Nat) (k2 : Int) (Wb1 : Nat → Int), (0 ≤ k2 ∧ k2 ≤ 8) → (∀ j, j < 8 → (-2147483648) ≤ Wb1 j ∧ Wb1 j ≤ 2147483647) → (9 - k2).toNat < fuel → Gs p l e ({ frames := 7, cells := 0, slots := 0, locals := 168 } : Room) s m args below meth c (MQ below (gPost Z [(g0, .inr (12, mO gA nr tm at_ to_ fa va np tn pc_ st_ pa_ ta ow of_ ot rl hb bs se)), cA Z (gA 13) 0 7 Mw, cA Z (gA 14) 0 7 Mo, cR Z (gA 0) 6 7 (gG 0), cR Z (gA 4) 6 7 (gG 4), cR Z (gA 5) 6 7 (gG 5), cR Z (gA 6) 6 7 (gG 6), cR Z (gA 9) 6 7 (gG 9), cA Z (xA 0) 0 8 Ml, cA Z (xA 4) 0 8 Mow, cA Z (xA 5) 0 8 Mof, cA Z (xA 6) 0 8 Mot, cA Z (xA 9) 0 8 Md, cA Z (gA 58) 0 4 Bp, cA Z (gA 59) 0 4 Br, cA Z (gA 60) 0 8 Wo, cA Z (gA 61) 0 8 Wf, cA Z (gA 62) 0 8 Wb, cA Z (gA 63) 0 4 Wg] s.heap.size (fun r w' => ∃ (Wf2 : Nat → Int) (Wb2 : Nat → Int) (Wg2 : Nat → Int) (bs2 : Int), (r = none) ∧ (w' = [(g0, .inr (12, mO gA nr tm at_ to_ fa va np tn pc_ st_ pa_ ta ow of_ ot rl hb bs2 se)), cA Z (gA 13) 0 7 Mw, cA Z (gA 14) 0 7 Mo, cR Z (gA 0) 6 7 (gG 0), cR Z (gA 4) 6 7 (gG 4), cR Z (gA 5) 6 7 (gG 5), cR Z (gA 6) 6 7 (gG 6), cR Z (gA 9) 6 7 (gG 9), cA Z (xA 0) 0 8 Ml, cA Z (xA 4) 0 8 Mow, cA Z (xA 5) 0 8 Mof, cA Z (xA 6) 0 8 Mot, cA Z (xA 9) 0 8 Md, cA Z (gA 58) 0 4 Bp, cA Z (gA 59) 0 4 Br, cA Z (gA 60) 0 8 Wo, cA Z (gA 61) 0 8 Wf2, cA Z (gA 62) 0 8 Wb2, cA Z (gA 63) 0 4 Wg2]) ∧ ((-2147483648) ≤ bs2 ∧ bs2 ≤ 2147483647) ∧ (∀ j, j < 8 → (-2147483648) ≤ Wf2 j ∧ Wf2 j ≤ 2147483647) ∧ (∀ j, j < 8 → (-2147483648) ≤ Wb2 j ∧ Wb2 j ≤ 2147483647) ∧ (∀ j, j < 4 → (-2147483648) ≤ Wg2 j ∧ Wg2 j ≤ 2147483647))) args s 0 0 (va_A [(g0, .inr (12, mO gA nr tm at_ to_ fa va np tn pc_ st_ pa_ ta ow of_ ot rl hb bs se)), cA Z (gA 13) 0 7 Mw, cA Z (gA 14) 0 7 Mo, cR Z (gA 0) 6 7 (gG 0), cR Z (gA 4) 6 7 (gG 4), cR Z (gA 5) 6 7 (gG 5), cR Z (gA 6) 6 7 (gG 6), cR Z (gA 9) 6 7 (gG 9), cA Z (xA 0) 0 8 Ml, cA Z (xA 4) 0 8 Mow, cA Z (xA 5) 0 8 Mof, cA Z (xA 6) 0 8 Mot, cA Z (xA 9) 0 8 Md, cA Z (gA 58) 0 4 Bp, cA Z (gA 59) 0 4 Br, cA Z (gA 60) 0 8 Wo, cA Z (gA 61) 0 8 Wf, cA Z (gA 62) 0 8 Wb, cA Z (gA 63) 0 4 Wg] s.heap.size)) Z A 5 0 0 111 [(4, .int (iI k2)), (3, .int (iI n1)), (0, .ref g0), (1, .int (iI rm)), (2, .int (iI w))] [] [(g0, .inr (12, mO gA nr tm at_ to_ fa va np tn pc_ st_ pa_ ta ow of_ ot rl hb n1 se)), cA Z (gA 13) 0 7 Mw, cA Z (gA 14) 0 7 Mo, cR Z (gA 0) 6 7 (gG 0), cR Z (gA 4) 6 7 (gG 4), cR Z (gA 5) 6 7 (gG 5), cR Z (gA 6) 6 7 (gG 6), cR Z (gA 9) 6 7 (gG 9), cA Z (xA 0) 0 8 Ml, cA Z (xA 4) 0 8 Mow, cA Z (xA 5) 0 8 Mof, cA Z (xA 6) 0 8 Mot, cA Z (xA 9) 0 8 Md, cA Z (gA 58) 0 4 Bp, cA Z (gA 59) 0 4 Br, cA Z (gA 60) 0 8 Wo, cA Z (gA 61) 0 8 Wf, cA Z (gA 62) 0 8 Wb1, cA Z (gA 63) 0 4 Wg] := by
              intro fuel
              induction fuel with
              | zero => intro k2 Wb1 _ _ hm; exact absurd hm (Nat.not_lt_zero _)
              | succ fuel ih =>
                intro k2 Wb1 b_k2 h_Wb1 hm
                refine g_iload (pc := 111) X 0 rfl dX12_shares_111 ?_
                refine g_aload_n (pc := 113) X 2 rfl dX12_shares_113 ?_
                refine g_get (pc := 114) X inlX12 0 rfl rfl 13 (by decide) mw_8_1 rfl dX12_shares_114 ?_
                refine g_iload_n (pc := 117) X 3 rfl dX12_shares_117 ?_
                refine g_ialdI (pc := 118) X 1 rfl (b_rm.1) (Int.lt_of_le_of_lt b_rm.2 (by decide)) (Int.le_trans b_rm.2 (by decide)) dX12_shares_118 ?_
                refine g_nameI (fun y22 ey22 => ?_)
                have by22 : 0 ≤ y22 ∧ y22 ≤ 8 := by rw [ey22]; exact h_Mw _ (by (first | (clear b_nr b_tm b_at_ b_to_ b_fa b_va b_np b_tn b_pc_ b_st_ b_pa_ b_ta b_ow b_of_ b_ot b_rl b_hb b_bs b_se; omega) | omega))
                have ty22 : 1 ≤ y22 ∧ y22 ≤ 8 := by rw [ey22]; exact hwn
                refine g_icmp_geI (pc := 119) X 142 (by decide) (inRb b_k2 (by decide) (by decide)) (inRb by22 (by decide) (by decide)) dX12_shares_119 (fun c119 => ?_) (fun c119 => ?_)
                · exact g_vret (pc := 142) X hA (⟨Wf, Wb1, Wg, n1, rfl, rfl, (b_n1), (h_Wf), (h_Wb1), (h_Wg)⟩) (by decide) (by decide) dX12_shares_142
                · refine g_aload_n (pc := 122) X 2 rfl dX12_shares_122 ?_
                  refine g_get (pc := 123) X inlX12 0 rfl rfl 62 (by decide) mw_9_13 rfl dX12_shares_123 ?_
                  refine g_iload (pc := 126) X 0 rfl dX12_shares_126 ?_
                  refine g_aload_n (pc := 128) X 2 rfl dX12_shares_128 ?_
                  refine g_get (pc := 129) X inlX12 0 rfl rfl 61 (by decide) mw_9_12 rfl dX12_shares_129 ?_
                  refine g_iload (pc := 132) X 0 rfl dX12_shares_132 ?_
                  refine g_ialdI (pc := 134) X 16 rfl (b_k2.1) (by (first | (clear b_nr b_tm b_at_ b_to_ b_fa b_va b_np b_tn b_pc_ b_st_ b_pa_ b_ta b_ow b_of_ b_ot b_rl b_hb b_bs b_se; omega) | omega)) (Int.le_trans b_k2.2 (by decide)) dX12_shares_134 ?_
                  refine g_nameI (fun y23 ey23 => ?_)
                  have by23 : (-2147483648) ≤ y23 ∧ y23 ≤ 2147483647 := by rw [ey23]; exact h_Wf _ (by (first | (clear b_nr b_tm b_at_ b_to_ b_fa b_va b_np b_tn b_pc_ b_st_ b_pa_ b_ta b_ow b_of_ b_ot b_rl b_hb b_bs b_se; omega) | omega))
                  refine g_iastG (pc := 135) X 17 rfl (b_k2.1) (by (first | (clear b_nr b_tm b_at_ b_to_ b_fa b_va b_np b_tn b_pc_ b_st_ b_pa_ b_ta b_ow b_of_ b_ot b_rl b_hb b_bs b_se; omega) | omega)) (Int.le_trans b_k2.2 (by decide)) (ws' := fun F24 => [(g0, .inr (12, mO gA nr tm at_ to_ fa va np tn pc_ st_ pa_ ta ow of_ ot rl hb n1 se)), cA Z (gA 13) 0 7 Mw, cA Z (gA 14) 0 7 Mo, cR Z (gA 0) 6 7 (gG 0), cR Z (gA 4) 6 7 (gG 4), cR Z (gA 5) 6 7 (gG 5), cR Z (gA 6) 6 7 (gG 6), cR Z (gA 9) 6 7 (gG 9), cA Z (xA 0) 0 8 Ml, cA Z (xA 4) 0 8 Mow, cA Z (xA 5) 0 8 Mof, cA Z (xA 6) 0 8 Mot, cA Z (xA 9) 0 8 Md, cA Z (gA 58) 0 4 Bp, cA Z (gA 59) 0 4 Br, cA Z (gA 60) 0 8 Wo, cA Z (gA 61) 0 8 Wf, cA Z (gA 62) 0 8 F24, cA Z (gA 63) 0 4 Wg]) (fun _ => rfl) dX12_shares_135 (fun F24 eF24 => ?_)
                  have hF24 : ∀ j, j < 8 → (-2147483648) ≤ F24 j ∧ F24 j ≤ 2147483647 := by rw [eF24]; exact updI_B h_Wb1 (by (first | (clear b_nr b_tm b_at_ b_to_ b_fa b_va b_np b_tn b_pc_ b_st_ b_pa_ b_ta b_ow b_of_ b_ot b_rl b_hb b_bs b_se; omega) | omega))
                  refine g_iincI (pc := 136) X 0 rfl (by decide) (lv' := [(4, .int (iI (k2 + 1))), (3, .int (iI n1)), (0, .ref g0), (1, .int (iI rm)), (2, .int (iI w))]) rfl dX12_shares_136 ?_
                  refine g_goto (pc := 139) X 111 (by decide) dX12_shares_139 ?_
                  exact ih (k2 + 1) F24 (by (first | (clear b_nr b_tm b_at_ b_to_ b_fa b_va b_np b_tn b_pc_ b_st_ b_pa_ b_ta b_ow b_of_ b_ot b_rl b_hb b_bs b_se; omega) | omega)) (hF24) (by (first | (clear b_nr b_tm b_at_ b_to_ b_fa b_va b_np b_tn b_pc_ b_st_ b_pa_ b_ta b_ow b_of_ b_ot b_rl b_hb b_bs b_se; omega) | omega))
            exact loop111 _ 0 Wb (by (first | (clear b_nr b_tm b_at_ b_to_ b_fa b_va b_np b_tn b_pc_ b_st_ b_pa_ b_ta b_ow b_of_ b_ot b_rl b_hb b_bs b_se; omega) | omega)) (h_Wb) (Nat.lt_succ_self _)
          · refine g_iload_n (pc := 94) X 1 rfl dX12_shares_94 ?_
            refine g_aload_n (pc := 95) X 2 rfl dX12_shares_95 ?_
            refine g_get (pc := 96) X inlX12 0 rfl rfl 65 (by decide) mw_49_21 rfl dX12_shares_96 ?_
            refine g_icmp_ltI (pc := 99) X 103 (by decide) b_n1 b_bs dX12_shares_99 (fun c99 => ?_) (fun c99 => ?_)
            · refine g_aload_n (pc := 103) X 2 rfl dX12_shares_103 ?_
              refine g_iload_n (pc := 104) X 1 rfl dX12_shares_104 ?_
              refine g_put (pc := 105) X inlX12 tyX12_ok nmX12 0 rfl rfl 65 (by decide) mw_49_21 rfl rfl rfl (Nat.le_of_ble_eq_true rfl) (ws' := [(g0, .inr (12, mO gA nr tm at_ to_ fa va np tn pc_ st_ pa_ ta ow of_ ot rl hb n1 se)), cA Z (gA 13) 0 7 Mw, cA Z (gA 14) 0 7 Mo, cR Z (gA 0) 6 7 (gG 0), cR Z (gA 4) 6 7 (gG 4), cR Z (gA 5) 6 7 (gG 5), cR Z (gA 6) 6 7 (gG 6), cR Z (gA 9) 6 7 (gG 9), cA Z (xA 0) 0 8 Ml, cA Z (xA 4) 0 8 Mow, cA Z (xA 5) 0 8 Mof, cA Z (xA 6) 0 8 Mot, cA Z (xA 9) 0 8 Md, cA Z (gA 58) 0 4 Bp, cA Z (gA 59) 0 4 Br, cA Z (gA 60) 0 8 Wo, cA Z (gA 61) 0 8 Wf, cA Z (gA 62) 0 8 Wb, cA Z (gA 63) 0 4 Wg]) rfl dX12_shares_105 ?_
              refine g_iconst (pc := 108) X (iI 0) (by rfl) dX12_shares_108 ?_
              refine g_istore (pc := 109) X (by decide) (lv' := [(4, .int (iI 0)), (3, .int (iI n1)), (0, .ref g0), (1, .int (iI rm)), (2, .int (iI w))]) rfl dX12_shares_109 ?_
              have loop111 : ∀ (fuel : Nat) (k2 : Int) (Wb1 : Nat → Int), (0 ≤ k2 ∧ k2 ≤ 8) → (∀ j, j < 8 → (-2147483648) ≤ Wb1 j ∧ Wb1 j ≤ 2147483647) → (9 - k2).toNat < fuel → Gs p l e ({ frames := 7, cells := 0, slots := 0, locals := 168 } : Room) s m args below meth c (MQ below (gPost Z [(g0, .inr (12, mO gA nr tm at_ to_ fa va np tn pc_ st_ pa_ ta ow of_ ot rl hb bs se)), cA Z (gA 13) 0 7 Mw, cA Z (gA 14) 0 7 Mo, cR Z (gA 0) 6 7 (gG 0), cR Z (gA 4) 6 7 (gG 4), cR Z (gA 5) 6 7 (gG 5), cR Z (gA 6) 6 7 (gG 6), cR Z (gA 9) 6 7 (gG 9), cA Z (xA 0) 0 8 Ml, cA Z (xA 4) 0 8 Mow, cA Z (xA 5) 0 8 Mof, cA Z (xA 6) 0 8 Mot, cA Z (xA 9) 0 8 Md, cA Z (gA 58) 0 4 Bp, cA Z (gA 59) 0 4 Br, cA Z (gA 60) 0 8 Wo, cA Z (gA 61) 0 8 Wf, cA Z (gA 62) 0 8 Wb, cA Z (gA 63) 0 4 Wg] s.heap.size (fun r w' => ∃ (Wf2 : Nat → Int) (Wb2 : Nat → Int) (Wg2 : Nat → Int) (bs2 : Int), (r = none) ∧ (w' = [(g0, .inr (12, mO gA nr tm at_ to_ fa va np tn pc_ st_ pa_ ta ow of_ ot rl hb bs2 se)), cA Z (gA 13) 0 7 Mw, cA Z (gA 14) 0 7 Mo, cR Z (gA 0) 6 7 (gG 0), cR Z (gA 4) 6 7 (gG 4), cR Z (gA 5) 6 7 (gG 5), cR Z (gA 6) 6 7 (gG 6), cR Z (gA 9) 6 7 (gG 9), cA Z (xA 0) 0 8 Ml, cA Z (xA 4) 0 8 Mow, cA Z (xA 5) 0 8 Mof, cA Z (xA 6) 0 8 Mot, cA Z (xA 9) 0 8 Md, cA Z (gA 58) 0 4 Bp, cA Z (gA 59) 0 4 Br, cA Z (gA 60) 0 8 Wo, cA Z (gA 61) 0 8 Wf2, cA Z (gA 62) 0 8 Wb2, cA Z (gA 63) 0 4 Wg2]) ∧ ((-2147483648) ≤ bs2 ∧ bs2 ≤ 2147483647) ∧ (∀ j, j < 8 → (-2147483648) ≤ Wf2 j ∧ Wf2 j ≤ 2147483647) ∧ (∀ j, j < 8 → (-2147483648) ≤ Wb2 j ∧ Wb2 j ≤ 2147483647) ∧ (∀ j, j < 4 → (-2147483648) ≤ Wg2 j ∧ Wg2 j ≤ 2147483647))) args s 0 0 (va_A [(g0, .inr (12, mO gA nr tm at_ to_ fa va np tn pc_ st_ pa_ ta ow of_ ot rl hb bs se)), cA Z (gA 13) 0 7 Mw, cA Z (gA 14) 0 7 Mo, cR Z (gA 0) 6 7 (gG 0), cR Z (gA 4) 6 7 (gG 4), cR Z (gA 5) 6 7 (gG 5), cR Z (gA 6) 6 7 (gG 6), cR Z (gA 9) 6 7 (gG 9), cA Z (xA 0) 0 8 Ml, cA Z (xA 4) 0 8 Mow, cA Z (xA 5) 0 8 Mof, cA Z (xA 6) 0 8 Mot, cA Z (xA 9) 0 8 Md, cA Z (gA 58) 0 4 Bp, cA Z (gA 59) 0 4 Br, cA Z (gA 60) 0 8 Wo, cA Z (gA 61) 0 8 Wf, cA Z (gA 62) 0 8 Wb, cA Z (gA 63) 0 4 Wg] s.heap.size)) Z A 5 0 0 111 [(4, .int (iI k2)), (3, .int (iI n1)), (0, .ref g0), (1, .int (iI rm)), (2, .int (iI w))] [] [(g0, .inr (12, mO gA nr tm at_ to_ fa va np tn pc_ st_ pa_ ta ow of_ ot rl hb n1 se)), cA Z (gA 13) 0 7 Mw, cA Z (gA 14) 0 7 Mo, cR Z (gA 0) 6 7 (gG 0), cR Z (gA 4) 6 7 (gG 4), cR Z (gA 5) 6 7 (gG 5), cR Z (gA 6) 6 7 (gG 6), cR Z (gA 9) 6 7 (gG 9), cA Z (xA 0) 0 8 Ml, cA Z (xA 4) 0 8 Mow, cA Z (xA 5) 0 8 Mof, cA Z (xA 6) 0 8 Mot, cA Z (xA 9) 0 8 Md, cA Z (gA 58) 0 4 Bp, cA Z (gA 59) 0 4 Br, cA Z (gA 60) 0 8 Wo, cA Z (gA 61) 0 8 Wf, cA Z (gA 62) 0 8 Wb1, cA Z (gA 63) 0 4 Wg] := by
                intro fuel
                induction fuel with
                | zero => intro k2 Wb1 _ _ hm; exact absurd hm (Nat.not_lt_zero _)
                | succ fuel ih =>
                  intro k2 Wb1 b_k2 h_Wb1 hm
                  refine g_iload (pc := 111) X 0 rfl dX12_shares_111 ?_
                  refine g_aload_n (pc := 113) X 2 rfl dX12_shares_113 ?_
                  refine g_get (pc := 114) X inlX12 0 rfl rfl 13 (by decide) mw_8_1 rfl dX12_shares_114 ?_
                  refine g_iload_n (pc := 117) X 3 rfl dX12_shares_117 ?_
                  refine g_ialdI (pc := 118) X 1 rfl (b_rm.1) (Int.lt_of_le_of_lt b_rm.2 (by decide)) (Int.le_trans b_rm.2 (by decide)) dX12_shares_118 ?_
                  refine g_nameI (fun y25 ey25 => ?_)
                  have by25 : 0 ≤ y25 ∧ y25 ≤ 8 := by rw [ey25]; exact h_Mw _ (by (first | (clear b_nr b_tm b_at_ b_to_ b_fa b_va b_np b_tn b_pc_ b_st_ b_pa_ b_ta b_ow b_of_ b_ot b_rl b_hb b_bs b_se; omega) | omega))
                  have ty25 : 1 ≤ y25 ∧ y25 ≤ 8 := by rw [ey25]; exact hwn
                  refine g_icmp_geI (pc := 119) X 142 (by decide) (inRb b_k2 (by decide) (by decide)) (inRb by25 (by decide) (by decide)) dX12_shares_119 (fun c119 => ?_) (fun c119 => ?_)
                  · exact g_vret (pc := 142) X hA (⟨Wf, Wb1, Wg, n1, rfl, rfl, (b_n1), (h_Wf), (h_Wb1), (h_Wg)⟩) (by decide) (by decide) dX12_shares_142
                  · refine g_aload_n (pc := 122) X 2 rfl dX12_shares_122 ?_
                    refine g_get (pc := 123) X inlX12 0 rfl rfl 62 (by decide) mw_9_13 rfl dX12_shares_123 ?_
                    refine g_iload (pc := 126) X 0 rfl dX12_shares_126 ?_
                    refine g_aload_n (pc := 128) X 2 rfl dX12_shares_128 ?_
                    refine g_get (pc := 129) X inlX12 0 rfl rfl 61 (by decide) mw_9_12 rfl dX12_shares_129 ?_
                    refine g_iload (pc := 132) X 0 rfl dX12_shares_132 ?_
                    refine g_ialdI (pc := 134) X 16 rfl (b_k2.1) (by (first | (clear b_nr b_tm b_at_ b_to_ b_fa b_va b_np b_tn b_pc_ b_st_ b_pa_ b_ta b_ow b_of_ b_ot b_rl b_hb b_bs b_se; omega) | omega)) (Int.le_trans b_k2.2 (by decide)) dX12_shares_134 ?_
                    refine g_nameI (fun y26 ey26 => ?_)
                    have by26 : (-2147483648) ≤ y26 ∧ y26 ≤ 2147483647 := by rw [ey26]; exact h_Wf _ (by (first | (clear b_nr b_tm b_at_ b_to_ b_fa b_va b_np b_tn b_pc_ b_st_ b_pa_ b_ta b_ow b_of_ b_ot b_rl b_hb b_bs b_se; omega) | omega))
                    refine g_iastG (pc := 135) X 17 rfl (b_k2.1) (by (first | (clear b_nr b_tm b_at_ b_to_ b_fa b_va b_np b_tn b_pc_ b_st_ b_pa_ b_ta b_ow b_of_ b_ot b_rl b_hb b_bs b_se; omega) | omega)) (Int.le_trans b_k2.2 (by decide)) (ws' := fun F27 => [(g0, .inr (12, mO gA nr tm at_ to_ fa va np tn pc_ st_ pa_ ta ow of_ ot rl hb n1 se)), cA Z (gA 13) 0 7 Mw, cA Z (gA 14) 0 7 Mo, cR Z (gA 0) 6 7 (gG 0), cR Z (gA 4) 6 7 (gG 4), cR Z (gA 5) 6 7 (gG 5), cR Z (gA 6) 6 7 (gG 6), cR Z (gA 9) 6 7 (gG 9), cA Z (xA 0) 0 8 Ml, cA Z (xA 4) 0 8 Mow, cA Z (xA 5) 0 8 Mof, cA Z (xA 6) 0 8 Mot, cA Z (xA 9) 0 8 Md, cA Z (gA 58) 0 4 Bp, cA Z (gA 59) 0 4 Br, cA Z (gA 60) 0 8 Wo, cA Z (gA 61) 0 8 Wf, cA Z (gA 62) 0 8 F27, cA Z (gA 63) 0 4 Wg]) (fun _ => rfl) dX12_shares_135 (fun F27 eF27 => ?_)
                    have hF27 : ∀ j, j < 8 → (-2147483648) ≤ F27 j ∧ F27 j ≤ 2147483647 := by rw [eF27]; exact updI_B h_Wb1 (by (first | (clear b_nr b_tm b_at_ b_to_ b_fa b_va b_np b_tn b_pc_ b_st_ b_pa_ b_ta b_ow b_of_ b_ot b_rl b_hb b_bs b_se; omega) | omega))
                    refine g_iincI (pc := 136) X 0 rfl (by decide) (lv' := [(4, .int (iI (k2 + 1))), (3, .int (iI n1)), (0, .ref g0), (1, .int (iI rm)), (2, .int (iI w))]) rfl dX12_shares_136 ?_
                    refine g_goto (pc := 139) X 111 (by decide) dX12_shares_139 ?_
                    exact ih (k2 + 1) F27 (by (first | (clear b_nr b_tm b_at_ b_to_ b_fa b_va b_np b_tn b_pc_ b_st_ b_pa_ b_ta b_ow b_of_ b_ot b_rl b_hb b_bs b_se; omega) | omega)) (hF27) (by (first | (clear b_nr b_tm b_at_ b_to_ b_fa b_va b_np b_tn b_pc_ b_st_ b_pa_ b_ta b_ow b_of_ b_ot b_rl b_hb b_bs b_se; omega) | omega))
              exact loop111 _ 0 Wb (by (first | (clear b_nr b_tm b_at_ b_to_ b_fa b_va b_np b_tn b_pc_ b_st_ b_pa_ b_ta b_ow b_of_ b_ot b_rl b_hb b_bs b_se; omega) | omega)) (h_Wb) (Nat.lt_succ_self _)
            · exact g_vret (pc := 102) X hA (⟨Wf, Wb, Wg, bs, rfl, rfl, (b_bs), (h_Wf), (h_Wb), (h_Wg)⟩) (by decide) (by decide) dX12_shares_102
        · refine g_aload_n (pc := 26) X 2 rfl dX12_shares_26 ?_
          refine g_get (pc := 27) X inlX12 0 rfl rfl 13 (by decide) mw_8_1 rfl dX12_shares_27 ?_
          refine g_iload_n (pc := 30) X 3 rfl dX12_shares_30 ?_
          refine g_ialdI (pc := 31) X 1 rfl (b_rm.1) (Int.lt_of_le_of_lt b_rm.2 (by decide)) (Int.le_trans b_rm.2 (by decide)) dX12_shares_31 ?_
          refine g_nameI (fun y28 ey28 => ?_)
          have by28 : 0 ≤ y28 ∧ y28 ≤ 8 := by rw [ey28]; exact h_Mw _ (by (first | (clear b_nr b_tm b_at_ b_to_ b_fa b_va b_np b_tn b_pc_ b_st_ b_pa_ b_ta b_ow b_of_ b_ot b_rl b_hb b_bs b_se; omega) | omega))
          have ty28 : 1 ≤ y28 ∧ y28 ≤ 8 := by rw [ey28]; exact hwn
          refine g_iconst (pc := 32) X (iI 1) (by rfl) dX12_shares_32 ?_
          refine g_icmp_leI (pc := 33) X 86 (by decide) (inRb by28 (by decide) (by decide)) ⟨by decide, by decide⟩ dX12_shares_33 (fun c33 => ?_) (fun c33 => ?_)
          · refine g_aload_n (pc := 86) X 2 rfl dX12_shares_86 ?_
            refine g_get (pc := 87) X inlX12 0 rfl rfl 65 (by decide) mw_49_21 rfl dX12_shares_87 ?_
            refine g_iconst (pc := 90) X (iI (-1)) (by rfl) dX12_shares_90 ?_
            refine g_icmp_eqI (pc := 91) X 103 (by decide) b_bs ⟨by decide, by decide⟩ dX12_shares_91 (fun c91 => ?_) (fun c91 => ?_)
            · refine g_aload_n (pc := 103) X 2 rfl dX12_shares_103 ?_
              refine g_iload_n (pc := 104) X 1 rfl dX12_shares_104 ?_
              refine g_put (pc := 105) X inlX12 tyX12_ok nmX12 0 rfl rfl 65 (by decide) mw_49_21 rfl rfl rfl (Nat.le_of_ble_eq_true rfl) (ws' := [(g0, .inr (12, mO gA nr tm at_ to_ fa va np tn pc_ st_ pa_ ta ow of_ ot rl hb n1 se)), cA Z (gA 13) 0 7 Mw, cA Z (gA 14) 0 7 Mo, cR Z (gA 0) 6 7 (gG 0), cR Z (gA 4) 6 7 (gG 4), cR Z (gA 5) 6 7 (gG 5), cR Z (gA 6) 6 7 (gG 6), cR Z (gA 9) 6 7 (gG 9), cA Z (xA 0) 0 8 Ml, cA Z (xA 4) 0 8 Mow, cA Z (xA 5) 0 8 Mof, cA Z (xA 6) 0 8 Mot, cA Z (xA 9) 0 8 Md, cA Z (gA 58) 0 4 Bp, cA Z (gA 59) 0 4 Br, cA Z (gA 60) 0 8 Wo, cA Z (gA 61) 0 8 Wf, cA Z (gA 62) 0 8 Wb, cA Z (gA 63) 0 4 Wg]) rfl dX12_shares_105 ?_
              refine g_iconst (pc := 108) X (iI 0) (by rfl) dX12_shares_108 ?_
              refine g_istore (pc := 109) X (by decide) (lv' := [(4, .int (iI 0)), (3, .int (iI n1)), (0, .ref g0), (1, .int (iI rm)), (2, .int (iI w))]) rfl dX12_shares_109 ?_
              have loop111 : ∀ (fuel : Nat) (k2 : Int) (Wb1 : Nat → Int), (0 ≤ k2 ∧ k2 ≤ 8) → (∀ j, j < 8 → (-2147483648) ≤ Wb1 j ∧ Wb1 j ≤ 2147483647) → (9 - k2).toNat < fuel → Gs p l e ({ frames := 7, cells := 0, slots := 0, locals := 168 } : Room) s m args below meth c (MQ below (gPost Z [(g0, .inr (12, mO gA nr tm at_ to_ fa va np tn pc_ st_ pa_ ta ow of_ ot rl hb bs se)), cA Z (gA 13) 0 7 Mw, cA Z (gA 14) 0 7 Mo, cR Z (gA 0) 6 7 (gG 0), cR Z (gA 4) 6 7 (gG 4), cR Z (gA 5) 6 7 (gG 5), cR Z (gA 6) 6 7 (gG 6), cR Z (gA 9) 6 7 (gG 9), cA Z (xA 0) 0 8 Ml, cA Z (xA 4) 0 8 Mow, cA Z (xA 5) 0 8 Mof, cA Z (xA 6) 0 8 Mot, cA Z (xA 9) 0 8 Md, cA Z (gA 58) 0 4 Bp, cA Z (gA 59) 0 4 Br, cA Z (gA 60) 0 8 Wo, cA Z (gA 61) 0 8 Wf, cA Z (gA 62) 0 8 Wb, cA Z (gA 63) 0 4 Wg] s.heap.size (fun r w' => ∃ (Wf2 : Nat → Int) (Wb2 : Nat → Int) (Wg2 : Nat → Int) (bs2 : Int), (r = none) ∧ (w' = [(g0, .inr (12, mO gA nr tm at_ to_ fa va np tn pc_ st_ pa_ ta ow of_ ot rl hb bs2 se)), cA Z (gA 13) 0 7 Mw, cA Z (gA 14) 0 7 Mo, cR Z (gA 0) 6 7 (gG 0), cR Z (gA 4) 6 7 (gG 4), cR Z (gA 5) 6 7 (gG 5), cR Z (gA 6) 6 7 (gG 6), cR Z (gA 9) 6 7 (gG 9), cA Z (xA 0) 0 8 Ml, cA Z (xA 4) 0 8 Mow, cA Z (xA 5) 0 8 Mof, cA Z (xA 6) 0 8 Mot, cA Z (xA 9) 0 8 Md, cA Z (gA 58) 0 4 Bp, cA Z (gA 59) 0 4 Br, cA Z (gA 60) 0 8 Wo, cA Z (gA 61) 0 8 Wf2, cA Z (gA 62) 0 8 Wb2, cA Z (gA 63) 0 4 Wg2]) ∧ ((-2147483648) ≤ bs2 ∧ bs2 ≤ 2147483647) ∧ (∀ j, j < 8 → (-2147483648) ≤ Wf2 j ∧ Wf2 j ≤ 2147483647) ∧ (∀ j, j < 8 → (-2147483648) ≤ Wb2 j ∧ Wb2 j ≤ 2147483647) ∧ (∀ j, j < 4 → (-2147483648) ≤ Wg2 j ∧ Wg2 j ≤ 2147483647))) args s 0 0 (va_A [(g0, .inr (12, mO gA nr tm at_ to_ fa va np tn pc_ st_ pa_ ta ow of_ ot rl hb bs se)), cA Z (gA 13) 0 7 Mw, cA Z (gA 14) 0 7 Mo, cR Z (gA 0) 6 7 (gG 0), cR Z (gA 4) 6 7 (gG 4), cR Z (gA 5) 6 7 (gG 5), cR Z (gA 6) 6 7 (gG 6), cR Z (gA 9) 6 7 (gG 9), cA Z (xA 0) 0 8 Ml, cA Z (xA 4) 0 8 Mow, cA Z (xA 5) 0 8 Mof, cA Z (xA 6) 0 8 Mot, cA Z (xA 9) 0 8 Md, cA Z (gA 58) 0 4 Bp, cA Z (gA 59) 0 4 Br, cA Z (gA 60) 0 8 Wo, cA Z (gA 61) 0 8 Wf, cA Z (gA 62) 0 8 Wb, cA Z (gA 63) 0 4 Wg] s.heap.size)) Z A 5 0 0 111 [(4, .int (iI k2)), (3, .int (iI n1)), (0, .ref g0), (1, .int (iI rm)), (2, .int (iI w))] [] [(g0, .inr (12, mO gA nr tm at_ to_ fa va np tn pc_ st_ pa_ ta ow of_ ot rl hb n1 se)), cA Z (gA 13) 0 7 Mw, cA Z (gA 14) 0 7 Mo, cR Z (gA 0) 6 7 (gG 0), cR Z (gA 4) 6 7 (gG 4), cR Z (gA 5) 6 7 (gG 5), cR Z (gA 6) 6 7 (gG 6), cR Z (gA 9) 6 7 (gG 9), cA Z (xA 0) 0 8 Ml, cA Z (xA 4) 0 8 Mow, cA Z (xA 5) 0 8 Mof, cA Z (xA 6) 0 8 Mot, cA Z (xA 9) 0 8 Md, cA Z (gA 58) 0 4 Bp, cA Z (gA 59) 0 4 Br, cA Z (gA 60) 0 8 Wo, cA Z (gA 61) 0 8 Wf, cA Z (gA 62) 0 8 Wb1, cA Z (gA 63) 0 4 Wg] := by
                intro fuel
                induction fuel with
                | zero => intro k2 Wb1 _ _ hm; exact absurd hm (Nat.not_lt_zero _)
                | succ fuel ih =>
                  intro k2 Wb1 b_k2 h_Wb1 hm
                  refine g_iload (pc := 111) X 0 rfl dX12_shares_111 ?_
                  refine g_aload_n (pc := 113) X 2 rfl dX12_shares_113 ?_
                  refine g_get (pc := 114) X inlX12 0 rfl rfl 13 (by decide) mw_8_1 rfl dX12_shares_114 ?_
                  refine g_iload_n (pc := 117) X 3 rfl dX12_shares_117 ?_
                  refine g_ialdI (pc := 118) X 1 rfl (b_rm.1) (Int.lt_of_le_of_lt b_rm.2 (by decide)) (Int.le_trans b_rm.2 (by decide)) dX12_shares_118 ?_
                  refine g_nameI (fun y29 ey29 => ?_)
                  have by29 : 0 ≤ y29 ∧ y29 ≤ 8 := by rw [ey29]; exact h_Mw _ (by (first | (clear b_nr b_tm b_at_ b_to_ b_fa b_va b_np b_tn b_pc_ b_st_ b_pa_ b_ta b_ow b_of_ b_ot b_rl b_hb b_bs b_se; omega) | omega))
                  have ty29 : 1 ≤ y29 ∧ y29 ≤ 8 := by rw [ey29]; exact hwn
                  refine g_icmp_geI (pc := 119) X 142 (by decide) (inRb b_k2 (by decide) (by decide)) (inRb by29 (by decide) (by decide)) dX12_shares_119 (fun c119 => ?_) (fun c119 => ?_)
                  · exact g_vret (pc := 142) X hA (⟨Wf, Wb1, Wg, n1, rfl, rfl, (b_n1), (h_Wf), (h_Wb1), (h_Wg)⟩) (by decide) (by decide) dX12_shares_142
                  · refine g_aload_n (pc := 122) X 2 rfl dX12_shares_122 ?_
                    refine g_get (pc := 123) X inlX12 0 rfl rfl 62 (by decide) mw_9_13 rfl dX12_shares_123 ?_
                    refine g_iload (pc := 126) X 0 rfl dX12_shares_126 ?_
                    refine g_aload_n (pc := 128) X 2 rfl dX12_shares_128 ?_
                    refine g_get (pc := 129) X inlX12 0 rfl rfl 61 (by decide) mw_9_12 rfl dX12_shares_129 ?_
                    refine g_iload (pc := 132) X 0 rfl dX12_shares_132 ?_
                    refine g_ialdI (pc := 134) X 16 rfl (b_k2.1) (by (first | (clear b_nr b_tm b_at_ b_to_ b_fa b_va b_np b_tn b_pc_ b_st_ b_pa_ b_ta b_ow b_of_ b_ot b_rl b_hb b_bs b_se; omega) | omega)) (Int.le_trans b_k2.2 (by decide)) dX12_shares_134 ?_
                    refine g_nameI (fun y30 ey30 => ?_)
                    have by30 : (-2147483648) ≤ y30 ∧ y30 ≤ 2147483647 := by rw [ey30]; exact h_Wf _ (by (first | (clear b_nr b_tm b_at_ b_to_ b_fa b_va b_np b_tn b_pc_ b_st_ b_pa_ b_ta b_ow b_of_ b_ot b_rl b_hb b_bs b_se; omega) | omega))
                    refine g_iastG (pc := 135) X 17 rfl (b_k2.1) (by (first | (clear b_nr b_tm b_at_ b_to_ b_fa b_va b_np b_tn b_pc_ b_st_ b_pa_ b_ta b_ow b_of_ b_ot b_rl b_hb b_bs b_se; omega) | omega)) (Int.le_trans b_k2.2 (by decide)) (ws' := fun F31 => [(g0, .inr (12, mO gA nr tm at_ to_ fa va np tn pc_ st_ pa_ ta ow of_ ot rl hb n1 se)), cA Z (gA 13) 0 7 Mw, cA Z (gA 14) 0 7 Mo, cR Z (gA 0) 6 7 (gG 0), cR Z (gA 4) 6 7 (gG 4), cR Z (gA 5) 6 7 (gG 5), cR Z (gA 6) 6 7 (gG 6), cR Z (gA 9) 6 7 (gG 9), cA Z (xA 0) 0 8 Ml, cA Z (xA 4) 0 8 Mow, cA Z (xA 5) 0 8 Mof, cA Z (xA 6) 0 8 Mot, cA Z (xA 9) 0 8 Md, cA Z (gA 58) 0 4 Bp, cA Z (gA 59) 0 4 Br, cA Z (gA 60) 0 8 Wo, cA Z (gA 61) 0 8 Wf, cA Z (gA 62) 0 8 F31, cA Z (gA 63) 0 4 Wg]) (fun _ => rfl) dX12_shares_135 (fun F31 eF31 => ?_)
                    have hF31 : ∀ j, j < 8 → (-2147483648) ≤ F31 j ∧ F31 j ≤ 2147483647 := by rw [eF31]; exact updI_B h_Wb1 (by (first | (clear b_nr b_tm b_at_ b_to_ b_fa b_va b_np b_tn b_pc_ b_st_ b_pa_ b_ta b_ow b_of_ b_ot b_rl b_hb b_bs b_se; omega) | omega))
                    refine g_iincI (pc := 136) X 0 rfl (by decide) (lv' := [(4, .int (iI (k2 + 1))), (3, .int (iI n1)), (0, .ref g0), (1, .int (iI rm)), (2, .int (iI w))]) rfl dX12_shares_136 ?_
                    refine g_goto (pc := 139) X 111 (by decide) dX12_shares_139 ?_
                    exact ih (k2 + 1) F31 (by (first | (clear b_nr b_tm b_at_ b_to_ b_fa b_va b_np b_tn b_pc_ b_st_ b_pa_ b_ta b_ow b_of_ b_ot b_rl b_hb b_bs b_se; omega) | omega)) (hF31) (by (first | (clear b_nr b_tm b_at_ b_to_ b_fa b_va b_np b_tn b_pc_ b_st_ b_pa_ b_ta b_ow b_of_ b_ot b_rl b_hb b_bs b_se; omega) | omega))
              exact loop111 _ 0 Wb (by (first | (clear b_nr b_tm b_at_ b_to_ b_fa b_va b_np b_tn b_pc_ b_st_ b_pa_ b_ta b_ow b_of_ b_ot b_rl b_hb b_bs b_se; omega) | omega)) (h_Wb) (Nat.lt_succ_self _)
            · refine g_iload_n (pc := 94) X 1 rfl dX12_shares_94 ?_
              refine g_aload_n (pc := 95) X 2 rfl dX12_shares_95 ?_
              refine g_get (pc := 96) X inlX12 0 rfl rfl 65 (by decide) mw_49_21 rfl dX12_shares_96 ?_
              refine g_icmp_ltI (pc := 99) X 103 (by decide) b_n1 b_bs dX12_shares_99 (fun c99 => ?_) (fun c99 => ?_)
              · refine g_aload_n (pc := 103) X 2 rfl dX12_shares_103 ?_
                refine g_iload_n (pc := 104) X 1 rfl dX12_shares_104 ?_
                refine g_put (pc := 105) X inlX12 tyX12_ok nmX12 0 rfl rfl 65 (by decide) mw_49_21 rfl rfl rfl (Nat.le_of_ble_eq_true rfl) (ws' := [(g0, .inr (12, mO gA nr tm at_ to_ fa va np tn pc_ st_ pa_ ta ow of_ ot rl hb n1 se)), cA Z (gA 13) 0 7 Mw, cA Z (gA 14) 0 7 Mo, cR Z (gA 0) 6 7 (gG 0), cR Z (gA 4) 6 7 (gG 4), cR Z (gA 5) 6 7 (gG 5), cR Z (gA 6) 6 7 (gG 6), cR Z (gA 9) 6 7 (gG 9), cA Z (xA 0) 0 8 Ml, cA Z (xA 4) 0 8 Mow, cA Z (xA 5) 0 8 Mof, cA Z (xA 6) 0 8 Mot, cA Z (xA 9) 0 8 Md, cA Z (gA 58) 0 4 Bp, cA Z (gA 59) 0 4 Br, cA Z (gA 60) 0 8 Wo, cA Z (gA 61) 0 8 Wf, cA Z (gA 62) 0 8 Wb, cA Z (gA 63) 0 4 Wg]) rfl dX12_shares_105 ?_
                refine g_iconst (pc := 108) X (iI 0) (by rfl) dX12_shares_108 ?_
                refine g_istore (pc := 109) X (by decide) (lv' := [(4, .int (iI 0)), (3, .int (iI n1)), (0, .ref g0), (1, .int (iI rm)), (2, .int (iI w))]) rfl dX12_shares_109 ?_
                have loop111 : ∀ (fuel : Nat) (k2 : Int) (Wb1 : Nat → Int), (0 ≤ k2 ∧ k2 ≤ 8) → (∀ j, j < 8 → (-2147483648) ≤ Wb1 j ∧ Wb1 j ≤ 2147483647) → (9 - k2).toNat < fuel → Gs p l e ({ frames := 7, cells := 0, slots := 0, locals := 168 } : Room) s m args below meth c (MQ below (gPost Z [(g0, .inr (12, mO gA nr tm at_ to_ fa va np tn pc_ st_ pa_ ta ow of_ ot rl hb bs se)), cA Z (gA 13) 0 7 Mw, cA Z (gA 14) 0 7 Mo, cR Z (gA 0) 6 7 (gG 0), cR Z (gA 4) 6 7 (gG 4), cR Z (gA 5) 6 7 (gG 5), cR Z (gA 6) 6 7 (gG 6), cR Z (gA 9) 6 7 (gG 9), cA Z (xA 0) 0 8 Ml, cA Z (xA 4) 0 8 Mow, cA Z (xA 5) 0 8 Mof, cA Z (xA 6) 0 8 Mot, cA Z (xA 9) 0 8 Md, cA Z (gA 58) 0 4 Bp, cA Z (gA 59) 0 4 Br, cA Z (gA 60) 0 8 Wo, cA Z (gA 61) 0 8 Wf, cA Z (gA 62) 0 8 Wb, cA Z (gA 63) 0 4 Wg] s.heap.size (fun r w' => ∃ (Wf2 : Nat → Int) (Wb2 : Nat → Int) (Wg2 : Nat → Int) (bs2 : Int), (r = none) ∧ (w' = [(g0, .inr (12, mO gA nr tm at_ to_ fa va np tn pc_ st_ pa_ ta ow of_ ot rl hb bs2 se)), cA Z (gA 13) 0 7 Mw, cA Z (gA 14) 0 7 Mo, cR Z (gA 0) 6 7 (gG 0), cR Z (gA 4) 6 7 (gG 4), cR Z (gA 5) 6 7 (gG 5), cR Z (gA 6) 6 7 (gG 6), cR Z (gA 9) 6 7 (gG 9), cA Z (xA 0) 0 8 Ml, cA Z (xA 4) 0 8 Mow, cA Z (xA 5) 0 8 Mof, cA Z (xA 6) 0 8 Mot, cA Z (xA 9) 0 8 Md, cA Z (gA 58) 0 4 Bp, cA Z (gA 59) 0 4 Br, cA Z (gA 60) 0 8 Wo, cA Z (gA 61) 0 8 Wf2, cA Z (gA 62) 0 8 Wb2, cA Z (gA 63) 0 4 Wg2]) ∧ ((-2147483648) ≤ bs2 ∧ bs2 ≤ 2147483647) ∧ (∀ j, j < 8 → (-2147483648) ≤ Wf2 j ∧ Wf2 j ≤ 2147483647) ∧ (∀ j, j < 8 → (-2147483648) ≤ Wb2 j ∧ Wb2 j ≤ 2147483647) ∧ (∀ j, j < 4 → (-2147483648) ≤ Wg2 j ∧ Wg2 j ≤ 2147483647))) args s 0 0 (va_A [(g0, .inr (12, mO gA nr tm at_ to_ fa va np tn pc_ st_ pa_ ta ow of_ ot rl hb bs se)), cA Z (gA 13) 0 7 Mw, cA Z (gA 14) 0 7 Mo, cR Z (gA 0) 6 7 (gG 0), cR Z (gA 4) 6 7 (gG 4), cR Z (gA 5) 6 7 (gG 5), cR Z (gA 6) 6 7 (gG 6), cR Z (gA 9) 6 7 (gG 9), cA Z (xA 0) 0 8 Ml, cA Z (xA 4) 0 8 Mow, cA Z (xA 5) 0 8 Mof, cA Z (xA 6) 0 8 Mot, cA Z (xA 9) 0 8 Md, cA Z (gA 58) 0 4 Bp, cA Z (gA 59) 0 4 Br, cA Z (gA 60) 0 8 Wo, cA Z (gA 61) 0 8 Wf, cA Z (gA 62) 0 8 Wb, cA Z (gA 63) 0 4 Wg] s.heap.size)) Z A 5 0 0 111 [(4, .int (iI k2)), (3, .int (iI n1)), (0, .ref g0), (1, .int (iI rm)), (2, .int (iI w))] [] [(g0, .inr (12, mO gA nr tm at_ to_ fa va np tn pc_ st_ pa_ ta ow of_ ot rl hb n1 se)), cA Z (gA 13) 0 7 Mw, cA Z (gA 14) 0 7 Mo, cR Z (gA 0) 6 7 (gG 0), cR Z (gA 4) 6 7 (gG 4), cR Z (gA 5) 6 7 (gG 5), cR Z (gA 6) 6 7 (gG 6), cR Z (gA 9) 6 7 (gG 9), cA Z (xA 0) 0 8 Ml, cA Z (xA 4) 0 8 Mow, cA Z (xA 5) 0 8 Mof, cA Z (xA 6) 0 8 Mot, cA Z (xA 9) 0 8 Md, cA Z (gA 58) 0 4 Bp, cA Z (gA 59) 0 4 Br, cA Z (gA 60) 0 8 Wo, cA Z (gA 61) 0 8 Wf, cA Z (gA 62) 0 8 Wb1, cA Z (gA 63) 0 4 Wg] := by
                  intro fuel
                  induction fuel with
                  | zero => intro k2 Wb1 _ _ hm; exact absurd hm (Nat.not_lt_zero _)
                  | succ fuel ih =>
                    intro k2 Wb1 b_k2 h_Wb1 hm
                    refine g_iload (pc := 111) X 0 rfl dX12_shares_111 ?_
                    refine g_aload_n (pc := 113) X 2 rfl dX12_shares_113 ?_
                    refine g_get (pc := 114) X inlX12 0 rfl rfl 13 (by decide) mw_8_1 rfl dX12_shares_114 ?_
                    refine g_iload_n (pc := 117) X 3 rfl dX12_shares_117 ?_
                    refine g_ialdI (pc := 118) X 1 rfl (b_rm.1) (Int.lt_of_le_of_lt b_rm.2 (by decide)) (Int.le_trans b_rm.2 (by decide)) dX12_shares_118 ?_
                    refine g_nameI (fun y32 ey32 => ?_)
                    have by32 : 0 ≤ y32 ∧ y32 ≤ 8 := by rw [ey32]; exact h_Mw _ (by (first | (clear b_nr b_tm b_at_ b_to_ b_fa b_va b_np b_tn b_pc_ b_st_ b_pa_ b_ta b_ow b_of_ b_ot b_rl b_hb b_bs b_se; omega) | omega))
                    have ty32 : 1 ≤ y32 ∧ y32 ≤ 8 := by rw [ey32]; exact hwn
                    refine g_icmp_geI (pc := 119) X 142 (by decide) (inRb b_k2 (by decide) (by decide)) (inRb by32 (by decide) (by decide)) dX12_shares_119 (fun c119 => ?_) (fun c119 => ?_)
                    · exact g_vret (pc := 142) X hA (⟨Wf, Wb1, Wg, n1, rfl, rfl, (b_n1), (h_Wf), (h_Wb1), (h_Wg)⟩) (by decide) (by decide) dX12_shares_142
                    · refine g_aload_n (pc := 122) X 2 rfl dX12_shares_122 ?_
                      refine g_get (pc := 123) X inlX12 0 rfl rfl 62 (by decide) mw_9_13 rfl dX12_shares_123 ?_
                      refine g_iload (pc := 126) X 0 rfl dX12_shares_126 ?_
                      refine g_aload_n (pc := 128) X 2 rfl dX12_shares_128 ?_
                      refine g_get (pc := 129) X inlX12 0 rfl rfl 61 (by decide) mw_9_12 rfl dX12_shares_129 ?_
                      refine g_iload (pc := 132) X 0 rfl dX12_shares_132 ?_
                      refine g_ialdI (pc := 134) X 16 rfl (b_k2.1) (by (first | (clear b_nr b_tm b_at_ b_to_ b_fa b_va b_np b_tn b_pc_ b_st_ b_pa_ b_ta b_ow b_of_ b_ot b_rl b_hb b_bs b_se; omega) | omega)) (Int.le_trans b_k2.2 (by decide)) dX12_shares_134 ?_
                      refine g_nameI (fun y33 ey33 => ?_)
                      have by33 : (-2147483648) ≤ y33 ∧ y33 ≤ 2147483647 := by rw [ey33]; exact h_Wf _ (by (first | (clear b_nr b_tm b_at_ b_to_ b_fa b_va b_np b_tn b_pc_ b_st_ b_pa_ b_ta b_ow b_of_ b_ot b_rl b_hb b_bs b_se; omega) | omega))
                      refine g_iastG (pc := 135) X 17 rfl (b_k2.1) (by (first | (clear b_nr b_tm b_at_ b_to_ b_fa b_va b_np b_tn b_pc_ b_st_ b_pa_ b_ta b_ow b_of_ b_ot b_rl b_hb b_bs b_se; omega) | omega)) (Int.le_trans b_k2.2 (by decide)) (ws' := fun F34 => [(g0, .inr (12, mO gA nr tm at_ to_ fa va np tn pc_ st_ pa_ ta ow of_ ot rl hb n1 se)), cA Z (gA 13) 0 7 Mw, cA Z (gA 14) 0 7 Mo, cR Z (gA 0) 6 7 (gG 0), cR Z (gA 4) 6 7 (gG 4), cR Z (gA 5) 6 7 (gG 5), cR Z (gA 6) 6 7 (gG 6), cR Z (gA 9) 6 7 (gG 9), cA Z (xA 0) 0 8 Ml, cA Z (xA 4) 0 8 Mow, cA Z (xA 5) 0 8 Mof, cA Z (xA 6) 0 8 Mot, cA Z (xA 9) 0 8 Md, cA Z (gA 58) 0 4 Bp, cA Z (gA 59) 0 4 Br, cA Z (gA 60) 0 8 Wo, cA Z (gA 61) 0 8 Wf, cA Z (gA 62) 0 8 F34, cA Z (gA 63) 0 4 Wg]) (fun _ => rfl) dX12_shares_135 (fun F34 eF34 => ?_)
                      have hF34 : ∀ j, j < 8 → (-2147483648) ≤ F34 j ∧ F34 j ≤ 2147483647 := by rw [eF34]; exact updI_B h_Wb1 (by (first | (clear b_nr b_tm b_at_ b_to_ b_fa b_va b_np b_tn b_pc_ b_st_ b_pa_ b_ta b_ow b_of_ b_ot b_rl b_hb b_bs b_se; omega) | omega))
                      refine g_iincI (pc := 136) X 0 rfl (by decide) (lv' := [(4, .int (iI (k2 + 1))), (3, .int (iI n1)), (0, .ref g0), (1, .int (iI rm)), (2, .int (iI w))]) rfl dX12_shares_136 ?_
                      refine g_goto (pc := 139) X 111 (by decide) dX12_shares_139 ?_
                      exact ih (k2 + 1) F34 (by (first | (clear b_nr b_tm b_at_ b_to_ b_fa b_va b_np b_tn b_pc_ b_st_ b_pa_ b_ta b_ow b_of_ b_ot b_rl b_hb b_bs b_se; omega) | omega)) (hF34) (by (first | (clear b_nr b_tm b_at_ b_to_ b_fa b_va b_np b_tn b_pc_ b_st_ b_pa_ b_ta b_ow b_of_ b_ot b_rl b_hb b_bs b_se; omega) | omega))
                exact loop111 _ 0 Wb (by (first | (clear b_nr b_tm b_at_ b_to_ b_fa b_va b_np b_tn b_pc_ b_st_ b_pa_ b_ta b_ow b_of_ b_ot b_rl b_hb b_bs b_se; omega) | omega)) (h_Wb) (Nat.lt_succ_self _)
              · exact g_vret (pc := 102) X hA (⟨Wf, Wb, Wg, bs, rfl, rfl, (b_bs), (h_Wf), (h_Wb), (h_Wg)⟩) (by decide) (by decide) dX12_shares_102
          · refine g_iload_n (pc := 36) X 1 rfl dX12_shares_36 ?_
            refine g_aload_n (pc := 37) X 2 rfl dX12_shares_37 ?_
            refine g_get (pc := 38) X inlX12 0 rfl rfl 61 (by decide) mw_9_12 rfl dX12_shares_38 ?_
            refine g_iload (pc := 41) X 0 rfl dX12_shares_41 ?_
            refine g_ialdI (pc := 43) X 16 rfl (b_k1.1) (by (first | (clear b_nr b_tm b_at_ b_to_ b_fa b_va b_np b_tn b_pc_ b_st_ b_pa_ b_ta b_ow b_of_ b_ot b_rl b_hb b_bs b_se; omega) | omega)) (Int.le_trans b_k1.2 (by decide)) dX12_shares_43 ?_
            refine g_nameI (fun y35 ey35 => ?_)
            have by35 : (-2147483648) ≤ y35 ∧ y35 ≤ 2147483647 := by rw [ey35]; exact h_Wf _ (by (first | (clear b_nr b_tm b_at_ b_to_ b_fa b_va b_np b_tn b_pc_ b_st_ b_pa_ b_ta b_ow b_of_ b_ot b_rl b_hb b_bs b_se; omega) | omega))
            refine g_aload_n (pc := 44) X 2 rfl dX12_shares_44 ?_
            refine g_get (pc := 45) X inlX12 0 rfl rfl 61 (by decide) mw_9_12 rfl dX12_shares_45 ?_
            refine g_iload (pc := 48) X 0 rfl dX12_shares_48 ?_
            refine g_iconst (pc := 50) X (iI 1) (by rfl) dX12_shares_50 ?_
            refine g_iaddI (pc := 51) X dX12_shares_51 ?_
            refine g_aload_n (pc := 52) X 2 rfl dX12_shares_52 ?_
            refine g_get (pc := 53) X inlX12 0 rfl rfl 13 (by decide) mw_8_1 rfl dX12_shares_53 ?_
            refine g_iload_n (pc := 56) X 3 rfl dX12_shares_56 ?_
            refine g_ialdI (pc := 57) X 1 rfl (b_rm.1) (Int.lt_of_le_of_lt b_rm.2 (by decide)) (Int.le_trans b_rm.2 (by decide)) dX12_shares_57 ?_
            refine g_nameI (fun y36 ey36 => ?_)
            have by36 : 0 ≤ y36 ∧ y36 ≤ 8 := by rw [ey36]; exact h_Mw _ (by (first | (clear b_nr b_tm b_at_ b_to_ b_fa b_va b_np b_tn b_pc_ b_st_ b_pa_ b_ta b_ow b_of_ b_ot b_rl b_hb b_bs b_se; omega) | omega))
            have ty36 : 1 ≤ y36 ∧ y36 ≤ 8 := by rw [ey36]; exact hwn
            refine g_iremP (pc := 58) X (by (first | (clear b_nr b_tm b_at_ b_to_ b_fa b_va b_np b_tn b_pc_ b_st_ b_pa_ b_ta b_ow b_of_ b_ot b_rl b_hb b_bs b_se; omega) | omega)) (by (first | (clear b_nr b_tm b_at_ b_to_ b_fa b_va b_np b_tn b_pc_ b_st_ b_pa_ b_ta b_ow b_of_ b_ot b_rl b_hb b_bs b_se; omega) | omega)) (by (first | (clear b_nr b_tm b_at_ b_to_ b_fa b_va b_np b_tn b_pc_ b_st_ b_pa_ b_ta b_ow b_of_ b_ot b_rl b_hb b_bs b_se; omega) | omega)) (by (first | (clear b_nr b_tm b_at_ b_to_ b_fa b_va b_np b_tn b_pc_ b_st_ b_pa_ b_ta b_ow b_of_ b_ot b_rl b_hb b_bs b_se; omega) | omega)) dX12_shares_58 ?_
            refine g_nameI (fun y37 ey37 => ?_)
            have by37 : 0 ≤ y37 ∧ y37 ≤ 7 := by rw [ey37]; exact modB (by (first | (clear b_nr b_tm b_at_ b_to_ b_fa b_va b_np b_tn b_pc_ b_st_ b_pa_ b_ta b_ow b_of_ b_ot b_rl b_hb b_bs b_se; omega) | omega)) (by (first | (clear b_nr b_tm b_at_ b_to_ b_fa b_va b_np b_tn b_pc_ b_st_ b_pa_ b_ta b_ow b_of_ b_ot b_rl b_hb b_bs b_se; omega) | omega)) (by (first | (clear b_nr b_tm b_at_ b_to_ b_fa b_va b_np b_tn b_pc_ b_st_ b_pa_ b_ta b_ow b_of_ b_ot b_rl b_hb b_bs b_se; omega) | omega))
            have cy37 : y37 < y36 := by rw [ey37]; exact Int.emod_lt_of_pos _ (by (first | (clear b_nr b_tm b_at_ b_to_ b_fa b_va b_np b_tn b_pc_ b_st_ b_pa_ b_ta b_ow b_of_ b_ot b_rl b_hb b_bs b_se; omega) | omega))
            refine g_ialdI (pc := 59) X 16 rfl (by (first | (clear b_nr b_tm b_at_ b_to_ b_fa b_va b_np b_tn b_pc_ b_st_ b_pa_ b_ta b_ow b_of_ b_ot b_rl b_hb b_bs b_se; omega) | omega)) (by (first | (clear b_nr b_tm b_at_ b_to_ b_fa b_va b_np b_tn b_pc_ b_st_ b_pa_ b_ta b_ow b_of_ b_ot b_rl b_hb b_bs b_se; omega) | omega)) (by (first | (clear b_nr b_tm b_at_ b_to_ b_fa b_va b_np b_tn b_pc_ b_st_ b_pa_ b_ta b_ow b_of_ b_ot b_rl b_hb b_bs b_se; omega) | omega)) dX12_shares_59 ?_
            refine g_nameI (fun y38 ey38 => ?_)
            have by38 : (-2147483648) ≤ y38 ∧ y38 ≤ 2147483647 := by rw [ey38]; exact h_Wf _ (by (first | (clear b_nr b_tm b_at_ b_to_ b_fa b_va b_np b_tn b_pc_ b_st_ b_pa_ b_ta b_ow b_of_ b_ot b_rl b_hb b_bs b_se; omega) | omega))
            refine g_icmp_eqI (pc := 60) X 77 (by decide) by35 by38 dX12_shares_60 (fun c60 => ?_) (fun c60 => ?_)
            · refine g_iconst (pc := 77) X (iI 0) (by rfl) dX12_shares_77 ?_
              refine g_iaddI (pc := 78) X dX12_shares_78 ?_
              refine g_istore_n (pc := 79) X (i := 3) rfl (by decide) (lv' := [(3, .int (iI (n1 + 0))), (4, .int (iI k1)), (0, .ref g0), (1, .int (iI rm)), (2, .int (iI w))]) rfl dX12_shares_79 ?_
              refine g_iincI (pc := 80) X 1 rfl (by decide) (lv' := [(4, .int (iI (k1 + 1))), (3, .int (iI (n1 + 0))), (0, .ref g0), (1, .int (iI rm)), (2, .int (iI w))]) rfl dX12_shares_80 ?_
              refine g_goto (pc := 83) X 15 (by decide) dX12_shares_83 ?_
              exact ih (n1 + 0) (k1 + 1) (by (first | (clear b_nr b_tm b_at_ b_to_ b_fa b_va b_np b_tn b_pc_ b_st_ b_pa_ b_ta b_ow b_of_ b_ot b_rl b_hb b_bs b_se; omega) | omega)) (by (first | (clear b_nr b_tm b_at_ b_to_ b_fa b_va b_np b_tn b_pc_ b_st_ b_pa_ b_ta b_ow b_of_ b_ot b_rl b_hb b_bs b_se; omega) | omega)) (by (first | (clear b_nr b_tm b_at_ b_to_ b_fa b_va b_np b_tn b_pc_ b_st_ b_pa_ b_ta b_ow b_of_ b_ot b_rl b_hb b_bs b_se; omega) | omega))
            · refine g_aload_n (pc := 63) X 2 rfl dX12_shares_63 ?_
              refine g_iload_n (pc := 64) X 3 rfl dX12_shares_64 ?_
              refine g_iload (pc := 65) X 0 rfl dX12_shares_65 ?_
              refine g_callV (pc := 67) X (k_X12_hasDoor l Z g0 gA gG xA Mw Mo Ml Mow Mof Mot Md rm k1 nr tm at_ to_ fa va np tn pc_ st_ pa_ ta ow of_ ot rl hb bs se b_rm (by (first | (clear b_nr b_tm b_at_ b_to_ b_fa b_va b_np b_tn b_pc_ b_st_ b_pa_ b_ta b_ow b_of_ b_ot b_rl b_hb b_bs b_se; omega) | omega)) b_nr b_tm b_at_ b_to_ b_fa b_va b_np b_tn b_pc_ b_st_ b_pa_ b_ta b_ow b_of_ b_ot b_rl b_hb b_bs b_se (hG) (by (first | (clear b_nr b_tm b_at_ b_to_ b_fa b_va b_np b_tn b_pc_ b_st_ b_pa_ b_ta b_ow b_of_ b_ot b_rl b_hb b_bs b_se; omega) | omega)) (h_Mw) (h_Mo) (h_Ml) (h_Mow) (h_Mof) (h_Mot) (h_Md)) iM_X12_hasDoor mw_50_6 mw_50_7 mw_50_8 0 rfl rfl [0, 1, 2, 3, 4, 5, 6, 7, 8, 9, 10, 11, 12] [13, 14, 15, 16, 17, 18] rfl (wr := [cA Z (gA 58) 0 4 Bp, cA Z (gA 59) 0 4 Br, cA Z (gA 60) 0 8 Wo, cA Z (gA 61) 0 8 Wf, cA Z (gA 62) 0 8 Wb, cA Z (gA 63) 0 4 Wg]) rfl (by decide) rfl rfl (Nat.le_of_ble_eq_true rfl) (by decide) dX12_shares_67 (fun r w' hpo => ?_)
              refine exN_1 hpo fun y39 hz => anD_3 hz fun e_r e_w hf67_b_y => ?_; clear hz hpo; subst e_r; subst e_w
              refine g_as (pc' := 70) (lv' := [(4, .int (iI k1)), (3, .int (iI n1)), (0, .ref g0), (1, .int (iI rm)), (2, .int (iI w))]) (st' := [.int (iI y39), .int (iI n1)]) (ws' := [cA Z (gA 58) 0 4 Bp, cA Z (gA 59) 0 4 Br, cA Z (gA 60) 0 8 Wo, cA Z (gA 61) 0 8 Wf, cA Z (gA 62) 0 8 Wb, cA Z (gA 63) 0 4 Wg, (g0, .inr (12, mO gA nr tm at_ to_ fa va np tn pc_ st_ pa_ ta ow of_ ot rl hb bs se)), cA Z (gA 13) 0 7 Mw, cA Z (gA 14) 0 7 Mo, cR Z (gA 0) 6 7 (gG 0), cR Z (gA 4) 6 7 (gG 4), cR Z (gA 5) 6 7 (gG 5), cR Z (gA 6) 6 7 (gG 6), cR Z (gA 9) 6 7 (gG 9), cA Z (xA 0) 0 8 Ml, cA Z (xA 4) 0 8 Mow, cA Z (xA 5) 0 8 Mof, cA Z (xA 6) 0 8 Mot, cA Z (xA 9) 0 8 Md]) rfl rfl rfl rfl ?_
              refine g_if_neI (pc := 70) X 77 (by decide) (inRb hf67_b_y (by decide) (by decide)) dX12_shares_70 (fun c70 => ?_) (fun c70 => ?_)
              · refine g_iconst (pc := 77) X (iI 0) (by rfl) dX12_shares_77 ?_
                refine g_iaddI (pc := 78) X dX12_shares_78 ?_
                refine g_istore_n (pc := 79) X (i := 3) rfl (by decide) (lv' := [(3, .int (iI (n1 + 0))), (4, .int (iI k1)), (0, .ref g0), (1, .int (iI rm)), (2, .int (iI w))]) rfl dX12_shares_79 ?_
                refine g_iincI (pc := 80) X 1 rfl (by decide) (lv' := [(4, .int (iI (k1 + 1))), (3, .int (iI (n1 + 0))), (0, .ref g0), (1, .int (iI rm)), (2, .int (iI w))]) rfl dX12_shares_80 ?_
                refine g_goto (pc := 83) X 15 (by decide) dX12_shares_83 ?_
                refine g_ws (ws' := [(g0, .inr (12, mO gA nr tm at_ to_ fa va np tn pc_ st_ pa_ ta ow of_ ot rl hb bs se)), cA Z (gA 13) 0 7 Mw, cA Z (gA 14) 0 7 Mo, cR Z (gA 0) 6 7 (gG 0), cR Z (gA 4) 6 7 (gG 4), cR Z (gA 5) 6 7 (gG 5), cR Z (gA 6) 6 7 (gG 6), cR Z (gA 9) 6 7 (gG 9), cA Z (xA 0) 0 8 Ml, cA Z (xA 4) 0 8 Mow, cA Z (xA 5) 0 8 Mof, cA Z (xA 6) 0 8 Mot, cA Z (xA 9) 0 8 Md, cA Z (gA 58) 0 4 Bp, cA Z (gA 59) 0 4 Br, cA Z (gA 60) 0 8 Wo, cA Z (gA 61) 0 8 Wf, cA Z (gA 62) 0 8 Wb, cA Z (gA 63) 0 4 Wg]) [6, 7, 8, 9, 10, 11, 12, 13, 14, 15, 16, 17, 18, 0, 1, 2, 3, 4, 5] (by decide) rfl ?_
                exact ih (n1 + 0) (k1 + 1) (by (first | (clear b_nr b_tm b_at_ b_to_ b_fa b_va b_np b_tn b_pc_ b_st_ b_pa_ b_ta b_ow b_of_ b_ot b_rl b_hb b_bs b_se; omega) | omega)) (by (first | (clear b_nr b_tm b_at_ b_to_ b_fa b_va b_np b_tn b_pc_ b_st_ b_pa_ b_ta b_ow b_of_ b_ot b_rl b_hb b_bs b_se; omega) | omega)) (by (first | (clear b_nr b_tm b_at_ b_to_ b_fa b_va b_np b_tn b_pc_ b_st_ b_pa_ b_ta b_ow b_of_ b_ot b_rl b_hb b_bs b_se; omega) | omega))
              · refine g_iconst (pc := 73) X (iI 1) (by rfl) dX12_shares_73 ?_
                refine g_goto (pc := 74) X 78 (by decide) dX12_shares_74 ?_
                refine g_iaddI (pc := 78) X dX12_shares_78 ?_
                refine g_any (fun y41 by41 => ?_)
                refine g_istore_n (pc := 79) X (i := 3) rfl (by decide) (lv' := [(3, .int (iI y41)), (4, .int (iI k1)), (0, .ref g0), (1, .int (iI rm)), (2, .int (iI w))]) rfl dX12_shares_79 ?_
                refine g_iincI (pc := 80) X 1 rfl (by decide) (lv' := [(4, .int (iI (k1 + 1))), (3, .int (iI y41)), (0, .ref g0), (1, .int (iI rm)), (2, .int (iI w))]) rfl dX12_shares_80 ?_
                refine g_goto (pc := 83) X 15 (by decide) dX12_shares_83 ?_
                refine g_ws (ws' := [(g0, .inr (12, mO gA nr tm at_ to_ fa va np tn pc_ st_ pa_ ta ow of_ ot rl hb bs se)), cA Z (gA 13) 0 7 Mw, cA Z (gA 14) 0 7 Mo, cR Z (gA 0) 6 7 (gG 0), cR Z (gA 4) 6 7 (gG 4), cR Z (gA 5) 6 7 (gG 5), cR Z (gA 6) 6 7 (gG 6), cR Z (gA 9) 6 7 (gG 9), cA Z (xA 0) 0 8 Ml, cA Z (xA 4) 0 8 Mow, cA Z (xA 5) 0 8 Mof, cA Z (xA 6) 0 8 Mot, cA Z (xA 9) 0 8 Md, cA Z (gA 58) 0 4 Bp, cA Z (gA 59) 0 4 Br, cA Z (gA 60) 0 8 Wo, cA Z (gA 61) 0 8 Wf, cA Z (gA 62) 0 8 Wb, cA Z (gA 63) 0 4 Wg]) [6, 7, 8, 9, 10, 11, 12, 13, 14, 15, 16, 17, 18, 0, 1, 2, 3, 4, 5] (by decide) rfl ?_
                exact ih y41 (k1 + 1) (by41) (by (first | (clear b_nr b_tm b_at_ b_to_ b_fa b_va b_np b_tn b_pc_ b_st_ b_pa_ b_ta b_ow b_of_ b_ot b_rl b_hb b_bs b_se; omega) | omega)) (by (first | (clear b_nr b_tm b_at_ b_to_ b_fa b_va b_np b_tn b_pc_ b_st_ b_pa_ b_ta b_ow b_of_ b_ot b_rl b_hb b_bs b_se; omega) | omega))
    exact loop15 _ 0 0 (by (first | (clear b_nr b_tm b_at_ b_to_ b_fa b_va b_np b_tn b_pc_ b_st_ b_pa_ b_ta b_ow b_of_ b_ot b_rl b_hb b_bs b_se; omega) | omega)) (by (first | (clear b_nr b_tm b_at_ b_to_ b_fa b_va b_np b_tn b_pc_ b_st_ b_pa_ b_ta b_ow b_of_ b_ot b_rl b_hb b_bs b_se; omega) | omega)) (Nat.lt_succ_self _)

set_option maxHeartbeats 4000000 in
set_option maxRecDepth 100000 in
theorem k_X12_shares7 (l : Launch) (Z : gZ) (g0 : Nat) (gA : Nat → Nat) (gG : Nat → Nat → Option Nat) (xA : Nat → Nat) (Mw : Nat → Int) (Mo : Nat → Int) (Ml : Nat → Int) (Mow : Nat → Int) (Mof : Nat → Int) (Mot : Nat → Int) (Md : Nat → Int) (Bp : Nat → Int) (Br : Nat → Int) (Wo : Nat → Int) (Wf : Nat → Int) (Wb : Nat → Int) (Wg : Nat → Int) (rm : Int) (w : Int) (nr : Int) (tm : Int) (at_ : Int) (to_ : Int) (fa : Int) (va : Int) (np : Int) (tn : Int) (pc_ : Int) (st_ : Int) (pa_ : Int) (ta : Int) (ow : Int) (of_ : Int) (ot : Int) (rl : Int) (hb : Int) (bs : Int) (se : Int) (b_rm : 0 ≤ rm ∧ rm ≤ 5) (b_w : 0 ≤ w ∧ w ≤ 8) (b_nr : 0 ≤ nr ∧ nr ≤ 6) (b_tm : 0 ≤ tm ∧ tm ≤ 400) (b_at_ : 0 ≤ at_ ∧ at_ ≤ 400) (b_to_ : 0 ≤ to_ ∧ to_ ≤ 400) (b_fa : (-1) ≤ fa ∧ fa ≤ 400) (b_va : (-2147483648) ≤ va ∧ va ≤ 2147483647) (b_np : 0 ≤ np ∧ np ≤ 4) (b_tn : 0 ≤ tn ∧ tn ≤ 20) (b_pc_ : 0 ≤ pc_ ∧ pc_ ≤ 480) (b_st_ : 0 ≤ st_ ∧ st_ ≤ 240) (b_pa_ : (-1) ≤ pa_ ∧ pa_ ≤ 3) (b_ta : (-2147483648) ≤ ta ∧ ta ≤ 2147483647) (b_ow : (-2147483648) ≤ ow ∧ ow ≤ 2147483647) (b_of_ : (-2147483648) ≤ of_ ∧ of_ ≤ 2147483647) (b_ot : (-2147483648) ≤ ot ∧ ot ≤ 2147483647) (b_rl : 0 ≤ rl ∧ rl ≤ 2880) (b_hb : 0 ≤ hb ∧ hb ≤ 4) (b_bs : (-2147483648) ≤ bs ∧ bs ≤ 2147483647) (b_se : 0 ≤ se ∧ se ≤ 10) (hG : ∀ k, gG k rm.toNat = some (xA k)) (hwn : 1 ≤ Mw rm.toNat ∧ Mw rm.toNat ≤ 8) (hd : Mw rm.toNat - w ≤ 7) (hw : w ≤ Mw rm.toNat) (h_Mw : ∀ j, j < 7 → 0 ≤ Mw j ∧ Mw j ≤ 8) (h_Mo : ∀ j, j < 7 → 0 ≤ Mo j ∧ Mo j ≤ 8) (h_Ml : ∀ j, j < 8 → 0 ≤ Ml j ∧ Ml j ≤ 600) (h_Mow : ∀ j, j < 8 → 0 ≤ Mow j ∧ Mow j ≤ 7) (h_Mof : ∀ j, j < 8 → 0 ≤ Mof j ∧ Mof j ≤ 600) (h_Mot : ∀ j, j < 8 → 0 ≤ Mot j ∧ Mot j ≤ 600) (h_Md : ∀ j, j < 8 → 0 ≤ Md j ∧ Md j ≤ 1) (h_Bp : ∀ j, j < 4 → (-2147483648) ≤ Bp j ∧ Bp j ≤ 2147483647) (h_Br : ∀ j, j < 4 → (-2147483648) ≤ Br j ∧ Br j ≤ 2147483647) (h_Wo : ∀ j, j < 8 → (-2147483648) ≤ Wo j ∧ Wo j ≤ 2147483647) (h_Wf : ∀ j, j < 8 → (-2147483648) ≤ Wf j ∧ Wf j ≤ 2147483647) (h_Wb : ∀ j, j < 8 → (-2147483648) ≤ Wb j ∧ Wb j ≤ 2147483647) (h_Wg : ∀ j, j < 4 → (-2147483648) ≤ Wg j ∧ Wg j ≤ 2147483647) : Con l Z yX12_shares cX12_shares 5 none 8 192 0 0 [.ref g0, .int (iI rm), .int (iI w)] [(g0, .inr (12, mO gA nr tm at_ to_ fa va np tn pc_ st_ pa_ ta ow of_ ot rl hb bs se)), cA Z (gA 13) 0 7 Mw, cA Z (gA 14) 0 7 Mo, cR Z (gA 0) 6 7 (gG 0), cR Z (gA 4) 6 7 (gG 4), cR Z (gA 5) 6 7 (gG 5), cR Z (gA 6) 6 7 (gG 6), cR Z (gA 9) 6 7 (gG 9), cA Z (xA 0) 0 8 Ml, cA Z (xA 4) 0 8 Mow, cA Z (xA 5) 0 8 Mof, cA Z (xA 6) 0 8 Mot, cA Z (xA 9) 0 8 Md, cA Z (gA 58) 0 4 Bp, cA Z (gA 59) 0 4 Br, cA Z (gA 60) 0 8 Wo, cA Z (gA 61) 0 8 Wf, cA Z (gA 62) 0 8 Wb, cA Z (gA 63) 0 4 Wg] (fun r w' => ∃ (Wf2 : Nat → Int) (Wb2 : Nat → Int) (Wg2 : Nat → Int) (bs2 : Int), (r = none) ∧ (w' = [(g0, .inr (12, mO gA nr tm at_ to_ fa va np tn pc_ st_ pa_ ta ow of_ ot rl hb bs2 se)), cA Z (gA 13) 0 7 Mw, cA Z (gA 14) 0 7 Mo, cR Z (gA 0) 6 7 (gG 0), cR Z (gA 4) 6 7 (gG 4), cR Z (gA 5) 6 7 (gG 5), cR Z (gA 6) 6 7 (gG 6), cR Z (gA 9) 6 7 (gG 9), cA Z (xA 0) 0 8 Ml, cA Z (xA 4) 0 8 Mow, cA Z (xA 5) 0 8 Mof, cA Z (xA 6) 0 8 Mot, cA Z (xA 9) 0 8 Md, cA Z (gA 58) 0 4 Bp, cA Z (gA 59) 0 4 Br, cA Z (gA 60) 0 8 Wo, cA Z (gA 61) 0 8 Wf2, cA Z (gA 62) 0 8 Wb2, cA Z (gA 63) 0 4 Wg2]) ∧ ((-2147483648) ≤ bs2 ∧ bs2 ≤ 2147483647) ∧ (∀ j, j < 8 → (-2147483648) ≤ Wf2 j ∧ Wf2 j ≤ 2147483647) ∧ (∀ j, j < 8 → (-2147483648) ≤ Wb2 j ∧ Wb2 j ≤ 2147483647) ∧ (∀ j, j < 4 → (-2147483648) ≤ Wg2 j ∧ Wg2 j ≤ 2147483647)) := by
  refine enter (by decide) (Nat.le_of_ble_eq_true rfl) ?_
  intro p e s m args below meth c A X hnm hA
  have X : Cx p s m args meth c cX12_shares 5 none RX12 Z A := X
  refine g_as (pc' := 0) (lv' := [(0, .ref g0), (1, .int (iI rm)), (2, .int (iI w))]) (st' := []) (ws' := [(g0, .inr (12, mO gA nr tm at_ to_ fa va np tn pc_ st_ pa_ ta ow of_ ot rl hb bs se)), cA Z (gA 13) 0 7 Mw, cA Z (gA 14) 0 7 Mo, cR Z (gA 0) 6 7 (gG 0), cR Z (gA 4) 6 7 (gG 4), cR Z (gA 5) 6 7 (gG 5), cR Z (gA 6) 6 7 (gG 6), cR Z (gA 9) 6 7 (gG 9), cA Z (xA 0) 0 8 Ml, cA Z (xA 4) 0 8 Mow, cA Z (xA 5) 0 8 Mof, cA Z (xA 6) 0 8 Mot, cA Z (xA 9) 0 8 Md, cA Z (gA 58) 0 4 Bp, cA Z (gA 59) 0 4 Br, cA Z (gA 60) 0 8 Wo, cA Z (gA 61) 0 8 Wf, cA Z (gA 62) 0 8 Wb, cA Z (gA 63) 0 4 Wg]) rfl rfl rfl rfl ?_
  refine g_iload_n (pc := 0) X 2 rfl dX12_shares_0 ?_
  refine g_aload_n (pc := 1) X 0 rfl dX12_shares_1 ?_
  refine g_get (pc := 2) X inlX12 0 rfl rfl 13 (by decide) mw_8_1 rfl dX12_shares_2 ?_
  refine g_iload_n (pc := 5) X 1 rfl dX12_shares_5 ?_
  refine g_ialdI (pc := 6) X 1 rfl (b_rm.1) (Int.lt_of_le_of_lt b_rm.2 (by decide)) (Int.le_trans b_rm.2 (by decide)) dX12_shares_6 ?_
  refine g_nameI (fun y1 ey1 => ?_)
  have by1 : 0 ≤ y1 ∧ y1 ≤ 8 := by rw [ey1]; exact h_Mw _ (by (first | (clear b_nr b_tm b_at_ b_to_ b_fa b_va b_np b_tn b_pc_ b_st_ b_pa_ b_ta b_ow b_of_ b_ot b_rl b_hb b_bs b_se; omega) | omega))
  have ty1 : 1 ≤ y1 ∧ y1 ≤ 8 := by rw [ey1]; exact hwn
  refine g_icmp_neI (pc := 7) X 143 (by decide) (inRb b_w (by decide) (by decide)) (inRb by1 (by decide) (by decide)) dX12_shares_7 (fun c7 => ?_) (fun c7 => ?_)
  · refine g_iconst (pc := 143) X (iI 0) (by rfl) dX12_shares_143 ?_
    refine g_istore_n (pc := 144) X (i := 3) rfl (by decide) (lv' := [(3, .int (iI 0)), (0, .ref g0), (1, .int (iI rm)), (2, .int (iI w))]) rfl dX12_shares_144 ?_
    have loop145 : ∀ (fuel : Nat) (b3 : Int) (bs1 : Int) (Wf1 : Nat → Int) (Wb1 : Nat → Int) (Wg1 : Nat → Int), (0 ≤ b3 ∧ b3 ≤ 4) → ((-2147483648) ≤ bs1 ∧ bs1 ≤ 2147483647) → (∀ j, j < 8 → (-2147483648) ≤ Wf1 j ∧ Wf1 j ≤ 2147483647) → (∀ j, j < 8 → (-2147483648) ≤ Wb1 j ∧ Wb1 j ≤ 2147483647) → (∀ j, j < 4 → (-2147483648) ≤ Wg1 j ∧ Wg1 j ≤ 2147483647) → (5 - b3).toNat < fuel → Gs p l e ({ frames := 8, cells := 0, slots := 0, locals := 192 } : Room) s m args below meth c (MQ below (gPost Z [(g0, .inr (12, mO gA nr tm at_ to_ fa va np tn pc_ st_ pa_ ta ow of_ ot rl hb bs se)), cA Z (gA 13) 0 7 Mw, cA Z (gA 14) 0 7 Mo, cR Z (gA 0) 6 7 (gG 0), cR Z (gA 4) 6 7 (gG 4), cR Z (gA 5) 6 7 (gG 5), cR Z (gA 6) 6 7 (gG 6), cR Z (gA 9) 6 7 (gG 9), cA Z (xA 0) 0 8 Ml, cA Z (xA 4) 0 8 Mow, cA Z (xA 5) 0 8 Mof, cA Z (xA 6) 0 8 Mot, cA Z (xA 9) 0 8 Md, cA Z (gA 58) 0 4 Bp, cA Z (gA 59) 0 4 Br, cA Z (gA 60) 0 8 Wo, cA Z (gA 61) 0 8 Wf, cA Z (gA 62) 0 8 Wb, cA Z (gA 63) 0 4 Wg] s.heap.size (fun r w' => ∃ (Wf2 : Nat → Int) (Wb2 : Nat → Int) (Wg2 : Nat → Int) (bs2 : Int), (r = none) ∧ (w' = [(g0, .inr (12, mO gA nr tm at_ to_ fa va np tn pc_ st_ pa_ ta ow of_ ot rl hb bs2 se)), cA Z (gA 13) 0 7 Mw, cA Z (gA 14) 0 7 Mo, cR Z (gA 0) 6 7 (gG 0), cR Z (gA 4) 6 7 (gG 4), cR Z (gA 5) 6 7 (gG 5), cR Z (gA 6) 6 7 (gG 6), cR Z (gA 9) 6 7 (gG 9), cA Z (xA 0) 0 8 Ml, cA Z (xA 4) 0 8 Mow, cA Z (xA 5) 0 8 Mof, cA Z (xA 6) 0 8 Mot, cA Z (xA 9) 0 8 Md, cA Z (gA 58) 0 4 Bp, cA Z (gA 59) 0 4 Br, cA Z (gA 60) 0 8 Wo, cA Z (gA 61) 0 8 Wf2, cA Z (gA 62) 0 8 Wb2, cA Z (gA 63) 0 4 Wg2]) ∧ ((-2147483648) ≤ bs2 ∧ bs2 ≤ 2147483647) ∧ (∀ j, j < 8 → (-2147483648) ≤ Wf2 j ∧ Wf2 j ≤ 2147483647) ∧ (∀ j, j < 8 → (-2147483648) ≤ Wb2 j ∧ Wb2 j ≤ 2147483647) ∧ (∀ j, j < 4 → (-2147483648) ≤ Wg2 j ∧ Wg2 j ≤ 2147483647))) args s 0 0 (va_A [(g0, .inr (12, mO gA nr tm at_ to_ fa va np tn pc_ st_ pa_ ta ow of_ ot rl hb bs se)), cA Z (gA 13) 0 7 Mw, cA Z (gA 14) 0 7 Mo, cR Z (gA 0) 6 7 (gG 0), cR Z (gA 4) 6 7 (gG 4), cR Z (gA 5) 6 7 (gG 5), cR Z (gA 6) 6 7 (gG 6), cR Z (gA 9) 6 7 (gG 9), cA Z (xA 0) 0 8 Ml, cA Z (xA 4) 0 8 Mow, cA Z (xA 5) 0 8 Mof, cA Z (xA 6) 0 8 Mot, cA Z (xA 9) 0 8 Md, cA Z (gA 58) 0 4 Bp, cA Z (gA 59) 0 4 Br, cA Z (gA 60) 0 8 Wo, cA Z (gA 61) 0 8 Wf, cA Z (gA 62) 0 8 Wb, cA Z (gA 63) 0 4 Wg] s.heap.size)) Z A 5 0 0 145 [(3, .int (iI b3)), (0, .ref g0), (1, .int (iI rm)), (2, .int (iI w))] [] [(g0, .inr (12, mO gA nr tm at_ to_ fa va np tn pc_ st_ pa_ ta ow of_ ot rl hb bs1 se)), cA Z (gA 13) 0 7 Mw, cA Z (gA 14) 0 7 Mo, cR Z (gA 0) 6 7 (gG 0), cR Z (gA 4) 6 7 (gG 4), cR Z (gA 5) 6 7 (gG 5), cR Z (gA 6) 6 7 (gG 6), cR Z (gA 9) 6 7 (gG 9), cA Z (xA 0) 0 8 Ml, cA Z (xA 4) 0 8 Mow, cA Z (xA 5) 0 8 Mof, cA Z (xA 6) 0 8 Mot, cA Z (xA 9) 0 8 Md, cA Z (gA 58) 0 4 Bp, cA Z (gA 59) 0 4 Br, cA Z (gA 60) 0 8 Wo, cA Z (gA 61) 0 8 Wf1, cA Z (gA 62) 0 8 Wb1, cA Z (gA 63) 0 4 Wg1] := by
      intro fuel
      induction fuel with
      | zero => intro b3 bs1 Wf1 Wb1 Wg1 _ _ _ _ _ hm; exact absurd hm (Nat.not_lt_zero _)
      | succ fuel ih =>
        intro b3 bs1 Wf1 Wb1 Wg1 b_b3 b_bs1 h_Wf1 h_Wb1 h_Wg1 hm
        refine g_iload_n (pc := 145) X 0 rfl dX12_shares_145 ?_
        refine g_aload_n (pc := 146) X 1 rfl dX12_shares_146 ?_
        refine g_get (pc := 147) X inlX12 0 rfl rfl 64 (by decide) mw_47_13 rfl dX12_shares_147 ?_
        refine g_icmp_geI (pc := 150) X 242 (by decide) (inRb b_b3 (by decide) (by decide)) (inRb b_hb (by decide) (by decide)) dX12_shares_150 (fun c150 => ?_) (fun c150 => ?_)
        · exact g_vret (pc := 242) X hA (⟨Wf1, Wb1, Wg1, bs1, rfl, rfl, (b_bs1), (h_Wf1), (h_Wb1), (h_Wg1)⟩) (by decide) (by decide) dX12_shares_242
        · refine g_aload_n (pc := 153) X 1 rfl dX12_shares_153 ?_
          refine g_get (pc := 154) X inlX12 0 rfl rfl 58 (by decide) mw_9_9 rfl dX12_shares_154 ?_
          refine g_iload_n (pc := 157) X 0 rfl dX12_shares_157 ?_
          refine g_ialdI (pc := 158) X 13 rfl (b_b3.1) (by (first | (clear b_nr b_tm b_at_ b_to_ b_fa b_va b_np b_tn b_pc_ b_st_ b_pa_ b_ta b_ow b_of_ b_ot b_rl b_hb b_bs b_se; omega) | omega)) (Int.le_trans b_b3.2 (by decide)) dX12_shares_158 ?_
          refine g_nameI (fun y2 ey2 => ?_)
          have by2 : (-2147483648) ≤ y2 ∧ y2 ≤ 2147483647 := by rw [ey2]; exact h_Bp _ (by (first | (clear b_nr b_tm b_at_ b_to_ b_fa b_va b_np b_tn b_pc_ b_st_ b_pa_ b_ta b_ow b_of_ b_ot b_rl b_hb b_bs b_se; omega) | omega))
          refine g_aload_n (pc := 159) X 1 rfl dX12_shares_159 ?_
          refine g_get (pc := 160) X inlX12 0 rfl rfl 49 (by decide) mw_28_2 rfl dX12_shares_160 ?_
          refine g_icmp_neI (pc := 163) X 236 (by decide) by2 (inRb b_pa_ (by decide) (by decide)) dX12_shares_163 (fun c163 => ?_) (fun c163 => ?_)
          · refine g_iincI (pc := 236) X 0 rfl (by decide) (lv' := [(3, .int (iI (b3 + 1))), (0, .ref g0), (1, .int (iI rm)), (2, .int (iI w))]) rfl dX12_shares_236 ?_
            refine g_goto (pc := 239) X 145 (by decide) dX12_shares_239 ?_
            exact ih (b3 + 1) bs1 Wf1 Wb1 Wg1 (by (first | (clear b_nr b_tm b_at_ b_to_ b_fa b_va b_np b_tn b_pc_ b_st_ b_pa_ b_ta b_ow b_of_ b_ot b_rl b_hb b_bs b_se; omega) | omega)) (b_bs1) (h_Wf1) (h_Wb1) (h_Wg1) (by (first | (clear b_nr b_tm b_at_ b_to_ b_fa b_va b_np b_tn b_pc_ b_st_ b_pa_ b_ta b_ow b_of_ b_ot b_rl b_hb b_bs b_se; omega) | omega))
          · refine g_aload_n (pc := 166) X 1 rfl dX12_shares_166 ?_
            refine g_get (pc := 167) X inlX12 0 rfl rfl 63 (by decide) mw_9_14 rfl dX12_shares_167 ?_
            refine g_iload_n (pc := 170) X 0 rfl dX12_shares_170 ?_
            refine g_ialdI (pc := 171) X 18 rfl (b_b3.1) (by (first | (clear b_nr b_tm b_at_ b_to_ b_fa b_va b_np b_tn b_pc_ b_st_ b_pa_ b_ta b_ow b_of_ b_ot b_rl b_hb b_bs b_se; omega) | omega)) (Int.le_trans b_b3.2 (by decide)) dX12_shares_171 ?_
            refine g_nameI (fun y3 ey3 => ?_)
            have by3 : (-2147483648) ≤ y3 ∧ y3 ≤ 2147483647 := by rw [ey3]; exact h_Wg1 _ (by (first | (clear b_nr b_tm b_at_ b_to_ b_fa b_va b_np b_tn b_pc_ b_st_ b_pa_ b_ta b_ow b_of_ b_ot b_rl b_hb b_bs b_se; omega) | omega))
            refine g_aload_n (pc := 172) X 1 rfl dX12_shares_172 ?_
            refine g_get (pc := 173) X inlX12 0 rfl rfl 60 (by decide) mw_9_11 rfl dX12_shares_173 ?_
            refine g_iload_n (pc := 176) X 3 rfl dX12_shares_176 ?_
            refine g_ialdI (pc := 177) X 15 rfl (b_w.1) (by (first | (clear b_nr b_tm b_at_ b_to_ b_fa b_va b_np b_tn b_pc_ b_st_ b_pa_ b_ta b_ow b_of_ b_ot b_rl b_hb b_bs b_se; omega) | omega)) (Int.le_trans b_w.2 (by decide)) dX12_shares_177 ?_
            refine g_nameI (fun y4 ey4 => ?_)
            have by4 : (-2147483648) ≤ y4 ∧ y4 ≤ 2147483647 := by rw [ey4]; exact h_Wo _ (by (first | (clear b_nr b_tm b_at_ b_to_ b_fa b_va b_np b_tn b_pc_ b_st_ b_pa_ b_ta b_ow b_of_ b_ot b_rl b_hb b_bs b_se; omega) | omega))
            refine g_iaddI (pc := 178) X dX12_shares_178 ?_
            refine g_any (fun y5 by5 => ?_)
            refine g_aload_n (pc := 179) X 1 rfl dX12_shares_179 ?_
            refine g_get (pc := 180) X inlX12 0 rfl rfl 59 (by decide) mw_9_10 rfl dX12_shares_180 ?_
            refine g_iload_n (pc := 183) X 0 rfl dX12_shares_183 ?_
            refine g_ialdI (pc := 184) X 14 rfl (b_b3.1) (by (first | (clear b_nr b_tm b_at_ b_to_ b_fa b_va b_np b_tn b_pc_ b_st_ b_pa_ b_ta b_ow b_of_ b_ot b_rl b_hb b_bs b_se; omega) | omega)) (Int.le_trans b_b3.2 (by decide)) dX12_shares_184 ?_
            refine g_nameI (fun y6 ey6 => ?_)
            have by6 : (-2147483648) ≤ y6 ∧ y6 ≤ 2147483647 := by rw [ey6]; exact h_Br _ (by (first | (clear b_nr b_tm b_at_ b_to_ b_fa b_va b_np b_tn b_pc_ b_st_ b_pa_ b_ta b_ow b_of_ b_ot b_rl b_hb b_bs b_se; omega) | omega))
            refine g_icmp_leI (pc := 185) X 191 (by decide) by5 by6 dX12_shares_185 (fun c185 => ?_) (fun c185 => ?_)
            · refine g_aload_n (pc := 191) X 1 rfl dX12_shares_191 ?_
              refine g_get (pc := 192) X inlX12 0 rfl rfl 63 (by decide) mw_9_14 rfl dX12_shares_192 ?_
              refine g_iload_n (pc := 195) X 0 rfl dX12_shares_195 ?_
              refine g_dup2 (pc := 196) X rfl rfl dX12_shares_196 ?_
              refine g_ialdI (pc := 197) X 18 rfl (b_b3.1) (by (first | (clear b_nr b_tm b_at_ b_to_ b_fa b_va b_np b_tn b_pc_ b_st_ b_pa_ b_ta b_ow b_of_ b_ot b_rl b_hb b_bs b_se; omega) | omega)) (Int.le_trans b_b3.2 (by decide)) dX12_shares_197 ?_
              refine g_nameI (fun y7 ey7 => ?_)
              have by7 : (-2147483648) ≤ y7 ∧ y7 ≤ 2147483647 := by rw [ey7]; exact h_Wg1 _ (by (first | (clear b_nr b_tm b_at_ b_to_ b_fa b_va b_np b_tn b_pc_ b_st_ b_pa_ b_ta b_ow b_of_ b_ot b_rl b_hb b_bs b_se; omega) | omega))
              refine g_aload_n (pc := 198) X 1 rfl dX12_shares_198 ?_
              refine g_get (pc := 199) X inlX12 0 rfl rfl 60 (by decide) mw_9_11 rfl dX12_shares_199 ?_
              refine g_iload_n (pc := 202) X 3 rfl dX12_shares_202 ?_
              refine g_ialdI (pc := 203) X 15 rfl (b_w.1) (by (first | (clear b_nr b_tm b_at_ b_to_ b_fa b_va b_np b_tn b_pc_ b_st_ b_pa_ b_ta b_ow b_of_ b_ot b_rl b_hb b_bs b_se; omega) | omega)) (Int.le_trans b_w.2 (by decide)) dX12_shares_203 ?_
              refine g_nameI (fun y8 ey8 => ?_)
              have by8 : (-2147483648) ≤ y8 ∧ y8 ≤ 2147483647 := by rw [ey8]; exact h_Wo _ (by (first | (clear b_nr b_tm b_at_ b_to_ b_fa b_va b_np b_tn b_pc_ b_st_ b_pa_ b_ta b_ow b_of_ b_ot b_rl b_hb b_bs b_se; omega) | omega))
              refine g_iaddI (pc := 204) X dX12_shares_204 ?_
              refine g_any (fun y9 by9 => ?_)
              refine g_iastG (pc := 205) X 18 rfl (b_b3.1) (by (first | (clear b_nr b_tm b_at_ b_to_ b_fa b_va b_np b_tn b_pc_ b_st_ b_pa_ b_ta b_ow b_of_ b_ot b_rl b_hb b_bs b_se; omega) | omega)) (Int.le_trans b_b3.2 (by decide)) (ws' := fun F10 => [(g0, .inr (12, mO gA nr tm at_ to_ fa va np tn pc_ st_ pa_ ta ow of_ ot rl hb bs1 se)), cA Z (gA 13) 0 7 Mw, cA Z (gA 14) 0 7 Mo, cR Z (gA 0) 6 7 (gG 0), cR Z (gA 4) 6 7 (gG 4), cR Z (gA 5) 6 7 (gG 5), cR Z (gA 6) 6 7 (gG 6), cR Z (gA 9) 6 7 (gG 9), cA Z (xA 0) 0 8 Ml, cA Z (xA 4) 0 8 Mow, cA Z (xA 5) 0 8 Mof, cA Z (xA 6) 0 8 Mot, cA Z (xA 9) 0 8 Md, cA Z (gA 58) 0 4 Bp, cA Z (gA 59) 0 4 Br, cA Z (gA 60) 0 8 Wo, cA Z (gA 61) 0 8 Wf1, cA Z (gA 62) 0 8 Wb1, cA Z (gA 63) 0 4 F10]) (fun _ => rfl) dX12_shares_205 (fun F10 eF10 => ?_)
              have hF10 : ∀ j, j < 4 → (-2147483648) ≤ F10 j ∧ F10 j ≤ 2147483647 := by rw [eF10]; exact updI_B h_Wg1 (by (first | (clear b_nr b_tm b_at_ b_to_ b_fa b_va b_np b_tn b_pc_ b_st_ b_pa_ b_ta b_ow b_of_ b_ot b_rl b_hb b_bs b_se; omega) | omega))
              refine g_aload_n (pc := 206) X 1 rfl dX12_shares_206 ?_
              refine g_get (pc := 207) X inlX12 0 rfl rfl 61 (by decide) mw_9_12 rfl dX12_shares_207 ?_
              refine g_iload_n (pc := 210) X 3 rfl dX12_shares_210 ?_
              refine g_iload_n (pc := 211) X 0 rfl dX12_shares_211 ?_
              refine g_iastG (pc := 212) X 16 rfl (b_w.1) (by (first | (clear b_nr b_tm b_at_ b_to_ b_fa b_va b_np b_tn b_pc_ b_st_ b_pa_ b_ta b_ow b_of_ b_ot b_rl b_hb b_bs b_se; omega) | omega)) (Int.le_trans b_w.2 (by decide)) (ws' := fun F11 => [(g0, .inr (12, mO gA nr tm at_ to_ fa va np tn pc_ st_ pa_ ta ow of_ ot rl hb bs1 se)), cA Z (gA 13) 0 7 Mw, cA Z (gA 14) 0 7 Mo, cR Z (gA 0) 6 7 (gG 0), cR Z (gA 4) 6 7 (gG 4), cR Z (gA 5) 6 7 (gG 5), cR Z (gA 6) 6 7 (gG 6), cR Z (gA 9) 6 7 (gG 9), cA Z (xA 0) 0 8 Ml, cA Z (xA 4) 0 8 Mow, cA Z (xA 5) 0 8 Mof, cA Z (xA 6) 0 8 Mot, cA Z (xA 9) 0 8 Md, cA Z (gA 58) 0 4 Bp, cA Z (gA 59) 0 4 Br, cA Z (gA 60) 0 8 Wo, cA Z (gA 61) 0 8 F11, cA Z (gA 62) 0 8 Wb1, cA Z (gA 63) 0 4 F10]) (fun _ => rfl) dX12_shares_212 (fun F11 eF11 => ?_)
              have hF11 : ∀ j, j < 8 → (-2147483648) ≤ F11 j ∧ F11 j ≤ 2147483647 := by rw [eF11]; exact updI_B h_Wf1 (by (first | (clear b_nr b_tm b_at_ b_to_ b_fa b_va b_np b_tn b_pc_ b_st_ b_pa_ b_ta b_ow b_of_ b_ot b_rl b_hb b_bs b_se; omega) | omega))
              refine g_aload_n (pc := 213) X 1 rfl dX12_shares_213 ?_
              refine g_iload_n (pc := 214) X 2 rfl dX12_shares_214 ?_
              refine g_iload_n (pc := 215) X 3 rfl dX12_shares_215 ?_
              refine g_iconst (pc := 216) X (iI 1) (by rfl) dX12_shares_216 ?_
              refine g_iaddI (pc := 217) X dX12_shares_217 ?_
              refine g_callV (pc := 218) X (k_X12_shares6 l Z g0 gA gG xA Mw Mo Ml Mow Mof Mot Md Bp Br Wo F11 Wb1 F10 rm (w + 1) nr tm at_ to_ fa va np tn pc_ st_ pa_ ta ow of_ ot rl hb bs1 se b_rm (by (first | (clear b_nr b_tm b_at_ b_to_ b_fa b_va b_np b_tn b_pc_ b_st_ b_pa_ b_ta b_ow b_of_ b_ot b_rl b_hb b_bs b_se; omega) | omega)) b_nr b_tm b_at_ b_to_ b_fa b_va b_np b_tn b_pc_ b_st_ b_pa_ b_ta b_ow b_of_ b_ot b_rl b_hb b_bs1 b_se (hG) (by (first | (clear b_nr b_tm b_at_ b_to_ b_fa b_va b_np b_tn b_pc_ b_st_ b_pa_ b_ta b_ow b_of_ b_ot b_rl b_hb b_bs b_se; omega) | omega)) (by (first | (clear b_nr b_tm b_at_ b_to_ b_fa b_va b_np b_tn b_pc_ b_st_ b_pa_ b_ta b_ow b_of_ b_ot b_rl b_hb b_bs b_se; omega) | omega)) (by (first | (clear b_nr b_tm b_at_ b_to_ b_fa b_va b_np b_tn b_pc_ b_st_ b_pa_ b_ta b_ow b_of_ b_ot b_rl b_hb b_bs b_se; omega) | omega)) (h_Mw) (h_Mo) (h_Ml) (h_Mow) (h_Mof) (h_Mot) (h_Md) (h_Bp) (h_Br) (h_Wo) (hF11) (h_Wb1) (hF10)) iM_X12_shares mw_50_2 mw_50_3 mw_50_4 0 rfl rfl [0, 1, 2, 3, 4, 5, 6, 7, 8, 9, 10, 11, 12, 13, 14, 15, 16, 17, 18] [] rfl (wr := []) rfl (by decide) rfl rfl (Nat.le_of_ble_eq_true rfl) (by decide) dX12_shares_218 (fun r w' hpo => ?_)
              refine exN_4 hpo fun F12 F13 F14 y15 hz => anD_6 hz fun e_r e_w hf218_b_bs2 hf218_h_Wf2 hf218_h_Wb2 hf218_h_Wg2 => ?_; clear hz hpo; subst e_r; subst e_w
              refine g_as (pc' := 221) (lv' := [(3, .int (iI b3)), (0, .ref g0), (1, .int (iI rm)), (2, .int (iI w))]) (st' := []) (ws' := [(g0, .inr (12, mO gA nr tm at_ to_ fa va np tn pc_ st_ pa_ ta ow of_ ot rl hb y15 se)), cA Z (gA 13) 0 7 Mw, cA Z (gA 14) 0 7 Mo, cR Z (gA 0) 6 7 (gG 0), cR Z (gA 4) 6 7 (gG 4), cR Z (gA 5) 6 7 (gG 5), cR Z (gA 6) 6 7 (gG 6), cR Z (gA 9) 6 7 (gG 9), cA Z (xA 0) 0 8 Ml, cA Z (xA 4) 0 8 Mow, cA Z (xA 5) 0 8 Mof, cA Z (xA 6) 0 8 Mot, cA Z (xA 9) 0 8 Md, cA Z (gA 58) 0 4 Bp, cA Z (gA 59) 0 4 Br, cA Z (gA 60) 0 8 Wo, cA Z (gA 61) 0 8 F12, cA Z (gA 62) 0 8 F13, cA Z (gA 63) 0 4 F14]) rfl rfl rfl rfl ?_
              refine g_aload_n (pc := 221) X 1 rfl dX12_shares_221 ?_
              refine g_get (pc := 222) X inlX12 0 rfl rfl 63 (by decide) mw_9_14 rfl dX12_shares_222 ?_
              refine g_iload_n (pc := 225) X 0 rfl dX12_shares_225 ?_
              refine g_dup2 (pc := 226) X rfl rfl dX12_shares_226 ?_
              refine g_ialdI (pc := 227) X 18 rfl (b_b3.1) (by (first | (clear b_nr b_tm b_at_ b_to_ b_fa b_va b_np b_tn b_pc_ b_st_ b_pa_ b_ta b_ow b_of_ b_ot b_rl b_hb b_bs b_se; omega) | omega)) (Int.le_trans b_b3.2 (by decide)) dX12_shares_227 ?_
              refine g_nameI (fun y17 ey17 => ?_)
              have by17 : (-2147483648) ≤ y17 ∧ y17 ≤ 2147483647 := by rw [ey17]; exact hf218_h_Wg2 _ (by (first | (clear b_nr b_tm b_at_ b_to_ b_fa b_va b_np b_tn b_pc_ b_st_ b_pa_ b_ta b_ow b_of_ b_ot b_rl b_hb b_bs b_se; omega) | omega))
              refine g_aload_n (pc := 228) X 1 rfl dX12_shares_228 ?_
              refine g_get (pc := 229) X inlX12 0 rfl rfl 60 (by decide) mw_9_11 rfl dX12_shares_229 ?_
              refine g_iload_n (pc := 232) X 3 rfl dX12_shares_232 ?_
              refine g_ialdI (pc := 233) X 15 rfl (b_w.1) (by (first | (clear b_nr b_tm b_at_ b_to_ b_fa b_va b_np b_tn b_pc_ b_st_ b_pa_ b_ta b_ow b_of_ b_ot b_rl b_hb b_bs b_se; omega) | omega)) (Int.le_trans b_w.2 (by decide)) dX12_shares_233 ?_
              refine g_nameI (fun y18 ey18 => ?_)
              have by18 : (-2147483648) ≤ y18 ∧ y18 ≤ 2147483647 := by rw [ey18]; exact h_Wo _ (by (first | (clear b_nr b_tm b_at_ b_to_ b_fa b_va b_np b_tn b_pc_ b_st_ b_pa_ b_ta b_ow b_of_ b_ot b_rl b_hb b_bs b_se; omega) | omega))
              refine g_isubI (pc := 234) X dX12_shares_234 ?_
              refine g_any (fun y19 by19 => ?_)
              refine g_iastG (pc := 235) X 18 rfl (b_b3.1) (by (first | (clear b_nr b_tm b_at_ b_to_ b_fa b_va b_np b_tn b_pc_ b_st_ b_pa_ b_ta b_ow b_of_ b_ot b_rl b_hb b_bs b_se; omega) | omega)) (Int.le_trans b_b3.2 (by decide)) (ws' := fun F20 => [(g0, .inr (12, mO gA nr tm at_ to_ fa va np tn pc_ st_ pa_ ta ow of_ ot rl hb y15 se)), cA Z (gA 13) 0 7 Mw, cA Z (gA 14) 0 7 Mo, cR Z (gA 0) 6 7 (gG 0), cR Z (gA 4) 6 7 (gG 4), cR Z (gA 5) 6 7 (gG 5), cR Z (gA 6) 6 7 (gG 6), cR Z (gA 9) 6 7 (gG 9), cA Z (xA 0) 0 8 Ml, cA Z (xA 4) 0 8 Mow, cA Z (xA 5) 0 8 Mof, cA Z (xA 6) 0 8 Mot, cA Z (xA 9) 0 8 Md, cA Z (gA 58) 0 4 Bp, cA Z (gA 59) 0 4 Br, cA Z (gA 60) 0 8 Wo, cA Z (gA 61) 0 8 F12, cA Z (gA 62) 0 8 F13, cA Z (gA 63) 0 4 F20]) (fun _ => rfl) dX12_shares_235 (fun F20 eF20 => ?_)
              have hF20 : ∀ j, j < 4 → (-2147483648) ≤ F20 j ∧ F20 j ≤ 2147483647 := by rw [eF20]; exact updI_B hf218_h_Wg2 (by (first | (clear b_nr b_tm b_at_ b_to_ b_fa b_va b_np b_tn b_pc_ b_st_ b_pa_ b_ta b_ow b_of_ b_ot b_rl b_hb b_bs b_se; omega) | omega))
              refine g_iincI (pc := 236) X 0 rfl (by decide) (lv' := [(3, .int (iI (b3 + 1))), (0, .ref g0), (1, .int (iI rm)), (2, .int (iI w))]) rfl dX12_shares_236 ?_
              refine g_goto (pc := 239) X 145 (by decide) dX12_shares_239 ?_
              exact ih (b3 + 1) y15 F12 F13 F20 (by (first | (clear b_nr b_tm b_at_ b_to_ b_fa b_va b_np b_tn b_pc_ b_st_ b_pa_ b_ta b_ow b_of_ b_ot b_rl b_hb b_bs b_se; omega) | omega)) (hf218_b_bs2) (hf218_h_Wf2) (hf218_h_Wb2) (hF20) (by (first | (clear b_nr b_tm b_at_ b_to_ b_fa b_va b_np b_tn b_pc_ b_st_ b_pa_ b_ta b_ow b_of_ b_ot b_rl b_hb b_bs b_se; omega) | omega))
            · refine g_goto (pc := 188) X 236 (by decide) dX12_shares_188 ?_
              refine g_iincI (pc := 236) X 0 rfl (by decide) (lv' := [(3, .int (iI (b3 + 1))), (0, .ref g0), (1, .int (iI rm)), (2, .int (iI w))]) rfl dX12_shares_236 ?_
              refine g_goto (pc := 239) X 145 (by decide) dX12_shares_239 ?_
              exact ih (b3 + 1) bs1 Wf1 Wb1 Wg1 (by (first | (clear b_nr b_tm b_at_ b_to_ b_fa b_va b_np b_tn b_pc_ b_st_ b_pa_ b_ta b_ow b_of_ b_ot b_rl b_hb b_bs b_se; omega) | omega)) (b_bs1) (h_Wf1) (h_Wb1) (h_Wg1) (by (first | (clear b_nr b_tm b_at_ b_to_ b_fa b_va b_np b_tn b_pc_ b_st_ b_pa_ b_ta b_ow b_of_ b_ot b_rl b_hb b_bs b_se; omega) | omega))
    exact loop145 _ 0 bs Wf Wb Wg (by (first | (clear b_nr b_tm b_at_ b_to_ b_fa b_va b_np b_tn b_pc_ b_st_ b_pa_ b_ta b_ow b_of_ b_ot b_rl b_hb b_bs b_se; omega) | omega)) (b_bs) (h_Wf) (h_Wb) (h_Wg) (Nat.lt_succ_self _)
  · refine g_iconst (pc := 10) X (iI 0) (by rfl) dX12_shares_10 ?_
    refine g_istore_n (pc := 11) X (i := 3) rfl (by decide) (lv' := [(3, .int (iI 0)), (0, .ref g0), (1, .int (iI rm)), (2, .int (iI w))]) rfl dX12_shares_11 ?_
    refine g_iconst (pc := 12) X (iI 0) (by rfl) dX12_shares_12 ?_
    refine g_istore (pc := 13) X (by decide) (lv' := [(4, .int (iI 0)), (3, .int (iI 0)), (0, .ref g0), (1, .int (iI rm)), (2, .int (iI w))]) rfl dX12_shares_13 ?_
    have loop15 : ∀ (fuel : Nat) (n1 : Int) (k1 : Int), ((-2147483648) ≤ n1 ∧ n1 ≤ 2147483647) → (0 ≤ k1 ∧ k1 ≤ 8) → (9 - k1).toNat < fuel → Gs p l e ({ frames := 8, cells := 0, slots := 0, locals := 192 } : Room) s m args below meth c (MQ below (gPost Z [(g0, .inr (12, mO gA nr tm at_ to_ fa va np tn pc_ st_ pa_ ta ow of_ ot rl hb bs se)), cA Z (gA 13) 0 7 Mw, cA Z (gA 14) 0 7 Mo, cR Z (gA 0) 6 7 (gG 0), cR Z (gA 4) 6 7 (gG 4), cR Z (gA 5) 6 7 (gG 5), cR Z (gA 6) 6 7 (gG 6), cR Z (gA 9) 6 7 (gG 9), cA Z (xA 0) 0 8 Ml, cA Z (xA 4) 0 8 Mow, cA Z (xA 5) 0 8 Mof, cA Z (xA 6) 0 8 Mot, cA Z (xA 9) 0 8 Md, cA Z (gA 58) 0 4 Bp, cA Z (gA 59) 0 4 Br, cA Z (gA 60) 0 8 Wo, cA Z (gA 61) 0 8 Wf, cA Z (gA 62) 0 8 Wb, cA Z (gA 63) 0 4 Wg] s.heap.size (fun r w' => ∃ (Wf2 : Nat → Int) (Wb2 : Nat → Int) (Wg2 : Nat → Int) (bs2 : Int), (r = none) ∧ (w' = [(g0, .inr (12, mO gA nr tm at_ to_ fa va np tn pc_ st_ pa_ ta ow of_ ot rl hb bs2 se)), cA Z (gA 13) 0 7 Mw, cA Z (gA 14) 0 7 Mo, cR Z (gA 0) 6 7 (gG 0), cR Z (gA 4) 6 7 (gG 4), cR Z (gA 5) 6 7 (gG 5), cR Z (gA 6) 6 7 (gG 6), cR Z (gA 9) 6 7 (gG 9), cA Z (xA 0) 0 8 Ml, cA Z (xA 4) 0 8 Mow, cA Z (xA 5) 0 8 Mof, cA Z (xA 6) 0 8 Mot, cA Z (xA 9) 0 8 Md, cA Z (gA 58) 0 4 Bp, cA Z (gA 59) 0 4 Br, cA Z (gA 60) 0 8 Wo, cA Z (gA 61) 0 8 Wf2, cA Z (gA 62) 0 8 Wb2, cA Z (gA 63) 0 4 Wg2]) ∧ ((-2147483648) ≤ bs2 ∧ bs2 ≤ 2147483647) ∧ (∀ j, j < 8 → (-2147483648) ≤ Wf2 j ∧ Wf2 j ≤ 2147483647) ∧ (∀ j, j < 8 → (-2147483648) ≤ Wb2 j ∧ Wb2 j ≤ 2147483647) ∧ (∀ j, j < 4 → (-2147483648) ≤ Wg2 j ∧ Wg2 j ≤ 2147483647))) args s 0 0 (va_A [(g0, .inr (12, mO gA nr tm at_ to_ fa va np tn pc_ st_ pa_ ta ow of_ ot rl hb bs se)), cA Z (gA 13) 0 7 Mw, cA Z (gA 14) 0 7 Mo, cR Z (gA 0) 6 7 (gG 0), cR Z (gA 4) 6 7 (gG 4), cR Z (gA 5) 6 7 (gG 5), cR Z (gA 6) 6 7 (gG 6), cR Z (gA 9) 6 7 (gG 9), cA Z (xA 0) 0 8 Ml, cA Z (xA 4) 0 8 Mow, cA Z (xA 5) 0 8 Mof, cA Z (xA 6) 0 8 Mot, cA Z (xA 9) 0 8 Md, cA Z (gA 58) 0 4 Bp, cA Z (gA 59) 0 4 Br, cA Z (gA 60) 0 8 Wo, cA Z (gA 61) 0 8 Wf, cA Z (gA 62) 0 8 Wb, cA Z (gA 63) 0 4 Wg] s.heap.size)) Z A 5 0 0 15 [(4, .int (iI k1)), (3, .int (iI n1)), (0, .ref g0), (1, .int (iI rm)), (2, .int (iI w))] [] [(g0, .inr (12, mO gA nr tm at_ to_ fa va np tn pc_ st_ pa_ ta ow of_ ot rl hb bs se)), cA Z (gA 13) 0 7 Mw, cA Z (gA 14) 0 7 Mo, cR Z (gA 0) 6 7 (gG 0), cR Z (gA 4) 6 7 (gG 4), cR Z (gA 5) 6 7 (gG 5), cR Z (gA 6) 6 7 (gG 6), cR Z (gA 9) 6 7 (gG 9), cA Z (xA 0) 0 8 Ml, cA Z (xA 4) 0 8 Mow, cA Z (xA 5) 0 8 Mof, cA Z (xA 6) 0 8 Mot, cA Z (xA 9) 0 8 Md, cA Z (gA 58) 0 4 Bp, cA Z (gA 59) 0 4 Br, cA Z (gA 60) 0 8 Wo, cA Z (gA 61) 0 8 Wf, cA Z (gA 62) 0 8 Wb, cA Z (gA 63) 0 4 Wg] := by
      intro fuel
      induction fuel with
      | zero => intro n1 k1 _ _ hm; exact absurd hm (Nat.not_lt_zero _)
      | succ fuel ih =>
        intro n1 k1 b_n1 b_k1 hm
        refine g_iload (pc := 15) X 0 rfl dX12_shares_15 ?_
        refine g_aload_n (pc := 17) X 2 rfl dX12_shares_17 ?_
        refine g_get (pc := 18) X inlX12 0 rfl rfl 13 (by decide) mw_8_1 rfl dX12_shares_18 ?_
        refine g_iload_n (pc := 21) X 3 rfl dX12_shares_21 ?_
        refine g_ialdI (pc := 22) X 1 rfl (b_rm.1) (Int.lt_of_le_of_lt b_rm.2 (by decide)) (Int.le_trans b_rm.2 (by decide)) dX12_shares_22 ?_
        refine g_nameI (fun y21 ey21 => ?_)
        have by21 : 0 ≤ y21 ∧ y21 ≤ 8 := by rw [ey21]; exact h_Mw _ (by (first | (clear b_nr b_tm b_at_ b_to_ b_fa b_va b_np b_tn b_pc_ b_st_ b_pa_ b_ta b_ow b_of_ b_ot b_rl b_hb b_bs b_se; omega) | omega))
        have ty21 : 1 ≤ y21 ∧ y21 ≤ 8 := by rw [ey21]; exact hwn
        refine g_icmp_geI (pc := 23) X 86 (by decide) (inRb b_k1 (by decide) (by decide)) (inRb by21 (by decide) (by decide)) dX12_shares_23 (fun c23 => ?_) (fun c23 => ?_)
        · refine g_aload_n (pc := 86) X 2 rfl dX12_shares_86 ?_
          refine g_get (pc := 87) X inlX12 0 rfl rfl 65 (by decide) mw_49_21 rfl dX12_shares_87 ?_
          refine g_iconst (pc := 90) X (iI (-1)) (by rfl) dX12_shares_90 ?_
          refine g_icmp_eqI (pc := 91) X 103 (by decide) b_bs ⟨by decide, by decide⟩ dX12_shares_91 (fun c91 => ?_) (fun c91 => ?_)
          · refine g_aload_n (pc := 103) X 2 rfl dX12_shares_103 ?_
            refine g_iload_n (pc := 104) X 1 rfl dX12_shares_104 ?_
            refine g_put (pc := 105) X inlX12 tyX12_ok nmX12 0 rfl rfl 65 (by decide) mw_49_21 rfl rfl rfl (Nat.le_of_ble_eq_true rfl) (ws' := [(g0, .inr (12, mO gA nr tm at_ to_ fa va np tn pc_ st_ pa_ ta ow of_ ot rl hb n1 se)), cA Z (gA 13) 0 7 Mw, cA Z (gA 14) 0 7 Mo, cR Z (gA 0) 6 7 (gG 0), cR Z (gA 4) 6 7 (gG 4), cR Z (gA 5) 6 7 (gG 5), cR Z (gA 6) 6 7 (gG 6), cR Z (gA 9) 6 7 (gG 9), cA Z (xA 0) 0 8 Ml, cA Z (xA 4) 0 8 Mow, cA Z (xA 5) 0 8 Mof, cA Z (xA 6) 0 8 Mot, cA Z (xA 9) 0 8 Md, cA Z (gA 58) 0 4 Bp, cA Z (gA 59) 0 4 Br, cA Z (gA 60) 0 8 Wo, cA Z (gA 61) 0 8 Wf, cA Z (gA 62) 0 8 Wb, cA Z (gA 63) 0 4 Wg]) rfl dX12_shares_105 ?_
            refine g_iconst (pc := 108) X (iI 0) (by rfl) dX12_shares_108 ?_
            refine g_istore (pc := 109) X (by decide) (lv' := [(4, .int (iI 0)), (3, .int (iI n1)), (0, .ref g0), (1, .int (iI rm)), (2, .int (iI w))]) rfl dX12_shares_109 ?_
            have loop111 : ∀ (fuel : Nat) (k2 : Int) (Wb1 : Nat → Int), (0 ≤ k2 ∧ k2 ≤ 8) → (∀ j, j < 8 → (-2147483648) ≤ Wb1 j ∧ Wb1 j ≤ 2147483647) → (9 - k2).toNat < fuel → Gs p l e ({ frames := 8, cells := 0, slots := 0, locals := 192 } : Room) s m args below meth c (MQ below (gPost Z [(g0, .inr (12, mO gA nr tm at_ to_ fa va np tn pc_ st_ pa_ ta ow of_ ot rl hb bs se)), cA Z (gA 13) 0 7 Mw, cA Z (gA 14) 0 7 Mo, cR Z (gA 0) 6 7 (gG 0), cR Z (gA 4) 6 7 (gG 4), cR Z (gA 5) 6 7 (gG 5), cR Z (gA 6) 6 7 (gG 6), cR Z (gA 9) 6 7 (gG 9), cA Z (xA 0) 0 8 Ml, cA Z (xA 4) 0 8 Mow, cA Z (xA 5) 0 8 Mof, cA Z (xA 6) 0 8 Mot, cA Z (xA 9) 0 8 Md, cA Z (gA 58) 0 4 Bp, cA Z (gA 59) 0 4 Br, cA Z (gA 60) 0 8 Wo, cA Z (gA 61) 0 8 Wf, cA Z (gA 62) 0 8 Wb, cA Z (gA 63) 0 4 Wg] s.heap.size (fun r w' => ∃ (Wf2 : Nat → Int) (Wb2 : Nat → Int) (Wg2 : Nat → Int) (bs2 : Int), (r = none) ∧ (w' = [(g0, .inr (12, mO gA nr tm at_ to_ fa va np tn pc_ st_ pa_ ta ow of_ ot rl hb bs2 se)), cA Z (gA 13) 0 7 Mw, cA Z (gA 14) 0 7 Mo, cR Z (gA 0) 6 7 (gG 0), cR Z (gA 4) 6 7 (gG 4), cR Z (gA 5) 6 7 (gG 5), cR Z (gA 6) 6 7 (gG 6), cR Z (gA 9) 6 7 (gG 9), cA Z (xA 0) 0 8 Ml, cA Z (xA 4) 0 8 Mow, cA Z (xA 5) 0 8 Mof, cA Z (xA 6) 0 8 Mot, cA Z (xA 9) 0 8 Md, cA Z (gA 58) 0 4 Bp, cA Z (gA 59) 0 4 Br, cA Z (gA 60) 0 8 Wo, cA Z (gA 61) 0 8 Wf2, cA Z (gA 62) 0 8 Wb2, cA Z (gA 63) 0 4 Wg2]) ∧ ((-2147483648) ≤ bs2 ∧ bs2 ≤ 2147483647) ∧ (∀ j, j < 8 → (-2147483648) ≤ Wf2 j ∧ Wf2 j ≤ 2147483647) ∧ (∀ j, j < 8 → (-2147483648) ≤ Wb2 j ∧ Wb2 j ≤ 2147483647) ∧ (∀ j, j < 4 → (-2147483648) ≤ Wg2 j ∧ Wg2 j ≤ 2147483647))) args s 0 0 (va_A [(g0, .inr (12, mO gA nr tm at_ to_ fa va np tn pc_ st_ pa_ ta ow of_ ot rl hb bs se)), cA Z (gA 13) 0 7 Mw, cA Z (gA 14) 0 7 Mo, cR Z (gA 0) 6 7 (gG 0), cR Z (gA 4) 6 7 (gG 4), cR Z (gA 5) 6 7 (gG 5), cR Z (gA 6) 6 7 (gG 6), cR Z (gA 9) 6 7 (gG 9), cA Z (xA 0) 0 8 Ml, cA Z (xA 4) 0 8 Mow, cA Z (xA 5) 0 8 Mof, cA Z (xA 6) 0 8 Mot, cA Z (xA 9) 0 8 Md, cA Z (gA 58) 0 4 Bp, cA Z (gA 59) 0 4 Br, cA Z (gA 60) 0 8 Wo, cA Z (gA 61) 0 8 Wf, cA Z (gA 62) 0 8 Wb, cA Z (gA 63) 0 4 Wg] s.heap.size)) Z A 5 0 0 111 [(4, .int (iI k2)), (3, .int (iI n1)), (0, .ref g0), (1, .int (iI rm)), (2, .int (iI w))] [] [(g0, .inr (12, mO gA nr tm at_ to_ fa va np tn pc_ st_ pa_ ta ow of_ ot rl hb n1 se)), cA Z (gA 13) 0 7 Mw, cA Z (gA 14) 0 7 Mo, cR Z (gA 0) 6 7 (gG 0), cR Z (gA 4) 6 7 (gG 4), cR Z (gA 5) 6 7 (gG 5), cR Z (gA 6) 6 7 (gG 6), cR Z (gA 9) 6 7 (gG 9), cA Z (xA 0) 0 8 Ml, cA Z (xA 4) 0 8 Mow, cA Z (xA 5) 0 8 Mof, cA Z (xA 6) 0 8 Mot, cA Z (xA 9) 0 8 Md, cA Z (gA 58) 0 4 Bp, cA Z (gA 59) 0 4 Br, cA Z (gA 60) 0 8 Wo, cA Z (gA 61) 0 8 Wf, cA Z (gA 62) 0 8 Wb1, cA Z (gA 63) 0 4 Wg] := by
              intro fuel
              induction fuel with
              | zero => intro k2 Wb1 _ _ hm; exact absurd hm (Nat.not_lt_zero _)
              | succ fuel ih =>
                intro k2 Wb1 b_k2 h_Wb1 hm
                refine g_iload (pc := 111) X 0 rfl dX12_shares_111 ?_
                refine g_aload_n (pc := 113) X 2 rfl dX12_shares_113 ?_
                refine g_get (pc := 114) X inlX12 0 rfl rfl 13 (by decide) mw_8_1 rfl dX12_shares_114 ?_
                refine g_iload_n (pc := 117) X 3 rfl dX12_shares_117 ?_
                refine g_ialdI (pc := 118) X 1 rfl (b_rm.1) (Int.lt_of_le_of_lt b_rm.2 (by decide)) (Int.le_trans b_rm.2 (by decide)) dX12_shares_118 ?_
                refine g_nameI (fun y22 ey22 => ?_)
                have by22 : 0 ≤ y22 ∧ y22 ≤ 8 := by rw [ey22]; exact h_Mw _ (by (first | (clear b_nr b_tm b_at_ b_to_ b_fa b_va b_np b_tn b_pc_ b_st_ b_pa_ b_ta b_ow b_of_ b_ot b_rl b_hb b_bs b_se; omega) | omega))
                have ty22 : 1 ≤ y22 ∧ y22 ≤ 8 := by rw [ey22]; exact hwn
                refine g_icmp_geI (pc := 119) X 142 (by decide) (inRb b_k2 (by decide) (by decide)) (inRb by22 (by decide) (by decide)) dX12_shares_119 (fun c119 => ?_) (fun c119 => ?_)
                · exact g_vret (pc := 142) X hA (⟨Wf, Wb1, Wg, n1, rfl, rfl, (b_n1), (h_Wf), (h_Wb1), (h_Wg)⟩) (by decide) (by decide) dX12_shares_142
                · refine g_aload_n (pc := 122) X 2 rfl dX12_shares_122 ?_
                  refine g_get (pc := 123) X inlX12 0 rfl rfl 62 (by decide) mw_9_13 rfl dX12_shares_123 ?_
                  refine g_iload (pc := 126) X 0 rfl dX12_shares_126 ?_
                  refine g_aload_n (pc := 128) X 2 rfl dX12_shares_128 ?_
                  refine g_get (pc := 129) X inlX12 0 rfl rfl 61 (by decide) mw_9_12 rfl dX12_shares_129 ?_
                  refine g_iload (pc := 132) X 0 rfl dX12_shares_132 ?_
                  refine g_ialdI (pc := 134) X 16 rfl (b_k2.1) (by (first | (clear b_nr b_tm b_at_ b_to_ b_fa b_va b_np b_tn b_pc_ b_st_ b_pa_ b_ta b_ow b_of_ b_ot b_rl b_hb b_bs b_se; omega) | omega)) (Int.le_trans b_k2.2 (by decide)) dX12_shares_134 ?_
                  refine g_nameI (fun y23 ey23 => ?_)
                  have by23 : (-2147483648) ≤ y23 ∧ y23 ≤ 2147483647 := by rw [ey23]; exact h_Wf _ (by (first | (clear b_nr b_tm b_at_ b_to_ b_fa b_va b_np b_tn b_pc_ b_st_ b_pa_ b_ta b_ow b_of_ b_ot b_rl b_hb b_bs b_se; omega) | omega))
                  refine g_iastG (pc := 135) X 17 rfl (b_k2.1) (by (first | (clear b_nr b_tm b_at_ b_to_ b_fa b_va b_np b_tn b_pc_ b_st_ b_pa_ b_ta b_ow b_of_ b_ot b_rl b_hb b_bs b_se; omega) | omega)) (Int.le_trans b_k2.2 (by decide)) (ws' := fun F24 => [(g0, .inr (12, mO gA nr tm at_ to_ fa va np tn pc_ st_ pa_ ta ow of_ ot rl hb n1 se)), cA Z (gA 13) 0 7 Mw, cA Z (gA 14) 0 7 Mo, cR Z (gA 0) 6 7 (gG 0), cR Z (gA 4) 6 7 (gG 4), cR Z (gA 5) 6 7 (gG 5), cR Z (gA 6) 6 7 (gG 6), cR Z (gA 9) 6 7 (gG 9), cA Z (xA 0) 0 8 Ml, cA Z (xA 4) 0 8 Mow, cA Z (xA 5) 0 8 Mof, cA Z (xA 6) 0 8 Mot, cA Z (xA 9) 0 8 Md, cA Z (gA 58) 0 4 Bp, cA Z (gA 59) 0 4 Br, cA Z (gA 60) 0 8 Wo, cA Z (gA 61) 0 8 Wf, cA Z (gA 62) 0 8 F24, cA Z (gA 63) 0 4 Wg]) (fun _ => rfl) dX12_shares_135 (fun F24 eF24 => ?_)
                  have hF24 : ∀ j, j < 8 → (-2147483648) ≤ F24 j ∧ F24 j ≤ 2147483647 := by rw [eF24]; exact updI_B h_Wb1 (by (first | (clear b_nr b_tm b_at_ b_to_ b_fa b_va b_np b_tn b_pc_ b_st_ b_pa_ b_ta b_ow b_of_ b_ot b_rl b_hb b_bs b_se; omega) | omega))
                  refine g_iincI (pc := 136) X 0 rfl (by decide) (lv' := [(4, .int (iI (k2 + 1))), (3, .int (iI n1)), (0, .ref g0), (1, .int (iI rm)), (2, .int (iI w))]) rfl dX12_shares_136 ?_
                  refine g_goto (pc := 139) X 111 (by decide) dX12_shares_139 ?_
                  exact ih (k2 + 1) F24 (by (first | (clear b_nr b_tm b_at_ b_to_ b_fa b_va b_np b_tn b_pc_ b_st_ b_pa_ b_ta b_ow b_of_ b_ot b_rl b_hb b_bs b_se; omega) | omega)) (hF24) (by (first | (clear b_nr b_tm b_at_ b_to_ b_fa b_va b_np b_tn b_pc_ b_st_ b_pa_ b_ta b_ow b_of_ b_ot b_rl b_hb b_bs b_se; omega) | omega))
            exact loop111 _ 0 Wb (by (first | (clear b_nr b_tm b_at_ b_to_ b_fa b_va b_np b_tn b_pc_ b_st_ b_pa_ b_ta b_ow b_of_ b_ot b_rl b_hb b_bs b_se; omega) | omega)) (h_Wb) (Nat.lt_succ_self _)
          · refine g_iload_n (pc := 94) X 1 rfl dX12_shares_94 ?_
            refine g_aload_n (pc := 95) X 2 rfl dX12_shares_95 ?_
            refine g_get (pc := 96) X inlX12 0 rfl rfl 65 (by decide) mw_49_21 rfl dX12_shares_96 ?_
            refine g_icmp_ltI (pc := 99) X 103 (by decide) b_n1 b_bs dX12_shares_99 (fun c99 => ?_) (fun c99 => ?_)
            · refine g_aload_n (pc := 103) X 2 rfl dX12_shares_103 ?_
              refine g_iload_n (pc := 104) X 1 rfl dX12_shares_104 ?_
              refine g_put (pc := 105) X inlX12 tyX12_ok nmX12 0 rfl rfl 65 (by decide) mw_49_21 rfl rfl rfl (Nat.le_of_ble_eq_true rfl) (ws' := [(g0, .inr (12, mO gA nr tm at_ to_ fa va np tn pc_ st_ pa_ ta ow of_ ot rl hb n1 se)), cA Z (gA 13) 0 7 Mw, cA Z (gA 14) 0 7 Mo, cR Z (gA 0) 6 7 (gG 0), cR Z (gA 4) 6 7 (gG 4), cR Z (gA 5) 6 7 (gG 5), cR Z (gA 6) 6 7 (gG 6), cR Z (gA 9) 6 7 (gG 9), cA Z (xA 0) 0 8 Ml, cA Z (xA 4) 0 8 Mow, cA Z (xA 5) 0 8 Mof, cA Z (xA 6) 0 8 Mot, cA Z (xA 9) 0 8 Md, cA Z (gA 58) 0 4 Bp, cA Z (gA 59) 0 4 Br, cA Z (gA 60) 0 8 Wo, cA Z (gA 61) 0 8 Wf, cA Z (gA 62) 0 8 Wb, cA Z (gA 63) 0 4 Wg]) rfl dX12_shares_105 ?_
              refine g_iconst (pc := 108) X (iI 0) (by rfl) dX12_shares_108 ?_
              refine g_istore (pc := 109) X (by decide) (lv' := [(4, .int (iI 0)), (3, .int (iI n1)), (0, .ref g0), (1, .int (iI rm)), (2, .int (iI w))]) rfl dX12_shares_109 ?_
              have loop111 : ∀ (fuel : Nat) (k2 : Int) (Wb1 : Nat → Int), (0 ≤ k2 ∧ k2 ≤ 8) → (∀ j, j < 8 → (-2147483648) ≤ Wb1 j ∧ Wb1 j ≤ 2147483647) → (9 - k2).toNat < fuel → Gs p l e ({ frames := 8, cells := 0, slots := 0, locals := 192 } : Room) s m args below meth c (MQ below (gPost Z [(g0, .inr (12, mO gA nr tm at_ to_ fa va np tn pc_ st_ pa_ ta ow of_ ot rl hb bs se)), cA Z (gA 13) 0 7 Mw, cA Z (gA 14) 0 7 Mo, cR Z (gA 0) 6 7 (gG 0), cR Z (gA 4) 6 7 (gG 4), cR Z (gA 5) 6 7 (gG 5), cR Z (gA 6) 6 7 (gG 6), cR Z (gA 9) 6 7 (gG 9), cA Z (xA 0) 0 8 Ml, cA Z (xA 4) 0 8 Mow, cA Z (xA 5) 0 8 Mof, cA Z (xA 6) 0 8 Mot, cA Z (xA 9) 0 8 Md, cA Z (gA 58) 0 4 Bp, cA Z (gA 59) 0 4 Br, cA Z (gA 60) 0 8 Wo, cA Z (gA 61) 0 8 Wf, cA Z (gA 62) 0 8 Wb, cA Z (gA 63) 0 4 Wg] s.heap.size (fun r w' => ∃ (Wf2 : Nat → Int) (Wb2 : Nat → Int) (Wg2 : Nat → Int) (bs2 : Int), (r = none) ∧ (w' = [(g0, .inr (12, mO gA nr tm at_ to_ fa va np tn pc_ st_ pa_ ta ow of_ ot rl hb bs2 se)), cA Z (gA 13) 0 7 Mw, cA Z (gA 14) 0 7 Mo, cR Z (gA 0) 6 7 (gG 0), cR Z (gA 4) 6 7 (gG 4), cR Z (gA 5) 6 7 (gG 5), cR Z (gA 6) 6 7 (gG 6), cR Z (gA 9) 6 7 (gG 9), cA Z (xA 0) 0 8 Ml, cA Z (xA 4) 0 8 Mow, cA Z (xA 5) 0 8 Mof, cA Z (xA 6) 0 8 Mot, cA Z (xA 9) 0 8 Md, cA Z (gA 58) 0 4 Bp, cA Z (gA 59) 0 4 Br, cA Z (gA 60) 0 8 Wo, cA Z (gA 61) 0 8 Wf2, cA Z (gA 62) 0 8 Wb2, cA Z (gA 63) 0 4 Wg2]) ∧ ((-2147483648) ≤ bs2 ∧ bs2 ≤ 2147483647) ∧ (∀ j, j < 8 → (-2147483648) ≤ Wf2 j ∧ Wf2 j ≤ 2147483647) ∧ (∀ j, j < 8 → (-2147483648) ≤ Wb2 j ∧ Wb2 j ≤ 2147483647) ∧ (∀ j, j < 4 → (-2147483648) ≤ Wg2 j ∧ Wg2 j ≤ 2147483647))) args s 0 0 (va_A [(g0, .inr (12, mO gA nr tm at_ to_ fa va np tn pc_ st_ pa_ ta ow of_ ot rl hb bs se)), cA Z (gA 13) 0 7 Mw, cA Z (gA 14) 0 7 Mo, cR Z (gA 0) 6 7 (gG 0), cR Z (gA 4) 6 7 (gG 4), cR Z (gA 5) 6 7 (gG 5), cR Z (gA 6) 6 7 (gG 6), cR Z (gA 9) 6 7 (gG 9), cA Z (xA 0) 0 8 Ml, cA Z (xA 4) 0 8 Mow, cA Z (xA 5) 0 8 Mof, cA Z (xA 6) 0 8 Mot, cA Z (xA 9) 0 8 Md, cA Z (gA 58) 0 4 Bp, cA Z (gA 59) 0 4 Br, cA Z (gA 60) 0 8 Wo, cA Z (gA 61) 0 8 Wf, cA Z (gA 62) 0 8 Wb, cA Z (gA 63) 0 4 Wg] s.heap.size)) Z A 5 0 0 111 [(4, .int (iI k2)), (3, .int (iI n1)), (0, .ref g0), (1, .int (iI rm)), (2, .int (iI w))] [] [(g0, .inr (12, mO gA nr tm at_ to_ fa va np tn pc_ st_ pa_ ta ow of_ ot rl hb n1 se)), cA Z (gA 13) 0 7 Mw, cA Z (gA 14) 0 7 Mo, cR Z (gA 0) 6 7 (gG 0), cR Z (gA 4) 6 7 (gG 4), cR Z (gA 5) 6 7 (gG 5), cR Z (gA 6) 6 7 (gG 6), cR Z (gA 9) 6 7 (gG 9), cA Z (xA 0) 0 8 Ml, cA Z (xA 4) 0 8 Mow, cA Z (xA 5) 0 8 Mof, cA Z (xA 6) 0 8 Mot, cA Z (xA 9) 0 8 Md, cA Z (gA 58) 0 4 Bp, cA Z (gA 59) 0 4 Br, cA Z (gA 60) 0 8 Wo, cA Z (gA 61) 0 8 Wf, cA Z (gA 62) 0 8 Wb1, cA Z (gA 63) 0 4 Wg] := by
                intro fuel
                induction fuel with
                | zero => intro k2 Wb1 _ _ hm; exact absurd hm (Nat.not_lt_zero _)
                | succ fuel ih =>
                  intro k2 Wb1 b_k2 h_Wb1 hm
                  refine g_iload (pc := 111) X 0 rfl dX12_shares_111 ?_
                  refine g_aload_n (pc := 113) X 2 rfl dX12_shares_113 ?_
                  refine g_get (pc := 114) X inlX12 0 rfl rfl 13 (by decide) mw_8_1 rfl dX12_shares_114 ?_
                  refine g_iload_n (pc := 117) X 3 rfl dX12_shares_117 ?_
                  refine g_ialdI (pc := 118) X 1 rfl (b_rm.1) (Int.lt_of_le_of_lt b_rm.2 (by decide)) (Int.le_trans b_rm.2 (by decide)) dX12_shares_118 ?_
                  refine g_nameI (fun y25 ey25 => ?_)
                  have by25 : 0 ≤ y25 ∧ y25 ≤ 8 := by rw [ey25]; exact h_Mw _ (by (first | (clear b_nr b_tm b_at_ b_to_ b_fa b_va b_np b_tn b_pc_ b_st_ b_pa_ b_ta b_ow b_of_ b_ot b_rl b_hb b_bs b_se; omega) | omega))
                  have ty25 : 1 ≤ y25 ∧ y25 ≤ 8 := by rw [ey25]; exact hwn
                  refine g_icmp_geI (pc := 119) X 142 (by decide) (inRb b_k2 (by decide) (by decide)) (inRb by25 (by decide) (by decide)) dX12_shares_119 (fun c119 => ?_) (fun c119 => ?_)
                  · exact g_vret (pc := 142) X hA (⟨Wf, Wb1, Wg, n1, rfl, rfl, (b_n1), (h_Wf), (h_Wb1), (h_Wg)⟩) (by decide) (by decide) dX12_shares_142
                  · refine g_aload_n (pc := 122) X 2 rfl dX12_shares_122 ?_
                    refine g_get (pc := 123) X inlX12 0 rfl rfl 62 (by decide) mw_9_13 rfl dX12_shares_123 ?_
                    refine g_iload (pc := 126) X 0 rfl dX12_shares_126 ?_
                    refine g_aload_n (pc := 128) X 2 rfl dX12_shares_128 ?_
                    refine g_get (pc := 129) X inlX12 0 rfl rfl 61 (by decide) mw_9_12 rfl dX12_shares_129 ?_
                    refine g_iload (pc := 132) X 0 rfl dX12_shares_132 ?_
                    refine g_ialdI (pc := 134) X 16 rfl (b_k2.1) (by (first | (clear b_nr b_tm b_at_ b_to_ b_fa b_va b_np b_tn b_pc_ b_st_ b_pa_ b_ta b_ow b_of_ b_ot b_rl b_hb b_bs b_se; omega) | omega)) (Int.le_trans b_k2.2 (by decide)) dX12_shares_134 ?_
                    refine g_nameI (fun y26 ey26 => ?_)
                    have by26 : (-2147483648) ≤ y26 ∧ y26 ≤ 2147483647 := by rw [ey26]; exact h_Wf _ (by (first | (clear b_nr b_tm b_at_ b_to_ b_fa b_va b_np b_tn b_pc_ b_st_ b_pa_ b_ta b_ow b_of_ b_ot b_rl b_hb b_bs b_se; omega) | omega))
                    refine g_iastG (pc := 135) X 17 rfl (b_k2.1) (by (first | (clear b_nr b_tm b_at_ b_to_ b_fa b_va b_np b_tn b_pc_ b_st_ b_pa_ b_ta b_ow b_of_ b_ot b_rl b_hb b_bs b_se; omega) | omega)) (Int.le_trans b_k2.2 (by decide)) (ws' := fun F27 => [(g0, .inr (12, mO gA nr tm at_ to_ fa va np tn pc_ st_ pa_ ta ow of_ ot rl hb n1 se)), cA Z (gA 13) 0 7 Mw, cA Z (gA 14) 0 7 Mo, cR Z (gA 0) 6 7 (gG 0), cR Z (gA 4) 6 7 (gG 4), cR Z (gA 5) 6 7 (gG 5), cR Z (gA 6) 6 7 (gG 6), cR Z (gA 9) 6 7 (gG 9), cA Z (xA 0) 0 8 Ml, cA Z (xA 4) 0 8 Mow, cA Z (xA 5) 0 8 Mof, cA Z (xA 6) 0 8 Mot, cA Z (xA 9) 0 8 Md, cA Z (gA 58) 0 4 Bp, cA Z (gA 59) 0 4 Br, cA Z (gA 60) 0 8 Wo, cA Z (gA 61) 0 8 Wf, cA Z (gA 62) 0 8 F27, cA Z (gA 63) 0 4 Wg]) (fun _ => rfl) dX12_shares_135 (fun F27 eF27 => ?_)
                    have hF27 : ∀ j, j < 8 → (-2147483648) ≤ F27 j ∧ F27 j ≤ 2147483647 := by rw [eF27]; exact updI_B h_Wb1 (by (first | (clear b_nr b_tm b_at_ b_to_ b_fa b_va b_np b_tn b_pc_ b_st_ b_pa_ b_ta b_ow b_of_ b_ot b_rl b_hb b_bs b_se; omega) | omega))
                    refine g_iincI (pc := 136) X 0 rfl (by decide) (lv' := [(4, .int (iI (k2 + 1))), (3, .int (iI n1)), (0, .ref g0), (1, .int (iI rm)), (2, .int (iI w))]) rfl dX12_shares_136 ?_
                    refine g_goto (pc := 139) X 111 (by decide) dX12_shares_139 ?_
                    exact ih (k2 + 1) F27 (by (first | (clear b_nr b_tm b_at_ b_to_ b_fa b_va b_np b_tn b_pc_ b_st_ b_pa_ b_ta b_ow b_of_ b_ot b_rl b_hb b_bs b_se; omega) | omega)) (hF27) (by (first | (clear b_nr b_tm b_at_ b_to_ b_fa b_va b_np b_tn b_pc_ b_st_ b_pa_ b_ta b_ow b_of_ b_ot b_rl b_hb b_bs b_se; omega) | omega))
              exact loop111 _ 0 Wb (by (first | (clear b_nr b_tm b_at_ b_to_ b_fa b_va b_np b_tn b_pc_ b_st_ b_pa_ b_ta b_ow b_of_ b_ot b_rl b_hb b_bs b_se; omega) | omega)) (h_Wb) (Nat.lt_succ_self _)
            · exact g_vret (pc := 102) X hA (⟨Wf, Wb, Wg, bs, rfl, rfl, (b_bs), (h_Wf), (h_Wb), (h_Wg)⟩) (by decide) (by decide) dX12_shares_102
        · refine g_aload_n (pc := 26) X 2 rfl dX12_shares_26 ?_
          refine g_get (pc := 27) X inlX12 0 rfl rfl 13 (by decide) mw_8_1 rfl dX12_shares_27 ?_
          refine g_iload_n (pc := 30) X 3 rfl dX12_shares_30 ?_
          refine g_ialdI (pc := 31) X 1 rfl (b_rm.1) (Int.lt_of_le_of_lt b_rm.2 (by decide)) (Int.le_trans b_rm.2 (by decide)) dX12_shares_31 ?_
          refine g_nameI (fun y28 ey28 => ?_)
          have by28 : 0 ≤ y28 ∧ y28 ≤ 8 := by rw [ey28]; exact h_Mw _ (by (first | (clear b_nr b_tm b_at_ b_to_ b_fa b_va b_np b_tn b_pc_ b_st_ b_pa_ b_ta b_ow b_of_ b_ot b_rl b_hb b_bs b_se; omega) | omega))
          have ty28 : 1 ≤ y28 ∧ y28 ≤ 8 := by rw [ey28]; exact hwn
          refine g_iconst (pc := 32) X (iI 1) (by rfl) dX12_shares_32 ?_
          refine g_icmp_leI (pc := 33) X 86 (by decide) (inRb by28 (by decide) (by decide)) ⟨by decide, by decide⟩ dX12_shares_33 (fun c33 => ?_) (fun c33 => ?_)
          · refine g_aload_n (pc := 86) X 2 rfl dX12_shares_86 ?_
            refine g_get (pc := 87) X inlX12 0 rfl rfl 65 (by decide) mw_49_21 rfl dX12_shares_87 ?_
            refine g_iconst (pc := 90) X (iI (-1)) (by rfl) dX12_shares_90 ?_
            refine g_icmp_eqI (pc := 91) X 103 (by decide) b_bs ⟨by decide, by decide⟩ dX12_shares_91 (fun c91 => ?_) (fun c91 => ?_)
            · refine g_aload_n (pc := 103) X 2 rfl dX12_shares_103 ?_
              refine g_iload_n (pc := 104) X 1 rfl dX12_shares_104 ?_
              refine g_put (pc := 105) X inlX12 tyX12_ok nmX12 0 rfl rfl 65 (by decide) mw_49_21 rfl rfl rfl (Nat.le_of_ble_eq_true rfl) (ws' := [(g0, .inr (12, mO gA nr tm at_ to_ fa va np tn pc_ st_ pa_ ta ow of_ ot rl hb n1 se)), cA Z (gA 13) 0 7 Mw, cA Z (gA 14) 0 7 Mo, cR Z (gA 0) 6 7 (gG 0), cR Z (gA 4) 6 7 (gG 4), cR Z (gA 5) 6 7 (gG 5), cR Z (gA 6) 6 7 (gG 6), cR Z (gA 9) 6 7 (gG 9), cA Z (xA 0) 0 8 Ml, cA Z (xA 4) 0 8 Mow, cA Z (xA 5) 0 8 Mof, cA Z (xA 6) 0 8 Mot, cA Z (xA 9) 0 8 Md, cA Z (gA 58) 0 4 Bp, cA Z (gA 59) 0 4 Br, cA Z (gA 60) 0 8 Wo, cA Z (gA 61) 0 8 Wf, cA Z (gA 62) 0 8 Wb, cA Z (gA 63) 0 4 Wg]) rfl dX12_shares_105 ?_
              refine g_iconst (pc := 108) X (iI 0) (by rfl) dX12_shares_108 ?_
              refine g_istore (pc := 109) X (by decide) (lv' := [(4, .int (iI 0)), (3, .int (iI n1)), (0, .ref g0), (1, .int (iI rm)), (2, .int (iI w))]) rfl dX12_shares_109 ?_
              have loop111 : ∀ (fuel : Nat) (k2 : Int) (Wb1 : Nat → Int), (0 ≤ k2 ∧ k2 ≤ 8) → (∀ j, j < 8 → (-2147483648) ≤ Wb1 j ∧ Wb1 j ≤ 2147483647) → (9 - k2).toNat < fuel → Gs p l e ({ frames := 8, cells := 0, slots := 0, locals := 192 } : Room) s m args below meth c (MQ below (gPost Z [(g0, .inr (12, mO gA nr tm at_ to_ fa va np tn pc_ st_ pa_ ta ow of_ ot rl hb bs se)), cA Z (gA 13) 0 7 Mw, cA Z (gA 14) 0 7 Mo, cR Z (gA 0) 6 7 (gG 0), cR Z (gA 4) 6 7 (gG 4), cR Z (gA 5) 6 7 (gG 5), cR Z (gA 6) 6 7 (gG 6), cR Z (gA 9) 6 7 (gG 9), cA Z (xA 0) 0 8 Ml, cA Z (xA 4) 0 8 Mow, cA Z (xA 5) 0 8 Mof, cA Z (xA 6) 0 8 Mot, cA Z (xA 9) 0 8 Md, cA Z (gA 58) 0 4 Bp, cA Z (gA 59) 0 4 Br, cA Z (gA 60) 0 8 Wo, cA Z (gA 61) 0 8 Wf, cA Z (gA 62) 0 8 Wb, cA Z (gA 63) 0 4 Wg] s.heap.size (fun r w' => ∃ (Wf2 : Nat → Int) (Wb2 : Nat → Int) (Wg2 : Nat → Int) (bs2 : Int), (r = none) ∧ (w' = [(g0, .inr (12, mO gA nr tm at_ to_ fa va np tn pc_ st_ pa_ ta ow of_ ot rl hb bs2 se)), cA Z (gA 13) 0 7 Mw, cA Z (gA 14) 0 7 Mo, cR Z (gA 0) 6 7 (gG 0), cR Z (gA 4) 6 7 (gG 4), cR Z (gA 5) 6 7 (gG 5), cR Z (gA 6) 6 7 (gG 6), cR Z (gA 9) 6 7 (gG 9), cA Z (xA 0) 0 8 Ml, cA Z (xA 4) 0 8 Mow, cA Z (xA 5) 0 8 Mof, cA Z (xA 6) 0 8 Mot, cA Z (xA 9) 0 8 Md, cA Z (gA 58) 0 4 Bp, cA Z (gA 59) 0 4 Br, cA Z (gA 60) 0 8 Wo, cA Z (gA 61) 0 8 Wf2, cA Z (gA 62) 0 8 Wb2, cA Z (gA 63) 0 4 Wg2]) ∧ ((-2147483648) ≤ bs2 ∧ bs2 ≤ 2147483647) ∧ (∀ j, j < 8 → (-2147483648) ≤ Wf2 j ∧ Wf2 j ≤ 2147483647) ∧ (∀ j, j < 8 → (-2147483648) ≤ Wb2 j ∧ Wb2 j ≤ 2147483647) ∧ (∀ j, j < 4 → (-2147483648) ≤ Wg2 j ∧ Wg2 j ≤ 2147483647))) args s 0 0 (va_A [(g0, .inr (12, mO gA nr tm at_ to_ fa va np tn pc_ st_ pa_ ta ow of_ ot rl hb bs se)), cA Z (gA 13) 0 7 Mw, cA Z (gA 14) 0 7 Mo, cR Z (gA 0) 6 7 (gG 0), cR Z (gA 4) 6 7 (gG 4), cR Z (gA 5) 6 7 (gG 5), cR Z (gA 6) 6 7 (gG 6), cR Z (gA 9) 6 7 (gG 9), cA Z (xA 0) 0 8 Ml, cA Z (xA 4) 0 8 Mow, cA Z (xA 5) 0 8 Mof, cA Z (xA 6) 0 8 Mot, cA Z (xA 9) 0 8 Md, cA Z (gA 58) 0 4 Bp, cA Z (gA 59) 0 4 Br, cA Z (gA 60) 0 8 Wo, cA Z (gA 61) 0 8 Wf, cA Z (gA 62) 0 8 Wb, cA Z (gA 63) 0 4 Wg] s.heap.size)) Z A 5 0 0 111 [(4, .int (iI k2)), (3, .int (iI n1)), (0, .ref g0), (1, .int (iI rm)), (2, .int (iI w))] [] [(g0, .inr (12, mO gA nr tm at_ to_ fa va np tn pc_ st_ pa_ ta ow of_ ot rl hb n1 se)), cA Z (gA 13) 0 7 Mw, cA Z (gA 14) 0 7 Mo, cR Z (gA 0) 6 7 (gG 0), cR Z (gA 4) 6 7 (gG 4), cR Z (gA 5) 6 7 (gG 5), cR Z (gA 6) 6 7 (gG 6), cR Z (gA 9) 6 7 (gG 9), cA Z (xA 0) 0 8 Ml, cA Z (xA 4) 0 8 Mow, cA Z (xA 5) 0 8 Mof, cA Z (xA 6) 0 8 Mot, cA Z (xA 9) 0 8 Md, cA Z (gA 58) 0 4 Bp, cA Z (gA 59) 0 4 Br, cA Z (gA 60) 0 8 Wo, cA Z (gA 61) 0 8 Wf, cA Z (gA 62) 0 8 Wb1, cA Z (gA 63) 0 4 Wg] := by
                intro fuel
                induction fuel with
                | zero => intro k2 Wb1 _ _ hm; exact absurd hm (Nat.not_lt_zero _)
                | succ fuel ih =>
                  intro k2 Wb1 b_k2 h_Wb1 hm
                  refine g_iload (pc := 111) X 0 rfl dX12_shares_111 ?_
                  refine g_aload_n (pc := 113) X 2 rfl dX12_shares_113 ?_
                  refine g_get (pc := 114) X inlX12 0 rfl rfl 13 (by decide) mw_8_1 rfl dX12_shares_114 ?_
                  refine g_iload_n (pc := 117) X 3 rfl dX12_shares_117 ?_
                  refine g_ialdI (pc := 118) X 1 rfl (b_rm.1) (Int.lt_of_le_of_lt b_rm.2 (by decide)) (Int.le_trans b_rm.2 (by decide)) dX12_shares_118 ?_
                  refine g_nameI (fun y29 ey29 => ?_)
                  have by29 : 0 ≤ y29 ∧ y29 ≤ 8 := by rw [ey29]; exact h_Mw _ (by (first | (clear b_nr b_tm b_at_ b_to_ b_fa b_va b_np b_tn b_pc_ b_st_ b_pa_ b_ta b_ow b_of_ b_ot b_rl b_hb b_bs b_se; omega) | omega))
                  have ty29 : 1 ≤ y29 ∧ y29 ≤ 8 := by rw [ey29]; exact hwn
                  refine g_icmp_geI (pc := 119) X 142 (by decide) (inRb b_k2 (by decide) (by decide)) (inRb by29 (by decide) (by decide)) dX12_shares_119 (fun c119 => ?_) (fun c119 => ?_)
                  · exact g_vret (pc := 142) X hA (⟨Wf, Wb1, Wg, n1, rfl, rfl, (b_n1), (h_Wf), (h_Wb1), (h_Wg)⟩) (by decide) (by decide) dX12_shares_142
                  · refine g_aload_n (pc := 122) X 2 rfl dX12_shares_122 ?_
                    refine g_get (pc := 123) X inlX12 0 rfl rfl 62 (by decide) mw_9_13 rfl dX12_shares_123 ?_
                    refine g_iload (pc := 126) X 0 rfl dX12_shares_126 ?_
                    refine g_aload_n (pc := 128) X 2 rfl dX12_shares_128 ?_
                    refine g_get (pc := 129) X inlX12 0 rfl rfl 61 (by decide) mw_9_12 rfl dX12_shares_129 ?_
                    refine g_iload (pc := 132) X 0 rfl dX12_shares_132 ?_
                    refine g_ialdI (pc := 134) X 16 rfl (b_k2.1) (by (first | (clear b_nr b_tm b_at_ b_to_ b_fa b_va b_np b_tn b_pc_ b_st_ b_pa_ b_ta b_ow b_of_ b_ot b_rl b_hb b_bs b_se; omega) | omega)) (Int.le_trans b_k2.2 (by decide)) dX12_shares_134 ?_
                    refine g_nameI (fun y30 ey30 => ?_)
                    have by30 : (-2147483648) ≤ y30 ∧ y30 ≤ 2147483647 := by rw [ey30]; exact h_Wf _ (by (first | (clear b_nr b_tm b_at_ b_to_ b_fa b_va b_np b_tn b_pc_ b_st_ b_pa_ b_ta b_ow b_of_ b_ot b_rl b_hb b_bs b_se; omega) | omega))
                    refine g_iastG (pc := 135) X 17 rfl (b_k2.1) (by (first | (clear b_nr b_tm b_at_ b_to_ b_fa b_va b_np b_tn b_pc_ b_st_ b_pa_ b_ta b_ow b_of_ b_ot b_rl b_hb b_bs b_se; omega) | omega)) (Int.le_trans b_k2.2 (by decide)) (ws' := fun F31 => [(g0, .inr (12, mO gA nr tm at_ to_ fa va np tn pc_ st_ pa_ ta ow of_ ot rl hb n1 se)), cA Z (gA 13) 0 7 Mw, cA Z (gA 14) 0 7 Mo, cR Z (gA 0) 6 7 (gG 0), cR Z (gA 4) 6 7 (gG 4), cR Z (gA 5) 6 7 (gG 5), cR Z (gA 6) 6 7 (gG 6), cR Z (gA 9) 6 7 (gG 9), cA Z (xA 0) 0 8 Ml, cA Z (xA 4) 0 8 Mow, cA Z (xA 5) 0 8 Mof, cA Z (xA 6) 0 8 Mot, cA Z (xA 9) 0 8 Md, cA Z (gA 58) 0 4 Bp, cA Z (gA 59) 0 4 Br, cA Z (gA 60) 0 8 Wo, cA Z (gA 61) 0 8 Wf, cA Z (gA 62) 0 8 F31, cA Z (gA 63) 0 4 Wg]) (fun _ => rfl) dX12_shares_135 (fun F31 eF31 => ?_)
                    have hF31 : ∀ j, j < 8 → (-2147483648) ≤ F31 j ∧ F31 j ≤ 2147483647 := by rw [eF31]; exact updI_B h_Wb1 (by (first | (clear b_nr b_tm b_at_ b_to_ b_fa b_va b_np b_tn b_pc_ b_st_ b_pa_ b_ta b_ow b_of_ b_ot b_rl b_hb b_bs b_se; omega) | omega))
                    refine g_iincI (pc := 136) X 0 rfl (by decide) (lv' := [(4, .int (iI (k2 + 1))), (3, .int (iI n1)), (0, .ref g0), (1, .int (iI rm)), (2, .int (iI w))]) rfl dX12_shares_136 ?_
                    refine g_goto (pc := 139) X 111 (by decide) dX12_shares_139 ?_
                    exact ih (k2 + 1) F31 (by (first | (clear b_nr b_tm b_at_ b_to_ b_fa b_va b_np b_tn b_pc_ b_st_ b_pa_ b_ta b_ow b_of_ b_ot b_rl b_hb b_bs b_se; omega) | omega)) (hF31) (by (first | (clear b_nr b_tm b_at_ b_to_ b_fa b_va b_np b_tn b_pc_ b_st_ b_pa_ b_ta b_ow b_of_ b_ot b_rl b_hb b_bs b_se; omega) | omega))
              exact loop111 _ 0 Wb (by (first | (clear b_nr b_tm b_at_ b_to_ b_fa b_va b_np b_tn b_pc_ b_st_ b_pa_ b_ta b_ow b_of_ b_ot b_rl b_hb b_bs b_se; omega) | omega)) (h_Wb) (Nat.lt_succ_self _)
            · refine g_iload_n (pc := 94) X 1 rfl dX12_shares_94 ?_
              refine g_aload_n (pc := 95) X 2 rfl dX12_shares_95 ?_
              refine g_get (pc := 96) X inlX12 0 rfl rfl 65 (by decide) mw_49_21 rfl dX12_shares_96 ?_
              refine g_icmp_ltI (pc := 99) X 103 (by decide) b_n1 b_bs dX12_shares_99 (fun c99 => ?_) (fun c99 => ?_)
              · refine g_aload_n (pc := 103) X 2 rfl dX12_shares_103 ?_
                refine g_iload_n (pc := 104) X 1 rfl dX12_shares_104 ?_
                refine g_put (pc := 105) X inlX12 tyX12_ok nmX12 0 rfl rfl 65 (by decide) mw_49_21 rfl rfl rfl (Nat.le_of_ble_eq_true rfl) (ws' := [(g0, .inr (12, mO gA nr tm at_ to_ fa va np tn pc_ st_ pa_ ta ow of_ ot rl hb n1 se)), cA Z (gA 13) 0 7 Mw, cA Z (gA 14) 0 7 Mo, cR Z (gA 0) 6 7 (gG 0), cR Z (gA 4) 6 7 (gG 4), cR Z (gA 5) 6 7 (gG 5), cR Z (gA 6) 6 7 (gG 6), cR Z (gA 9) 6 7 (gG 9), cA Z (xA 0) 0 8 Ml, cA Z (xA 4) 0 8 Mow, cA Z (xA 5) 0 8 Mof, cA Z (xA 6) 0 8 Mot, cA Z (xA 9) 0 8 Md, cA Z (gA 58) 0 4 Bp, cA Z (gA 59) 0 4 Br, cA Z (gA 60) 0 8 Wo, cA Z (gA 61) 0 8 Wf, cA Z (gA 62) 0 8 Wb, cA Z (gA 63) 0 4 Wg]) rfl dX12_shares_105 ?_
                refine g_iconst (pc := 108) X (iI 0) (by rfl) dX12_shares_108 ?_
                refine g_istore (pc := 109) X (by decide) (lv' := [(4, .int (iI 0)), (3, .int (iI n1)), (0, .ref g0), (1, .int (iI rm)), (2, .int (iI w))]) rfl dX12_shares_109 ?_
                have loop111 : ∀ (fuel : Nat) (k2 : Int) (Wb1 : Nat → Int), (0 ≤ k2 ∧ k2 ≤ 8) → (∀ j, j < 8 → (-2147483648) ≤ Wb1 j ∧ Wb1 j ≤ 2147483647) → (9 - k2).toNat < fuel → Gs p l e ({ frames := 8, cells := 0, slots := 0, locals := 192 } : Room) s m args below meth c (MQ below (gPost Z [(g0, .inr (12, mO gA nr tm at_ to_ fa va np tn pc_ st_ pa_ ta ow of_ ot rl hb bs se)), cA Z (gA 13) 0 7 Mw, cA Z (gA 14) 0 7 Mo, cR Z (gA 0) 6 7 (gG 0), cR Z (gA 4) 6 7 (gG 4), cR Z (gA 5) 6 7 (gG 5), cR Z (gA 6) 6 7 (gG 6), cR Z (gA 9) 6 7 (gG 9), cA Z (xA 0) 0 8 Ml, cA Z (xA 4) 0 8 Mow, cA Z (xA 5) 0 8 Mof, cA Z (xA 6) 0 8 Mot, cA Z (xA 9) 0 8 Md, cA Z (gA 58) 0 4 Bp, cA Z (gA 59) 0 4 Br, cA Z (gA 60) 0 8 Wo, cA Z (gA 61) 0 8 Wf, cA Z (gA 62) 0 8 Wb, cA Z (gA 63) 0 4 Wg] s.heap.size (fun r w' => ∃ (Wf2 : Nat → Int) (Wb2 : Nat → Int) (Wg2 : Nat → Int) (bs2 : Int), (r = none) ∧ (w' = [(g0, .inr (12, mO gA nr tm at_ to_ fa va np tn pc_ st_ pa_ ta ow of_ ot rl hb bs2 se)), cA Z (gA 13) 0 7 Mw, cA Z (gA 14) 0 7 Mo, cR Z (gA 0) 6 7 (gG 0), cR Z (gA 4) 6 7 (gG 4), cR Z (gA 5) 6 7 (gG 5), cR Z (gA 6) 6 7 (gG 6), cR Z (gA 9) 6 7 (gG 9), cA Z (xA 0) 0 8 Ml, cA Z (xA 4) 0 8 Mow, cA Z (xA 5) 0 8 Mof, cA Z (xA 6) 0 8 Mot, cA Z (xA 9) 0 8 Md, cA Z (gA 58) 0 4 Bp, cA Z (gA 59) 0 4 Br, cA Z (gA 60) 0 8 Wo, cA Z (gA 61) 0 8 Wf2, cA Z (gA 62) 0 8 Wb2, cA Z (gA 63) 0 4 Wg2]) ∧ ((-2147483648) ≤ bs2 ∧ bs2 ≤ 2147483647) ∧ (∀ j, j < 8 → (-2147483648) ≤ Wf2 j ∧ Wf2 j ≤ 2147483647) ∧ (∀ j, j < 8 → (-2147483648) ≤ Wb2 j ∧ Wb2 j ≤ 2147483647) ∧ (∀ j, j < 4 → (-2147483648) ≤ Wg2 j ∧ Wg2 j ≤ 2147483647))) args s 0 0 (va_A [(g0, .inr (12, mO gA nr tm at_ to_ fa va np tn pc_ st_ pa_ ta ow of_ ot rl hb bs se)), cA Z (gA 13) 0 7 Mw, cA Z (gA 14) 0 7 Mo, cR Z (gA 0) 6 7 (gG 0), cR Z (gA 4) 6 7 (gG 4), cR Z (gA 5) 6 7 (gG 5), cR Z (gA 6) 6 7 (gG 6), cR Z (gA 9) 6 7 (gG 9), cA Z (xA 0) 0 8 Ml, cA Z (xA 4) 0 8 Mow, cA Z (xA 5) 0 8 Mof, cA Z (xA 6) 0 8 Mot, cA Z (xA 9) 0 8 Md, cA Z (gA 58) 0 4 Bp, cA Z (gA 59) 0 4 Br, cA Z (gA 60) 0 8 Wo, cA Z (gA 61) 0 8 Wf, cA Z (gA 62) 0 8 Wb, cA Z (gA 63) 0 4 Wg] s.heap.size)) Z A 5 0 0 111 [(4, .int (iI k2)), (3, .int (iI n1)), (0, .ref g0), (1, .int (iI rm)), (2, .int (iI w))] [] [(g0, .inr (12, mO gA nr tm at_ to_ fa va np tn pc_ st_ pa_ ta ow of_ ot rl hb n1 se)), cA Z (gA 13) 0 7 Mw, cA Z (gA 14) 0 7 Mo, cR Z (gA 0) 6 7 (gG 0), cR Z (gA 4) 6 7 (gG 4), cR Z (gA 5) 6 7 (gG 5), cR Z (gA 6) 6 7 (gG 6), cR Z (gA 9) 6 7 (gG 9), cA Z (xA 0) 0 8 Ml, cA Z (xA 4) 0 8 Mow, cA Z (xA 5) 0 8 Mof, cA Z (xA 6) 0 8 Mot, cA Z (xA 9) 0 8 Md, cA Z (gA 58) 0 4 Bp, cA Z (gA 59) 0 4 Br, cA Z (gA 60) 0 8 Wo, cA Z (gA 61) 0 8 Wf, cA Z (gA 62) 0 8 Wb1, cA Z (gA 63) 0 4 Wg] := by
                  intro fuel
                  induction fuel with
                  | zero => intro k2 Wb1 _ _ hm; exact absurd hm (Nat.not_lt_zero _)
                  | succ fuel ih =>
                    intro k2 Wb1 b_k2 h_Wb1 hm
                    refine g_iload (pc := 111) X 0 rfl dX12_shares_111 ?_
                    refine g_aload_n (pc := 113) X 2 rfl dX12_shares_113 ?_
                    refine g_get (pc := 114) X inlX12 0 rfl rfl 13 (by decide) mw_8_1 rfl dX12_shares_114 ?_
                    refine g_iload_n (pc := 117) X 3 rfl dX12_shares_117 ?_
                    refine g_ialdI (pc := 118) X 1 rfl (b_rm.1) (Int.lt_of_le_of_lt b_rm.2 (by decide)) (Int.le_trans b_rm.2 (by decide)) dX12_shares_118 ?_
                    refine g_nameI (fun y32 ey32 => ?_)
                    have by32 : 0 ≤ y32 ∧ y32 ≤ 8 := by rw [ey32]; exact h_Mw _ (by (first | (clear b_nr b_tm b_at_ b_to_ b_fa b_va b_np b_tn b_pc_ b_st_ b_pa_ b_ta b_ow b_of_ b_ot b_rl b_hb b_bs b_se; omega) | omega))
                    have ty32 : 1 ≤ y32 ∧ y32 ≤ 8 := by rw [ey32]; exact hwn
                    refine g_icmp_geI (pc := 119) X 142 (by decide) (inRb b_k2 (by decide) (by decide)) (inRb by32 (by decide) (by decide)) dX12_shares_119 (fun c119 => ?_) (fun c119 => ?_)
                    · exact g_vret (pc := 142) X hA (⟨Wf, Wb1, Wg, n1, rfl, rfl, (b_n1), (h_Wf), (h_Wb1), (h_Wg)⟩) (by decide) (by decide) dX12_shares_142
                    · refine g_aload_n (pc := 122) X 2 rfl dX12_shares_122 ?_
                      refine g_get (pc := 123) X inlX12 0 rfl rfl 62 (by decide) mw_9_13 rfl dX12_shares_123 ?_
                      refine g_iload (pc := 126) X 0 rfl dX12_shares_126 ?_
                      refine g_aload_n (pc := 128) X 2 rfl dX12_shares_128 ?_
                      refine g_get (pc := 129) X inlX12 0 rfl rfl 61 (by decide) mw_9_12 rfl dX12_shares_129 ?_
                      refine g_iload (pc := 132) X 0 rfl dX12_shares_132 ?_
                      refine g_ialdI (pc := 134) X 16 rfl (b_k2.1) (by (first | (clear b_nr b_tm b_at_ b_to_ b_fa b_va b_np b_tn b_pc_ b_st_ b_pa_ b_ta b_ow b_of_ b_ot b_rl b_hb b_bs b_se; omega) | omega)) (Int.le_trans b_k2.2 (by decide)) dX12_shares_134 ?_
                      refine g_nameI (fun y33 ey33 => ?_)
                      have by33 : (-2147483648) ≤ y33 ∧ y33 ≤ 2147483647 := by rw [ey33]; exact h_Wf _ (by (first | (clear b_nr b_tm b_at_ b_to_ b_fa b_va b_np b_tn b_pc_ b_st_ b_pa_ b_ta b_ow b_of_ b_ot b_rl b_hb b_bs b_se; omega) | omega))
                      refine g_iastG (pc := 135) X 17 rfl (b_k2.1) (by (first | (clear b_nr b_tm b_at_ b_to_ b_fa b_va b_np b_tn b_pc_ b_st_ b_pa_ b_ta b_ow b_of_ b_ot b_rl b_hb b_bs b_se; omega) | omega)) (Int.le_trans b_k2.2 (by decide)) (ws' := fun F34 => [(g0, .inr (12, mO gA nr tm at_ to_ fa va np tn pc_ st_ pa_ ta ow of_ ot rl hb n1 se)), cA Z (gA 13) 0 7 Mw, cA Z (gA 14) 0 7 Mo, cR Z (gA 0) 6 7 (gG 0), cR Z (gA 4) 6 7 (gG 4), cR Z (gA 5) 6 7 (gG 5), cR Z (gA 6) 6 7 (gG 6), cR Z (gA 9) 6 7 (gG 9), cA Z (xA 0) 0 8 Ml, cA Z (xA 4) 0 8 Mow, cA Z (xA 5) 0 8 Mof, cA Z (xA 6) 0 8 Mot, cA Z (xA 9) 0 8 Md, cA Z (gA 58) 0 4 Bp, cA Z (gA 59) 0 4 Br, cA Z (gA 60) 0 8 Wo, cA Z (gA 61) 0 8 Wf, cA Z (gA 62) 0 8 F34, cA Z (gA 63) 0 4 Wg]) (fun _ => rfl) dX12_shares_135 (fun F34 eF34 => ?_)
                      have hF34 : ∀ j, j < 8 → (-2147483648) ≤ F34 j ∧ F34 j ≤ 2147483647 := by rw [eF34]; exact updI_B h_Wb1 (by (first | (clear b_nr b_tm b_at_ b_to_ b_fa b_va b_np b_tn b_pc_ b_st_ b_pa_ b_ta b_ow b_of_ b_ot b_rl b_hb b_bs b_se; omega) | omega))
                      refine g_iincI (pc := 136) X 0 rfl (by decide) (lv' := [(4, .int (iI (k2 + 1))), (3, .int (iI n1)), (0, .ref g0), (1, .int (iI rm)), (2, .int (iI w))]) rfl dX12_shares_136 ?_
                      refine g_goto (pc := 139) X 111 (by decide) dX12_shares_139 ?_
                      exact ih (k2 + 1) F34 (by (first | (clear b_nr b_tm b_at_ b_to_ b_fa b_va b_np b_tn b_pc_ b_st_ b_pa_ b_ta b_ow b_of_ b_ot b_rl b_hb b_bs b_se; omega) | omega)) (hF34) (by (first | (clear b_nr b_tm b_at_ b_to_ b_fa b_va b_np b_tn b_pc_ b_st_ b_pa_ b_ta b_ow b_of_ b_ot b_rl b_hb b_bs b_se; omega) | omega))
                exact loop111 _ 0 Wb (by (first | (clear b_nr b_tm b_at_ b_to_ b_fa b_va b_np b_tn b_pc_ b_st_ b_pa_ b_ta b_ow b_of_ b_ot b_rl b_hb b_bs b_se; omega) | omega)) (h_Wb) (Nat.lt_succ_self _)
              · exact g_vret (pc := 102) X hA (⟨Wf, Wb, Wg, bs, rfl, rfl, (b_bs), (h_Wf), (h_Wb), (h_Wg)⟩) (by decide) (by decide) dX12_shares_102
          · refine g_iload_n (pc := 36) X 1 rfl dX12_shares_36 ?_
            refine g_aload_n (pc := 37) X 2 rfl dX12_shares_37 ?_
            refine g_get (pc := 38) X inlX12 0 rfl rfl 61 (by decide) mw_9_12 rfl dX12_shares_38 ?_
            refine g_iload (pc := 41) X 0 rfl dX12_shares_41 ?_
            refine g_ialdI (pc := 43) X 16 rfl (b_k1.1) (by (first | (clear b_nr b_tm b_at_ b_to_ b_fa b_va b_np b_tn b_pc_ b_st_ b_pa_ b_ta b_ow b_of_ b_ot b_rl b_hb b_bs b_se; omega) | omega)) (Int.le_trans b_k1.2 (by decide)) dX12_shares_43 ?_
            refine g_nameI (fun y35 ey35 => ?_)
            have by35 : (-2147483648) ≤ y35 ∧ y35 ≤ 2147483647 := by rw [ey35]; exact h_Wf _ (by (first | (clear b_nr b_tm b_at_ b_to_ b_fa b_va b_np b_tn b_pc_ b_st_ b_pa_ b_ta b_ow b_of_ b_ot b_rl b_hb b_bs b_se; omega) | omega))
            refine g_aload_n (pc := 44) X 2 rfl dX12_shares_44 ?_
            refine g_get (pc := 45) X inlX12 0 rfl rfl 61 (by decide) mw_9_12 rfl dX12_shares_45 ?_
            refine g_iload (pc := 48) X 0 rfl dX12_shares_48 ?_
            refine g_iconst (pc := 50) X (iI 1) (by rfl) dX12_shares_50 ?_
            refine g_iaddI (pc := 51) X dX12_shares_51 ?_
            refine g_aload_n (pc := 52) X 2 rfl dX12_shares_52 ?_
            refine g_get (pc := 53) X inlX12 0 rfl rfl 13 (by decide) mw_8_1 rfl dX12_shares_53 ?_
            refine g_iload_n (pc := 56) X 3 rfl dX12_shares_56 ?_
            refine g_ialdI (pc := 57) X 1 rfl (b_rm.1) (Int.lt_of_le_of_lt b_rm.2 (by decide)) (Int.le_trans b_rm.2 (by decide)) dX12_shares_57 ?_
            refine g_nameI (fun y36 ey36 => ?_)
            have by36 : 0 ≤ y36 ∧ y36 ≤ 8 := by rw [ey36]; exact h_Mw _ (by (first | (clear b_nr b_tm b_at_ b_to_ b_fa b_va b_np b_tn b_pc_ b_st_ b_pa_ b_ta b_ow b_of_ b_ot b_rl b_hb b_bs b_se; omega) | omega))
            have ty36 : 1 ≤ y36 ∧ y36 ≤ 8 := by rw [ey36]; exact hwn
            refine g_iremP (pc := 58) X (by (first | (clear b_nr b_tm b_at_ b_to_ b_fa b_va b_np b_tn b_pc_ b_st_ b_pa_ b_ta b_ow b_of_ b_ot b_rl b_hb b_bs b_se; omega) | omega)) (by (first | (clear b_nr b_tm b_at_ b_to_ b_fa b_va b_np b_tn b_pc_ b_st_ b_pa_ b_ta b_ow b_of_ b_ot b_rl b_hb b_bs b_se; omega) | omega)) (by (first | (clear b_nr b_tm b_at_ b_to_ b_fa b_va b_np b_tn b_pc_ b_st_ b_pa_ b_ta b_ow b_of_ b_ot b_rl b_hb b_bs b_se; omega) | omega)) (by (first | (clear b_nr b_tm b_at_ b_to_ b_fa b_va b_np b_tn b_pc_ b_st_ b_pa_ b_ta b_ow b_of_ b_ot b_rl b_hb b_bs b_se; omega) | omega)) dX12_shares_58 ?_
            refine g_nameI (fun y37 ey37 => ?_)
            have by37 : 0 ≤ y37 ∧ y37 ≤ 7 := by rw [ey37]; exact modB (by (first | (clear b_nr b_tm b_at_ b_to_ b_fa b_va b_np b_tn b_pc_ b_st_ b_pa_ b_ta b_ow b_of_ b_ot b_rl b_hb b_bs b_se; omega) | omega)) (by (first | (clear b_nr b_tm b_at_ b_to_ b_fa b_va b_np b_tn b_pc_ b_st_ b_pa_ b_ta b_ow b_of_ b_ot b_rl b_hb b_bs b_se; omega) | omega)) (by (first | (clear b_nr b_tm b_at_ b_to_ b_fa b_va b_np b_tn b_pc_ b_st_ b_pa_ b_ta b_ow b_of_ b_ot b_rl b_hb b_bs b_se; omega) | omega))
            have cy37 : y37 < y36 := by rw [ey37]; exact Int.emod_lt_of_pos _ (by (first | (clear b_nr b_tm b_at_ b_to_ b_fa b_va b_np b_tn b_pc_ b_st_ b_pa_ b_ta b_ow b_of_ b_ot b_rl b_hb b_bs b_se; omega) | omega))
            refine g_ialdI (pc := 59) X 16 rfl (by (first | (clear b_nr b_tm b_at_ b_to_ b_fa b_va b_np b_tn b_pc_ b_st_ b_pa_ b_ta b_ow b_of_ b_ot b_rl b_hb b_bs b_se; omega) | omega)) (by (first | (clear b_nr b_tm b_at_ b_to_ b_fa b_va b_np b_tn b_pc_ b_st_ b_pa_ b_ta b_ow b_of_ b_ot b_rl b_hb b_bs b_se; omega) | omega)) (by (first | (clear b_nr b_tm b_at_ b_to_ b_fa b_va b_np b_tn b_pc_ b_st_ b_pa_ b_ta b_ow b_of_ b_ot b_rl b_hb b_bs b_se; omega) | omega)) dX12_shares_59 ?_
            refine g_nameI (fun y38 ey38 => ?_)
            have by38 : (-2147483648) ≤ y38 ∧ y38 ≤ 2147483647 := by rw [ey38]; exact h_Wf _ (by (first | (clear b_nr b_tm b_at_ b_to_ b_fa b_va b_np b_tn b_pc_ b_st_ b_pa_ b_ta b_ow b_of_ b_ot b_rl b_hb b_bs b_se; omega) | omega))
            refine g_icmp_eqI (pc := 60) X 77 (by decide) by35 by38 dX12_shares_60 (fun c60 => ?_) (fun c60 => ?_)
            · refine g_iconst (pc := 77) X (iI 0) (by rfl) dX12_shares_77 ?_
              refine g_iaddI (pc := 78) X dX12_shares_78 ?_
              refine g_istore_n (pc := 79) X (i := 3) rfl (by decide) (lv' := [(3, .int (iI (n1 + 0))), (4, .int (iI k1)), (0, .ref g0), (1, .int (iI rm)), (2, .int (iI w))]) rfl dX12_shares_79 ?_
              refine g_iincI (pc := 80) X 1 rfl (by decide) (lv' := [(4, .int (iI (k1 + 1))), (3, .int (iI (n1 + 0))), (0, .ref g0), (1, .int (iI rm)), (2, .int (iI w))]) rfl dX12_shares_80 ?_
              refine g_goto (pc := 83) X 15 (by decide) dX12_shares_83 ?_
              exact ih (n1 + 0) (k1 + 1) (by (first | (clear b_nr b_tm b_at_ b_to_ b_fa b_va b_np b_tn b_pc_ b_st_ b_pa_ b_ta b_ow b_of_ b_ot b_rl b_hb b_bs b_se; omega) | omega)) (by (first | (clear b_nr b_tm b_at_ b_to_ b_fa b_va b_np b_tn b_pc_ b_st_ b_pa_ b_ta b_ow b_of_ b_ot b_rl b_hb b_bs b_se; omega) | omega)) (by (first | (clear b_nr b_tm b_at_ b_to_ b_fa b_va b_np b_tn b_pc_ b_st_ b_pa_ b_ta b_ow b_of_ b_ot b_rl b_hb b_bs b_se; omega) | omega))
            · refine g_aload_n (pc := 63) X 2 rfl dX12_shares_63 ?_
              refine g_iload_n (pc := 64) X 3 rfl dX12_shares_64 ?_
              refine g_iload (pc := 65) X 0 rfl dX12_shares_65 ?_
              refine g_callV (pc := 67) X (k_X12_hasDoor l Z g0 gA gG xA Mw Mo Ml Mow Mof Mot Md rm k1 nr tm at_ to_ fa va np tn pc_ st_ pa_ ta ow of_ ot rl hb bs se b_rm (by (first | (clear b_nr b_tm b_at_ b_to_ b_fa b_va b_np b_tn b_pc_ b_st_ b_pa_ b_ta b_ow b_of_ b_ot b_rl b_hb b_bs b_se; omega) | omega)) b_nr b_tm b_at_ b_to_ b_fa b_va b_np b_tn b_pc_ b_st_ b_pa_ b_ta b_ow b_of_ b_ot b_rl b_hb b_bs b_se (hG) (by (first | (clear b_nr b_tm b_at_ b_to_ b_fa b_va b_np b_tn b_pc_ b_st_ b_pa_ b_ta b_ow b_of_ b_ot b_rl b_hb b_bs b_se; omega) | omega)) (h_Mw) (h_Mo) (h_Ml) (h_Mow) (h_Mof) (h_Mot) (h_Md)) iM_X12_hasDoor mw_50_6 mw_50_7 mw_50_8 0 rfl rfl [0, 1, 2, 3, 4, 5, 6, 7, 8, 9, 10, 11, 12] [13, 14, 15, 16, 17, 18] rfl (wr := [cA Z (gA 58) 0 4 Bp, cA Z (gA 59) 0 4 Br, cA Z (gA 60) 0 8 Wo, cA Z (gA 61) 0 8 Wf, cA Z (gA 62) 0 8 Wb, cA Z (gA 63) 0 4 Wg]) rfl (by decide) rfl rfl (Nat.le_of_ble_eq_true rfl) (by decide) dX12_shares_67 (fun r w' hpo => ?_)
              refine exN_1 hpo fun y39 hz => anD_3 hz fun e_r e_w hf67_b_y => ?_; clear hz hpo; subst e_r; subst e_w
              refine g_as (pc' := 70) (lv' := [(4, .int (iI k1)), (3, .int (iI n1)), (0, .ref g0), (1, .int (iI rm)), (2, .int (iI w))]) (st' := [.int (iI y39), .int (iI n1)]) (ws' := [cA Z (gA 58) 0 4 Bp, cA Z (gA 59) 0 4 Br, cA Z (gA 60) 0 8 Wo, cA Z (gA 61) 0 8 Wf, cA Z (gA 62) 0 8 Wb, cA Z (gA 63) 0 4 Wg, (g0, .inr (12, mO gA nr tm at_ to_ fa va np tn pc_ st_ pa_ ta ow of_ ot rl hb bs se)), cA Z (gA 13) 0 7 Mw, cA Z (gA 14) 0 7 Mo, cR Z (gA 0) 6 7 (gG 0), cR Z (gA 4) 6 7 (gG 4), cR Z (gA 5) 6 7 (gG 5), cR Z (gA 6) 6 7 (gG 6), cR Z (gA 9) 6 7 (gG 9), cA Z (xA 0) 0 8 Ml, cA Z (xA 4) 0 8 Mow, cA Z (xA 5) 0 8 Mof, cA Z (xA 6) 0 8 Mot, cA Z (xA 9) 0 8 Md]) rfl rfl rfl rfl ?_
              refine g_if_neI (pc := 70) X 77 (by decide) (inRb hf67_b_y (by decide) (by decide)) dX12_shares_70 (fun c70 => ?_) (fun c70 => ?_)
              · refine g_iconst (pc := 77) X (iI 0) (by rfl) dX12_shares_77 ?_
                refine g_iaddI (pc := 78) X dX12_shares_78 ?_
                refine g_istore_n (pc := 79) X (i := 3) rfl (by decide) (lv' := [(3, .int (iI (n1 + 0))), (4, .int (iI k1)), (0, .ref g0), (1, .int (iI rm)), (2, .int (iI w))]) rfl dX12_shares_79 ?_
                refine g_iincI (pc := 80) X 1 rfl (by decide) (lv' := [(4, .int (iI (k1 + 1))), (3, .int (iI (n1 + 0))), (0, .ref g0), (1, .int (iI rm)), (2, .int (iI w))]) rfl dX12_shares_80 ?_
                refine g_goto (pc := 83) X 15 (by decide) dX12_shares_83 ?_
                refine g_ws (ws' := [(g0, .inr (12, mO gA nr tm at_ to_ fa va np tn pc_ st_ pa_ ta ow of_ ot rl hb bs se)), cA Z (gA 13) 0 7 Mw, cA Z (gA 14) 0 7 Mo, cR Z (gA 0) 6 7 (gG 0), cR Z (gA 4) 6 7 (gG 4), cR Z (gA 5) 6 7 (gG 5), cR Z (gA 6) 6 7 (gG 6), cR Z (gA 9) 6 7 (gG 9), cA Z (xA 0) 0 8 Ml, cA Z (xA 4) 0 8 Mow, cA Z (xA 5) 0 8 Mof, cA Z (xA 6) 0 8 Mot, cA Z (xA 9) 0 8 Md, cA Z (gA 58) 0 4 Bp, cA Z (gA 59) 0 4 Br, cA Z (gA 60) 0 8 Wo, cA Z (gA 61) 0 8 Wf, cA Z (gA 62) 0 8 Wb, cA Z (gA 63) 0 4 Wg]) [6, 7, 8, 9, 10, 11, 12, 13, 14, 15, 16, 17, 18, 0, 1, 2, 3, 4, 5] (by decide) rfl ?_
                exact ih (n1 + 0) (k1 + 1) (by (first | (clear b_nr b_tm b_at_ b_to_ b_fa b_va b_np b_tn b_pc_ b_st_ b_pa_ b_ta b_ow b_of_ b_ot b_rl b_hb b_bs b_se; omega) | omega)) (by (first | (clear b_nr b_tm b_at_ b_to_ b_fa b_va b_np b_tn b_pc_ b_st_ b_pa_ b_ta b_ow b_of_ b_ot b_rl b_hb b_bs b_se; omega) | omega)) (by (first | (clear b_nr b_tm b_at_ b_to_ b_fa b_va b_np b_tn b_pc_ b_st_ b_pa_ b_ta b_ow b_of_ b_ot b_rl b_hb b_bs b_se; omega) | omega))
              · refine g_iconst (pc := 73) X (iI 1) (by rfl) dX12_shares_73 ?_
                refine g_goto (pc := 74) X 78 (by decide) dX12_shares_74 ?_
                refine g_iaddI (pc := 78) X dX12_shares_78 ?_
                refine g_any (fun y41 by41 => ?_)
                refine g_istore_n (pc := 79) X (i := 3) rfl (by decide) (lv' := [(3, .int (iI y41)), (4, .int (iI k1)), (0, .ref g0), (1, .int (iI rm)), (2, .int (iI w))]) rfl dX12_shares_79 ?_
                refine g_iincI (pc := 80) X 1 rfl (by decide) (lv' := [(4, .int (iI (k1 + 1))), (3, .int (iI y41)), (0, .ref g0), (1, .int (iI rm)), (2, .int (iI w))]) rfl dX12_shares_80 ?_
                refine g_goto (pc := 83) X 15 (by decide) dX12_shares_83 ?_
                refine g_ws (ws' := [(g0, .inr (12, mO gA nr tm at_ to_ fa va np tn pc_ st_ pa_ ta ow of_ ot rl hb bs se)), cA Z (gA 13) 0 7 Mw, cA Z (gA 14) 0 7 Mo, cR Z (gA 0) 6 7 (gG 0), cR Z (gA 4) 6 7 (gG 4), cR Z (gA 5) 6 7 (gG 5), cR Z (gA 6) 6 7 (gG 6), cR Z (gA 9) 6 7 (gG 9), cA Z (xA 0) 0 8 Ml, cA Z (xA 4) 0 8 Mow, cA Z (xA 5) 0 8 Mof, cA Z (xA 6) 0 8 Mot, cA Z (xA 9) 0 8 Md, cA Z (gA 58) 0 4 Bp, cA Z (gA 59) 0 4 Br, cA Z (gA 60) 0 8 Wo, cA Z (gA 61) 0 8 Wf, cA Z (gA 62) 0 8 Wb, cA Z (gA 63) 0 4 Wg]) [6, 7, 8, 9, 10, 11, 12, 13, 14, 15, 16, 17, 18, 0, 1, 2, 3, 4, 5] (by decide) rfl ?_
                exact ih y41 (k1 + 1) (by41) (by (first | (clear b_nr b_tm b_at_ b_to_ b_fa b_va b_np b_tn b_pc_ b_st_ b_pa_ b_ta b_ow b_of_ b_ot b_rl b_hb b_bs b_se; omega) | omega)) (by (first | (clear b_nr b_tm b_at_ b_to_ b_fa b_va b_np b_tn b_pc_ b_st_ b_pa_ b_ta b_ow b_of_ b_ot b_rl b_hb b_bs b_se; omega) | omega))
    exact loop15 _ 0 0 (by (first | (clear b_nr b_tm b_at_ b_to_ b_fa b_va b_np b_tn b_pc_ b_st_ b_pa_ b_ta b_ow b_of_ b_ot b_rl b_hb b_bs b_se; omega) | omega)) (by (first | (clear b_nr b_tm b_at_ b_to_ b_fa b_va b_np b_tn b_pc_ b_st_ b_pa_ b_ta b_ow b_of_ b_ot b_rl b_hb b_bs b_se; omega) | omega)) (Nat.lt_succ_self _)

set_option maxHeartbeats 4000000 in
set_option maxRecDepth 100000 in
theorem k_X12_shares8 (l : Launch) (Z : gZ) (g0 : Nat) (gA : Nat → Nat) (gG : Nat → Nat → Option Nat) (xA : Nat → Nat) (Mw : Nat → Int) (Mo : Nat → Int) (Ml : Nat → Int) (Mow : Nat → Int) (Mof : Nat → Int) (Mot : Nat → Int) (Md : Nat → Int) (Bp : Nat → Int) (Br : Nat → Int) (Wo : Nat → Int) (Wf : Nat → Int) (Wb : Nat → Int) (Wg : Nat → Int) (rm : Int) (w : Int) (nr : Int) (tm : Int) (at_ : Int) (to_ : Int) (fa : Int) (va : Int) (np : Int) (tn : Int) (pc_ : Int) (st_ : Int) (pa_ : Int) (ta : Int) (ow : Int) (of_ : Int) (ot : Int) (rl : Int) (hb : Int) (bs : Int) (se : Int) (b_rm : 0 ≤ rm ∧ rm ≤ 5) (b_w : 0 ≤ w ∧ w ≤ 8) (b_nr : 0 ≤ nr ∧ nr ≤ 6) (b_tm : 0 ≤ tm ∧ tm ≤ 400) (b_at_ : 0 ≤ at_ ∧ at_ ≤ 400) (b_to_ : 0 ≤ to_ ∧ to_ ≤ 400) (b_fa : (-1) ≤ fa ∧ fa ≤ 400) (b_va : (-2147483648) ≤ va ∧ va ≤ 2147483647) (b_np : 0 ≤ np ∧ np ≤ 4) (b_tn : 0 ≤ tn ∧ tn ≤ 20) (b_pc_ : 0 ≤ pc_ ∧ pc_ ≤ 480) (b_st_ : 0 ≤ st_ ∧ st_ ≤ 240) (b_pa_ : (-1) ≤ pa_ ∧ pa_ ≤ 3) (b_ta : (-2147483648) ≤ ta ∧ ta ≤ 2147483647) (b_ow : (-2147483648) ≤ ow ∧ ow ≤ 2147483647) (b_of_ : (-2147483648) ≤ of_ ∧ of_ ≤ 2147483647) (b_ot : (-2147483648) ≤ ot ∧ ot ≤ 2147483647) (b_rl : 0 ≤ rl ∧ rl ≤ 2880) (b_hb : 0 ≤ hb ∧ hb ≤ 4) (b_bs : (-2147483648) ≤ bs ∧ bs ≤ 2147483647) (b_se : 0 ≤ se ∧ se ≤ 10) (hG : ∀ k, gG k rm.toNat = some (xA k)) (hwn : 1 ≤ Mw rm.toNat ∧ Mw rm.toNat ≤ 8) (hd : Mw rm.toNat - w ≤ 8) (hw : w ≤ Mw rm.toNat) (h_Mw : ∀ j, j < 7 → 0 ≤ Mw j ∧ Mw j ≤ 8) (h_Mo : ∀ j, j < 7 → 0 ≤ Mo j ∧ Mo j ≤ 8) (h_Ml : ∀ j, j < 8 → 0 ≤ Ml j ∧ Ml j ≤ 600) (h_Mow : ∀ j, j < 8 → 0 ≤ Mow j ∧ Mow j ≤ 7) (h_Mof : ∀ j, j < 8 → 0 ≤ Mof j ∧ Mof j ≤ 600) (h_Mot : ∀ j, j < 8 → 0 ≤ Mot j ∧ Mot j ≤ 600) (h_Md : ∀ j, j < 8 → 0 ≤ Md j ∧ Md j ≤ 1) (h_Bp : ∀ j, j < 4 → (-2147483648) ≤ Bp j ∧ Bp j ≤ 2147483647) (h_Br : ∀ j, j < 4 → (-2147483648) ≤ Br j ∧ Br j ≤ 2147483647) (h_Wo : ∀ j, j < 8 → (-2147483648) ≤ Wo j ∧ Wo j ≤ 2147483647) (h_Wf : ∀ j, j < 8 → (-2147483648) ≤ Wf j ∧ Wf j ≤ 2147483647) (h_Wb : ∀ j, j < 8 → (-2147483648) ≤ Wb j ∧ Wb j ≤ 2147483647) (h_Wg : ∀ j, j < 4 → (-2147483648) ≤ Wg j ∧ Wg j ≤ 2147483647) : Con l Z yX12_shares cX12_shares 5 none 9 216 0 0 [.ref g0, .int (iI rm), .int (iI w)] [(g0, .inr (12, mO gA nr tm at_ to_ fa va np tn pc_ st_ pa_ ta ow of_ ot rl hb bs se)), cA Z (gA 13) 0 7 Mw, cA Z (gA 14) 0 7 Mo, cR Z (gA 0) 6 7 (gG 0), cR Z (gA 4) 6 7 (gG 4), cR Z (gA 5) 6 7 (gG 5), cR Z (gA 6) 6 7 (gG 6), cR Z (gA 9) 6 7 (gG 9), cA Z (xA 0) 0 8 Ml, cA Z (xA 4) 0 8 Mow, cA Z (xA 5) 0 8 Mof, cA Z (xA 6) 0 8 Mot, cA Z (xA 9) 0 8 Md, cA Z (gA 58) 0 4 Bp, cA Z (gA 59) 0 4 Br, cA Z (gA 60) 0 8 Wo, cA Z (gA 61) 0 8 Wf, cA Z (gA 62) 0 8 Wb, cA Z (gA 63) 0 4 Wg] (fun r w' => ∃ (Wf2 : Nat → Int) (Wb2 : Nat → Int) (Wg2 : Nat → Int) (bs2 : Int), (r = none) ∧ (w' = [(g0, .inr (12, mO gA nr tm at_ to_ fa va np tn pc_ st_ pa_ ta ow of_ ot rl hb bs2 se)), cA Z (gA 13) 0 7 Mw, cA Z (gA 14) 0 7 Mo, cR Z (gA 0) 6 7 (gG 0), cR Z (gA 4) 6 7 (gG 4), cR Z (gA 5) 6 7 (gG 5), cR Z (gA 6) 6 7 (gG 6), cR Z (gA 9) 6 7 (gG 9), cA Z (xA 0) 0 8 Ml, cA Z (xA 4) 0 8 Mow, cA Z (xA 5) 0 8 Mof, cA Z (xA 6) 0 8 Mot, cA Z (xA 9) 0 8 Md, cA Z (gA 58) 0 4 Bp, cA Z (gA 59) 0 4 Br, cA Z (gA 60) 0 8 Wo, cA Z (gA 61) 0 8 Wf2, cA Z (gA 62) 0 8 Wb2, cA Z (gA 63) 0 4 Wg2]) ∧ ((-2147483648) ≤ bs2 ∧ bs2 ≤ 2147483647) ∧ (∀ j, j < 8 → (-2147483648) ≤ Wf2 j ∧ Wf2 j ≤ 2147483647) ∧ (∀ j, j < 8 → (-2147483648) ≤ Wb2 j ∧ Wb2 j ≤ 2147483647) ∧ (∀ j, j < 4 → (-2147483648) ≤ Wg2 j ∧ Wg2 j ≤ 2147483647)) := by
  refine enter (by decide) (Nat.le_of_ble_eq_true rfl) ?_
  intro p e s m args below meth c A X hnm hA
  have X : Cx p s m args meth c cX12_shares 5 none RX12 Z A := X
  refine g_as (pc' := 0) (lv' := [(0, .ref g0), (1, .int (iI rm)), (2, .int (iI w))]) (st' := []) (ws' := [(g0, .inr (12, mO gA nr tm at_ to_ fa va np tn pc_ st_ pa_ ta ow of_ ot rl hb bs se)), cA Z (gA 13) 0 7 Mw, cA Z (gA 14) 0 7 Mo, cR Z (gA 0) 6 7 (gG 0), cR Z (gA 4) 6 7 (gG 4), cR Z (gA 5) 6 7 (gG 5), cR Z (gA 6) 6 7 (gG 6), cR Z (gA 9) 6 7 (gG 9), cA Z (xA 0) 0 8 Ml, cA Z (xA 4) 0 8 Mow, cA Z (xA 5) 0 8 Mof, cA Z (xA 6) 0 8 Mot, cA Z (xA 9) 0 8 Md, cA Z (gA 58) 0 4 Bp, cA Z (gA 59) 0 4 Br, cA Z (gA 60) 0 8 Wo, cA Z (gA 61) 0 8 Wf, cA Z (gA 62) 0 8 Wb, cA Z (gA 63) 0 4 Wg]) rfl rfl rfl rfl ?_
  refine g_iload_n (pc := 0) X 2 rfl dX12_shares_0 ?_
  refine g_aload_n (pc := 1) X 0 rfl dX12_shares_1 ?_
  refine g_get (pc := 2) X inlX12 0 rfl rfl 13 (by decide) mw_8_1 rfl dX12_shares_2 ?_
  refine g_iload_n (pc := 5) X 1 rfl dX12_shares_5 ?_
  refine g_ialdI (pc := 6) X 1 rfl (b_rm.1) (Int.lt_of_le_of_lt b_rm.2 (by decide)) (Int.le_trans b_rm.2 (by decide)) dX12_shares_6 ?_
  refine g_nameI (fun y1 ey1 => ?_)
  have by1 : 0 ≤ y1 ∧ y1 ≤ 8 := by rw [ey1]; exact h_Mw _ (by (first | (clear b_nr b_tm b_at_ b_to_ b_fa b_va b_np b_tn b_pc_ b_st_ b_pa_ b_ta b_ow b_of_ b_ot b_rl b_hb b_bs b_se; omega) | omega))
  have ty1 : 1 ≤ y1 ∧ y1 ≤ 8 := by rw [ey1]; exact hwn
  refine g_icmp_neI (pc := 7) X 143 (by decide) (inRb b_w (by decide) (by decide)) (inRb by1 (by decide) (by decide)) dX12_shares_7 (fun c7 => ?_) (fun c7 => ?_)
  · refine g_iconst (pc := 143) X (iI 0) (by rfl) dX12_shares_143 ?_
    refine g_istore_n (pc := 144) X (i := 3) rfl (by decide) (lv' := [(3, .int (iI 0)), (0, .ref g0), (1, .int (iI rm)), (2, .int (iI w))]) rfl dX12_shares_144 ?_
    have loop145 : ∀ (fuel : Nat) (b3 : Int) (bs1 : Int) (Wf1 : Nat → Int) (Wb1 : Nat → Int) (Wg1 : Nat → Int), (0 ≤ b3 ∧ b3 ≤ 4) → ((-2147483648) ≤ bs1 ∧ bs1 ≤ 2147483647) → (∀ j, j < 8 → (-2147483648) ≤ Wf1 j ∧ Wf1 j ≤ 2147483647) → (∀ j, j < 8 → (-2147483648) ≤ Wb1 j ∧ Wb1 j ≤ 2147483647) → (∀ j, j < 4 → (-2147483648) ≤ Wg1 j ∧ Wg1 j ≤ 2147483647) → (5 - b3).toNat < fuel → Gs p l e ({ frames := 9, cells := 0, slots := 0, locals := 216 } : Room) s m args below meth c (MQ below (gPost Z [(g0, .inr (12, mO gA nr tm at_ to_ fa va np tn pc_ st_ pa_ ta ow of_ ot rl hb bs se)), cA Z (gA 13) 0 7 Mw, cA Z (gA 14) 0 7 Mo, cR Z (gA 0) 6 7 (gG 0), cR Z (gA 4) 6 7 (gG 4), cR Z (gA 5) 6 7 (gG 5), cR Z (gA 6) 6 7 (gG 6), cR Z (gA 9) 6 7 (gG 9), cA Z (xA 0) 0 8 Ml, cA Z (xA 4) 0 8 Mow, cA Z (xA 5) 0 8 Mof, cA Z (xA 6) 0 8 Mot, cA Z (xA 9) 0 8 Md, cA Z (gA 58) 0 4 Bp, cA Z (gA 59) 0 4 Br, cA Z (gA 60) 0 8 Wo, cA Z (gA 61) 0 8 Wf, cA Z (gA 62) 0 8 Wb, cA Z (gA 63) 0 4 Wg] s.heap.size (fun r w' => ∃ (Wf2 : Nat → Int) (Wb2 : Nat → Int) (Wg2 : Nat → Int) (bs2 : Int), (r = none) ∧ (w' = [(g0, .inr (12, mO gA nr tm at_ to_ fa va np tn pc_ st_ pa_ ta ow of_ ot rl hb bs2 se)), cA Z (gA 13) 0 7 Mw, cA Z (gA 14) 0 7 Mo, cR Z (gA 0) 6 7 (gG 0), cR Z (gA 4) 6 7 (gG 4), cR Z (gA 5) 6 7 (gG 5), cR Z (gA 6) 6 7 (gG 6), cR Z (gA 9) 6 7 (gG 9), cA Z (xA 0) 0 8 Ml, cA Z (xA 4) 0 8 Mow, cA Z (xA 5) 0 8 Mof, cA Z (xA 6) 0 8 Mot, cA Z (xA 9) 0 8 Md, cA Z (gA 58) 0 4 Bp, cA Z (gA 59) 0 4 Br, cA Z (gA 60) 0 8 Wo, cA Z (gA 61) 0 8 Wf2, cA Z (gA 62) 0 8 Wb2, cA Z (gA 63) 0 4 Wg2]) ∧ ((-2147483648) ≤ bs2 ∧ bs2 ≤ 2147483647) ∧ (∀ j, j < 8 → (-2147483648) ≤ Wf2 j ∧ Wf2 j ≤ 2147483647) ∧ (∀ j, j < 8 → (-2147483648) ≤ Wb2 j ∧ Wb2 j ≤ 2147483647) ∧ (∀ j, j < 4 → (-2147483648) ≤ Wg2 j ∧ Wg2 j ≤ 2147483647))) args s 0 0 (va_A [(g0, .inr (12, mO gA nr tm at_ to_ fa va np tn pc_ st_ pa_ ta ow of_ ot rl hb bs se)), cA Z (gA 13) 0 7 Mw, cA Z (gA 14) 0 7 Mo, cR Z (gA 0) 6 7 (gG 0), cR Z (gA 4) 6 7 (gG 4), cR Z (gA 5) 6 7 (gG 5), cR Z (gA 6) 6 7 (gG 6), cR Z (gA 9) 6 7 (gG 9), cA Z (xA 0) 0 8 Ml, cA Z (xA 4) 0 8 Mow, cA Z (xA 5) 0 8 Mof, cA Z (xA 6) 0 8 Mot, cA Z (xA 9) 0 8 Md, cA Z (gA 58) 0 4 Bp, cA Z (gA 59) 0 4 Br, cA Z (gA 60) 0 8 Wo, cA Z (gA 61) 0 8 Wf, cA Z (gA 62) 0 8 Wb, cA Z (gA 63) 0 4 Wg] s.heap.size)) Z A 5 0 0 145 [(3, .int (iI b3)), (0, .ref g0), (1, .int (iI rm)), (2, .int (iI w))] [] [(g0, .inr (12, mO gA nr tm at_ to_ fa va np tn pc_ st_ pa_ ta ow of_ ot rl hb bs1 se)), cA Z (gA 13) 0 7 Mw, cA Z (gA 14) 0 7 Mo, cR Z (gA 0) 6 7 (gG 0), cR Z (gA 4) 6 7 (gG 4), cR Z (gA 5) 6 7 (gG 5), cR Z (gA 6) 6 7 (gG 6), cR Z (gA 9) 6 7 (gG 9), cA Z (xA 0) 0 8 Ml, cA Z (xA 4) 0 8 Mow, cA Z (xA 5) 0 8 Mof, cA Z (xA 6) 0 8 Mot, cA Z (xA 9) 0 8 Md, cA Z (gA 58) 0 4 Bp, cA Z (gA 59) 0 4 Br, cA Z (gA 60) 0 8 Wo, cA Z (gA 61) 0 8 Wf1, cA Z (gA 62) 0 8 Wb1, cA Z (gA 63) 0 4 Wg1] := by
      intro fuel
      induction fuel with
      | zero => intro b3 bs1 Wf1 Wb1 Wg1 _ _ _ _ _ hm; exact absurd hm (Nat.not_lt_zero _)
      | succ fuel ih =>
        intro b3 bs1 Wf1 Wb1 Wg1 b_b3 b_bs1 h_Wf1 h_Wb1 h_Wg1 hm
        refine g_iload_n (pc := 145) X 0 rfl dX12_shares_145 ?_
        refine g_aload_n (pc := 146) X 1 rfl dX12_shares_146 ?_
        refine g_get (pc := 147) X inlX12 0 rfl rfl 64 (by decide) mw_47_13 rfl dX12_shares_147 ?_
        refine g_icmp_geI (pc := 150) X 242 (by decide) (inRb b_b3 (by decide) (by decide)) (inRb b_hb (by decide) (by decide)) dX12_shares_150 (fun c150 => ?_) (fun c150 => ?_)
        · exact g_vret (pc := 242) X hA (⟨Wf1, Wb1, Wg1, bs1, rfl, rfl, (b_bs1), (h_Wf1), (h_Wb1), (h_Wg1)⟩) (by decide) (by decide) dX12_shares_242
        · refine g_aload_n (pc := 153) X 1 rfl dX12_shares_153 ?_
          refine g_get (pc := 154) X inlX12 0 rfl rfl 58 (by decide) mw_9_9 rfl dX12_shares_154 ?_
          refine g_iload_n (pc := 157) X 0 rfl dX12_shares_157 ?_
          refine g_ialdI (pc := 158) X 13 rfl (b_b3.1) (by (first | (clear b_nr b_tm b_at_ b_to_ b_fa b_va b_np b_tn b_pc_ b_st_ b_pa_ b_ta b_ow b_of_ b_ot b_rl b_hb b_bs b_se; omega) | omega)) (Int.le_trans b_b3.2 (by decide)) dX12_shares_158 ?_
          refine g_nameI (fun y2 ey2 => ?_)
          have by2 : (-2147483648) ≤ y2 ∧ y2 ≤ 2147483647 := by rw [ey2]; exact h_Bp _ (by (first | (clear b_nr b_tm b_at_ b_to_ b_fa b_va b_np b_tn b_pc_ b_st_ b_pa_ b_ta b_ow b_of_ b_ot b_rl b_hb b_bs b_se; omega) | omega))
          refine g_aload_n (pc := 159) X 1 rfl dX12_shares_159 ?_
          refine g_get (pc := 160) X inlX12 0 rfl rfl 49 (by decide) mw_28_2 rfl dX12_shares_160 ?_
          refine g_icmp_neI (pc := 163) X 236 (by decide) by2 (inRb b_pa_ (by decide) (by decide)) dX12_shares_163 (fun c163 => ?_) (fun c163 => ?_)
          · refine g_iincI (pc := 236) X 0 rfl (by decide) (lv' := [(3, .int (iI (b3 + 1))), (0, .ref g0), (1, .int (iI rm)), (2, .int (iI w))]) rfl dX12_shares_236 ?_
            refine g_goto (pc := 239) X 145 (by decide) dX12_shares_239 ?_
            exact ih (b3 + 1) bs1 Wf1 Wb1 Wg1 (by (first | (clear b_nr b_tm b_at_ b_to_ b_fa b_va b_np b_tn b_pc_ b_st_ b_pa_ b_ta b_ow b_of_ b_ot b_rl b_hb b_bs b_se; omega) | omega)) (b_bs1) (h_Wf1) (h_Wb1) (h_Wg1) (by (first | (clear b_nr b_tm b_at_ b_to_ b_fa b_va b_np b_tn b_pc_ b_st_ b_pa_ b_ta b_ow b_of_ b_ot b_rl b_hb b_bs b_se; omega) | omega))
          · refine g_aload_n (pc := 166) X 1 rfl dX12_shares_166 ?_
            refine g_get (pc := 167) X inlX12 0 rfl rfl 63 (by decide) mw_9_14 rfl dX12_shares_167 ?_
            refine g_iload_n (pc := 170) X 0 rfl dX12_shares_170 ?_
            refine g_ialdI (pc := 171) X 18 rfl (b_b3.1) (by (first | (clear b_nr b_tm b_at_ b_to_ b_fa b_va b_np b_tn b_pc_ b_st_ b_pa_ b_ta b_ow b_of_ b_ot b_rl b_hb b_bs b_se; omega) | omega)) (Int.le_trans b_b3.2 (by decide)) dX12_shares_171 ?_
            refine g_nameI (fun y3 ey3 => ?_)
            have by3 : (-2147483648) ≤ y3 ∧ y3 ≤ 2147483647 := by rw [ey3]; exact h_Wg1 _ (by (first | (clear b_nr b_tm b_at_ b_to_ b_fa b_va b_np b_tn b_pc_ b_st_ b_pa_ b_ta b_ow b_of_ b_ot b_rl b_hb b_bs b_se; omega) | omega))
            refine g_aload_n (pc := 172) X 1 rfl dX12_shares_172 ?_
            refine g_get (pc := 173) X inlX12 0 rfl rfl 60 (by decide) mw_9_11 rfl dX12_shares_173 ?_
            refine g_iload_n (pc := 176) X 3 rfl dX12_shares_176 ?_
            refine g_ialdI (pc := 177) X 15 rfl (b_w.1) (by (first | (clear b_nr b_tm b_at_ b_to_ b_fa b_va b_np b_tn b_pc_ b_st_ b_pa_ b_ta b_ow b_of_ b_ot b_rl b_hb b_bs b_se; omega) | omega)) (Int.le_trans b_w.2 (by decide)) dX12_shares_177 ?_
            refine g_nameI (fun y4 ey4 => ?_)
            have by4 : (-2147483648) ≤ y4 ∧ y4 ≤ 2147483647 := by rw [ey4]; exact h_Wo _ (by (first | (clear b_nr b_tm b_at_ b_to_ b_fa b_va b_np b_tn b_pc_ b_st_ b_pa_ b_ta b_ow b_of_ b_ot b_rl b_hb b_bs b_se; omega) | omega))
            refine g_iaddI (pc := 178) X dX12_shares_178 ?_
            refine g_any (fun y5 by5 => ?_)
            refine g_aload_n (pc := 179) X 1 rfl dX12_shares_179 ?_
            refine g_get (pc := 180) X inlX12 0 rfl rfl 59 (by decide) mw_9_10 rfl dX12_shares_180 ?_
            refine g_iload_n (pc := 183) X 0 rfl dX12_shares_183 ?_
            refine g_ialdI (pc := 184) X 14 rfl (b_b3.1) (by (first | (clear b_nr b_tm b_at_ b_to_ b_fa b_va b_np b_tn b_pc_ b_st_ b_pa_ b_ta b_ow b_of_ b_ot b_rl b_hb b_bs b_se; omega) | omega)) (Int.le_trans b_b3.2 (by decide)) dX12_shares_184 ?_
            refine g_nameI (fun y6 ey6 => ?_)
            have by6 : (-2147483648) ≤ y6 ∧ y6 ≤ 2147483647 := by rw [ey6]; exact h_Br _ (by (first | (clear b_nr b_tm b_at_ b_to_ b_fa b_va b_np b_tn b_pc_ b_st_ b_pa_ b_ta b_ow b_of_ b_ot b_rl b_hb b_bs b_se; omega) | omega))
            refine g_icmp_leI (pc := 185) X 191 (by decide) by5 by6 dX12_shares_185 (fun c185 => ?_) (fun c185 => ?_)
            · refine g_aload_n (pc := 191) X 1 rfl dX12_shares_191 ?_
              refine g_get (pc := 192) X inlX12 0 rfl rfl 63 (by decide) mw_9_14 rfl dX12_shares_192 ?_
              refine g_iload_n (pc := 195) X 0 rfl dX12_shares_195 ?_
              refine g_dup2 (pc := 196) X rfl rfl dX12_shares_196 ?_
              refine g_ialdI (pc := 197) X 18 rfl (b_b3.1) (by (first | (clear b_nr b_tm b_at_ b_to_ b_fa b_va b_np b_tn b_pc_ b_st_ b_pa_ b_ta b_ow b_of_ b_ot b_rl b_hb b_bs b_se; omega) | omega)) (Int.le_trans b_b3.2 (by decide)) dX12_shares_197 ?_
              refine g_nameI (fun y7 ey7 => ?_)
              have by7 : (-2147483648) ≤ y7 ∧ y7 ≤ 2147483647 := by rw [ey7]; exact h_Wg1 _ (by (first | (clear b_nr b_tm b_at_ b_to_ b_fa b_va b_np b_tn b_pc_ b_st_ b_pa_ b_ta b_ow b_of_ b_ot b_rl b_hb b_bs b_se; omega) | omega))
              refine g_aload_n (pc := 198) X 1 rfl dX12_shares_198 ?_
              refine g_get (pc := 199) X inlX12 0 rfl rfl 60 (by decide) mw_9_11 rfl dX12_shares_199 ?_
              refine g_iload_n (pc := 202) X 3 rfl dX12_shares_202 ?_
              refine g_ialdI (pc := 203) X 15 rfl (b_w.1) (by (first | (clear b_nr b_tm b_at_ b_to_ b_fa b_va b_np b_tn b_pc_ b_st_ b_pa_ b_ta b_ow b_of_ b_ot b_rl b_hb b_bs b_se; omega) | omega)) (Int.le_trans b_w.2 (by decide)) dX12_shares_203 ?_
              refine g_nameI (fun y8 ey8 => ?_)
              have by8 : (-2147483648) ≤ y8 ∧ y8 ≤ 2147483647 := by rw [ey8]; exact h_Wo _ (by (first | (clear b_nr b_tm b_at_ b_to_ b_fa b_va b_np b_tn b_pc_ b_st_ b_pa_ b_ta b_ow b_of_ b_ot b_rl b_hb b_bs b_se; omega) | omega))
              refine g_iaddI (pc := 204) X dX12_shares_204 ?_
              refine g_any (fun y9 by9 => ?_)
              refine g_iastG (pc := 205) X 18 rfl (b_b3.1) (by (first | (clear b_nr b_tm b_at_ b_to_ b_fa b_va b_np b_tn b_pc_ b_st_ b_pa_ b_ta b_ow b_of_ b_ot b_rl b_hb b_bs b_se; omega) | omega)) (Int.le_trans b_b3.2 (by decide)) (ws' := fun F10 => [(g0, .inr (12, mO gA nr tm at_ to_ fa va np tn pc_ st_ pa_ ta ow of_ ot rl hb bs1 se)), cA Z (gA 13) 0 7 Mw, cA Z (gA 14) 0 7 Mo, cR Z (gA 0) 6 7 (gG 0), cR Z (gA 4) 6 7 (gG 4), cR Z (gA 5) 6 7 (gG 5), cR Z (gA 6) 6 7 (gG 6), cR Z (gA 9) 6 7 (gG 9), cA Z (xA 0) 0 8 Ml, cA Z (xA 4) 0 8 Mow, cA Z (xA 5) 0 8 Mof, cA Z (xA 6) 0 8 Mot, cA Z (xA 9) 0 8 Md, cA Z (gA 58) 0 4 Bp, cA Z (gA 59) 0 4 Br, cA Z (gA 60) 0 8 Wo, cA Z (gA 61) 0 8 Wf1, cA Z (gA 62) 0 8 Wb1, cA Z (gA 63) 0 4 F10]) (fun _ => rfl) dX12_shares_205 (fun F10 eF10 => ?_)
              have hF10 : ∀ j, j < 4 → (-2147483648) ≤ F10 j ∧ F10 j ≤ 2147483647 := by rw [eF10]; exact updI_B h_Wg1 (by (first | (clear b_nr b_tm b_at_ b_to_ b_fa b_va b_np b_tn b_pc_ b_st_ b_pa_ b_ta b_ow b_of_ b_ot b_rl b_hb b_bs b_se; omega) | omega))
              refine g_aload_n (pc := 206) X 1 rfl dX12_shares_206 ?_
              refine g_get (pc := 207) X inlX12 0 rfl rfl 61 (by decide) mw_9_12 rfl dX12_shares_207 ?_
              refine g_iload_n (pc := 210) X 3 rfl dX12_shares_210 ?_
              refine g_iload_n (pc := 211) X 0 rfl dX12_shares_211 ?_
              refine g_iastG (pc := 212) X 16 rfl (b_w.1) (by (first | (clear b_nr b_tm b_at_ b_to_ b_fa b_va b_np b_tn b_pc_ b_st_ b_pa_ b_ta b_ow b_of_ b_ot b_rl b_hb b_bs b_se; omega) | omega)) (Int.le_trans b_w.2 (by decide)) (ws' := fun F11 => [(g0, .inr (12, mO gA nr tm at_ to_ fa va np tn pc_ st_ pa_ ta ow of_ ot rl hb bs1 se)), cA Z (gA 13) 0 7 Mw, cA Z (gA 14) 0 7 Mo, cR Z (gA 0) 6 7 (gG 0), cR Z (gA 4) 6 7 (gG 4), cR Z (gA 5) 6 7 (gG 5), cR Z (gA 6) 6 7 (gG 6), cR Z (gA 9) 6 7 (gG 9), cA Z (xA 0) 0 8 Ml, cA Z (xA 4) 0 8 Mow, cA Z (xA 5) 0 8 Mof, cA Z (xA 6) 0 8 Mot, cA Z (xA 9) 0 8 Md, cA Z (gA 58) 0 4 Bp, cA Z (gA 59) 0 4 Br, cA Z (gA 60) 0 8 Wo, cA Z (gA 61) 0 8 F11, cA Z (gA 62) 0 8 Wb1, cA Z (gA 63) 0 4 F10]) (fun _ => rfl) dX12_shares_212 (fun F11 eF11 => ?_)
              have hF11 : ∀ j, j < 8 → (-2147483648) ≤ F11 j ∧ F11 j ≤ 2147483647 := by rw [eF11]; exact updI_B h_Wf1 (by (first | (clear b_nr b_tm b_at_ b_to_ b_fa b_va b_np b_tn b_pc_ b_st_ b_pa_ b_ta b_ow b_of_ b_ot b_rl b_hb b_bs b_se; omega) | omega))
              refine g_aload_n (pc := 213) X 1 rfl dX12_shares_213 ?_
              refine g_iload_n (pc := 214) X 2 rfl dX12_shares_214 ?_
              refine g_iload_n (pc := 215) X 3 rfl dX12_shares_215 ?_
              refine g_iconst (pc := 216) X (iI 1) (by rfl) dX12_shares_216 ?_
              refine g_iaddI (pc := 217) X dX12_shares_217 ?_
              refine g_callV (pc := 218) X (k_X12_shares7 l Z g0 gA gG xA Mw Mo Ml Mow Mof Mot Md Bp Br Wo F11 Wb1 F10 rm (w + 1) nr tm at_ to_ fa va np tn pc_ st_ pa_ ta ow of_ ot rl hb bs1 se b_rm (by (first | (clear b_nr b_tm b_at_ b_to_ b_fa b_va b_np b_tn b_pc_ b_st_ b_pa_ b_ta b_ow b_of_ b_ot b_rl b_hb b_bs b_se; omega) | omega)) b_nr b_tm b_at_ b_to_ b_fa b_va b_np b_tn b_pc_ b_st_ b_pa_ b_ta b_ow b_of_ b_ot b_rl b_hb b_bs1 b_se (hG) (by (first | (clear b_nr b_tm b_at_ b_to_ b_fa b_va b_np b_tn b_pc_ b_st_ b_pa_ b_ta b_ow b_of_ b_ot b_rl b_hb b_bs b_se; omega) | omega)) (by (first | (clear b_nr b_tm b_at_ b_to_ b_fa b_va b_np b_tn b_pc_ b_st_ b_pa_ b_ta b_ow b_of_ b_ot b_rl b_hb b_bs b_se; omega) | omega)) (by (first | (clear b_nr b_tm b_at_ b_to_ b_fa b_va b_np b_tn b_pc_ b_st_ b_pa_ b_ta b_ow b_of_ b_ot b_rl b_hb b_bs b_se; omega) | omega)) (h_Mw) (h_Mo) (h_Ml) (h_Mow) (h_Mof) (h_Mot) (h_Md) (h_Bp) (h_Br) (h_Wo) (hF11) (h_Wb1) (hF10)) iM_X12_shares mw_50_2 mw_50_3 mw_50_4 0 rfl rfl [0, 1, 2, 3, 4, 5, 6, 7, 8, 9, 10, 11, 12, 13, 14, 15, 16, 17, 18] [] rfl (wr := []) rfl (by decide) rfl rfl (Nat.le_of_ble_eq_true rfl) (by decide) dX12_shares_218 (fun r w' hpo => ?_)
              refine exN_4 hpo fun F12 F13 F14 y15 hz => anD_6 hz fun e_r e_w hf218_b_bs2 hf218_h_Wf2 hf218_h_Wb2 hf218_h_Wg2 => ?_; clear hz hpo; subst e_r; subst e_w
              refine g_as (pc' := 221) (lv' := [(3, .int (iI b3)), (0, .ref g0), (1, .int (iI rm)), (2, .int (iI w))]) (st' := []) (ws' := [(g0, .inr (12, mO gA nr tm at_ to_ fa va np tn pc_ st_ pa_ ta ow of_ ot rl hb y15 se)), cA Z (gA 13) 0 7 Mw, cA Z (gA 14) 0 7 Mo, cR Z (gA 0) 6 7 (gG 0), cR Z (gA 4) 6 7 (gG 4), cR Z (gA 5) 6 7 (gG 5), cR Z (gA 6) 6 7 (gG 6), cR Z (gA 9) 6 7 (gG 9), cA Z (xA 0) 0 8 Ml, cA Z (xA 4) 0 8 Mow, cA Z (xA 5) 0 8 Mof, cA Z (xA 6) 0 8 Mot, cA Z (xA 9) 0 8 Md, cA Z (gA 58) 0 4 Bp, cA Z (gA 59) 0 4 Br, cA Z (gA 60) 0 8 Wo, cA Z (gA 61) 0 8 F12, cA Z (gA 62) 0 8 F13, cA Z (gA 63) 0 4 F14]) rfl rfl rfl rfl ?_
              refine g_aload_n (pc := 221) X 1 rfl dX12_shares_221 ?_
              refine g_get (pc := 222) X inlX12 0 rfl rfl 63 (by decide) mw_9_14 rfl dX12_shares_222 ?_
              refine g_iload_n (pc := 225) X 0 rfl dX12_shares_225 ?_
              refine g_dup2 (pc := 226) X rfl rfl dX12_shares_226 ?_
              refine g_ialdI (pc := 227) X 18 rfl (b_b3.1) (by (first | (clear b_nr b_tm b_at_ b_to_ b_fa b_va b_np b_tn b_pc_ b_st_ b_pa_ b_ta b_ow b_of_ b_ot b_rl b_hb b_bs b_se; omega) | omega)) (Int.le_trans b_b3.2 (by decide)) dX12_shares_227 ?_
              refine g_nameI (fun y17 ey17 => ?_)
              have by17 : (-2147483648) ≤ y17 ∧ y17 ≤ 2147483647 := by rw [ey17]; exact hf218_h_Wg2 _ (by (first | (clear b_nr b_tm b_at_ b_to_ b_fa b_va b_np b_tn b_pc_ b_st_ b_pa_ b_ta b_ow b_of_ b_ot b_rl b_hb b_bs b_se; omega) | omega))
              refine g_aload_n (pc := 228) X 1 rfl dX12_shares_228 ?_
              refine g_get (pc := 229) X inlX12 0 rfl rfl 60 (by decide) mw_9_11 rfl dX12_shares_229 ?_
              refine g_iload_n (pc := 232) X 3 rfl dX12_shares_232 ?_
              refine g_ialdI (pc := 233) X 15 rfl (b_w.1) (by (first | (clear b_nr b_tm b_at_ b_to_ b_fa b_va b_np b_tn b_pc_ b_st_ b_pa_ b_ta b_ow b_of_ b_ot b_rl b_hb b_bs b_se; omega) | omega)) (Int.le_trans b_w.2 (by decide)) dX12_shares_233 ?_
              refine g_nameI (fun y18 ey18 => ?_)
              have by18 : (-2147483648) ≤ y18 ∧ y18 ≤ 2147483647 := by rw [ey18]; exact h_Wo _ (by (first | (clear b_nr b_tm b_at_ b_to_ b_fa b_va b_np b_tn b_pc_ b_st_ b_pa_ b_ta b_ow b_of_ b_ot b_rl b_hb b_bs b_se; omega) | omega))
              refine g_isubI (pc := 234) X dX12_shares_234 ?_
              refine g_any (fun y19 by19 => ?_)
              refine g_iastG (pc := 235) X 18 rfl (b_b3.1) (by (first | (clear b_nr b_tm b_at_ b_to_ b_fa b_va b_np b_tn b_pc_ b_st_ b_pa_ b_ta b_ow b_of_ b_ot b_rl b_hb b_bs b_se; omega) | omega)) (Int.le_trans b_b3.2 (by decide)) (ws' := fun F20 => [(g0, .inr (12, mO gA nr tm at_ to_ fa va np tn pc_ st_ pa_ ta ow of_ ot rl hb y15 se)), cA Z (gA 13) 0 7 Mw, cA Z (gA 14) 0 7 Mo, cR Z (gA 0) 6 7 (gG 0), cR Z (gA 4) 6 7 (gG 4), cR Z (gA 5) 6 7 (gG 5), cR Z (gA 6) 6 7 (gG 6), cR Z (gA 9) 6 7 (gG 9), cA Z (xA 0) 0 8 Ml, cA Z (xA 4) 0 8 Mow, cA Z (xA 5) 0 8 Mof, cA Z (xA 6) 0 8 Mot, cA Z (xA 9) 0 8 Md, cA Z (gA 58) 0 4 Bp, cA Z (gA 59) 0 4 Br, cA Z (gA 60) 0 8 Wo, cA Z (gA 61) 0 8 F12, cA Z (gA 62) 0 8 F13, cA Z (gA 63) 0 4 F20]) (fun _ => rfl) dX12_shares_235 (fun F20 eF20 => ?_)
              have hF20 : ∀ j, j < 4 → (-2147483648) ≤ F20 j ∧ F20 j ≤ 2147483647 := by rw [eF20]; exact updI_B hf218_h_Wg2 (by (first | (clear b_nr b_tm b_at_ b_to_ b_fa b_va b_np b_tn b_pc_ b_st_ b_pa_ b_ta b_ow b_of_ b_ot b_rl b_hb b_bs b_se; omega) | omega))
              refine g_iincI (pc := 236) X 0 rfl (by decide) (lv' := [(3, .int (iI (b3 + 1))), (0, .ref g0), (1, .int (iI rm)), (2, .int (iI w))]) rfl dX12_shares_236 ?_
              refine g_goto (pc := 239) X 145 (by decide) dX12_shares_239 ?_
              exact ih (b3 + 1) y15 F12 F13 F20 (by (first | (clear b_nr b_tm b_at_ b_to_ b_fa b_va b_np b_tn b_pc_ b_st_ b_pa_ b_ta b_ow b_of_ b_ot b_rl b_hb b_bs b_se; omega) | omega)) (hf218_b_bs2) (hf218_h_Wf2) (hf218_h_Wb2) (hF20) (by (first | (clear b_nr b_tm b_at_ b_to_ b_fa b_va b_np b_tn b_pc_ b_st_ b_pa_ b_ta b_ow b_of_ b_ot b_rl b_hb b_bs b_se; omega) | omega))
            · refine g_goto (pc := 188) X 236 (by decide) dX12_shares_188 ?_
              refine g_iincI (pc := 236) X 0 rfl (by decide) (lv' := [(3, .int (iI (b3 + 1))), (0, .ref g0), (1, .int (iI rm)), (2, .int (iI w))]) rfl dX12_shares_236 ?_
              refine g_goto (pc := 239) X 145 (by decide) dX12_shares_239 ?_
              exact ih (b3 + 1) bs1 Wf1 Wb1 Wg1 (by (first | (clear b_nr b_tm b_at_ b_to_ b_fa b_va b_np b_tn b_pc_ b_st_ b_pa_ b_ta b_ow b_of_ b_ot b_rl b_hb b_bs b_se; omega) | omega)) (b_bs1) (h_Wf1) (h_Wb1) (h_Wg1) (by (first | (clear b_nr b_tm b_at_ b_to_ b_fa b_va b_np b_tn b_pc_ b_st_ b_pa_ b_ta b_ow b_of_ b_ot b_rl b_hb b_bs b_se; omega) | omega))
    exact loop145 _ 0 bs Wf Wb Wg (by (first | (clear b_nr b_tm b_at_ b_to_ b_fa b_va b_np b_tn b_pc_ b_st_ b_pa_ b_ta b_ow b_of_ b_ot b_rl b_hb b_bs b_se; omega) | omega)) (b_bs) (h_Wf) (h_Wb) (h_Wg) (Nat.lt_succ_self _)
  · refine g_iconst (pc := 10) X (iI 0) (by rfl) dX12_shares_10 ?_
    refine g_istore_n (pc := 11) X (i := 3) rfl (by decide) (lv' := [(3, .int (iI 0)), (0, .ref g0), (1, .int (iI rm)), (2, .int (iI w))]) rfl dX12_shares_11 ?_
    refine g_iconst (pc := 12) X (iI 0) (by rfl) dX12_shares_12 ?_
    refine g_istore (pc := 13) X (by decide) (lv' := [(4, .int (iI 0)), (3, .int (iI 0)), (0, .ref g0), (1, .int (iI rm)), (2, .int (iI w))]) rfl dX12_shares_13 ?_
    have loop15 : ∀ (fuel : Nat) (n1 : Int) (k1 : Int), ((-2147483648) ≤ n1 ∧ n1 ≤ 2147483647) → (0 ≤ k1 ∧ k1 ≤ 8) → (9 - k1).toNat < fuel → Gs p l e ({ frames := 9, cells := 0, slots := 0, locals := 216 } : Room) s m args below meth c (MQ below (gPost Z [(g0, .inr (12, mO gA nr tm at_ to_ fa va np tn pc_ st_ pa_ ta ow of_ ot rl hb bs se)), cA Z (gA 13) 0 7 Mw, cA Z (gA 14) 0 7 Mo, cR Z (gA 0) 6 7 (gG 0), cR Z (gA 4) 6 7 (gG 4), cR Z (gA 5) 6 7 (gG 5), cR Z (gA 6) 6 7 (gG 6), cR Z (gA 9) 6 7 (gG 9), cA Z (xA 0) 0 8 Ml, cA Z (xA 4) 0 8 Mow, cA Z (xA 5) 0 8 Mof, cA Z (xA 6) 0 8 Mot, cA Z (xA 9) 0 8 Md, cA Z (gA 58) 0 4 Bp, cA Z (gA 59) 0 4 Br, cA Z (gA 60) 0 8 Wo, cA Z (gA 61) 0 8 Wf, cA Z (gA 62) 0 8 Wb, cA Z (gA 63) 0 4 Wg] s.heap.size (fun r w' => ∃ (Wf2 : Nat → Int) (Wb2 : Nat → Int) (Wg2 : Nat → Int) (bs2 : Int), (r = none) ∧ (w' = [(g0, .inr (12, mO gA nr tm at_ to_ fa va np tn pc_ st_ pa_ ta ow of_ ot rl hb bs2 se)), cA Z (gA 13) 0 7 Mw, cA Z (gA 14) 0 7 Mo, cR Z (gA 0) 6 7 (gG 0), cR Z (gA 4) 6 7 (gG 4), cR Z (gA 5) 6 7 (gG 5), cR Z (gA 6) 6 7 (gG 6), cR Z (gA 9) 6 7 (gG 9), cA Z (xA 0) 0 8 Ml, cA Z (xA 4) 0 8 Mow, cA Z (xA 5) 0 8 Mof, cA Z (xA 6) 0 8 Mot, cA Z (xA 9) 0 8 Md, cA Z (gA 58) 0 4 Bp, cA Z (gA 59) 0 4 Br, cA Z (gA 60) 0 8 Wo, cA Z (gA 61) 0 8 Wf2, cA Z (gA 62) 0 8 Wb2, cA Z (gA 63) 0 4 Wg2]) ∧ ((-2147483648) ≤ bs2 ∧ bs2 ≤ 2147483647) ∧ (∀ j, j < 8 → (-2147483648) ≤ Wf2 j ∧ Wf2 j ≤ 2147483647) ∧ (∀ j, j < 8 → (-2147483648) ≤ Wb2 j ∧ Wb2 j ≤ 2147483647) ∧ (∀ j, j < 4 → (-2147483648) ≤ Wg2 j ∧ Wg2 j ≤ 2147483647))) args s 0 0 (va_A [(g0, .inr (12, mO gA nr tm at_ to_ fa va np tn pc_ st_ pa_ ta ow of_ ot rl hb bs se)), cA Z (gA 13) 0 7 Mw, cA Z (gA 14) 0 7 Mo, cR Z (gA 0) 6 7 (gG 0), cR Z (gA 4) 6 7 (gG 4), cR Z (gA 5) 6 7 (gG 5), cR Z (gA 6) 6 7 (gG 6), cR Z (gA 9) 6 7 (gG 9), cA Z (xA 0) 0 8 Ml, cA Z (xA 4) 0 8 Mow, cA Z (xA 5) 0 8 Mof, cA Z (xA 6) 0 8 Mot, cA Z (xA 9) 0 8 Md, cA Z (gA 58) 0 4 Bp, cA Z (gA 59) 0 4 Br, cA Z (gA 60) 0 8 Wo, cA Z (gA 61) 0 8 Wf, cA Z (gA 62) 0 8 Wb, cA Z (gA 63) 0 4 Wg] s.heap.size)) Z A 5 0 0 15 [(4, .int (iI k1)), (3, .int (iI n1)), (0, .ref g0), (1, .int (iI rm)), (2, .int (iI w))] [] [(g0, .inr (12, mO gA nr tm at_ to_ fa va np tn pc_ st_ pa_ ta ow of_ ot rl hb bs se)), cA Z (gA 13) 0 7 Mw, cA Z (gA 14) 0 7 Mo, cR Z (gA 0) 6 7 (gG 0), cR Z (gA 4) 6 7 (gG 4), cR Z (gA 5) 6 7 (gG 5), cR Z (gA 6) 6 7 (gG 6), cR Z (gA 9) 6 7 (gG 9), cA Z (xA 0) 0 8 Ml, cA Z (xA 4) 0 8 Mow, cA Z (xA 5) 0 8 Mof, cA Z (xA 6) 0 8 Mot, cA Z (xA 9) 0 8 Md, cA Z (gA 58) 0 4 Bp, cA Z (gA 59) 0 4 Br, cA Z (gA 60) 0 8 Wo, cA Z (gA 61) 0 8 Wf, cA Z (gA 62) 0 8 Wb, cA Z (gA 63) 0 4 Wg] := by
      intro fuel
      induction fuel with
      | zero => intro n1 k1 _ _ hm; exact absurd hm (Nat.not_lt_zero _)
      | succ fuel ih =>
        intro n1 k1 b_n1 b_k1 hm
        refine g_iload (pc := 15) X 0 rfl dX12_shares_15 ?_
        refine g_aload_n (pc := 17) X 2 rfl dX12_shares_17 ?_
        refine g_get (pc := 18) X inlX12 0 rfl rfl 13 (by decide) mw_8_1 rfl dX12_shares_18 ?_
        refine g_iload_n (pc := 21) X 3 rfl dX12_shares_21 ?_
        refine g_ialdI (pc := 22) X 1 rfl (b_rm.1) (Int.lt_of_le_of_lt b_rm.2 (by decide)) (Int.le_trans b_rm.2 (by decide)) dX12_shares_22 ?_
        refine g_nameI (fun y21 ey21 => ?_)
        have by21 : 0 ≤ y21 ∧ y21 ≤ 8 := by rw [ey21]; exact h_Mw _ (by (first | (clear b_nr b_tm b_at_ b_to_ b_fa b_va b_np b_tn b_pc_ b_st_ b_pa_ b_ta b_ow b_of_ b_ot b_rl b_hb b_bs b_se; omega) | omega))
        have ty21 : 1 ≤ y21 ∧ y21 ≤ 8 := by rw [ey21]; exact hwn
        refine g_icmp_geI (pc := 23) X 86 (by decide) (inRb b_k1 (by decide) (by decide)) (inRb by21 (by decide) (by decide)) dX12_shares_23 (fun c23 => ?_) (fun c23 => ?_)
        · refine g_aload_n (pc := 86) X 2 rfl dX12_shares_86 ?_
          refine g_get (pc := 87) X inlX12 0 rfl rfl 65 (by decide) mw_49_21 rfl dX12_shares_87 ?_
          refine g_iconst (pc := 90) X (iI (-1)) (by rfl) dX12_shares_90 ?_
          refine g_icmp_eqI (pc := 91) X 103 (by decide) b_bs ⟨by decide, by decide⟩ dX12_shares_91 (fun c91 => ?_) (fun c91 => ?_)
          · refine g_aload_n (pc := 103) X 2 rfl dX12_shares_103 ?_
            refine g_iload_n (pc := 104) X 1 rfl dX12_shares_104 ?_
            refine g_put (pc := 105) X inlX12 tyX12_ok nmX12 0 rfl rfl 65 (by decide) mw_49_21 rfl rfl rfl (Nat.le_of_ble_eq_true rfl) (ws' := [(g0, .inr (12, mO gA nr tm at_ to_ fa va np tn pc_ st_ pa_ ta ow of_ ot rl hb n1 se)), cA Z (gA 13) 0 7 Mw, cA Z (gA 14) 0 7 Mo, cR Z (gA 0) 6 7 (gG 0), cR Z (gA 4) 6 7 (gG 4), cR Z (gA 5) 6 7 (gG 5), cR Z (gA 6) 6 7 (gG 6), cR Z (gA 9) 6 7 (gG 9), cA Z (xA 0) 0 8 Ml, cA Z (xA 4) 0 8 Mow, cA Z (xA 5) 0 8 Mof, cA Z (xA 6) 0 8 Mot, cA Z (xA 9) 0 8 Md, cA Z (gA 58) 0 4 Bp, cA Z (gA 59) 0 4 Br, cA Z (gA 60) 0 8 Wo, cA Z (gA 61) 0 8 Wf, cA Z (gA 62) 0 8 Wb, cA Z (gA 63) 0 4 Wg]) rfl dX12_shares_105 ?_
            refine g_iconst (pc := 108) X (iI 0) (by rfl) dX12_shares_108 ?_
            refine g_istore (pc := 109) X (by decide) (lv' := [(4, .int (iI 0)), (3, .int (iI n1)), (0, .ref g0), (1, .int (iI rm)), (2, .int (iI w))]) rfl dX12_shares_109 ?_
            have loop111 : ∀ (fuel : Nat) (k2 : Int) (Wb1 : Nat → Int), (0 ≤ k2 ∧ k2 ≤ 8) → (∀ j, j < 8 → (-2147483648) ≤ Wb1 j ∧ Wb1 j ≤ 2147483647) → (9 - k2).toNat < fuel → Gs p l e ({ frames := 9, cells := 0, slots := 0, locals := 216 } : Room) s m args below meth c (MQ below (gPost Z [(g0, .inr (12, mO gA nr tm at_ to_ fa va np tn pc_ st_ pa_ ta ow of_ ot rl hb bs se)), cA Z (gA 13) 0 7 Mw, cA Z (gA 14) 0 7 Mo, cR Z (gA 0) 6 7 (gG 0), cR Z (gA 4) 6 7 (gG 4), cR Z (gA 5) 6 7 (gG 5), cR Z (gA 6) 6 7 (gG 6), cR Z (gA 9) 6 7 (gG 9), cA Z (xA 0) 0 8 Ml, cA Z (xA 4) 0 8 Mow, cA Z (xA 5) 0 8 Mof, cA Z (xA 6) 0 8 Mot, cA Z (xA 9) 0 8 Md, cA Z (gA 58) 0 4 Bp, cA Z (gA 59) 0 4 Br, cA Z (gA 60) 0 8 Wo, cA Z (gA 61) 0 8 Wf, cA Z (gA 62) 0 8 Wb, cA Z (gA 63) 0 4 Wg] s.heap.size (fun r w' => ∃ (Wf2 : Nat → Int) (Wb2 : Nat → Int) (Wg2 : Nat → Int) (bs2 : Int), (r = none) ∧ (w' = [(g0, .inr (12, mO gA nr tm at_ to_ fa va np tn pc_ st_ pa_ ta ow of_ ot rl hb bs2 se)), cA Z (gA 13) 0 7 Mw, cA Z (gA 14) 0 7 Mo, cR Z (gA 0) 6 7 (gG 0), cR Z (gA 4) 6 7 (gG 4), cR Z (gA 5) 6 7 (gG 5), cR Z (gA 6) 6 7 (gG 6), cR Z (gA 9) 6 7 (gG 9), cA Z (xA 0) 0 8 Ml, cA Z (xA 4) 0 8 Mow, cA Z (xA 5) 0 8 Mof, cA Z (xA 6) 0 8 Mot, cA Z (xA 9) 0 8 Md, cA Z (gA 58) 0 4 Bp, cA Z (gA 59) 0 4 Br, cA Z (gA 60) 0 8 Wo, cA Z (gA 61) 0 8 Wf2, cA Z (gA 62) 0 8 Wb2, cA Z (gA 63) 0 4 Wg2]) ∧ ((-2147483648) ≤ bs2 ∧ bs2 ≤ 2147483647) ∧ (∀ j, j < 8 → (-2147483648) ≤ Wf2 j ∧ Wf2 j ≤ 2147483647) ∧ (∀ j, j < 8 → (-2147483648) ≤ Wb2 j ∧ Wb2 j ≤ 2147483647) ∧ (∀ j, j < 4 → (-2147483648) ≤ Wg2 j ∧ Wg2 j ≤ 2147483647))) args s 0 0 (va_A [(g0, .inr (12, mO gA nr tm at_ to_ fa va np tn pc_ st_ pa_ ta ow of_ ot rl hb bs se)), cA Z (gA 13) 0 7 Mw, cA Z (gA 14) 0 7 Mo, cR Z (gA 0) 6 7 (gG 0), cR Z (gA 4) 6 7 (gG 4), cR Z (gA 5) 6 7 (gG 5), cR Z (gA 6) 6 7 (gG 6), cR Z (gA 9) 6 7 (gG 9), cA Z (xA 0) 0 8 Ml, cA Z (xA 4) 0 8 Mow, cA Z (xA 5) 0 8 Mof, cA Z (xA 6) 0 8 Mot, cA Z (xA 9) 0 8 Md, cA Z (gA 58) 0 4 Bp, cA Z (gA 59) 0 4 Br, cA Z (gA 60) 0 8 Wo, cA Z (gA 61) 0 8 Wf, cA Z (gA 62) 0 8 Wb, cA Z (gA 63) 0 4 Wg] s.heap.size)) Z A 5 0 0 111 [(4, .int (iI k2)), (3, .int (iI n1)), (0, .ref g0), (1, .int (iI rm)), (2, .int (iI w))] [] [(g0, .inr (12, mO gA nr tm at_ to_ fa va np tn pc_ st_ pa_ ta ow of_ ot rl hb n1 se)), cA Z (gA 13) 0 7 Mw, cA Z (gA 14) 0 7 Mo, cR Z (gA 0) 6 7 (gG 0), cR Z (gA 4) 6 7 (gG 4), cR Z (gA 5) 6 7 (gG 5), cR Z (gA 6) 6 7 (gG 6), cR Z (gA 9) 6 7 (gG 9), cA Z (xA 0) 0 8 Ml, cA Z (xA 4) 0 8 Mow, cA Z (xA 5) 0 8 Mof, cA Z (xA 6) 0 8 Mot, cA Z (xA 9) 0 8 Md, cA Z (gA 58) 0 4 Bp, cA Z (gA 59) 0 4 Br, cA Z (gA 60) 0 8 Wo, cA Z (gA 61) 0 8 Wf, cA Z (gA 62) 0 8 Wb1, cA Z (gA 63) 0 4 Wg] := by
              intro fuel
              induction fuel with
              | zero => intro k2 Wb1 _ _ hm; exact absurd hm (Nat.not_lt_zero _)
              | succ fuel ih =>
                intro k2 Wb1 b_k2 h_Wb1 hm
                refine g_iload (pc := 111) X 0 rfl dX12_shares_111 ?_
                refine g_aload_n (pc := 113) X 2 rfl dX12_shares_113 ?_
                refine g_get (pc := 114) X inlX12 0 rfl rfl 13 (by decide) mw_8_1 rfl dX12_shares_114 ?_
                refine g_iload_n (pc := 117) X 3 rfl dX12_shares_117 ?_
                refine g_ialdI (pc := 118) X 1 rfl (b_rm.1) (Int.lt_of_le_of_lt b_rm.2 (by decide)) (Int.le_trans b_rm.2 (by decide)) dX12_shares_118 ?_
                refine g_nameI (fun y22 ey22 => ?_)
                have by22 : 0 ≤ y22 ∧ y22 ≤ 8 := by rw [ey22]; exact h_Mw _ (by (first | (clear b_nr b_tm b_at_ b_to_ b_fa b_va b_np b_tn b_pc_ b_st_ b_pa_ b_ta b_ow b_of_ b_ot b_rl b_hb b_bs b_se; omega) | omega))
                have ty22 : 1 ≤ y22 ∧ y22 ≤ 8 := by rw [ey22]; exact hwn
                refine g_icmp_geI (pc := 119) X 142 (by decide) (inRb b_k2 (by decide) (by decide)) (inRb by22 (by decide) (by decide)) dX12_shares_119 (fun c119 => ?_) (fun c119 => ?_)
                · exact g_vret (pc := 142) X hA (⟨Wf, Wb1, Wg, n1, rfl, rfl, (b_n1), (h_Wf), (h_Wb1), (h_Wg)⟩) (by decide) (by decide) dX12_shares_142
                · refine g_aload_n (pc := 122) X 2 rfl dX12_shares_122 ?_
                  refine g_get (pc := 123) X inlX12 0 rfl rfl 62 (by decide) mw_9_13 rfl dX12_shares_123 ?_
                  refine g_iload (pc := 126) X 0 rfl dX12_shares_126 ?_
                  refine g_aload_n (pc := 128) X 2 rfl dX12_shares_128 ?_
                  refine g_get (pc := 129) X inlX12 0 rfl rfl 61 (by decide) mw_9_12 rfl dX12_shares_129 ?_
                  refine g_iload (pc := 132) X 0 rfl dX12_shares_132 ?_
                  refine g_ialdI (pc := 134) X 16 rfl (b_k2.1) (by (first | (clear b_nr b_tm b_at_ b_to_ b_fa b_va b_np b_tn b_pc_ b_st_ b_pa_ b_ta b_ow b_of_ b_ot b_rl b_hb b_bs b_se; omega) | omega)) (Int.le_trans b_k2.2 (by decide)) dX12_shares_134 ?_
                  refine g_nameI (fun y23 ey23 => ?_)
                  have by23 : (-2147483648) ≤ y23 ∧ y23 ≤ 2147483647 := by rw [ey23]; exact h_Wf _ (by (first | (clear b_nr b_tm b_at_ b_to_ b_fa b_va b_np b_tn b_pc_ b_st_ b_pa_ b_ta b_ow b_of_ b_ot b_rl b_hb b_bs b_se; omega) | omega))
                  refine g_iastG (pc := 135) X 17 rfl (b_k2.1) (by (first | (clear b_nr b_tm b_at_ b_to_ b_fa b_va b_np b_tn b_pc_ b_st_ b_pa_ b_ta b_ow b_of_ b_ot b_rl b_hb b_bs b_se; omega) | omega)) (Int.le_trans b_k2.2 (by decide)) (ws' := fun F24 => [(g0, .inr (12, mO gA nr tm at_ to_ fa va np tn pc_ st_ pa_ ta ow of_ ot rl hb n1 se)), cA Z (gA 13) 0 7 Mw, cA Z (gA 14) 0 7 Mo, cR Z (gA 0) 6 7 (gG 0), cR Z (gA 4) 6 7 (gG 4), cR Z (gA 5) 6 7 (gG 5), cR Z (gA 6) 6 7 (gG 6), cR Z (gA 9) 6 7 (gG 9), cA Z (xA 0) 0 8 Ml, cA Z (xA 4) 0 8 Mow, cA Z (xA 5) 0 8 Mof, cA Z (xA 6) 0 8 Mot, cA Z (xA 9) 0 8 Md, cA Z (gA 58) 0 4 Bp, cA Z (gA 59) 0 4 Br, cA Z (gA 60) 0 8 Wo, cA Z (gA 61) 0 8 Wf, cA Z (gA 62) 0 8 F24, cA Z (gA 63) 0 4 Wg]) (fun _ => rfl) dX12_shares_135 (fun F24 eF24 => ?_)
                  have hF24 : ∀ j, j < 8 → (-2147483648) ≤ F24 j ∧ F24 j ≤ 2147483647 := by rw [eF24]; exact updI_B h_Wb1 (by (first | (clear b_nr b_tm b_at_ b_to_ b_fa b_va b_np b_tn b_pc_ b_st_ b_pa_ b_ta b_ow b_of_ b_ot b_rl b_hb b_bs b_se; omega) | omega))
                  refine g_iincI (pc := 136) X 0 rfl (by decide) (lv' := [(4, .int (iI (k2 + 1))), (3, .int (iI n1)), (0, .ref g0), (1, .int (iI rm)), (2, .int (iI w))]) rfl dX12_shares_136 ?_
                  refine g_goto (pc := 139) X 111 (by decide) dX12_shares_139 ?_
                  exact ih (k2 + 1) F24 (by (first | (clear b_nr b_tm b_at_ b_to_ b_fa b_va b_np b_tn b_pc_ b_st_ b_pa_ b_ta b_ow b_of_ b_ot b_rl b_hb b_bs b_se; omega) | omega)) (hF24) (by (first | (clear b_nr b_tm b_at_ b_to_ b_fa b_va b_np b_tn b_pc_ b_st_ b_pa_ b_ta b_ow b_of_ b_ot b_rl b_hb b_bs b_se; omega) | omega))
            exact loop111 _ 0 Wb (by (first | (clear b_nr b_tm b_at_ b_to_ b_fa b_va b_np b_tn b_pc_ b_st_ b_pa_ b_ta b_ow b_of_ b_ot b_rl b_hb b_bs b_se; omega) | omega)) (h_Wb) (Nat.lt_succ_self _)
          · refine g_iload_n (pc := 94) X 1 rfl dX12_shares_94 ?_
            refine g_aload_n (pc := 95) X 2 rfl dX12_shares_95 ?_
            refine g_get (pc := 96) X inlX12 0 rfl rfl 65 (by decide) mw_49_21 rfl dX12_shares_96 ?_
            refine g_icmp_ltI (pc := 99) X 103 (by decide) b_n1 b_bs dX12_shares_99 (fun c99 => ?_) (fun c99 => ?_)
            · refine g_aload_n (pc := 103) X 2 rfl dX12_shares_103 ?_
              refine g_iload_n (pc := 104) X 1 rfl dX12_shares_104 ?_
              refine g_put (pc := 105) X inlX12 tyX12_ok nmX12 0 rfl rfl 65 (by decide) mw_49_21 rfl rfl rfl (Nat.le_of_ble_eq_true rfl) (ws' := [(g0, .inr (12, mO gA nr tm at_ to_ fa va np tn pc_ st_ pa_ ta ow of_ ot rl hb n1 se)), cA Z (gA 13) 0 7 Mw, cA Z (gA 14) 0 7 Mo, cR Z (gA 0) 6 7 (gG 0), cR Z (gA 4) 6 7 (gG 4), cR Z (gA 5) 6 7 (gG 5), cR Z (gA 6) 6 7 (gG 6), cR Z (gA 9) 6 7 (gG 9), cA Z (xA 0) 0 8 Ml, cA Z (xA 4) 0 8 Mow, cA Z (xA 5) 0 8 Mof, cA Z (xA 6) 0 8 Mot, cA Z (xA 9) 0 8 Md, cA Z (gA 58) 0 4 Bp, cA Z (gA 59) 0 4 Br, cA Z (gA 60) 0 8 Wo, cA Z (gA 61) 0 8 Wf, cA Z (gA 62) 0 8 Wb, cA Z (gA 63) 0 4 Wg]) rfl dX12_shares_105 ?_
              refine g_iconst (pc := 108) X (iI 0) (by rfl) dX12_shares_108 ?_
              refine g_istore (pc := 109) X (by decide) (lv' := [(4, .int (iI 0)), (3, .int (iI n1)), (0, .ref g0), (1, .int (iI rm)), (2, .int (iI w))]) rfl dX12_shares_109 ?_
              have loop111 : ∀ (fuel : Nat) (k2 : Int) (Wb1 : Nat → Int), (0 ≤ k2 ∧ k2 ≤ 8) → (∀ j, j < 8 → (-2147483648) ≤ Wb1 j ∧ Wb1 j ≤ 2147483647) → (9 - k2).toNat < fuel → Gs p l e ({ frames := 9, cells := 0, slots := 0, locals := 216 } : Room) s m args below meth c (MQ below (gPost Z [(g0, .inr (12, mO gA nr tm at_ to_ fa va np tn pc_ st_ pa_ ta ow of_ ot rl hb bs se)), cA Z (gA 13) 0 7 Mw, cA Z (gA 14) 0 7 Mo, cR Z (gA 0) 6 7 (gG 0), cR Z (gA 4) 6 7 (gG 4), cR Z (gA 5) 6 7 (gG 5), cR Z (gA 6) 6 7 (gG 6), cR Z (gA 9) 6 7 (gG 9), cA Z (xA 0) 0 8 Ml, cA Z (xA 4) 0 8 Mow, cA Z (xA 5) 0 8 Mof, cA Z (xA 6) 0 8 Mot, cA Z (xA 9) 0 8 Md, cA Z (gA 58) 0 4 Bp, cA Z (gA 59) 0 4 Br, cA Z (gA 60) 0 8 Wo, cA Z (gA 61) 0 8 Wf, cA Z (gA 62) 0 8 Wb, cA Z (gA 63) 0 4 Wg] s.heap.size (fun r w' => ∃ (Wf2 : Nat → Int) (Wb2 : Nat → Int) (Wg2 : Nat → Int) (bs2 : Int), (r = none) ∧ (w' = [(g0, .inr (12, mO gA nr tm at_ to_ fa va np tn pc_ st_ pa_ ta ow of_ ot rl hb bs2 se)), cA Z (gA 13) 0 7 Mw, cA Z (gA 14) 0 7 Mo, cR Z (gA 0) 6 7 (gG 0), cR Z (gA 4) 6 7 (gG 4), cR Z (gA 5) 6 7 (gG 5), cR Z (gA 6) 6 7 (gG 6), cR Z (gA 9) 6 7 (gG 9), cA Z (xA 0) 0 8 Ml, cA Z (xA 4) 0 8 Mow, cA Z (xA 5) 0 8 Mof, cA Z (xA 6) 0 8 Mot, cA Z (xA 9) 0 8 Md, cA Z (gA 58) 0 4 Bp, cA Z (gA 59) 0 4 Br, cA Z (gA 60) 0 8 Wo, cA Z (gA 61) 0 8 Wf2, cA Z (gA 62) 0 8 Wb2, cA Z (gA 63) 0 4 Wg2]) ∧ ((-2147483648) ≤ bs2 ∧ bs2 ≤ 2147483647) ∧ (∀ j, j < 8 → (-2147483648) ≤ Wf2 j ∧ Wf2 j ≤ 2147483647) ∧ (∀ j, j < 8 → (-2147483648) ≤ Wb2 j ∧ Wb2 j ≤ 2147483647) ∧ (∀ j, j < 4 → (-2147483648) ≤ Wg2 j ∧ Wg2 j ≤ 2147483647))) args s 0 0 (va_A [(g0, .inr (12, mO gA nr tm at_ to_ fa va np tn pc_ st_ pa_ ta ow of_ ot rl hb bs se)), cA Z (gA 13) 0 7 Mw, cA Z (gA 14) 0 7 Mo, cR Z (gA 0) 6 7 (gG 0), cR Z (gA 4) 6 7 (gG 4), cR Z (gA 5) 6 7 (gG 5), cR Z (gA 6) 6 7 (gG 6), cR Z (gA 9) 6 7 (gG 9), cA Z (xA 0) 0 8 Ml, cA Z (xA 4) 0 8 Mow, cA Z (xA 5) 0 8 Mof, cA Z (xA 6) 0 8 Mot, cA Z (xA 9) 0 8 Md, cA Z (gA 58) 0 4 Bp, cA Z (gA 59) 0 4 Br, cA Z (gA 60) 0 8 Wo, cA Z (gA 61) 0 8 Wf, cA Z (gA 62) 0 8 Wb, cA Z (gA 63) 0 4 Wg] s.heap.size)) Z A 5 0 0 111 [(4, .int (iI k2)), (3, .int (iI n1)), (0, .ref g0), (1, .int (iI rm)), (2, .int (iI w))] [] [(g0, .inr (12, mO gA nr tm at_ to_ fa va np tn pc_ st_ pa_ ta ow of_ ot rl hb n1 se)), cA Z (gA 13) 0 7 Mw, cA Z (gA 14) 0 7 Mo, cR Z (gA 0) 6 7 (gG 0), cR Z (gA 4) 6 7 (gG 4), cR Z (gA 5) 6 7 (gG 5), cR Z (gA 6) 6 7 (gG 6), cR Z (gA 9) 6 7 (gG 9), cA Z (xA 0) 0 8 Ml, cA Z (xA 4) 0 8 Mow, cA Z (xA 5) 0 8 Mof, cA Z (xA 6) 0 8 Mot, cA Z (xA 9) 0 8 Md, cA Z (gA 58) 0 4 Bp, cA Z (gA 59) 0 4 Br, cA Z (gA 60) 0 8 Wo, cA Z (gA 61) 0 8 Wf, cA Z (gA 62) 0 8 Wb1, cA Z (gA 63) 0 4 Wg] := by
                intro fuel
                induction fuel with
                | zero => intro k2 Wb1 _ _ hm; exact absurd hm (Nat.not_lt_zero _)
                | succ fuel ih =>
                  intro k2 Wb1 b_k2 h_Wb1 hm
                  refine g_iload (pc := 111) X 0 rfl dX12_shares_111 ?_
                  refine g_aload_n (pc := 113) X 2 rfl dX12_shares_113 ?_
                  refine g_get (pc := 114) X inlX12 0 rfl rfl 13 (by decide) mw_8_1 rfl dX12_shares_114 ?_
                  refine g_iload_n (pc := 117) X 3 rfl dX12_shares_117 ?_
                  refine g_ialdI (pc := 118) X 1 rfl (b_rm.1) (Int.lt_of_le_of_lt b_rm.2 (by decide)) (Int.le_trans b_rm.2 (by decide)) dX12_shares_118 ?_
                  refine g_nameI (fun y25 ey25 => ?_)
                  have by25 : 0 ≤ y25 ∧ y25 ≤ 8 := by rw [ey25]; exact h_Mw _ (by (first | (clear b_nr b_tm b_at_ b_to_ b_fa b_va b_np b_tn b_pc_ b_st_ b_pa_ b_ta b_ow b_of_ b_ot b_rl b_hb b_bs b_se; omega) | omega))
                  have ty25 : 1 ≤ y25 ∧ y25 ≤ 8 := by rw [ey25]; exact hwn
                  refine g_icmp_geI (pc := 119) X 142 (by decide) (inRb b_k2 (by decide) (by decide)) (inRb by25 (by decide) (by decide)) dX12_shares_119 (fun c119 => ?_) (fun c119 => ?_)
                  · exact g_vret (pc := 142) X hA (⟨Wf, Wb1, Wg, n1, rfl, rfl, (b_n1), (h_Wf), (h_Wb1), (h_Wg)⟩) (by decide) (by decide) dX12_shares_142
                  · refine g_aload_n (pc := 122) X 2 rfl dX12_shares_122 ?_
                    refine g_get (pc := 123) X inlX12 0 rfl rfl 62 (by decide) mw_9_13 rfl dX12_shares_123 ?_
                    refine g_iload (pc := 126) X 0 rfl dX12_shares_126 ?_
                    refine g_aload_n (pc := 128) X 2 rfl dX12_shares_128 ?_
                    refine g_get (pc := 129) X inlX12 0 rfl rfl 61 (by decide) mw_9_12 rfl dX12_shares_129 ?_
                    refine g_iload (pc := 132) X 0 rfl dX12_shares_132 ?_
                    refine g_ialdI (pc := 134) X 16 rfl (b_k2.1) (by (first | (clear b_nr b_tm b_at_ b_to_ b_fa b_va b_np b_tn b_pc_ b_st_ b_pa_ b_ta b_ow b_of_ b_ot b_rl b_hb b_bs b_se; omega) | omega)) (Int.le_trans b_k2.2 (by decide)) dX12_shares_134 ?_
                    refine g_nameI (fun y26 ey26 => ?_)
                    have by26 : (-2147483648) ≤ y26 ∧ y26 ≤ 2147483647 := by rw [ey26]; exact h_Wf _ (by (first | (clear b_nr b_tm b_at_ b_to_ b_fa b_va b_np b_tn b_pc_ b_st_ b_pa_ b_ta b_ow b_of_ b_ot b_rl b_hb b_bs b_se; omega) | omega))
                    refine g_iastG (pc := 135) X 17 rfl (b_k2.1) (by (first | (clear b_nr b_tm b_at_ b_to_ b_fa b_va b_np b_tn b_pc_ b_st_ b_pa_ b_ta b_ow b_of_ b_ot b_rl b_hb b_bs b_se; omega) | omega)) (Int.le_trans b_k2.2 (by decide)) (ws' := fun F27 => [(g0, .inr (12, mO gA nr tm at_ to_ fa va np tn pc_ st_ pa_ ta ow of_ ot rl hb n1 se)), cA Z (gA 13) 0 7 Mw, cA Z (gA 14) 0 7 Mo, cR Z (gA 0) 6 7 (gG 0), cR Z (gA 4) 6 7 (gG 4), cR Z (gA 5) 6 7 (gG 5), cR Z (gA 6) 6 7 (gG 6), cR Z (gA 9) 6 7 (gG 9), cA Z (xA 0) 0 8 Ml, cA Z (xA 4) 0 8 Mow, cA Z (xA 5) 0 8 Mof, cA Z (xA 6) 0 8 Mot, cA Z (xA 9) 0 8 Md, cA Z (gA 58) 0 4 Bp, cA Z (gA 59) 0 4 Br, cA Z (gA 60) 0 8 Wo, cA Z (gA 61) 0 8 Wf, cA Z (gA 62) 0 8 F27, cA Z (gA 63) 0 4 Wg]) (fun _ => rfl) dX12_shares_135 (fun F27 eF27 => ?_)
                    have hF27 : ∀ j, j < 8 → (-2147483648) ≤ F27 j ∧ F27 j ≤ 2147483647 := by rw [eF27]; exact updI_B h_Wb1 (by (first | (clear b_nr b_tm b_at_ b_to_ b_fa b_va b_np b_tn b_pc_ b_st_ b_pa_ b_ta b_ow b_of_ b_ot b_rl b_hb b_bs b_se; omega) | omega))
                    refine g_iincI (pc := 136) X 0 rfl (by decide) (lv' := [(4, .int (iI (k2 + 1))), (3, .int (iI n1)), (0, .ref g0), (1, .int (iI rm)), (2, .int (iI w))]) rfl dX12_shares_136 ?_
                    refine g_goto (pc := 139) X 111 (by decide) dX12_shares_139 ?_
                    exact ih (k2 + 1) F27 (by (first | (clear b_nr b_tm b_at_ b_to_ b_fa b_va b_np b_tn b_pc_ b_st_ b_pa_ b_ta b_ow b_of_ b_ot b_rl b_hb b_bs b_se; omega) | omega)) (hF27) (by (first | (clear b_nr b_tm b_at_ b_to_ b_fa b_va b_np b_tn b_pc_ b_st_ b_pa_ b_ta b_ow b_of_ b_ot b_rl b_hb b_bs b_se; omega) | omega))
              exact loop111 _ 0 Wb (by (first | (clear b_nr b_tm b_at_ b_to_ b_fa b_va b_np b_tn b_pc_ b_st_ b_pa_ b_ta b_ow b_of_ b_ot b_rl b_hb b_bs b_se; omega) | omega)) (h_Wb) (Nat.lt_succ_self _)
            · exact g_vret (pc := 102) X hA (⟨Wf, Wb, Wg, bs, rfl, rfl, (b_bs), (h_Wf), (h_Wb), (h_Wg)⟩) (by decide) (by decide) dX12_shares_102
        · refine g_aload_n (pc := 26) X 2 rfl dX12_shares_26 ?_
          refine g_get (pc := 27) X inlX12 0 rfl rfl 13 (by decide) mw_8_1 rfl dX12_shares_27 ?_
          refine g_iload_n (pc := 30) X 3 rfl dX12_shares_30 ?_
          refine g_ialdI (pc := 31) X 1 rfl (b_rm.1) (Int.lt_of_le_of_lt b_rm.2 (by decide)) (Int.le_trans b_rm.2 (by decide)) dX12_shares_31 ?_
          refine g_nameI (fun y28 ey28 => ?_)
          have by28 : 0 ≤ y28 ∧ y28 ≤ 8 := by rw [ey28]; exact h_Mw _ (by (first | (clear b_nr b_tm b_at_ b_to_ b_fa b_va b_np b_tn b_pc_ b_st_ b_pa_ b_ta b_ow b_of_ b_ot b_rl b_hb b_bs b_se; omega) | omega))
          have ty28 : 1 ≤ y28 ∧ y28 ≤ 8 := by rw [ey28]; exact hwn
          refine g_iconst (pc := 32) X (iI 1) (by rfl) dX12_shares_32 ?_
          refine g_icmp_leI (pc := 33) X 86 (by decide) (inRb by28 (by decide) (by decide)) ⟨by decide, by decide⟩ dX12_shares_33 (fun c33 => ?_) (fun c33 => ?_)
          · refine g_aload_n (pc := 86) X 2 rfl dX12_shares_86 ?_
            refine g_get (pc := 87) X inlX12 0 rfl rfl 65 (by decide) mw_49_21 rfl dX12_shares_87 ?_
            refine g_iconst (pc := 90) X (iI (-1)) (by rfl) dX12_shares_90 ?_
            refine g_icmp_eqI (pc := 91) X 103 (by decide) b_bs ⟨by decide, by decide⟩ dX12_shares_91 (fun c91 => ?_) (fun c91 => ?_)
            · refine g_aload_n (pc := 103) X 2 rfl dX12_shares_103 ?_
              refine g_iload_n (pc := 104) X 1 rfl dX12_shares_104 ?_
              refine g_put (pc := 105) X inlX12 tyX12_ok nmX12 0 rfl rfl 65 (by decide) mw_49_21 rfl rfl rfl (Nat.le_of_ble_eq_true rfl) (ws' := [(g0, .inr (12, mO gA nr tm at_ to_ fa va np tn pc_ st_ pa_ ta ow of_ ot rl hb n1 se)), cA Z (gA 13) 0 7 Mw, cA Z (gA 14) 0 7 Mo, cR Z (gA 0) 6 7 (gG 0), cR Z (gA 4) 6 7 (gG 4), cR Z (gA 5) 6 7 (gG 5), cR Z (gA 6) 6 7 (gG 6), cR Z (gA 9) 6 7 (gG 9), cA Z (xA 0) 0 8 Ml, cA Z (xA 4) 0 8 Mow, cA Z (xA 5) 0 8 Mof, cA Z (xA 6) 0 8 Mot, cA Z (xA 9) 0 8 Md, cA Z (gA 58) 0 4 Bp, cA Z (gA 59) 0 4 Br, cA Z (gA 60) 0 8 Wo, cA Z (gA 61) 0 8 Wf, cA Z (gA 62) 0 8 Wb, cA Z (gA 63) 0 4 Wg]) rfl dX12_shares_105 ?_
              refine g_iconst (pc := 108) X (iI 0) (by rfl) dX12_shares_108 ?_
              refine g_istore (pc := 109) X (by decide) (lv' := [(4, .int (iI 0)), (3, .int (iI n1)), (0, .ref g0), (1, .int (iI rm)), (2, .int (iI w))]) rfl dX12_shares_109 ?_
              have loop111 : ∀ (fuel : Nat) (k2 : Int) (Wb1 : Nat → Int), (0 ≤ k2 ∧ k2 ≤ 8) → (∀ j, j < 8 → (-2147483648) ≤ Wb1 j ∧ Wb1 j ≤ 2147483647) → (9 - k2).toNat < fuel → Gs p l e ({ frames := 9, cells := 0, slots := 0, locals := 216 } : Room) s m args below meth c (MQ below (gPost Z [(g0, .inr (12, mO gA nr tm at_ to_ fa va np tn pc_ st_ pa_ ta ow of_ ot rl hb bs se)), cA Z (gA 13) 0 7 Mw, cA Z (gA 14) 0 7 Mo, cR Z (gA 0) 6 7 (gG 0), cR Z (gA 4) 6 7 (gG 4), cR Z (gA 5) 6 7 (gG 5), cR Z (gA 6) 6 7 (gG 6), cR Z (gA 9) 6 7 (gG 9), cA Z (xA 0) 0 8 Ml, cA Z (xA 4) 0 8 Mow, cA Z (xA 5) 0 8 Mof, cA Z (xA 6) 0 8 Mot, cA Z (xA 9) 0 8 Md, cA Z (gA 58) 0 4 Bp, cA Z (gA 59) 0 4 Br, cA Z (gA 60) 0 8 Wo, cA Z (gA 61) 0 8 Wf, cA Z (gA 62) 0 8 Wb, cA Z (gA 63) 0 4 Wg] s.heap.size (fun r w' => ∃ (Wf2 : Nat → Int) (Wb2 : Nat → Int) (Wg2 : Nat → Int) (bs2 : Int), (r = none) ∧ (w' = [(g0, .inr (12, mO gA nr tm at_ to_ fa va np tn pc_ st_ pa_ ta ow of_ ot rl hb bs2 se)), cA Z (gA 13) 0 7 Mw, cA Z (gA 14) 0 7 Mo, cR Z (gA 0) 6 7 (gG 0), cR Z (gA 4) 6 7 (gG 4), cR Z (gA 5) 6 7 (gG 5), cR Z (gA 6) 6 7 (gG 6), cR Z (gA 9) 6 7 (gG 9), cA Z (xA 0) 0 8 Ml, cA Z (xA 4) 0 8 Mow, cA Z (xA 5) 0 8 Mof, cA Z (xA 6) 0 8 Mot, cA Z (xA 9) 0 8 Md, cA Z (gA 58) 0 4 Bp, cA Z (gA 59) 0 4 Br, cA Z (gA 60) 0 8 Wo, cA Z (gA 61) 0 8 Wf2, cA Z (gA 62) 0 8 Wb2, cA Z (gA 63) 0 4 Wg2]) ∧ ((-2147483648) ≤ bs2 ∧ bs2 ≤ 2147483647) ∧ (∀ j, j < 8 → (-2147483648) ≤ Wf2 j ∧ Wf2 j ≤ 2147483647) ∧ (∀ j, j < 8 → (-2147483648) ≤ Wb2 j ∧ Wb2 j ≤ 2147483647) ∧ (∀ j, j < 4 → (-2147483648) ≤ Wg2 j ∧ Wg2 j ≤ 2147483647))) args s 0 0 (va_A [(g0, .inr (12, mO gA nr tm at_ to_ fa va np tn pc_ st_ pa_ ta ow of_ ot rl hb bs se)), cA Z (gA 13) 0 7 Mw, cA Z (gA 14) 0 7 Mo, cR Z (gA 0) 6 7 (gG 0), cR Z (gA 4) 6 7 (gG 4), cR Z (gA 5) 6 7 (gG 5), cR Z (gA 6) 6 7 (gG 6), cR Z (gA 9) 6 7 (gG 9), cA Z (xA 0) 0 8 Ml, cA Z (xA 4) 0 8 Mow, cA Z (xA 5) 0 8 Mof, cA Z (xA 6) 0 8 Mot, cA Z (xA 9) 0 8 Md, cA Z (gA 58) 0 4 Bp, cA Z (gA 59) 0 4 Br, cA Z (gA 60) 0 8 Wo, cA Z (gA 61) 0 8 Wf, cA Z (gA 62) 0 8 Wb, cA Z (gA 63) 0 4 Wg] s.heap.size)) Z A 5 0 0 111 [(4, .int (iI k2)), (3, .int (iI n1)), (0, .ref g0), (1, .int (iI rm)), (2, .int (iI w))] [] [(g0, .inr (12, mO gA nr tm at_ to_ fa va np tn pc_ st_ pa_ ta ow of_ ot rl hb n1 se)), cA Z (gA 13) 0 7 Mw, cA Z (gA 14) 0 7 Mo, cR Z (gA 0) 6 7 (gG 0), cR Z (gA 4) 6 7 (gG 4), cR Z (gA 5) 6 7 (gG 5), cR Z (gA 6) 6 7 (gG 6), cR Z (gA 9) 6 7 (gG 9), cA Z (xA 0) 0 8 Ml, cA Z (xA 4) 0 8 Mow, cA Z (xA 5) 0 8 Mof, cA Z (xA 6) 0 8 Mot, cA Z (xA 9) 0 8 Md, cA Z (gA 58) 0 4 Bp, cA Z (gA 59) 0 4 Br, cA Z (gA 60) 0 8 Wo, cA Z (gA 61) 0 8 Wf, cA Z (gA 62) 0 8 Wb1, cA Z (gA 63) 0 4 Wg] := by
                intro fuel
                induction fuel with
                | zero => intro k2 Wb1 _ _ hm; exact absurd hm (Nat.not_lt_zero _)
                | succ fuel ih =>
                  intro k2 Wb1 b_k2 h_Wb1 hm
                  refine g_iload (pc := 111) X 0 rfl dX12_shares_111 ?_
                  refine g_aload_n (pc := 113) X 2 rfl dX12_shares_113 ?_
                  refine g_get (pc := 114) X inlX12 0 rfl rfl 13 (by decide) mw_8_1 rfl dX12_shares_114 ?_
                  refine g_iload_n (pc := 117) X 3 rfl dX12_shares_117 ?_
                  refine g_ialdI (pc := 118) X 1 rfl (b_rm.1) (Int.lt_of_le_of_lt b_rm.2 (by decide)) (Int.le_trans b_rm.2 (by decide)) dX12_shares_118 ?_
                  refine g_nameI (fun y29 ey29 => ?_)
                  have by29 : 0 ≤ y29 ∧ y29 ≤ 8 := by rw [ey29]; exact h_Mw _ (by (first | (clear b_nr b_tm b_at_ b_to_ b_fa b_va b_np b_tn b_pc_ b_st_ b_pa_ b_ta b_ow b_of_ b_ot b_rl b_hb b_bs b_se; omega) | omega))
                  have ty29 : 1 ≤ y29 ∧ y29 ≤ 8 := by rw [ey29]; exact hwn
                  refine g_icmp_geI (pc := 119) X 142 (by decide) (inRb b_k2 (by decide) (by decide)) (inRb by29 (by decide) (by decide)) dX12_shares_119 (fun c119 => ?_) (fun c119 => ?_)
                  · exact g_vret (pc := 142) X hA (⟨Wf, Wb1, Wg, n1, rfl, rfl, (b_n1), (h_Wf), (h_Wb1), (h_Wg)⟩) (by decide) (by decide) dX12_shares_142
                  · refine g_aload_n (pc := 122) X 2 rfl dX12_shares_122 ?_
                    refine g_get (pc := 123) X inlX12 0 rfl rfl 62 (by decide) mw_9_13 rfl dX12_shares_123 ?_
                    refine g_iload (pc := 126) X 0 rfl dX12_shares_126 ?_
                    refine g_aload_n (pc := 128) X 2 rfl dX12_shares_128 ?_
                    refine g_get (pc := 129) X inlX12 0 rfl rfl 61 (by decide) mw_9_12 rfl dX12_shares_129 ?_
                    refine g_iload (pc := 132) X 0 rfl dX12_shares_132 ?_
                    refine g_ialdI (pc := 134) X 16 rfl (b_k2.1) (by (first | (clear b_nr b_tm b_at_ b_to_ b_fa b_va b_np b_tn b_pc_ b_st_ b_pa_ b_ta b_ow b_of_ b_ot b_rl b_hb b_bs b_se; omega) | omega)) (Int.le_trans b_k2.2 (by decide)) dX12_shares_134 ?_
                    refine g_nameI (fun y30 ey30 => ?_)
                    have by30 : (-2147483648) ≤ y30 ∧ y30 ≤ 2147483647 := by rw [ey30]; exact h_Wf _ (by (first | (clear b_nr b_tm b_at_ b_to_ b_fa b_va b_np b_tn b_pc_ b_st_ b_pa_ b_ta b_ow b_of_ b_ot b_rl b_hb b_bs b_se; omega) | omega))
                    refine g_iastG (pc := 135) X 17 rfl (b_k2.1) (by (first | (clear b_nr b_tm b_at_ b_to_ b_fa b_va b_np b_tn b_pc_ b_st_ b_pa_ b_ta b_ow b_of_ b_ot b_rl b_hb b_bs b_se; omega) | omega)) (Int.le_trans b_k2.2 (by decide)) (ws' := fun F31 => [(g0, .inr (12, mO gA nr tm at_ to_ fa va np tn pc_ st_ pa_ ta ow of_ ot rl hb n1 se)), cA Z (gA 13) 0 7 Mw, cA Z (gA 14) 0 7 Mo, cR Z (gA 0) 6 7 (gG 0), cR Z (gA 4) 6 7 (gG 4), cR Z (gA 5) 6 7 (gG 5), cR Z (gA 6) 6 7 (gG 6), cR Z (gA 9) 6 7 (gG 9), cA Z (xA 0) 0 8 Ml, cA Z (xA 4) 0 8 Mow, cA Z (xA 5) 0 8 Mof, cA Z (xA 6) 0 8 Mot, cA Z (xA 9) 0 8 Md, cA Z (gA 58) 0 4 Bp, cA Z (gA 59) 0 4 Br, cA Z (gA 60) 0 8 Wo, cA Z (gA 61) 0 8 Wf, cA Z (gA 62) 0 8 F31, cA Z (gA 63) 0 4 Wg]) (fun _ => rfl) dX12_shares_135 (fun F31 eF31 => ?_)
                    have hF31 : ∀ j, j < 8 → (-2147483648) ≤ F31 j ∧ F31 j ≤ 2147483647 := by rw [eF31]; exact updI_B h_Wb1 (by (first | (clear b_nr b_tm b_at_ b_to_ b_fa b_va b_np b_tn b_pc_ b_st_ b_pa_ b_ta b_ow b_of_ b_ot b_rl b_hb b_bs b_se; omega) | omega))
                    refine g_iincI (pc := 136) X 0 rfl (by decide) (lv' := [(4, .int (iI (k2 + 1))), (3, .int (iI n1)), (0, .ref g0), (1, .int (iI rm)), (2, .int (iI w))]) rfl dX12_shares_136 ?_
                    refine g_goto (pc := 139) X 111 (by decide) dX12_shares_139 ?_
                    exact ih (k2 + 1) F31 (by (first | (clear b_nr b_tm b_at_ b_to_ b_fa b_va b_np b_tn b_pc_ b_st_ b_pa_ b_ta b_ow b_of_ b_ot b_rl b_hb b_bs b_se; omega) | omega)) (hF31) (by (first | (clear b_nr b_tm b_at_ b_to_ b_fa b_va b_np b_tn b_pc_ b_st_ b_pa_ b_ta b_ow b_of_ b_ot b_rl b_hb b_bs b_se; omega) | omega))
              exact loop111 _ 0 Wb (by (first | (clear b_nr b_tm b_at_ b_to_ b_fa b_va b_np b_tn b_pc_ b_st_ b_pa_ b_ta b_ow b_of_ b_ot b_rl b_hb b_bs b_se; omega) | omega)) (h_Wb) (Nat.lt_succ_self _)
            · refine g_iload_n (pc := 94) X 1 rfl dX12_shares_94 ?_
              refine g_aload_n (pc := 95) X 2 rfl dX12_shares_95 ?_
              refine g_get (pc := 96) X inlX12 0 rfl rfl 65 (by decide) mw_49_21 rfl dX12_shares_96 ?_
              refine g_icmp_ltI (pc := 99) X 103 (by decide) b_n1 b_bs dX12_shares_99 (fun c99 => ?_) (fun c99 => ?_)
              · refine g_aload_n (pc := 103) X 2 rfl dX12_shares_103 ?_
                refine g_iload_n (pc := 104) X 1 rfl dX12_shares_104 ?_
                refine g_put (pc := 105) X inlX12 tyX12_ok nmX12 0 rfl rfl 65 (by decide) mw_49_21 rfl rfl rfl (Nat.le_of_ble_eq_true rfl) (ws' := [(g0, .inr (12, mO gA nr tm at_ to_ fa va np tn pc_ st_ pa_ ta ow of_ ot rl hb n1 se)), cA Z (gA 13) 0 7 Mw, cA Z (gA 14) 0 7 Mo, cR Z (gA 0) 6 7 (gG 0), cR Z (gA 4) 6 7 (gG 4), cR Z (gA 5) 6 7 (gG 5), cR Z (gA 6) 6 7 (gG 6), cR Z (gA 9) 6 7 (gG 9), cA Z (xA 0) 0 8 Ml, cA Z (xA 4) 0 8 Mow, cA Z (xA 5) 0 8 Mof, cA Z (xA 6) 0 8 Mot, cA Z (xA 9) 0 8 Md, cA Z (gA 58) 0 4 Bp, cA Z (gA 59) 0 4 Br, cA Z (gA 60) 0 8 Wo, cA Z (gA 61) 0 8 Wf, cA Z (gA 62) 0 8 Wb, cA Z (gA 63) 0 4 Wg]) rfl dX12_shares_105 ?_
                refine g_iconst (pc := 108) X (iI 0) (by rfl) dX12_shares_108 ?_
                refine g_istore (pc := 109) X (by decide) (lv' := [(4, .int (iI 0)), (3, .int (iI n1)), (0, .ref g0), (1, .int (iI rm)), (2, .int (iI w))]) rfl dX12_shares_109 ?_
                have loop111 : ∀ (fuel : Nat) (k2 : Int) (Wb1 : Nat → Int), (0 ≤ k2 ∧ k2 ≤ 8) → (∀ j, j < 8 → (-2147483648) ≤ Wb1 j ∧ Wb1 j ≤ 2147483647) → (9 - k2).toNat < fuel → Gs p l e ({ frames := 9, cells := 0, slots := 0, locals := 216 } : Room) s m args below meth c (MQ below (gPost Z [(g0, .inr (12, mO gA nr tm at_ to_ fa va np tn pc_ st_ pa_ ta ow of_ ot rl hb bs se)), cA Z (gA 13) 0 7 Mw, cA Z (gA 14) 0 7 Mo, cR Z (gA 0) 6 7 (gG 0), cR Z (gA 4) 6 7 (gG 4), cR Z (gA 5) 6 7 (gG 5), cR Z (gA 6) 6 7 (gG 6), cR Z (gA 9) 6 7 (gG 9), cA Z (xA 0) 0 8 Ml, cA Z (xA 4) 0 8 Mow, cA Z (xA 5) 0 8 Mof, cA Z (xA 6) 0 8 Mot, cA Z (xA 9) 0 8 Md, cA Z (gA 58) 0 4 Bp, cA Z (gA 59) 0 4 Br, cA Z (gA 60) 0 8 Wo, cA Z (gA 61) 0 8 Wf, cA Z (gA 62) 0 8 Wb, cA Z (gA 63) 0 4 Wg] s.heap.size (fun r w' => ∃ (Wf2 : Nat → Int) (Wb2 : Nat → Int) (Wg2 : Nat → Int) (bs2 : Int), (r = none) ∧ (w' = [(g0, .inr (12, mO gA nr tm at_ to_ fa va np tn pc_ st_ pa_ ta ow of_ ot rl hb bs2 se)), cA Z (gA 13) 0 7 Mw, cA Z (gA 14) 0 7 Mo, cR Z (gA 0) 6 7 (gG 0), cR Z (gA 4) 6 7 (gG 4), cR Z (gA 5) 6 7 (gG 5), cR Z (gA 6) 6 7 (gG 6), cR Z (gA 9) 6 7 (gG 9), cA Z (xA 0) 0 8 Ml, cA Z (xA 4) 0 8 Mow, cA Z (xA 5) 0 8 Mof, cA Z (xA 6) 0 8 Mot, cA Z (xA 9) 0 8 Md, cA Z (gA 58) 0 4 Bp, cA Z (gA 59) 0 4 Br, cA Z (gA 60) 0 8 Wo, cA Z (gA 61) 0 8 Wf2, cA Z (gA 62) 0 8 Wb2, cA Z (gA 63) 0 4 Wg2]) ∧ ((-2147483648) ≤ bs2 ∧ bs2 ≤ 2147483647) ∧ (∀ j, j < 8 → (-2147483648) ≤ Wf2 j ∧ Wf2 j ≤ 2147483647) ∧ (∀ j, j < 8 → (-2147483648) ≤ Wb2 j ∧ Wb2 j ≤ 2147483647) ∧ (∀ j, j < 4 → (-2147483648) ≤ Wg2 j ∧ Wg2 j ≤ 2147483647))) args s 0 0 (va_A [(g0, .inr (12, mO gA nr tm at_ to_ fa va np tn pc_ st_ pa_ ta ow of_ ot rl hb bs se)), cA Z (gA 13) 0 7 Mw, cA Z (gA 14) 0 7 Mo, cR Z (gA 0) 6 7 (gG 0), cR Z (gA 4) 6 7 (gG 4), cR Z (gA 5) 6 7 (gG 5), cR Z (gA 6) 6 7 (gG 6), cR Z (gA 9) 6 7 (gG 9), cA Z (xA 0) 0 8 Ml, cA Z (xA 4) 0 8 Mow, cA Z (xA 5) 0 8 Mof, cA Z (xA 6) 0 8 Mot, cA Z (xA 9) 0 8 Md, cA Z (gA 58) 0 4 Bp, cA Z (gA 59) 0 4 Br, cA Z (gA 60) 0 8 Wo, cA Z (gA 61) 0 8 Wf, cA Z (gA 62) 0 8 Wb, cA Z (gA 63) 0 4 Wg] s.heap.size)) Z A 5 0 0 111 [(4, .int (iI k2)), (3, .int (iI n1)), (0, .ref g0), (1, .int (iI rm)), (2, .int (iI w))] [] [(g0, .inr (12, mO gA nr tm at_ to_ fa va np tn pc_ st_ pa_ ta ow of_ ot rl hb n1 se)), cA Z (gA 13) 0 7 Mw, cA Z (gA 14) 0 7 Mo, cR Z (gA 0) 6 7 (gG 0), cR Z (gA 4) 6 7 (gG 4), cR Z (gA 5) 6 7 (gG 5), cR Z (gA 6) 6 7 (gG 6), cR Z (gA 9) 6 7 (gG 9), cA Z (xA 0) 0 8 Ml, cA Z (xA 4) 0 8 Mow, cA Z (xA 5) 0 8 Mof, cA Z (xA 6) 0 8 Mot, cA Z (xA 9) 0 8 Md, cA Z (gA 58) 0 4 Bp, cA Z (gA 59) 0 4 Br, cA Z (gA 60) 0 8 Wo, cA Z (gA 61) 0 8 Wf, cA Z (gA 62) 0 8 Wb1, cA Z (gA 63) 0 4 Wg] := by
                  intro fuel
                  induction fuel with
                  | zero => intro k2 Wb1 _ _ hm; exact absurd hm (Nat.not_lt_zero _)
                  | succ fuel ih =>
                    intro k2 Wb1 b_k2 h_Wb1 hm
                    refine g_iload (pc := 111) X 0 rfl dX12_shares_111 ?_
                    refine g_aload_n (pc := 113) X 2 rfl dX12_shares_113 ?_
                    refine g_get (pc := 114) X inlX12 0 rfl rfl 13 (by decide) mw_8_1 rfl dX12_shares_114 ?_
                    refine g_iload_n (pc := 117) X 3 rfl dX12_shares_117 ?_
                    refine g_ialdI (pc := 118) X 1 rfl (b_rm.1) (Int.lt_of_le_of_lt b_rm.2 (by decide)) (Int.le_trans b_rm.2 (by decide)) dX12_shares_118 ?_
                    refine g_nameI (fun y32 ey32 => ?_)
                    have by32 : 0 ≤ y32 ∧ y32 ≤ 8 := by rw [ey32]; exact h_Mw _ (by (first | (clear b_nr b_tm b_at_ b_to_ b_fa b_va b_np b_tn b_pc_ b_st_ b_pa_ b_ta b_ow b_of_ b_ot b_rl b_hb b_bs b_se; omega) | omega))
                    have ty32 : 1 ≤ y32 ∧ y32 ≤ 8 := by rw [ey32]; exact hwn
                    refine g_icmp_geI (pc := 119) X 142 (by decide) (inRb b_k2 (by decide) (by decide)) (inRb by32 (by decide) (by decide)) dX12_shares_119 (fun c119 => ?_) (fun c119 => ?_)
                    · exact g_vret (pc := 142) X hA (⟨Wf, Wb1, Wg, n1, rfl, rfl, (b_n1), (h_Wf), (h_Wb1), (h_Wg)⟩) (by decide) (by decide) dX12_shares_142
                    · refine g_aload_n (pc := 122) X 2 rfl dX12_shares_122 ?_
                      refine g_get (pc := 123) X inlX12 0 rfl rfl 62 (by decide) mw_9_13 rfl dX12_shares_123 ?_
                      refine g_iload (pc := 126) X 0 rfl dX12_shares_126 ?_
                      refine g_aload_n (pc := 128) X 2 rfl dX12_shares_128 ?_
                      refine g_get (pc := 129) X inlX12 0 rfl rfl 61 (by decide) mw_9_12 rfl dX12_shares_129 ?_
                      refine g_iload (pc := 132) X 0 rfl dX12_shares_132 ?_
                      refine g_ialdI (pc := 134) X 16 rfl (b_k2.1) (by (first | (clear b_nr b_tm b_at_ b_to_ b_fa b_va b_np b_tn b_pc_ b_st_ b_pa_ b_ta b_ow b_of_ b_ot b_rl b_hb b_bs b_se; omega) | omega)) (Int.le_trans b_k2.2 (by decide)) dX12_shares_134 ?_
                      refine g_nameI (fun y33 ey33 => ?_)
                      have by33 : (-2147483648) ≤ y33 ∧ y33 ≤ 2147483647 := by rw [ey33]; exact h_Wf _ (by (first | (clear b_nr b_tm b_at_ b_to_ b_fa b_va b_np b_tn b_pc_ b_st_ b_pa_ b_ta b_ow b_of_ b_ot b_rl b_hb b_bs b_se; omega) | omega))
                      refine g_iastG (pc := 135) X 17 rfl (b_k2.1) (by (first | (clear b_nr b_tm b_at_ b_to_ b_fa b_va b_np b_tn b_pc_ b_st_ b_pa_ b_ta b_ow b_of_ b_ot b_rl b_hb b_bs b_se; omega) | omega)) (Int.le_trans b_k2.2 (by decide)) (ws' := fun F34 => [(g0, .inr (12, mO gA nr tm at_ to_ fa va np tn pc_ st_ pa_ ta ow of_ ot rl hb n1 se)), cA Z (gA 13) 0 7 Mw, cA Z (gA 14) 0 7 Mo, cR Z (gA 0) 6 7 (gG 0), cR Z (gA 4) 6 7 (gG 4), cR Z (gA 5) 6 7 (gG 5), cR Z (gA 6) 6 7 (gG 6), cR Z (gA 9) 6 7 (gG 9), cA Z (xA 0) 0 8 Ml, cA Z (xA 4) 0 8 Mow, cA Z (xA 5) 0 8 Mof, cA Z (xA 6) 0 8 Mot, cA Z (xA 9) 0 8 Md, cA Z (gA 58) 0 4 Bp, cA Z (gA 59) 0 4 Br, cA Z (gA 60) 0 8 Wo, cA Z (gA 61) 0 8 Wf, cA Z (gA 62) 0 8 F34, cA Z (gA 63) 0 4 Wg]) (fun _ => rfl) dX12_shares_135 (fun F34 eF34 => ?_)
                      have hF34 : ∀ j, j < 8 → (-2147483648) ≤ F34 j ∧ F34 j ≤ 2147483647 := by rw [eF34]; exact updI_B h_Wb1 (by (first | (clear b_nr b_tm b_at_ b_to_ b_fa b_va b_np b_tn b_pc_ b_st_ b_pa_ b_ta b_ow b_of_ b_ot b_rl b_hb b_bs b_se; omega) | omega))
                      refine g_iincI (pc := 136) X 0 rfl (by decide) (lv' := [(4, .int (iI (k2 + 1))), (3, .int (iI n1)), (0, .ref g0), (1, .int (iI rm)), (2, .int (iI w))]) rfl dX12_shares_136 ?_
                      refine g_goto (pc := 139) X 111 (by decide) dX12_shares_139 ?_
                      exact ih (k2 + 1) F34 (by (first | (clear b_nr b_tm b_at_ b_to_ b_fa b_va b_np b_tn b_pc_ b_st_ b_pa_ b_ta b_ow b_of_ b_ot b_rl b_hb b_bs b_se; omega) | omega)) (hF34) (by (first | (clear b_nr b_tm b_at_ b_to_ b_fa b_va b_np b_tn b_pc_ b_st_ b_pa_ b_ta b_ow b_of_ b_ot b_rl b_hb b_bs b_se; omega) | omega))
                exact loop111 _ 0 Wb (by (first | (clear b_nr b_tm b_at_ b_to_ b_fa b_va b_np b_tn b_pc_ b_st_ b_pa_ b_ta b_ow b_of_ b_ot b_rl b_hb b_bs b_se; omega) | omega)) (h_Wb) (Nat.lt_succ_self _)
              · exact g_vret (pc := 102) X hA (⟨Wf, Wb, Wg, bs, rfl, rfl, (b_bs), (h_Wf), (h_Wb), (h_Wg)⟩) (by decide) (by decide) dX12_shares_102
          · refine g_iload_n (pc := 36) X 1 rfl dX12_shares_36 ?_
            refine g_aload_n (pc := 37) X 2 rfl dX12_shares_37 ?_
            refine g_get (pc := 38) X inlX12 0 rfl rfl 61 (by decide) mw_9_12 rfl dX12_shares_38 ?_
            refine g_iload (pc := 41) X 0 rfl dX12_shares_41 ?_
            refine g_ialdI (pc := 43) X 16 rfl (b_k1.1) (by (first | (clear b_nr b_tm b_at_ b_to_ b_fa b_va b_np b_tn b_pc_ b_st_ b_pa_ b_ta b_ow b_of_ b_ot b_rl b_hb b_bs b_se; omega) | omega)) (Int.le_trans b_k1.2 (by decide)) dX12_shares_43 ?_
            refine g_nameI (fun y35 ey35 => ?_)
            have by35 : (-2147483648) ≤ y35 ∧ y35 ≤ 2147483647 := by rw [ey35]; exact h_Wf _ (by (first | (clear b_nr b_tm b_at_ b_to_ b_fa b_va b_np b_tn b_pc_ b_st_ b_pa_ b_ta b_ow b_of_ b_ot b_rl b_hb b_bs b_se; omega) | omega))
            refine g_aload_n (pc := 44) X 2 rfl dX12_shares_44 ?_
            refine g_get (pc := 45) X inlX12 0 rfl rfl 61 (by decide) mw_9_12 rfl dX12_shares_45 ?_
            refine g_iload (pc := 48) X 0 rfl dX12_shares_48 ?_
            refine g_iconst (pc := 50) X (iI 1) (by rfl) dX12_shares_50 ?_
            refine g_iaddI (pc := 51) X dX12_shares_51 ?_
            refine g_aload_n (pc := 52) X 2 rfl dX12_shares_52 ?_
            refine g_get (pc := 53) X inlX12 0 rfl rfl 13 (by decide) mw_8_1 rfl dX12_shares_53 ?_
            refine g_iload_n (pc := 56) X 3 rfl dX12_shares_56 ?_
            refine g_ialdI (pc := 57) X 1 rfl (b_rm.1) (Int.lt_of_le_of_lt b_rm.2 (by decide)) (Int.le_trans b_rm.2 (by decide)) dX12_shares_57 ?_
            refine g_nameI (fun y36 ey36 => ?_)
            have by36 : 0 ≤ y36 ∧ y36 ≤ 8 := by rw [ey36]; exact h_Mw _ (by (first | (clear b_nr b_tm b_at_ b_to_ b_fa b_va b_np b_tn b_pc_ b_st_ b_pa_ b_ta b_ow b_of_ b_ot b_rl b_hb b_bs b_se; omega) | omega))
            have ty36 : 1 ≤ y36 ∧ y36 ≤ 8 := by rw [ey36]; exact hwn
            refine g_iremP (pc := 58) X (by (first | (clear b_nr b_tm b_at_ b_to_ b_fa b_va b_np b_tn b_pc_ b_st_ b_pa_ b_ta b_ow b_of_ b_ot b_rl b_hb b_bs b_se; omega) | omega)) (by (first | (clear b_nr b_tm b_at_ b_to_ b_fa b_va b_np b_tn b_pc_ b_st_ b_pa_ b_ta b_ow b_of_ b_ot b_rl b_hb b_bs b_se; omega) | omega)) (by (first | (clear b_nr b_tm b_at_ b_to_ b_fa b_va b_np b_tn b_pc_ b_st_ b_pa_ b_ta b_ow b_of_ b_ot b_rl b_hb b_bs b_se; omega) | omega)) (by (first | (clear b_nr b_tm b_at_ b_to_ b_fa b_va b_np b_tn b_pc_ b_st_ b_pa_ b_ta b_ow b_of_ b_ot b_rl b_hb b_bs b_se; omega) | omega)) dX12_shares_58 ?_
            refine g_nameI (fun y37 ey37 => ?_)
            have by37 : 0 ≤ y37 ∧ y37 ≤ 7 := by rw [ey37]; exact modB (by (first | (clear b_nr b_tm b_at_ b_to_ b_fa b_va b_np b_tn b_pc_ b_st_ b_pa_ b_ta b_ow b_of_ b_ot b_rl b_hb b_bs b_se; omega) | omega)) (by (first | (clear b_nr b_tm b_at_ b_to_ b_fa b_va b_np b_tn b_pc_ b_st_ b_pa_ b_ta b_ow b_of_ b_ot b_rl b_hb b_bs b_se; omega) | omega)) (by (first | (clear b_nr b_tm b_at_ b_to_ b_fa b_va b_np b_tn b_pc_ b_st_ b_pa_ b_ta b_ow b_of_ b_ot b_rl b_hb b_bs b_se; omega) | omega))
            have cy37 : y37 < y36 := by rw [ey37]; exact Int.emod_lt_of_pos _ (by (first | (clear b_nr b_tm b_at_ b_to_ b_fa b_va b_np b_tn b_pc_ b_st_ b_pa_ b_ta b_ow b_of_ b_ot b_rl b_hb b_bs b_se; omega) | omega))
            refine g_ialdI (pc := 59) X 16 rfl (by (first | (clear b_nr b_tm b_at_ b_to_ b_fa b_va b_np b_tn b_pc_ b_st_ b_pa_ b_ta b_ow b_of_ b_ot b_rl b_hb b_bs b_se; omega) | omega)) (by (first | (clear b_nr b_tm b_at_ b_to_ b_fa b_va b_np b_tn b_pc_ b_st_ b_pa_ b_ta b_ow b_of_ b_ot b_rl b_hb b_bs b_se; omega) | omega)) (by (first | (clear b_nr b_tm b_at_ b_to_ b_fa b_va b_np b_tn b_pc_ b_st_ b_pa_ b_ta b_ow b_of_ b_ot b_rl b_hb b_bs b_se; omega) | omega)) dX12_shares_59 ?_
            refine g_nameI (fun y38 ey38 => ?_)
            have by38 : (-2147483648) ≤ y38 ∧ y38 ≤ 2147483647 := by rw [ey38]; exact h_Wf _ (by (first | (clear b_nr b_tm b_at_ b_to_ b_fa b_va b_np b_tn b_pc_ b_st_ b_pa_ b_ta b_ow b_of_ b_ot b_rl b_hb b_bs b_se; omega) | omega))
            refine g_icmp_eqI (pc := 60) X 77 (by decide) by35 by38 dX12_shares_60 (fun c60 => ?_) (fun c60 => ?_)
            · refine g_iconst (pc := 77) X (iI 0) (by rfl) dX12_shares_77 ?_
              refine g_iaddI (pc := 78) X dX12_shares_78 ?_
              refine g_istore_n (pc := 79) X (i := 3) rfl (by decide) (lv' := [(3, .int (iI (n1 + 0))), (4, .int (iI k1)), (0, .ref g0), (1, .int (iI rm)), (2, .int (iI w))]) rfl dX12_shares_79 ?_
              refine g_iincI (pc := 80) X 1 rfl (by decide) (lv' := [(4, .int (iI (k1 + 1))), (3, .int (iI (n1 + 0))), (0, .ref g0), (1, .int (iI rm)), (2, .int (iI w))]) rfl dX12_shares_80 ?_
              refine g_goto (pc := 83) X 15 (by decide) dX12_shares_83 ?_
              exact ih (n1 + 0) (k1 + 1) (by (first | (clear b_nr b_tm b_at_ b_to_ b_fa b_va b_np b_tn b_pc_ b_st_ b_pa_ b_ta b_ow b_of_ b_ot b_rl b_hb b_bs b_se; omega) | omega)) (by (first | (clear b_nr b_tm b_at_ b_to_ b_fa b_va b_np b_tn b_pc_ b_st_ b_pa_ b_ta b_ow b_of_ b_ot b_rl b_hb b_bs b_se; omega) | omega)) (by (first | (clear b_nr b_tm b_at_ b_to_ b_fa b_va b_np b_tn b_pc_ b_st_ b_pa_ b_ta b_ow b_of_ b_ot b_rl b_hb b_bs b_se; omega) | omega))
            · refine g_aload_n (pc := 63) X 2 rfl dX12_shares_63 ?_
              refine g_iload_n (pc := 64) X 3 rfl dX12_shares_64 ?_
              refine g_iload (pc := 65) X 0 rfl dX12_shares_65 ?_
              refine g_callV (pc := 67) X (k_X12_hasDoor l Z g0 gA gG xA Mw Mo Ml Mow Mof Mot Md rm k1 nr tm at_ to_ fa va np tn pc_ st_ pa_ ta ow of_ ot rl hb bs se b_rm (by (first | (clear b_nr b_tm b_at_ b_to_ b_fa b_va b_np b_tn b_pc_ b_st_ b_pa_ b_ta b_ow b_of_ b_ot b_rl b_hb b_bs b_se; omega) | omega)) b_nr b_tm b_at_ b_to_ b_fa b_va b_np b_tn b_pc_ b_st_ b_pa_ b_ta b_ow b_of_ b_ot b_rl b_hb b_bs b_se (hG) (by (first | (clear b_nr b_tm b_at_ b_to_ b_fa b_va b_np b_tn b_pc_ b_st_ b_pa_ b_ta b_ow b_of_ b_ot b_rl b_hb b_bs b_se; omega) | omega)) (h_Mw) (h_Mo) (h_Ml) (h_Mow) (h_Mof) (h_Mot) (h_Md)) iM_X12_hasDoor mw_50_6 mw_50_7 mw_50_8 0 rfl rfl [0, 1, 2, 3, 4, 5, 6, 7, 8, 9, 10, 11, 12] [13, 14, 15, 16, 17, 18] rfl (wr := [cA Z (gA 58) 0 4 Bp, cA Z (gA 59) 0 4 Br, cA Z (gA 60) 0 8 Wo, cA Z (gA 61) 0 8 Wf, cA Z (gA 62) 0 8 Wb, cA Z (gA 63) 0 4 Wg]) rfl (by decide) rfl rfl (Nat.le_of_ble_eq_true rfl) (by decide) dX12_shares_67 (fun r w' hpo => ?_)
              refine exN_1 hpo fun y39 hz => anD_3 hz fun e_r e_w hf67_b_y => ?_; clear hz hpo; subst e_r; subst e_w
              refine g_as (pc' := 70) (lv' := [(4, .int (iI k1)), (3, .int (iI n1)), (0, .ref g0), (1, .int (iI rm)), (2, .int (iI w))]) (st' := [.int (iI y39), .int (iI n1)]) (ws' := [cA Z (gA 58) 0 4 Bp, cA Z (gA 59) 0 4 Br, cA Z (gA 60) 0 8 Wo, cA Z (gA 61) 0 8 Wf, cA Z (gA 62) 0 8 Wb, cA Z (gA 63) 0 4 Wg, (g0, .inr (12, mO gA nr tm at_ to_ fa va np tn pc_ st_ pa_ ta ow of_ ot rl hb bs se)), cA Z (gA 13) 0 7 Mw, cA Z (gA 14) 0 7 Mo, cR Z (gA 0) 6 7 (gG 0), cR Z (gA 4) 6 7 (gG 4), cR Z (gA 5) 6 7 (gG 5), cR Z (gA 6) 6 7 (gG 6), cR Z (gA 9) 6 7 (gG 9), cA Z (xA 0) 0 8 Ml, cA Z (xA 4) 0 8 Mow, cA Z (xA 5) 0 8 Mof, cA Z (xA 6) 0 8 Mot, cA Z (xA 9) 0 8 Md]) rfl rfl rfl rfl ?_
              refine g_if_neI (pc := 70) X 77 (by decide) (inRb hf67_b_y (by decide) (by decide)) dX12_shares_70 (fun c70 => ?_) (fun c70 => ?_)
              · refine g_iconst (pc := 77) X (iI 0) (by rfl) dX12_shares_77 ?_
                refine g_iaddI (pc := 78) X dX12_shares_78 ?_
                refine g_istore_n (pc := 79) X (i := 3) rfl (by decide) (lv' := [(3, .int (iI (n1 + 0))), (4, .int (iI k1)), (0, .ref g0), (1, .int (iI rm)), (2, .int (iI w))]) rfl dX12_shares_79 ?_
                refine g_iincI (pc := 80) X 1 rfl (by decide) (lv' := [(4, .int (iI (k1 + 1))), (3, .int (iI (n1 + 0))), (0, .ref g0), (1, .int (iI rm)), (2, .int (iI w))]) rfl dX12_shares_80 ?_
                refine g_goto (pc := 83) X 15 (by decide) dX12_shares_83 ?_
                refine g_ws (ws' := [(g0, .inr (12, mO gA nr tm at_ to_ fa va np tn pc_ st_ pa_ ta ow of_ ot rl hb bs se)), cA Z (gA 13) 0 7 Mw, cA Z (gA 14) 0 7 Mo, cR Z (gA 0) 6 7 (gG 0), cR Z (gA 4) 6 7 (gG 4), cR Z (gA 5) 6 7 (gG 5), cR Z (gA 6) 6 7 (gG 6), cR Z (gA 9) 6 7 (gG 9), cA Z (xA 0) 0 8 Ml, cA Z (xA 4) 0 8 Mow, cA Z (xA 5) 0 8 Mof, cA Z (xA 6) 0 8 Mot, cA Z (xA 9) 0 8 Md, cA Z (gA 58) 0 4 Bp, cA Z (gA 59) 0 4 Br, cA Z (gA 60) 0 8 Wo, cA Z (gA 61) 0 8 Wf, cA Z (gA 62) 0 8 Wb, cA Z (gA 63) 0 4 Wg]) [6, 7, 8, 9, 10, 11, 12, 13, 14, 15, 16, 17, 18, 0, 1, 2, 3, 4, 5] (by decide) rfl ?_
                exact ih (n1 + 0) (k1 + 1) (by (first | (clear b_nr b_tm b_at_ b_to_ b_fa b_va b_np b_tn b_pc_ b_st_ b_pa_ b_ta b_ow b_of_ b_ot b_rl b_hb b_bs b_se; omega) | omega)) (by (first | (clear b_nr b_tm b_at_ b_to_ b_fa b_va b_np b_tn b_pc_ b_st_ b_pa_ b_ta b_ow b_of_ b_ot b_rl b_hb b_bs b_se; omega) | omega)) (by (first | (clear b_nr b_tm b_at_ b_to_ b_fa b_va b_np b_tn b_pc_ b_st_ b_pa_ b_ta b_ow b_of_ b_ot b_rl b_hb b_bs b_se; omega) | omega))
              · refine g_iconst (pc := 73) X (iI 1) (by rfl) dX12_shares_73 ?_
                refine g_goto (pc := 74) X 78 (by decide) dX12_shares_74 ?_
                refine g_iaddI (pc := 78) X dX12_shares_78 ?_
                refine g_any (fun y41 by41 => ?_)
                refine g_istore_n (pc := 79) X (i := 3) rfl (by decide) (lv' := [(3, .int (iI y41)), (4, .int (iI k1)), (0, .ref g0), (1, .int (iI rm)), (2, .int (iI w))]) rfl dX12_shares_79 ?_
                refine g_iincI (pc := 80) X 1 rfl (by decide) (lv' := [(4, .int (iI (k1 + 1))), (3, .int (iI y41)), (0, .ref g0), (1, .int (iI rm)), (2, .int (iI w))]) rfl dX12_shares_80 ?_
                refine g_goto (pc := 83) X 15 (by decide) dX12_shares_83 ?_
                refine g_ws (ws' := [(g0, .inr (12, mO gA nr tm at_ to_ fa va np tn pc_ st_ pa_ ta ow of_ ot rl hb bs se)), cA Z (gA 13) 0 7 Mw, cA Z (gA 14) 0 7 Mo, cR Z (gA 0) 6 7 (gG 0), cR Z (gA 4) 6 7 (gG 4), cR Z (gA 5) 6 7 (gG 5), cR Z (gA 6) 6 7 (gG 6), cR Z (gA 9) 6 7 (gG 9), cA Z (xA 0) 0 8 Ml, cA Z (xA 4) 0 8 Mow, cA Z (xA 5) 0 8 Mof, cA Z (xA 6) 0 8 Mot, cA Z (xA 9) 0 8 Md, cA Z (gA 58) 0 4 Bp, cA Z (gA 59) 0 4 Br, cA Z (gA 60) 0 8 Wo, cA Z (gA 61) 0 8 Wf, cA Z (gA 62) 0 8 Wb, cA Z (gA 63) 0 4 Wg]) [6, 7, 8, 9, 10, 11, 12, 13, 14, 15, 16, 17, 18, 0, 1, 2, 3, 4, 5] (by decide) rfl ?_
                exact ih y41 (k1 + 1) (by41) (by (first | (clear b_nr b_tm b_at_ b_to_ b_fa b_va b_np b_tn b_pc_ b_st_ b_pa_ b_ta b_ow b_of_ b_ot b_rl b_hb b_bs b_se; omega) | omega)) (by (first | (clear b_nr b_tm b_at_ b_to_ b_fa b_va b_np b_tn b_pc_ b_st_ b_pa_ b_ta b_ow b_of_ b_ot b_rl b_hb b_bs b_se; omega) | omega))
    exact loop15 _ 0 0 (by (first | (clear b_nr b_tm b_at_ b_to_ b_fa b_va b_np b_tn b_pc_ b_st_ b_pa_ b_ta b_ow b_of_ b_ot b_rl b_hb b_bs b_se; omega) | omega)) (by (first | (clear b_nr b_tm b_at_ b_to_ b_fa b_va b_np b_tn b_pc_ b_st_ b_pa_ b_ta b_ow b_of_ b_ot b_rl b_hb b_bs b_se; omega) | omega)) (Nat.lt_succ_self _)
