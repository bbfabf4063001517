set_option maxHeartbeats 4000000 in
set_option maxRecDepth 100000 in
theorem k_X12_in (l : Launch) (Z : gZ) (v : Int) (a : Int) (b : Int) (b_v : (-9223372036854775808) ≤ v ∧ v ≤ 9223372036854775807) (b_a : (-9223372036854775808) ≤ a ∧ a ≤ 9223372036854775807) (b_b : (-9223372036854775808) ≤ b ∧ b ≤ 9223372036854775807) : Con l Z yX12_in cX12_in 6 (some .boolean) 0 0 0 0 [.long (lI v), .long (lI a), .long (lI b)] [] (fun r w' => (r = some (.int (iI (bI (a ≤ v ∧ v ≤ b))))) ∧ (w' = [])) := by
  refine enter (by decide) (Nat.le_of_ble_eq_true rfl) ?_
  intro p e s m args below meth c A X hnm hA
  have X : Cx p s m args meth c cX12_in 6 (some .boolean) RX12 Z A := X
  refine g_as (pc' := 0) (lv' := [(0, .long (lI v)), (2, .long (lI a)), (4, .long (lI b))]) (st' := []) (ws' := []) rfl rfl rfl rfl ?_
  refine g_lload_n (pc := 0) X 0 rfl dX12_in_0 ?_
  refine g_lload_n (pc := 1) X 1 rfl dX12_in_1 ?_
  refine g_lcmp (pc := 2) X dX12_in_2 ?_
  refine g_lcmp_lt (pc := 3) X 17 (by decide) ⟨by omega, by omega⟩ ⟨by omega, by omega⟩ dX12_in_3 (fun c3 => ?_) (fun c3 => ?_)
  · refine g_iconst (pc := 17) X (iI 0) (by rfl) dX12_in_17 ?_
    exact g_zret (pc := 18) X hA (rfl) (⟨congrArg (fun z => some (Value.int (iI z))) ((bI_f (by omega)).symm), rfl⟩) (by decide) (by decide) dX12_in_18
  · refine g_lload_n (pc := 6) X 0 rfl dX12_in_6 ?_
    refine g_lload (pc := 7) X 2 rfl dX12_in_7 ?_
    refine g_lcmp (pc := 9) X dX12_in_9 ?_
    refine g_lcmp_gt (pc := 10) X 17 (by decide) ⟨by omega, by omega⟩ ⟨by omega, by omega⟩ dX12_in_10 (fun c10 => ?_) (fun c10 => ?_)
    · refine g_iconst (pc := 17) X (iI 0) (by rfl) dX12_in_17 ?_
      exact g_zret (pc := 18) X hA (rfl) (⟨congrArg (fun z => some (Value.int (iI z))) ((bI_f (by omega)).symm), rfl⟩) (by decide) (by decide) dX12_in_18
    · refine g_iconst (pc := 13) X (iI 1) (by rfl) dX12_in_13 ?_
      refine g_goto (pc := 14) X 18 (by decide) dX12_in_14 ?_
      exact g_zret (pc := 18) X hA (rfl) (⟨congrArg (fun z => some (Value.int (iI z))) ((bI_t (by omega)).symm), rfl⟩) (by decide) (by decide) dX12_in_18

set_option maxHeartbeats 4000000 in
set_option maxRecDepth 100000 in
theorem k_X12_end (l : Launch) (Z : gZ) (g0 : Nat) (gA : Nat → Nat) (le : Int) (nr : Int) (tm : Int) (at_ : Int) (to_ : Int) (fa : Int) (va : Int) (np : Int) (tn : Int) (pc_ : Int) (st_ : Int) (pa_ : Int) (ta : Int) (ow : Int) (of_ : Int) (ot : Int) (rl : Int) (hb : Int) (bs : Int) (se : Int) (b_le : (-2147483648) ≤ le ∧ le ≤ 2147483647) (b_nr : 0 ≤ nr ∧ nr ≤ 6) (b_tm : 0 ≤ tm ∧ tm ≤ 400) (b_at_ : 0 ≤ at_ ∧ at_ ≤ 400) (b_to_ : 0 ≤ to_ ∧ to_ ≤ 400) (b_fa : (-1) ≤ fa ∧ fa ≤ 400) (b_va : (-2147483648) ≤ va ∧ va ≤ 2147483647) (b_np : 0 ≤ np ∧ np ≤ 4) (b_tn : 0 ≤ tn ∧ tn ≤ 20) (b_pc_ : 0 ≤ pc_ ∧ pc_ ≤ 480) (b_st_ : 0 ≤ st_ ∧ st_ ≤ 240) (b_pa_ : (-1) ≤ pa_ ∧ pa_ ≤ 3) (b_ta : (-2147483648) ≤ ta ∧ ta ≤ 2147483647) (b_ow : (-2147483648) ≤ ow ∧ ow ≤ 2147483647) (b_of_ : (-2147483648) ≤ of_ ∧ of_ ≤ 2147483647) (b_ot : (-2147483648) ≤ ot ∧ ot ≤ 2147483647) (b_rl : 0 ≤ rl ∧ rl ≤ 2880) (b_hb : 0 ≤ hb ∧ hb ≤ 4) (b_bs : (-2147483648) ≤ bs ∧ bs ≤ 2147483647) (b_se : 0 ≤ se ∧ se ≤ 10) : Con l Z yX12_end cX12_end 2 (some .boolean) 1 25 0 0 [.ref g0, .int (iI le)] [(g0, .inr (12, mO gA nr tm at_ to_ fa va np tn pc_ st_ pa_ ta ow of_ ot rl hb bs se))] (fun r w' => ((r = some (.int (iI 0))) ∧ (w' = [(g0, .inr (12, mO gA nr tm at_ to_ fa va np tn pc_ st_ pa_ ta ow of_ ot rl hb bs se))]) ∧ (¬ (0 ≤ le ∧ le ≤ tm))) ∨ ((r = some (.int (iI 1))) ∧ (w' = [(g0, .inr (12, mO gA nr le at_ to_ fa va np tn pc_ st_ pa_ ta ow of_ ot rl hb bs se))]) ∧ (0 ≤ le ∧ le ≤ tm))) := by
  refine enter (by decide) (Nat.le_of_ble_eq_true rfl) ?_
  intro p e s m args below meth c A X hnm hA
  have X : Cx p s m args meth c cX12_end 2 (some .boolean) RX12 Z A := X
  refine g_as (pc' := 0) (lv' := [(0, .ref g0), (1, .int (iI le))]) (st' := []) (ws' := [(g0, .inr (12, mO gA nr tm at_ to_ fa va np tn pc_ st_ pa_ ta ow of_ ot rl hb bs se))]) rfl rfl rfl rfl ?_
  refine g_iload_n (pc := 0) X 1 rfl dX12_end_0 ?_
  refine g_i2lI (pc := 1) X b_le dX12_end_1 ?_
  refine g_lconst (pc := 2) X (lI 0) (by decide) dX12_end_2 ?_
  refine g_aload_n (pc := 3) X 0 rfl dX12_end_3 ?_
  refine g_get (pc := 4) X inlX12 0 rfl rfl 20 (by decide) mw_10_18 rfl dX12_end_4 ?_
  refine g_i2lI (pc := 7) X (inRb b_tm (by decide) (by decide)) dX12_end_7 ?_
  refine g_callS (pc := 8) X (k_X12_in l Z le 0 tm (by (first | (clear b_nr b_at_ b_to_ b_fa b_va b_np b_tn b_pc_ b_st_ b_pa_ b_ta b_ow b_of_ b_ot b_rl b_hb b_bs b_se; omega) | omega)) (by decide) (by (first | (clear b_nr b_at_ b_to_ b_fa b_va b_np b_tn b_pc_ b_st_ b_pa_ b_ta b_ow b_of_ b_ot b_rl b_hb b_bs b_se; omega) | omega))) iM_X12_in mw_11_13 mw_11_14 [] [0] rfl (wr := [(g0, .inr (12, mO gA nr tm at_ to_ fa va np tn pc_ st_ pa_ ta ow of_ ot rl hb bs se))]) rfl (by decide) rfl rfl (Nat.le_of_ble_eq_true rfl) (by decide) dX12_end_8 (fun r w' hpo => ?_)
  obtain ⟨rfl, rfl⟩ := hpo
  refine g_as (pc' := 11) (lv' := [(0, .ref g0), (1, .int (iI le))]) (st' := [.int (iI (bI (0 ≤ le ∧ le ≤ tm)))]) (ws' := [(g0, .inr (12, mO gA nr tm at_ to_ fa va np tn pc_ st_ pa_ ta ow of_ ot rl hb bs se))]) rfl rfl rfl rfl ?_
  refine g_if_neB (pc := 11) X 16 (by decide) dX12_end_11 (fun c11 => ?_) (fun c11 => ?_)
  · refine g_aload_n (pc := 16) X 0 rfl dX12_end_16 ?_
    refine g_iload_n (pc := 17) X 1 rfl dX12_end_17 ?_
    refine g_put (pc := 18) X inlX12 tyX12_ok nmX12 0 rfl rfl 20 (by decide) mw_10_18 rfl rfl rfl (Nat.le_of_ble_eq_true rfl) (ws' := [(g0, .inr (12, mO gA nr le at_ to_ fa va np tn pc_ st_ pa_ ta ow of_ ot rl hb bs se))]) rfl dX12_end_18 ?_
    refine g_iconst (pc := 21) X (iI 1) (by rfl) dX12_end_21 ?_
    exact g_zret (pc := 22) X hA (rfl) (Or.inr (⟨rfl, rfl, (by (first | (clear b_nr b_at_ b_to_ b_fa b_va b_np b_tn b_pc_ b_st_ b_pa_ b_ta b_ow b_of_ b_ot b_rl b_hb b_bs b_se; omega) | omega))⟩)) (by decide) (by decide) dX12_end_22
  · refine g_iconst (pc := 14) X (iI 0) (by rfl) dX12_end_14 ?_
    exact g_zret (pc := 15) X hA (rfl) (Or.inl (⟨rfl, rfl, (by (first | (clear b_nr b_at_ b_to_ b_fa b_va b_np b_tn b_pc_ b_st_ b_pa_ b_ta b_ow b_of_ b_ot b_rl b_hb b_bs b_se; omega) | omega))⟩)) (by decide) (by decide) dX12_end_15

set_option maxHeartbeats 4000000 in
set_option maxRecDepth 100000 in
theorem k_X12_between (l : Launch) (Z : gZ) (g0 : Nat) (gA : Nat → Nat) (Mt : Nat → Int) (kx : Int) (lo_ : Int) (hi_ : Int) (nr : Int) (tm : Int) (at_ : Int) (to_ : Int) (fa : Int) (va : Int) (np : Int) (tn : Int) (pc_ : Int) (st_ : Int) (pa_ : Int) (ta : Int) (ow : Int) (of_ : Int) (ot : Int) (rl : Int) (hb : Int) (bs : Int) (se : Int) (b_kx : 0 ≤ kx ∧ kx ≤ 400) (b_lo_ : (-2147483648) ≤ lo_ ∧ lo_ ≤ 2147483647) (b_hi_ : (-2147483648) ≤ hi_ ∧ hi_ ≤ 2147483647) (b_nr : 0 ≤ nr ∧ nr ≤ 6) (b_tm : 0 ≤ tm ∧ tm ≤ 400) (b_at_ : 0 ≤ at_ ∧ at_ ≤ 400) (b_to_ : 0 ≤ to_ ∧ to_ ≤ 400) (b_fa : (-1) ≤ fa ∧ fa ≤ 400) (b_va : (-2147483648) ≤ va ∧ va ≤ 2147483647) (b_np : 0 ≤ np ∧ np ≤ 4) (b_tn : 0 ≤ tn ∧ tn ≤ 20) (b_pc_ : 0 ≤ pc_ ∧ pc_ ≤ 480) (b_st_ : 0 ≤ st_ ∧ st_ ≤ 240) (b_pa_ : (-1) ≤ pa_ ∧ pa_ ≤ 3) (b_ta : (-2147483648) ≤ ta ∧ ta ≤ 2147483647) (b_ow : (-2147483648) ≤ ow ∧ ow ≤ 2147483647) (b_of_ : (-2147483648) ≤ of_ ∧ of_ ≤ 2147483647) (b_ot : (-2147483648) ≤ ot ∧ ot ≤ 2147483647) (b_rl : 0 ≤ rl ∧ rl ≤ 2880) (b_hb : 0 ≤ hb ∧ hb ≤ 4) (b_bs : (-2147483648) ≤ bs ∧ bs ≤ 2147483647) (b_se : 0 ≤ se ∧ se ≤ 10) (h_Mt : ∀ j, j < 400 → (-128) ≤ Mt j ∧ Mt j ≤ 127) : Con l Z yX12_between cX12_between 4 (some .boolean) 0 0 0 0 [.ref g0, .int (iI kx), .int (iI lo_), .int (iI hi_)] [(g0, .inr (12, mO gA nr tm at_ to_ fa va np tn pc_ st_ pa_ ta ow of_ ot rl hb bs se)), cA Z (gA 19) 1 400 Mt] (fun r w' => (r = some (.int (iI (bI (kx < tm ∧ lo_ ≤ Mt kx.toNat ∧ Mt kx.toNat ≤ hi_))))) ∧ (w' = [(g0, .inr (12, mO gA nr tm at_ to_ fa va np tn pc_ st_ pa_ ta ow of_ ot rl hb bs se)), cA Z (gA 19) 1 400 Mt])) := by
  refine enter (by decide) (Nat.le_of_ble_eq_true rfl) ?_
  intro p e s m args below meth c A X hnm hA
  have X : Cx p s m args meth c cX12_between 4 (some .boolean) RX12 Z A := X
  refine g_as (pc' := 0) (lv' := [(0, .ref g0), (1, .int (iI kx)), (2, .int (iI lo_)), (3, .int (iI hi_))]) (st' := []) (ws' := [(g0, .inr (12, mO gA nr tm at_ to_ fa va np tn pc_ st_ pa_ ta ow of_ ot rl hb bs se)), cA Z (gA 19) 1 400 Mt]) rfl rfl rfl rfl ?_
  refine g_iload_n (pc := 0) X 1 rfl dX12_between_0 ?_
  refine g_aload_n (pc := 1) X 0 rfl dX12_between_1 ?_
  refine g_get (pc := 2) X inlX12 0 rfl rfl 20 (by decide) mw_10_18 rfl dX12_between_2 ?_
  refine g_icmp_geI (pc := 5) X 32 (by decide) (inRb b_kx (by decide) (by decide)) (inRb b_tm (by decide) (by decide)) dX12_between_5 (fun c5 => ?_) (fun c5 => ?_)
  · refine g_iconst (pc := 32) X (iI 0) (by rfl) dX12_between_32 ?_
    exact g_zret (pc := 33) X hA (rfl) (⟨congrArg (fun z => some (Value.int (iI z))) ((bI_f (by (first | (clear b_nr b_at_ b_to_ b_fa b_va b_np b_tn b_pc_ b_st_ b_pa_ b_ta b_ow b_of_ b_ot b_rl b_hb b_bs b_se; omega) | omega))).symm), rfl⟩) (by decide) (by decide) dX12_between_33
  · refine g_aload_n (pc := 8) X 0 rfl dX12_between_8 ?_
    refine g_get (pc := 9) X inlX12 0 rfl rfl 19 (by decide) mw_8_7 rfl dX12_between_9 ?_
    refine g_iload_n (pc := 12) X 1 rfl dX12_between_12 ?_
    refine g_baldI (pc := 13) X 1 rfl (b_kx.1) (by (first | (clear b_nr b_at_ b_to_ b_fa b_va b_np b_tn b_pc_ b_st_ b_pa_ b_ta b_ow b_of_ b_ot b_rl b_hb b_bs b_se; omega) | omega)) (Int.le_trans b_kx.2 (by decide)) dX12_between_13 ?_
    refine g_nameI (fun y1 ey1 => ?_)
    have by1 : (-128) ≤ y1 ∧ y1 ≤ 127 := by rw [ey1]; exact h_Mt _ (by (first | (clear b_nr b_at_ b_to_ b_fa b_va b_np b_tn b_pc_ b_st_ b_pa_ b_ta b_ow b_of_ b_ot b_rl b_hb b_bs b_se; omega) | omega))
    refine g_iload_n (pc := 14) X 2 rfl dX12_between_14 ?_
    refine g_icmp_ltI (pc := 15) X 32 (by decide) (inRb by1 (by decide) (by decide)) b_lo_ dX12_between_15 (fun c15 => ?_) (fun c15 => ?_)
    · refine g_iconst (pc := 32) X (iI 0) (by rfl) dX12_between_32 ?_
      exact g_zret (pc := 33) X hA (rfl) (⟨congrArg (fun z => some (Value.int (iI z))) ((bI_f (by (first | (clear b_nr b_at_ b_to_ b_fa b_va b_np b_tn b_pc_ b_st_ b_pa_ b_ta b_ow b_of_ b_ot b_rl b_hb b_bs b_se; omega) | omega))).symm), rfl⟩) (by decide) (by decide) dX12_between_33
    · refine g_aload_n (pc := 18) X 0 rfl dX12_between_18 ?_
      refine g_get (pc := 19) X inlX12 0 rfl rfl 19 (by decide) mw_8_7 rfl dX12_between_19 ?_
      refine g_iload_n (pc := 22) X 1 rfl dX12_between_22 ?_
      refine g_baldI (pc := 23) X 1 rfl (b_kx.1) (by (first | (clear b_nr b_at_ b_to_ b_fa b_va b_np b_tn b_pc_ b_st_ b_pa_ b_ta b_ow b_of_ b_ot b_rl b_hb b_bs b_se; omega) | omega)) (Int.le_trans b_kx.2 (by decide)) dX12_between_23 ?_
      refine g_nameI (fun y2 ey2 => ?_)
      have by2 : (-128) ≤ y2 ∧ y2 ≤ 127 := by rw [ey2]; exact h_Mt _ (by (first | (clear b_nr b_at_ b_to_ b_fa b_va b_np b_tn b_pc_ b_st_ b_pa_ b_ta b_ow b_of_ b_ot b_rl b_hb b_bs b_se; omega) | omega))
      refine g_iload_n (pc := 24) X 3 rfl dX12_between_24 ?_
      refine g_icmp_gtI (pc := 25) X 32 (by decide) (inRb by2 (by decide) (by decide)) b_hi_ dX12_between_25 (fun c25 => ?_) (fun c25 => ?_)
      · refine g_iconst (pc := 32) X (iI 0) (by rfl) dX12_between_32 ?_
        exact g_zret (pc := 33) X hA (rfl) (⟨congrArg (fun z => some (Value.int (iI z))) ((bI_f (by (first | (clear b_nr b_at_ b_to_ b_fa b_va b_np b_tn b_pc_ b_st_ b_pa_ b_ta b_ow b_of_ b_ot b_rl b_hb b_bs b_se; omega) | omega))).symm), rfl⟩) (by decide) (by decide) dX12_between_33
      · refine g_iconst (pc := 28) X (iI 1) (by rfl) dX12_between_28 ?_
        refine g_goto (pc := 29) X 33 (by decide) dX12_between_29 ?_
        exact g_zret (pc := 33) X hA (rfl) (⟨congrArg (fun z => some (Value.int (iI z))) ((bI_t (by (first | (clear b_nr b_at_ b_to_ b_fa b_va b_np b_tn b_pc_ b_st_ b_pa_ b_ta b_ow b_of_ b_ot b_rl b_hb b_bs b_se; omega) | omega))).symm), rfl⟩) (by decide) (by decide) dX12_between_33
