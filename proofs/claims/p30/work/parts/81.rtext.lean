set_option maxHeartbeats 4000000 in
set_option maxRecDepth 100000 in
theorem k_X12_in (l : Launch) (Z : gZ) (v : Int) (a : Int) (b : Int) (b_v : (-9223372036854775808) ≤ v ∧ v ≤ 9223372036854775807) (b_a : (-9223372036854775808) ≤ a ∧ a ≤ 9223372036854775807) (b_b : (-9223372036854775808) ≤ b ∧ b ≤ 9223372036854775807) : Con l Z yX12_in cX12_in 6 (some .boolean) 0 0 0 0 [.long (lI v), .long (lI a), .long (lI b)] [] (fun r w' => (r = some (.int (iI (bI (a ≤ v ∧ v ≤ b))))) ∧ (w' = [])) := by
  refine enter (by decide) (Nat.le_of_ble_eq_true rfl) ?_
  intro p e s m args below meth c A X hnm hA
  have X : Cx p s m args meth c cX12_in 6 (some .boolean) RX12 Z A := X
  refine g_as (pc' := 0) (lv' := [(0, .long (lI v)), (2, .long (lI a)), (4, .long (lI b))]) (st' := []) (ws' := []) rfl rfl rfl rfl ?_
  refine g_lload_n (pc := 0) X 0 rfl dX12_in_0 ?_
  refine g_lload_n (pc := 1) X 1 rfl dX12_in_1 ?_
  refine g_lcmp (pc := 2) X dX12_in_2 ?_
  refine g_lcmp_lt (pc := 3) X 17 (by decide) ⟨by omega, by omega⟩ ⟨by omega, by omega⟩ dX12_in_3 (fun c3 => ?_) (fun c3 => ?_)
  · refine g_iconst (pc := 17) X (iI 0) (by rfl) dX12_in_17 ?_
    exact g_zret (pc := 18) X hA (rfl) (⟨congrArg (fun z => some (Value.int (iI z))) ((bI_f (by omega)).symm), rfl⟩) (by decide) (by decide) dX12_in_18
  · refine g_lload_n (pc := 6) X 0 rfl dX12_in_6 ?_
    refine g_lload (pc := 7) X 2 rfl dX12_in_7 ?_
    refine g_lcmp (pc := 9) X dX12_in_9 ?_
    refine g_lcmp_gt (pc := 10) X 17 (by decide) ⟨by omega, by omega⟩ ⟨by omega, by omega⟩ dX12_in_10 (fun c10 => ?_) (fun c10 => ?_)
    · refine g_iconst (pc := 17) X (iI 0) (by rfl) dX12_in_17 ?_
      exact g_zret (pc := 18) X hA (rfl) (⟨congrArg (fun z => some (Value.int (iI z))) ((bI_f (by omega)).symm), rfl⟩) (by decide) (by decide) dX12_in_18
    · refine g_iconst (pc := 13) X (iI 1) (by rfl) dX12_in_13 ?_
      refine g_goto (pc := 14) X 18 (by decide) dX12_in_14 ?_
      exact g_zret (pc := 18) X hA (rfl) (⟨congrArg (fun z => some (Value.int (iI z))) ((bI_t (by omega)).symm), rfl⟩) (by decide) (by decide) dX12_in_18

set_option maxHeartbeats 4000000 in
set_option maxRecDepth 100000 in
theorem k_X12_feeds (l : Launch) (Z : gZ) (g0 : Nat) (gA : Nat → Nat) (Mt : Nat → Int) (v : Int) (nr : Int) (tm : Int) (at_ : Int) (to_ : Int) (fa : Int) (va : Int) (np : Int) (tn : Int) (pc_ : Int) (st_ : Int) (pa_ : Int) (ta : Int) (ow : Int) (of_ : Int) (ot : Int) (rl : Int) (hb : Int) (bs : Int) (se : Int) (b_v : (-2147483648) ≤ v ∧ v ≤ 2147483647) (b_nr : 0 ≤ nr ∧ nr ≤ 6) (b_tm : 0 ≤ tm ∧ tm ≤ 400) (b_at_ : 0 ≤ at_ ∧ at_ ≤ 400) (b_to_ : 0 ≤ to_ ∧ to_ ≤ 400) (b_fa : (-1) ≤ fa ∧ fa ≤ 400) (b_va : (-2147483648) ≤ va ∧ va ≤ 2147483647) (b_np : 0 ≤ np ∧ np ≤ 4) (b_tn : 0 ≤ tn ∧ tn ≤ 20) (b_pc_ : 0 ≤ pc_ ∧ pc_ ≤ 480) (b_st_ : 0 ≤ st_ ∧ st_ ≤ 240) (b_pa_ : (-1) ≤ pa_ ∧ pa_ ≤ 3) (b_ta : (-2147483648) ≤ ta ∧ ta ≤ 2147483647) (b_ow : (-2147483648) ≤ ow ∧ ow ≤ 2147483647) (b_of_ : (-2147483648) ≤ of_ ∧ of_ ≤ 2147483647) (b_ot : (-2147483648) ≤ ot ∧ ot ≤ 2147483647) (b_rl : 0 ≤ rl ∧ rl ≤ 2880) (b_hb : 0 ≤ hb ∧ hb ≤ 4) (b_bs : (-2147483648) ≤ bs ∧ bs ≤ 2147483647) (b_se : 0 ≤ se ∧ se ≤ 10) (ht : tm ≤ 396) (h_Mt : ∀ j, j < 400 → (-128) ≤ Mt j ∧ Mt j ≤ 127) : Con l Z yX12_feeds cX12_feeds 3 none 0 0 0 0 [.ref g0, .int (iI v)] [(g0, .inr (12, mO gA nr tm at_ to_ fa va np tn pc_ st_ pa_ ta ow of_ ot rl hb bs se)), cA Z (gA 19) 1 400 Mt] (fun r w' => ∃ (Mt2 : Nat → Int) (tm2 : Int), (r = none) ∧ (w' = [(g0, .inr (12, mO gA nr tm2 at_ to_ fa va np tn pc_ st_ pa_ ta ow of_ ot rl hb bs se)), cA Z (gA 19) 1 400 Mt2]) ∧ (0 ≤ tm2 ∧ tm2 ≤ 400) ∧ (∀ j, j < 400 → (-128) ≤ Mt2 j ∧ Mt2 j ≤ 127) ∧ (tm2 = tm + 4)) := by
  refine enter (by decide) (Nat.le_of_ble_eq_true rfl) ?_
  intro p e s m args below meth c A X hnm hA
  have X : Cx p s m args meth c cX12_feeds 3 none RX12 Z A := X
  refine g_as (pc' := 0) (lv' := [(0, .ref g0), (1, .int (iI v))]) (st' := []) (ws' := [(g0, .inr (12, mO gA nr tm at_ to_ fa va np tn pc_ st_ pa_ ta ow of_ ot rl hb bs se)), cA Z (gA 19) 1 400 Mt]) rfl rfl rfl rfl ?_
  refine g_iconst (pc := 0) X (iI 3) (by rfl) dX12_feeds_0 ?_
  refine g_istore_n (pc := 1) X (i := 2) rfl (by decide) (lv' := [(2, .int (iI 3)), (0, .ref g0), (1, .int (iI v))]) rfl dX12_feeds_1 ?_
  have loop2 : ∀ (fuel : Nat) (k1 : Int) (tm1 : Int) (Mt1 : Nat → Int), ((-1) ≤ k1 ∧ k1 ≤ 3) → (0 ≤ tm1 ∧ tm1 ≤ 400) → (∀ j, j < 400 → (-128) ≤ Mt1 j ∧ Mt1 j ≤ 127) → (tm1 = tm + 3 - k1) → (k1 + 1).toNat < fuel → Gs p l e ({ frames := 0, cells := 0, slots := 0, locals := 0 } : Room) s m args below meth c (MQ below (gPost Z [(g0, .inr (12, mO gA nr tm at_ to_ fa va np tn pc_ st_ pa_ ta ow of_ ot rl hb bs se)), cA Z (gA 19) 1 400 Mt] s.heap.size (fun r w' => ∃ (Mt2 : Nat → Int) (tm2 : Int), (r = none) ∧ (w' = [(g0, .inr (12, mO gA nr tm2 at_ to_ fa va np tn pc_ st_ pa_ ta ow of_ ot rl hb bs se)), cA Z (gA 19) 1 400 Mt2]) ∧ (0 ≤ tm2 ∧ tm2 ≤ 400) ∧ (∀ j, j < 400 → (-128) ≤ Mt2 j ∧ Mt2 j ≤ 127) ∧ (tm2 = tm + 4))) args s 0 0 (va_A [(g0, .inr (12, mO gA nr tm at_ to_ fa va np tn pc_ st_ pa_ ta ow of_ ot rl hb bs se)), cA Z (gA 19) 1 400 Mt] s.heap.size)) Z A 3 0 0 2 [(2, .int (iI k1)), (0, .ref g0), (1, .int (iI v))] [] [(g0, .inr (12, mO gA nr tm1 at_ to_ fa va np tn pc_ st_ pa_ ta ow of_ ot rl hb bs se)), cA Z (gA 19) 1 400 Mt1] := by
    intro fuel
    induction fuel with
    | zero => intro k1 tm1 Mt1 _ _ _ _ hm; exact absurd hm (Nat.not_lt_zero _)
    | succ fuel ih =>
      intro k1 tm1 Mt1 b_k1 b_tm1 h_Mt1 iv hm
      refine g_iload_n (pc := 2) X 0 rfl dX12_feeds_2 ?_
      refine g_if_ltI (pc := 3) X 38 (by decide) (inRb b_k1 (by decide) (by decide)) dX12_feeds_3 (fun c3 => ?_) (fun c3 => ?_)
      · exact g_vret (pc := 38) X hA (⟨Mt1, tm1, rfl, rfl, (b_tm1), (h_Mt1), (by (first | (clear b_v b_nr b_at_ b_to_ b_fa b_va b_np b_tn b_pc_ b_st_ b_pa_ b_ta b_ow b_of_ b_ot b_rl b_hb b_bs b_se; omega) | omega))⟩) (by decide) (by decide) dX12_feeds_38
      · refine g_aload_n (pc := 6) X 1 rfl dX12_feeds_6 ?_
        refine g_get (pc := 7) X inlX12 0 rfl rfl 19 (by decide) mw_8_7 rfl dX12_feeds_7 ?_
        refine g_aload_n (pc := 10) X 1 rfl dX12_feeds_10 ?_
        refine g_get (pc := 11) X inlX12 0 rfl rfl 20 (by decide) mw_10_18 rfl dX12_feeds_11 ?_
        refine g_iload_n (pc := 14) X 2 rfl dX12_feeds_14 ?_
        refine g_bipush (pc := 15) X (iI 8) (by decide) dX12_feeds_15 ?_
        refine g_iload_n (pc := 17) X 0 rfl dX12_feeds_17 ?_
        refine g_imulI (pc := 18) X dX12_feeds_18 ?_
        refine g_iushr (pc := 19) X dX12_feeds_19 ?_
        refine g_any (fun y1 by1 => ?_)
        refine g_i2bB (pc := 20) X dX12_feeds_20 (fun y2 by2 => ?_)
        refine g_bastG (pc := 21) X 1 rfl (b_tm1.1) (by (first | (clear b_v b_nr b_at_ b_to_ b_fa b_va b_np b_tn b_pc_ b_st_ b_pa_ b_ta b_ow b_of_ b_ot b_rl b_hb b_bs b_se; omega) | omega)) (Int.le_trans b_tm1.2 (by decide)) (by (first | (clear b_v b_nr b_at_ b_to_ b_fa b_va b_np b_tn b_pc_ b_st_ b_pa_ b_ta b_ow b_of_ b_ot b_rl b_hb b_bs b_se; omega) | omega)) (ws' := fun F3 => [(g0, .inr (12, mO gA nr tm1 at_ to_ fa va np tn pc_ st_ pa_ ta ow of_ ot rl hb bs se)), cA Z (gA 19) 1 400 F3]) (fun _ => rfl) dX12_feeds_21 (fun F3 eF3 => ?_)
        have hF3 : ∀ j, j < 400 → (-128) ≤ F3 j ∧ F3 j ≤ 127 := by rw [eF3]; exact updI_B h_Mt1 (by (first | (clear b_v b_nr b_at_ b_to_ b_fa b_va b_np b_tn b_pc_ b_st_ b_pa_ b_ta b_ow b_of_ b_ot b_rl b_hb b_bs b_se; omega) | omega))
        refine g_aload_n (pc := 22) X 1 rfl dX12_feeds_22 ?_
        refine g_dup (pc := 23) X rfl dX12_feeds_23 ?_
        refine g_get (pc := 24) X inlX12 0 rfl rfl 20 (by decide) mw_10_18 rfl dX12_feeds_24 ?_
        refine g_iconst (pc := 27) X (iI 1) (by rfl) dX12_feeds_27 ?_
        refine g_iaddI (pc := 28) X dX12_feeds_28 ?_
        refine g_put (pc := 29) X inlX12 tyX12_ok nmX12 0 rfl rfl 20 (by decide) mw_10_18 rfl rfl rfl (Nat.le_of_ble_eq_true rfl) (ws' := [(g0, .inr (12, mO gA nr (tm1 + 1) at_ to_ fa va np tn pc_ st_ pa_ ta ow of_ ot rl hb bs se)), cA Z (gA 19) 1 400 F3]) rfl dX12_feeds_29 ?_
        refine g_iincI (pc := 32) X 0 rfl (by decide) (lv' := [(2, .int (iI (k1 + (-1)))), (0, .ref g0), (1, .int (iI v))]) rfl dX12_feeds_32 ?_
        refine g_goto (pc := 35) X 2 (by decide) dX12_feeds_35 ?_
        exact ih (k1 + (-1)) (tm1 + 1) F3 (by (first | (clear b_v b_nr b_at_ b_to_ b_fa b_va b_np b_tn b_pc_ b_st_ b_pa_ b_ta b_ow b_of_ b_ot b_rl b_hb b_bs b_se; omega) | omega)) (by (first | (clear b_v b_nr b_at_ b_to_ b_fa b_va b_np b_tn b_pc_ b_st_ b_pa_ b_ta b_ow b_of_ b_ot b_rl b_hb b_bs b_se; omega) | omega)) (hF3) (by (first | (clear b_v b_nr b_at_ b_to_ b_fa b_va b_np b_tn b_pc_ b_st_ b_pa_ b_ta b_ow b_of_ b_ot b_rl b_hb b_bs b_se; omega) | omega)) (by (first | (clear b_v b_nr b_at_ b_to_ b_fa b_va b_np b_tn b_pc_ b_st_ b_pa_ b_ta b_ow b_of_ b_ot b_rl b_hb b_bs b_se; omega) | omega))
  exact loop2 _ 3 tm Mt (by (first | (clear b_v b_nr b_at_ b_to_ b_fa b_va b_np b_tn b_pc_ b_st_ b_pa_ b_ta b_ow b_of_ b_ot b_rl b_hb b_bs b_se; omega) | omega)) (b_tm) (h_Mt) (by (first | (clear b_v b_nr b_at_ b_to_ b_fa b_va b_np b_tn b_pc_ b_st_ b_pa_ b_ta b_ow b_of_ b_ot b_rl b_hb b_bs b_se; omega) | omega)) (Nat.lt_succ_self _)

set_option maxHeartbeats 4000000 in
set_option maxRecDepth 100000 in
theorem k_X12_feed (l : Launch) (Z : gZ) (g0 : Nat) (gA : Nat → Nat) (Mt : Nat → Int) (a1 : Int) (a2 : Int) (a3 : Int) (a4 : Int) (a5 : Int) (nr : Int) (tm : Int) (at_ : Int) (to_ : Int) (fa : Int) (va : Int) (np : Int) (tn : Int) (pc_ : Int) (st_ : Int) (pa_ : Int) (ta : Int) (ow : Int) (of_ : Int) (ot : Int) (rl : Int) (hb : Int) (bs : Int) (se : Int) (b_a1 : (-2147483648) ≤ a1 ∧ a1 ≤ 2147483647) (b_a2 : (-2147483648) ≤ a2 ∧ a2 ≤ 2147483647) (b_a3 : (-2147483648) ≤ a3 ∧ a3 ≤ 2147483647) (b_a4 : (-2147483648) ≤ a4 ∧ a4 ≤ 2147483647) (b_a5 : (-2147483648) ≤ a5 ∧ a5 ≤ 2147483647) (b_nr : 0 ≤ nr ∧ nr ≤ 6) (b_tm : 0 ≤ tm ∧ tm ≤ 400) (b_at_ : 0 ≤ at_ ∧ at_ ≤ 400) (b_to_ : 0 ≤ to_ ∧ to_ ≤ 400) (b_fa : (-1) ≤ fa ∧ fa ≤ 400) (b_va : (-2147483648) ≤ va ∧ va ≤ 2147483647) (b_np : 0 ≤ np ∧ np ≤ 4) (b_tn : 0 ≤ tn ∧ tn ≤ 20) (b_pc_ : 0 ≤ pc_ ∧ pc_ ≤ 480) (b_st_ : 0 ≤ st_ ∧ st_ ≤ 240) (b_pa_ : (-1) ≤ pa_ ∧ pa_ ≤ 3) (b_ta : (-2147483648) ≤ ta ∧ ta ≤ 2147483647) (b_ow : (-2147483648) ≤ ow ∧ ow ≤ 2147483647) (b_of_ : (-2147483648) ≤ of_ ∧ of_ ≤ 2147483647) (b_ot : (-2147483648) ≤ ot ∧ ot ≤ 2147483647) (b_rl : 0 ≤ rl ∧ rl ≤ 2880) (b_hb : 0 ≤ hb ∧ hb ≤ 4) (b_bs : (-2147483648) ≤ bs ∧ bs ≤ 2147483647) (b_se : 0 ≤ se ∧ se ≤ 10) (h_Mt : ∀ j, j < 400 → (-128) ≤ Mt j ∧ Mt j ≤ 127) : Con l Z yX12_feed cX12_feed 6 (some .int) 1 22 0 0 [.ref g0, .int (iI a1), .int (iI a2), .int (iI a3), .int (iI a4), .int (iI a5)] [(g0, .inr (12, mO gA nr tm at_ to_ fa va np tn pc_ st_ pa_ ta ow of_ ot rl hb bs se)), cA Z (gA 19) 1 400 Mt] (fun r w' => ((r = some (.int (iI (-1)))) ∧ (w' = [(g0, .inr (12, mO gA nr tm at_ to_ fa va np tn pc_ st_ pa_ ta ow of_ ot rl hb bs se)), cA Z (gA 19) 1 400 Mt]) ∧ (380 < tm)) ∨ (∃ (Mt2 : Nat → Int) (tm2 : Int), (r = some (.int (iI tm2))) ∧ (w' = [(g0, .inr (12, mO gA nr tm2 at_ to_ fa va np tn pc_ st_ pa_ ta ow of_ ot rl hb bs se)), cA Z (gA 19) 1 400 Mt2]) ∧ (0 ≤ tm2 ∧ tm2 ≤ 400) ∧ (∀ j, j < 400 → (-128) ≤ Mt2 j ∧ Mt2 j ≤ 127) ∧ (tm ≤ 380) ∧ (tm2 = tm + 20))) := by
  refine enter (by decide) (Nat.le_of_ble_eq_true rfl) ?_
  intro p e s m args below meth c A X hnm hA
  have X : Cx p s m args meth c cX12_feed 6 (some .int) RX12 Z A := X
  refine g_as (pc' := 0) (lv' := [(0, .ref g0), (1, .int (iI a1)), (2, .int (iI a2)), (3, .int (iI a3)), (4, .int (iI a4)), (5, .int (iI a5))]) (st' := []) (ws' := [(g0, .inr (12, mO gA nr tm at_ to_ fa va np tn pc_ st_ pa_ ta ow of_ ot rl hb bs se)), cA Z (gA 19) 1 400 Mt]) rfl rfl rfl rfl ?_
  refine g_aload_n (pc := 0) X 0 rfl dX12_feed_0 ?_
  refine g_get (pc := 1) X inlX12 0 rfl rfl 20 (by decide) mw_10_18 rfl dX12_feed_1 ?_
  refine g_bipush (pc := 4) X (iI 20) (by decide) dX12_feed_4 ?_
  refine g_iaddI (pc := 6) X dX12_feed_6 ?_
  refine g_sipush (pc := 7) X (iI 400) (by decide) dX12_feed_7 ?_
  refine g_icmp_leI (pc := 10) X 15 (by decide) ⟨by (first | (clear b_a1 b_a2 b_a3 b_a4 b_a5 b_nr b_at_ b_to_ b_fa b_va b_np b_tn b_pc_ b_st_ b_pa_ b_ta b_ow b_of_ b_ot b_rl b_hb b_bs b_se; omega) | omega), by (first | (clear b_a1 b_a2 b_a3 b_a4 b_a5 b_nr b_at_ b_to_ b_fa b_va b_np b_tn b_pc_ b_st_ b_pa_ b_ta b_ow b_of_ b_ot b_rl b_hb b_bs b_se; omega) | omega)⟩ ⟨by decide, by decide⟩ dX12_feed_10 (fun c10 => ?_) (fun c10 => ?_)
  · refine g_aload_n (pc := 15) X 0 rfl dX12_feed_15 ?_
    refine g_iload_n (pc := 16) X 1 rfl dX12_feed_16 ?_
    refine g_callV (pc := 17) X (k_X12_feeds l Z g0 gA Mt a1 nr tm at_ to_ fa va np tn pc_ st_ pa_ ta ow of_ ot rl hb bs se b_a1 b_nr b_tm b_at_ b_to_ b_fa b_va b_np b_tn b_pc_ b_st_ b_pa_ b_ta b_ow b_of_ b_ot b_rl b_hb b_bs b_se (by (first | (clear b_a1 b_a2 b_a3 b_a4 b_a5 b_nr b_at_ b_to_ b_fa b_va b_np b_tn b_pc_ b_st_ b_pa_ b_ta b_ow b_of_ b_ot b_rl b_hb b_bs b_se; omega) | omega)) (h_Mt)) iM_X12_feeds mw_10_19 mw_10_20 mw_10_21 0 rfl rfl [0, 1] [] rfl (wr := []) rfl (by decide) rfl rfl (Nat.le_of_ble_eq_true rfl) (by decide) dX12_feed_17 (fun r w' hpo => ?_)
    refine exN_2 hpo fun F1 y2 hz => anD_5 hz fun e_r e_w hf17_b_tm2 hf17_h_Mt2 hf17_f1 => ?_; clear hz hpo; subst e_r; subst e_w
    refine g_as (pc' := 20) (lv' := [(0, .ref g0), (1, .int (iI a1)), (2, .int (iI a2)), (3, .int (iI a3)), (4, .int (iI a4)), (5, .int (iI a5))]) (st' := []) (ws' := [(g0, .inr (12, mO gA nr y2 at_ to_ fa va np tn pc_ st_ pa_ ta ow of_ ot rl hb bs se)), cA Z (gA 19) 1 400 F1]) rfl rfl rfl rfl ?_
    refine g_aload_n (pc := 20) X 0 rfl dX12_feed_20 ?_
    refine g_iload_n (pc := 21) X 2 rfl dX12_feed_21 ?_
    refine g_callV (pc := 22) X (k_X12_feeds l Z g0 gA F1 a2 nr y2 at_ to_ fa va np tn pc_ st_ pa_ ta ow of_ ot rl hb bs se b_a2 b_nr hf17_b_tm2 b_at_ b_to_ b_fa b_va b_np b_tn b_pc_ b_st_ b_pa_ b_ta b_ow b_of_ b_ot b_rl b_hb b_bs b_se (by (first | (clear b_a1 b_a2 b_a3 b_a4 b_a5 b_nr b_at_ b_to_ b_fa b_va b_np b_tn b_pc_ b_st_ b_pa_ b_ta b_ow b_of_ b_ot b_rl b_hb b_bs b_se; omega) | omega)) (hf17_h_Mt2)) iM_X12_feeds mw_10_19 mw_10_20 mw_10_21 0 rfl rfl [0, 1] [] rfl (wr := []) rfl (by decide) rfl rfl (Nat.le_of_ble_eq_true rfl) (by decide) dX12_feed_22 (fun r w' hpo => ?_)
    refine exN_2 hpo fun F4 y5 hz => anD_5 hz fun e_r e_w hf22_b_tm2 hf22_h_Mt2 hf22_f1 => ?_; clear hz hpo; subst e_r; subst e_w
    refine g_as (pc' := 25) (lv' := [(0, .ref g0), (1, .int (iI a1)), (2, .int (iI a2)), (3, .int (iI a3)), (4, .int (iI a4)), (5, .int (iI a5))]) (st' := []) (ws' := [(g0, .inr (12, mO gA nr y5 at_ to_ fa va np tn pc_ st_ pa_ ta ow of_ ot rl hb bs se)), cA Z (gA 19) 1 400 F4]) rfl rfl rfl rfl ?_
    refine g_aload_n (pc := 25) X 0 rfl dX12_feed_25 ?_
    refine g_iload_n (pc := 26) X 3 rfl dX12_feed_26 ?_
    refine g_callV (pc := 27) X (k_X12_feeds l Z g0 gA F4 a3 nr y5 at_ to_ fa va np tn pc_ st_ pa_ ta ow of_ ot rl hb bs se b_a3 b_nr hf22_b_tm2 b_at_ b_to_ b_fa b_va b_np b_tn b_pc_ b_st_ b_pa_ b_ta b_ow b_of_ b_ot b_rl b_hb b_bs b_se (by (first | (clear b_a1 b_a2 b_a3 b_a4 b_a5 b_nr b_at_ b_to_ b_fa b_va b_np b_tn b_pc_ b_st_ b_pa_ b_ta b_ow b_of_ b_ot b_rl b_hb b_bs b_se; omega) | omega)) (hf22_h_Mt2)) iM_X12_feeds mw_10_19 mw_10_20 mw_10_21 0 rfl rfl [0, 1] [] rfl (wr := []) rfl (by decide) rfl rfl (Nat.le_of_ble_eq_true rfl) (by decide) dX12_feed_27 (fun r w' hpo => ?_)
    refine exN_2 hpo fun F7 y8 hz => anD_5 hz fun e_r e_w hf27_b_tm2 hf27_h_Mt2 hf27_f1 => ?_; clear hz hpo; subst e_r; subst e_w
    refine g_as (pc' := 30) (lv' := [(0, .ref g0), (1, .int (iI a1)), (2, .int (iI a2)), (3, .int (iI a3)), (4, .int (iI a4)), (5, .int (iI a5))]) (st' := []) (ws' := [(g0, .inr (12, mO gA nr y8 at_ to_ fa va np tn pc_ st_ pa_ ta ow of_ ot rl hb bs se)), cA Z (gA 19) 1 400 F7]) rfl rfl rfl rfl ?_
    refine g_aload_n (pc := 30) X 0 rfl dX12_feed_30 ?_
    refine g_iload (pc := 31) X 4 rfl dX12_feed_31 ?_
    refine g_callV (pc := 33) X (k_X12_feeds l Z g0 gA F7 a4 nr y8 at_ to_ fa va np tn pc_ st_ pa_ ta ow of_ ot rl hb bs se b_a4 b_nr hf27_b_tm2 b_at_ b_to_ b_fa b_va b_np b_tn b_pc_ b_st_ b_pa_ b_ta b_ow b_of_ b_ot b_rl b_hb b_bs b_se (by (first | (clear b_a1 b_a2 b_a3 b_a4 b_a5 b_nr b_at_ b_to_ b_fa b_va b_np b_tn b_pc_ b_st_ b_pa_ b_ta b_ow b_of_ b_ot b_rl b_hb b_bs b_se; omega) | omega)) (hf27_h_Mt2)) iM_X12_feeds mw_10_19 mw_10_20 mw_10_21 0 rfl rfl [0, 1] [] rfl (wr := []) rfl (by decide) rfl rfl (Nat.le_of_ble_eq_true rfl) (by decide) dX12_feed_33 (fun r w' hpo => ?_)
    refine exN_2 hpo fun F10 y11 hz => anD_5 hz fun e_r e_w hf33_b_tm2 hf33_h_Mt2 hf33_f1 => ?_; clear hz hpo; subst e_r; subst e_w
    refine g_as (pc' := 36) (lv' := [(0, .ref g0), (1, .int (iI a1)), (2, .int (iI a2)), (3, .int (iI a3)), (4, .int (iI a4)), (5, .int (iI a5))]) (st' := []) (ws' := [(g0, .inr (12, mO gA nr y11 at_ to_ fa va np tn pc_ st_ pa_ ta ow of_ ot rl hb bs se)), cA Z (gA 19) 1 400 F10]) rfl rfl rfl rfl ?_
    refine g_aload_n (pc := 36) X 0 rfl dX12_feed_36 ?_
    refine g_iload (pc := 37) X 5 rfl dX12_feed_37 ?_
    refine g_callV (pc := 39) X (k_X12_feeds l Z g0 gA F10 a5 nr y11 at_ to_ fa va np tn pc_ st_ pa_ ta ow of_ ot rl hb bs se b_a5 b_nr hf33_b_tm2 b_at_ b_to_ b_fa b_va b_np b_tn b_pc_ b_st_ b_pa_ b_ta b_ow b_of_ b_ot b_rl b_hb b_bs b_se (by (first | (clear b_a1 b_a2 b_a3 b_a4 b_a5 b_nr b_at_ b_to_ b_fa b_va b_np b_tn b_pc_ b_st_ b_pa_ b_ta b_ow b_of_ b_ot b_rl b_hb b_bs b_se; omega) | omega)) (hf33_h_Mt2)) iM_X12_feeds mw_10_19 mw_10_20 mw_10_21 0 rfl rfl [0, 1] [] rfl (wr := []) rfl (by decide) rfl rfl (Nat.le_of_ble_eq_true rfl) (by decide) dX12_feed_39 (fun r w' hpo => ?_)
    refine exN_2 hpo fun F13 y14 hz => anD_5 hz fun e_r e_w hf39_b_tm2 hf39_h_Mt2 hf39_f1 => ?_; clear hz hpo; subst e_r; subst e_w
    refine g_as (pc' := 42) (lv' := [(0, .ref g0), (1, .int (iI a1)), (2, .int (iI a2)), (3, .int (iI a3)), (4, .int (iI a4)), (5, .int (iI a5))]) (st' := []) (ws' := [(g0, .inr (12, mO gA nr y14 at_ to_ fa va np tn pc_ st_ pa_ ta ow of_ ot rl hb bs se)), cA Z (gA 19) 1 400 F13]) rfl rfl rfl rfl ?_
    refine g_aload_n (pc := 42) X 0 rfl dX12_feed_42 ?_
    refine g_get (pc := 43) X inlX12 0 rfl rfl 20 (by decide) mw_10_18 rfl dX12_feed_43 ?_
    exact g_iret (pc := 46) X hA (Or.inr (⟨F13, y14, rfl, rfl, (hf39_b_tm2), (hf39_h_Mt2), (by (first | (clear b_a1 b_a2 b_a3 b_a4 b_a5 b_nr b_at_ b_to_ b_fa b_va b_np b_tn b_pc_ b_st_ b_pa_ b_ta b_ow b_of_ b_ot b_rl b_hb b_bs b_se; omega) | omega)), (by (first | (clear b_a1 b_a2 b_a3 b_a4 b_a5 b_nr b_at_ b_to_ b_fa b_va b_np b_tn b_pc_ b_st_ b_pa_ b_ta b_ow b_of_ b_ot b_rl b_hb b_bs b_se; omega) | omega))⟩)) (by decide) (by decide) dX12_feed_46
  · refine g_iconst (pc := 13) X (iI (-1)) (by rfl) dX12_feed_13 ?_
    exact g_iret (pc := 14) X hA (Or.inl (⟨rfl, rfl, (by (first | (clear b_a1 b_a2 b_a3 b_a4 b_a5 b_nr b_at_ b_to_ b_fa b_va b_np b_tn b_pc_ b_st_ b_pa_ b_ta b_ow b_of_ b_ot b_rl b_hb b_bs b_se; omega) | omega))⟩)) (by decide) (by decide) dX12_feed_14

set_option maxHeartbeats 4000000 in
set_option maxRecDepth 100000 in
theorem k_X12_end (l : Launch) (Z : gZ) (g0 : Nat) (gA : Nat → Nat) (le : Int) (nr : Int) (tm : Int) (at_ : Int) (to_ : Int) (fa : Int) (va : Int) (np : Int) (tn : Int) (pc_ : Int) (st_ : Int) (pa_ : Int) (ta : Int) (ow : Int) (of_ : Int) (ot : Int) (rl : Int) (hb : Int) (bs : Int) (se : Int) (b_le : (-2147483648) ≤ le ∧ le ≤ 2147483647) (b_nr : 0 ≤ nr ∧ nr ≤ 6) (b_tm : 0 ≤ tm ∧ tm ≤ 400) (b_at_ : 0 ≤ at_ ∧ at_ ≤ 400) (b_to_ : 0 ≤ to_ ∧ to_ ≤ 400) (b_fa : (-1) ≤ fa ∧ fa ≤ 400) (b_va : (-2147483648) ≤ va ∧ va ≤ 2147483647) (b_np : 0 ≤ np ∧ np ≤ 4) (b_tn : 0 ≤ tn ∧ tn ≤ 20) (b_pc_ : 0 ≤ pc_ ∧ pc_ ≤ 480) (b_st_ : 0 ≤ st_ ∧ st_ ≤ 240) (b_pa_ : (-1) ≤ pa_ ∧ pa_ ≤ 3) (b_ta : (-2147483648) ≤ ta ∧ ta ≤ 2147483647) (b_ow : (-2147483648) ≤ ow ∧ ow ≤ 2147483647) (b_of_ : (-2147483648) ≤ of_ ∧ of_ ≤ 2147483647) (b_ot : (-2147483648) ≤ ot ∧ ot ≤ 2147483647) (b_rl : 0 ≤ rl ∧ rl ≤ 2880) (b_hb : 0 ≤ hb ∧ hb ≤ 4) (b_bs : (-2147483648) ≤ bs ∧ bs ≤ 2147483647) (b_se : 0 ≤ se ∧ se ≤ 10) : Con l Z yX12_end cX12_end 2 (some .boolean) 1 25 0 0 [.ref g0, .int (iI le)] [(g0, .inr (12, mO gA nr tm at_ to_ fa va np tn pc_ st_ pa_ ta ow of_ ot rl hb bs se))] (fun r w' => ((r = some (.int (iI 0))) ∧ (w' = [(g0, .inr (12, mO gA nr tm at_ to_ fa va np tn pc_ st_ pa_ ta ow of_ ot rl hb bs se))]) ∧ (¬ (0 ≤ le ∧ le ≤ tm))) ∨ ((r = some (.int (iI 1))) ∧ (w' = [(g0, .inr (12, mO gA nr le at_ to_ fa va np tn pc_ st_ pa_ ta ow of_ ot rl hb bs se))]) ∧ (0 ≤ le ∧ le ≤ tm))) := by
  refine enter (by decide) (Nat.le_of_ble_eq_true rfl) ?_
  intro p e s m args below meth c A X hnm hA
  have X : Cx p s m args meth c cX12_end 2 (some .boolean) RX12 Z A := X
  refine g_as (pc' := 0) (lv' := [(0, .ref g0), (1, .int (iI le))]) (st' := []) (ws' := [(g0, .inr (12, mO gA nr tm at_ to_ fa va np tn pc_ st_ pa_ ta ow of_ ot rl hb bs se))]) rfl rfl rfl rfl ?_
  refine g_iload_n (pc := 0) X 1 rfl dX12_end_0 ?_
  refine g_i2lI (pc := 1) X b_le dX12_end_1 ?_
  refine g_lconst (pc := 2) X (lI 0) (by decide) dX12_end_2 ?_
  refine g_aload_n (pc := 3) X 0 rfl dX12_end_3 ?_
  refine g_get (pc := 4) X inlX12 0 rfl rfl 20 (by decide) mw_10_18 rfl dX12_end_4 ?_
  refine g_i2lI (pc := 7) X (inRb b_tm (by decide) (by decide)) dX12_end_7 ?_
  refine g_callS (pc := 8) X (k_X12_in l Z le 0 tm (by (first | (clear b_nr b_at_ b_to_ b_fa b_va b_np b_tn b_pc_ b_st_ b_pa_ b_ta b_ow b_of_ b_ot b_rl b_hb b_bs b_se; omega) | omega)) (by decide) (by (first | (clear b_nr b_at_ b_to_ b_fa b_va b_np b_tn b_pc_ b_st_ b_pa_ b_ta b_ow b_of_ b_ot b_rl b_hb b_bs b_se; omega) | omega))) iM_X12_in mw_11_13 mw_11_14 [] [0] rfl (wr := [(g0, .inr (12, mO gA nr tm at_ to_ fa va np tn pc_ st_ pa_ ta ow of_ ot rl hb bs se))]) rfl (by decide) rfl rfl (Nat.le_of_ble_eq_true rfl) (by decide) dX12_end_8 (fun r w' hpo => ?_)
  obtain ⟨rfl, rfl⟩ := hpo
  refine g_as (pc' := 11) (lv' := [(0, .ref g0), (1, .int (iI le))]) (st' := [.int (iI (bI (0 ≤ le ∧ le ≤ tm)))]) (ws' := [(g0, .inr (12, mO gA nr tm at_ to_ fa va np tn pc_ st_ pa_ ta ow of_ ot rl hb bs se))]) rfl rfl rfl rfl ?_
  refine g_if_neB (pc := 11) X 16 (by decide) dX12_end_11 (fun c11 => ?_) (fun c11 => ?_)
  · refine g_aload_n (pc := 16) X 0 rfl dX12_end_16 ?_
    refine g_iload_n (pc := 17) X 1 rfl dX12_end_17 ?_
    refine g_put (pc := 18) X inlX12 tyX12_ok nmX12 0 rfl rfl 20 (by decide) mw_10_18 rfl rfl rfl (Nat.le_of_ble_eq_true rfl) (ws' := [(g0, .inr (12, mO gA nr le at_ to_ fa va np tn pc_ st_ pa_ ta ow of_ ot rl hb bs se))]) rfl dX12_end_18 ?_
    refine g_iconst (pc := 21) X (iI 1) (by rfl) dX12_end_21 ?_
    exact g_zret (pc := 22) X hA (rfl) (Or.inr (⟨rfl, rfl, (by (first | (clear b_nr b_at_ b_to_ b_fa b_va b_np b_tn b_pc_ b_st_ b_pa_ b_ta b_ow b_of_ b_ot b_rl b_hb b_bs b_se; omega) | omega))⟩)) (by decide) (by decide) dX12_end_22
  · refine g_iconst (pc := 14) X (iI 0) (by rfl) dX12_end_14 ?_
    exact g_zret (pc := 15) X hA (rfl) (Or.inl (⟨rfl, rfl, (by (first | (clear b_nr b_at_ b_to_ b_fa b_va b_np b_tn b_pc_ b_st_ b_pa_ b_ta b_ow b_of_ b_ot b_rl b_hb b_bs b_se; omega) | omega))⟩)) (by decide) (by decide) dX12_end_15

set_option maxHeartbeats 4000000 in
set_option maxRecDepth 100000 in
theorem k_X12_between (l : Launch) (Z : gZ) (g0 : Nat) (gA : Nat → Nat) (Mt : Nat → Int) (kx : Int) (lo_ : Int) (hi_ : Int) (nr : Int) (tm : Int) (at_ : Int) (to_ : Int) (fa : Int) (va : Int) (np : Int) (tn : Int) (pc_ : Int) (st_ : Int) (pa_ : Int) (ta : Int) (ow : Int) (of_ : Int) (ot : Int) (rl : Int) (hb : Int) (bs : Int) (se : Int) (b_kx : 0 ≤ kx ∧ kx ≤ 400) (b_lo_ : (-2147483648) ≤ lo_ ∧ lo_ ≤ 2147483647) (b_hi_ : (-2147483648) ≤ hi_ ∧ hi_ ≤ 2147483647) (b_nr : 0 ≤ nr ∧ nr ≤ 6) (b_tm : 0 ≤ tm ∧ tm ≤ 400) (b_at_ : 0 ≤ at_ ∧ at_ ≤ 400) (b_to_ : 0 ≤ to_ ∧ to_ ≤ 400) (b_fa : (-1) ≤ fa ∧ fa ≤ 400) (b_va : (-2147483648) ≤ va ∧ va ≤ 2147483647) (b_np : 0 ≤ np ∧ np ≤ 4) (b_tn : 0 ≤ tn ∧ tn ≤ 20) (b_pc_ : 0 ≤ pc_ ∧ pc_ ≤ 480) (b_st_ : 0 ≤ st_ ∧ st_ ≤ 240) (b_pa_ : (-1) ≤ pa_ ∧ pa_ ≤ 3) (b_ta : (-2147483648) ≤ ta ∧ ta ≤ 2147483647) (b_ow : (-2147483648) ≤ ow ∧ ow ≤ 2147483647) (b_of_ : (-2147483648) ≤ of_ ∧ of_ ≤ 2147483647) (b_ot : (-2147483648) ≤ ot ∧ ot ≤ 2147483647) (b_rl : 0 ≤ rl ∧ rl ≤ 2880) (b_hb : 0 ≤ hb ∧ hb ≤ 4) (b_bs : (-2147483648) ≤ bs ∧ bs ≤ 2147483647) (b_se : 0 ≤ se ∧ se ≤ 10) (h_Mt : ∀ j, j < 400 → (-128) ≤ Mt j ∧ Mt j ≤ 127) : Con l Z yX12_between cX12_between 4 (some .boolean) 0 0 0 0 [.ref g0, .int (iI kx), .int (iI lo_), .int (iI hi_)] [(g0, .inr (12, mO gA nr tm at_ to_ fa va np tn pc_ st_ pa_ ta ow of_ ot rl hb bs se)), cA Z (gA 19) 1 400 Mt] (fun r w' => (r = some (.int (iI (bI (kx < tm ∧ lo_ ≤ Mt kx.toNat ∧ Mt kx.toNat ≤ hi_))))) ∧ (w' = [(g0, .inr (12, mO gA nr tm at_ to_ fa va np tn pc_ st_ pa_ ta ow of_ ot rl hb bs se)), cA Z (gA 19) 1 400 Mt])) := by
  refine enter (by decide) (Nat.le_of_ble_eq_true rfl) ?_
  intro p e s m args below meth c A X hnm hA
  have X : Cx p s m args meth c cX12_between 4 (some .boolean) RX12 Z A := X
  refine g_as (pc' := 0) (lv' := [(0, .ref g0), (1, .int (iI kx)), (2, .int (iI lo_)), (3, .int (iI hi_))]) (st' := []) (ws' := [(g0, .inr (12, mO gA nr tm at_ to_ fa va np tn pc_ st_ pa_ ta ow of_ ot rl hb bs se)), cA Z (gA 19) 1 400 Mt]) rfl rfl rfl rfl ?_
  refine g_iload_n (pc := 0) X 1 rfl dX12_between_0 ?_
  refine g_aload_n (pc := 1) X 0 rfl dX12_between_1 ?_
  refine g_get (pc := 2) X inlX12 0 rfl rfl 20 (by decide) mw_10_18 rfl dX12_between_2 ?_
  refine g_icmp_geI (pc := 5) X 32 (by decide) (inRb b_kx (by decide) (by decide)) (inRb b_tm (by decide) (by decide)) dX12_between_5 (fun c5 => ?_) (fun c5 => ?_)
  · refine g_iconst (pc := 32) X (iI 0) (by rfl) dX12_between_32 ?_
    exact g_zret (pc := 33) X hA (rfl) (⟨congrArg (fun z => some (Value.int (iI z))) ((bI_f (by (first | (clear b_nr b_at_ b_to_ b_fa b_va b_np b_tn b_pc_ b_st_ b_pa_ b_ta b_ow b_of_ b_ot b_rl b_hb b_bs b_se; omega) | omega))).symm), rfl⟩) (by decide) (by decide) dX12_between_33
  · refine g_aload_n (pc := 8) X 0 rfl dX12_between_8 ?_
    refine g_get (pc := 9) X inlX12 0 rfl rfl 19 (by decide) mw_8_7 rfl dX12_between_9 ?_
    refine g_iload_n (pc := 12) X 1 rfl dX12_between_12 ?_
    refine g_baldI (pc := 13) X 1 rfl (b_kx.1) (by (first | (clear b_nr b_at_ b_to_ b_fa b_va b_np b_tn b_pc_ b_st_ b_pa_ b_ta b_ow b_of_ b_ot b_rl b_hb b_bs b_se; omega) | omega)) (Int.le_trans b_kx.2 (by decide)) dX12_between_13 ?_
    refine g_nameI (fun y1 ey1 => ?_)
    have by1 : (-128) ≤ y1 ∧ y1 ≤ 127 := by rw [ey1]; exact h_Mt _ (by (first | (clear b_nr b_at_ b_to_ b_fa b_va b_np b_tn b_pc_ b_st_ b_pa_ b_ta b_ow b_of_ b_ot b_rl b_hb b_bs b_se; omega) | omega))
    refine g_iload_n (pc := 14) X 2 rfl dX12_between_14 ?_
    refine g_icmp_ltI (pc := 15) X 32 (by decide) (inRb by1 (by decide) (by decide)) b_lo_ dX12_between_15 (fun c15 => ?_) (fun c15 => ?_)
    · refine g_iconst (pc := 32) X (iI 0) (by rfl) dX12_between_32 ?_
      exact g_zret (pc := 33) X hA (rfl) (⟨congrArg (fun z => some (Value.int (iI z))) ((bI_f (by (first | (clear b_nr b_at_ b_to_ b_fa b_va b_np b_tn b_pc_ b_st_ b_pa_ b_ta b_ow b_of_ b_ot b_rl b_hb b_bs b_se; omega) | omega))).symm), rfl⟩) (by decide) (by decide) dX12_between_33
    · refine g_aload_n (pc := 18) X 0 rfl dX12_between_18 ?_
      refine g_get (pc := 19) X inlX12 0 rfl rfl 19 (by decide) mw_8_7 rfl dX12_between_19 ?_
      refine g_iload_n (pc := 22) X 1 rfl dX12_between_22 ?_
      refine g_baldI (pc := 23) X 1 rfl (b_kx.1) (by (first | (clear b_nr b_at_ b_to_ b_fa b_va b_np b_tn b_pc_ b_st_ b_pa_ b_ta b_ow b_of_ b_ot b_rl b_hb b_bs b_se; omega) | omega)) (Int.le_trans b_kx.2 (by decide)) dX12_between_23 ?_
      refine g_nameI (fun y2 ey2 => ?_)
      have by2 : (-128) ≤ y2 ∧ y2 ≤ 127 := by rw [ey2]; exact h_Mt _ (by (first | (clear b_nr b_at_ b_to_ b_fa b_va b_np b_tn b_pc_ b_st_ b_pa_ b_ta b_ow b_of_ b_ot b_rl b_hb b_bs b_se; omega) | omega))
      refine g_iload_n (pc := 24) X 3 rfl dX12_between_24 ?_
      refine g_icmp_gtI (pc := 25) X 32 (by decide) (inRb by2 (by decide) (by decide)) b_hi_ dX12_between_25 (fun c25 => ?_) (fun c25 => ?_)
      · refine g_iconst (pc := 32) X (iI 0) (by rfl) dX12_between_32 ?_
        exact g_zret (pc := 33) X hA (rfl) (⟨congrArg (fun z => some (Value.int (iI z))) ((bI_f (by (first | (clear b_nr b_at_ b_to_ b_fa b_va b_np b_tn b_pc_ b_st_ b_pa_ b_ta b_ow b_of_ b_ot b_rl b_hb b_bs b_se; omega) | omega))).symm), rfl⟩) (by decide) (by decide) dX12_between_33
      · refine g_iconst (pc := 28) X (iI 1) (by rfl) dX12_between_28 ?_
        refine g_goto (pc := 29) X 33 (by decide) dX12_between_29 ?_
        exact g_zret (pc := 33) X hA (rfl) (⟨congrArg (fun z => some (Value.int (iI z))) ((bI_t (by (first | (clear b_nr b_at_ b_to_ b_fa b_va b_np b_tn b_pc_ b_st_ b_pa_ b_ta b_ow b_of_ b_ot b_rl b_hb b_bs b_se; omega) | omega))).symm), rfl⟩) (by decide) (by decide) dX12_between_33

set_option maxHeartbeats 4000000 in
set_option maxRecDepth 100000 in
theorem k_X12_next (l : Launch) (Z : gZ) (g0 : Nat) (gA : Nat → Nat) (Mt : Nat → Int) (nr : Int) (tm : Int) (at_ : Int) (to_ : Int) (fa : Int) (va : Int) (np : Int) (tn : Int) (pc_ : Int) (st_ : Int) (pa_ : Int) (ta : Int) (ow : Int) (of_ : Int) (ot : Int) (rl : Int) (hb : Int) (bs : Int) (se : Int) (b_nr : 0 ≤ nr ∧ nr ≤ 6) (b_tm : 0 ≤ tm ∧ tm ≤ 400) (b_at_ : 0 ≤ at_ ∧ at_ ≤ 400) (b_to_ : 0 ≤ to_ ∧ to_ ≤ 400) (b_fa : (-1) ≤ fa ∧ fa ≤ 400) (b_va : (-2147483648) ≤ va ∧ va ≤ 2147483647) (b_np : 0 ≤ np ∧ np ≤ 4) (b_tn : 0 ≤ tn ∧ tn ≤ 20) (b_pc_ : 0 ≤ pc_ ∧ pc_ ≤ 480) (b_st_ : 0 ≤ st_ ∧ st_ ≤ 240) (b_pa_ : (-1) ≤ pa_ ∧ pa_ ≤ 3) (b_ta : (-2147483648) ≤ ta ∧ ta ≤ 2147483647) (b_ow : (-2147483648) ≤ ow ∧ ow ≤ 2147483647) (b_of_ : (-2147483648) ≤ of_ ∧ of_ ≤ 2147483647) (b_ot : (-2147483648) ≤ ot ∧ ot ≤ 2147483647) (b_rl : 0 ≤ rl ∧ rl ≤ 2880) (b_hb : 0 ≤ hb ∧ hb ≤ 4) (b_bs : (-2147483648) ≤ bs ∧ bs ≤ 2147483647) (b_se : 0 ≤ se ∧ se ≤ 10) (j0 : to_ ≤ tm) (h_Mt : ∀ j, j < 400 → (-128) ≤ Mt j ∧ Mt j ≤ 127) : Con l Z yX12_next cX12_next 1 none 1 23 0 0 [.ref g0] [(g0, .inr (12, mO gA nr tm at_ to_ fa va np tn pc_ st_ pa_ ta ow of_ ot rl hb bs se)), cA Z (gA 19) 1 400 Mt] (fun r w' => ∃ (at2 : Int) (to2 : Int), (r = none) ∧ (w' = [(g0, .inr (12, mO gA nr tm at2 to2 fa va np tn pc_ st_ pa_ ta ow of_ ot rl hb bs se)), cA Z (gA 19) 1 400 Mt]) ∧ (0 ≤ at2 ∧ at2 ≤ 400) ∧ (0 ≤ to2 ∧ to2 ≤ 400) ∧ (at2 ≤ to2 ∧ to2 ≤ tm) ∧ (at2 < tm → at2 < to2) ∧ (to_ ≤ at2)) := by
  refine enter (by decide) (Nat.le_of_ble_eq_true rfl) ?_
  intro p e s m args below meth c A X hnm hA
  have X : Cx p s m args meth c cX12_next 1 none RX12 Z A := X
  refine g_as (pc' := 0) (lv' := [(0, .ref g0)]) (st' := []) (ws' := [(g0, .inr (12, mO gA nr tm at_ to_ fa va np tn pc_ st_ pa_ ta ow of_ ot rl hb bs se)), cA Z (gA 19) 1 400 Mt]) rfl rfl rfl rfl ?_
  refine g_aload_n (pc := 0) X 0 rfl dX12_next_0 ?_
  refine g_aload_n (pc := 1) X 0 rfl dX12_next_1 ?_
  refine g_get (pc := 2) X inlX12 0 rfl rfl 22 (by decide) mw_19_22 rfl dX12_next_2 ?_
  refine g_put (pc := 5) X inlX12 tyX12_ok nmX12 0 rfl rfl 21 (by decide) mw_19_23 rfl rfl rfl (Nat.le_of_ble_eq_true rfl) (ws' := [(g0, .inr (12, mO gA nr tm to_ to_ fa va np tn pc_ st_ pa_ ta ow of_ ot rl hb bs se)), cA Z (gA 19) 1 400 Mt]) rfl dX12_next_5 ?_
  have loop8 : ∀ (fuel : Nat) (at1 : Int), (0 ≤ at1 ∧ at1 ≤ 400) → (to_ ≤ at1 ∧ at1 ≤ tm) → (401 - at1).toNat < fuel → Gs p l e ({ frames := 1, cells := 0, slots := 0, locals := 23 } : Room) s m args below meth c (MQ below (gPost Z [(g0, .inr (12, mO gA nr tm at_ to_ fa va np tn pc_ st_ pa_ ta ow of_ ot rl hb bs se)), cA Z (gA 19) 1 400 Mt] s.heap.size (fun r w' => ∃ (at2 : Int) (to2 : Int), (r = none) ∧ (w' = [(g0, .inr (12, mO gA nr tm at2 to2 fa va np tn pc_ st_ pa_ ta ow of_ ot rl hb bs se)), cA Z (gA 19) 1 400 Mt]) ∧ (0 ≤ at2 ∧ at2 ≤ 400) ∧ (0 ≤ to2 ∧ to2 ≤ 400) ∧ (at2 ≤ to2 ∧ to2 ≤ tm) ∧ (at2 < tm → at2 < to2) ∧ (to_ ≤ at2))) args s 0 0 (va_A [(g0, .inr (12, mO gA nr tm at_ to_ fa va np tn pc_ st_ pa_ ta ow of_ ot rl hb bs se)), cA Z (gA 19) 1 400 Mt] s.heap.size)) Z A 1 0 0 8 [(0, .ref g0)] [] [(g0, .inr (12, mO gA nr tm at1 to_ fa va np tn pc_ st_ pa_ ta ow of_ ot rl hb bs se)), cA Z (gA 19) 1 400 Mt] := by
    intro fuel
    induction fuel with
    | zero => intro at1 _ _ hm; exact absurd hm (Nat.not_lt_zero _)
    | succ fuel ih =>
      intro at1 b_at1 iv0 hm
      refine g_aload_n (pc := 8) X 0 rfl dX12_next_8 ?_
      refine g_get (pc := 9) X inlX12 0 rfl rfl 21 (by decide) mw_19_23 rfl dX12_next_9 ?_
      refine g_aload_n (pc := 12) X 0 rfl dX12_next_12 ?_
      refine g_get (pc := 13) X inlX12 0 rfl rfl 20 (by decide) mw_10_18 rfl dX12_next_13 ?_
      refine g_icmp_geI (pc := 16) X 60 (by decide) (inRb b_at1 (by decide) (by decide)) (inRb b_tm (by decide) (by decide)) dX12_next_16 (fun c16 => ?_) (fun c16 => ?_)
      · refine g_aload_n (pc := 60) X 0 rfl dX12_next_60 ?_
        refine g_aload_n (pc := 61) X 0 rfl dX12_next_61 ?_
        refine g_get (pc := 62) X inlX12 0 rfl rfl 21 (by decide) mw_19_23 rfl dX12_next_62 ?_
        refine g_put (pc := 65) X inlX12 tyX12_ok nmX12 0 rfl rfl 22 (by decide) mw_19_22 rfl rfl rfl (Nat.le_of_ble_eq_true rfl) (ws' := [(g0, .inr (12, mO gA nr tm at1 at1 fa va np tn pc_ st_ pa_ ta ow of_ ot rl hb bs se)), cA Z (gA 19) 1 400 Mt]) rfl dX12_next_65 ?_
        refine g_aload_n (pc := 68) X 0 rfl dX12_next_68 ?_
        refine g_aload_n (pc := 69) X 0 rfl dX12_next_69 ?_
        refine g_get (pc := 70) X inlX12 0 rfl rfl 21 (by decide) mw_19_23 rfl dX12_next_70 ?_
        refine g_bipush (pc := 73) X (iI 97) (by decide) dX12_next_73 ?_
        refine g_bipush (pc := 75) X (iI 122) (by decide) dX12_next_75 ?_
        refine g_callV (pc := 77) X (k_X12_between l Z g0 gA Mt at1 97 122 nr tm at1 at1 fa va np tn pc_ st_ pa_ ta ow of_ ot rl hb bs se b_at1 (by decide) (by decide) b_nr b_tm b_at1 b_at1 b_fa b_va b_np b_tn b_pc_ b_st_ b_pa_ b_ta b_ow b_of_ b_ot b_rl b_hb b_bs b_se (h_Mt)) iM_X12_between mw_20_4 mw_20_5 mw_20_6 0 rfl rfl [0, 1] [] rfl (wr := []) rfl (by decide) rfl rfl (Nat.le_of_ble_eq_true rfl) (by decide) dX12_next_77 (fun r w' hpo => ?_)
        obtain ⟨rfl, rfl⟩ := hpo
        refine g_as (pc' := 80) (lv' := [(0, .ref g0)]) (st' := [.int (iI (bI (at1 < tm ∧ 97 ≤ Mt at1.toNat ∧ Mt at1.toNat ≤ 122)))]) (ws' := [(g0, .inr (12, mO gA nr tm at1 at1 fa va np tn pc_ st_ pa_ ta ow of_ ot rl hb bs se)), cA Z (gA 19) 1 400 Mt]) rfl rfl rfl rfl ?_
        refine g_if_eqB (pc := 80) X 111 (by decide) dX12_next_80 (fun c80 => ?_) (fun c80 => ?_)
        · refine g_aload_n (pc := 111) X 0 rfl dX12_next_111 ?_
          refine g_aload_n (pc := 112) X 0 rfl dX12_next_112 ?_
          refine g_get (pc := 113) X inlX12 0 rfl rfl 21 (by decide) mw_19_23 rfl dX12_next_113 ?_
          refine g_bipush (pc := 116) X (iI 48) (by decide) dX12_next_116 ?_
          refine g_bipush (pc := 118) X (iI 57) (by decide) dX12_next_118 ?_
          refine g_callV (pc := 120) X (k_X12_between l Z g0 gA Mt at1 48 57 nr tm at1 at1 fa va np tn pc_ st_ pa_ ta ow of_ ot rl hb bs se b_at1 (by decide) (by decide) b_nr b_tm b_at1 b_at1 b_fa b_va b_np b_tn b_pc_ b_st_ b_pa_ b_ta b_ow b_of_ b_ot b_rl b_hb b_bs b_se (h_Mt)) iM_X12_between mw_20_4 mw_20_5 mw_20_6 0 rfl rfl [0, 1] [] rfl (wr := []) rfl (by decide) rfl rfl (Nat.le_of_ble_eq_true rfl) (by decide) dX12_next_120 (fun r w' hpo => ?_)
          obtain ⟨rfl, rfl⟩ := hpo
          refine g_as (pc' := 123) (lv' := [(0, .ref g0)]) (st' := [.int (iI (bI (at1 < tm ∧ 48 ≤ Mt at1.toNat ∧ Mt at1.toNat ≤ 57)))]) (ws' := [(g0, .inr (12, mO gA nr tm at1 at1 fa va np tn pc_ st_ pa_ ta ow of_ ot rl hb bs se)), cA Z (gA 19) 1 400 Mt]) rfl rfl rfl rfl ?_
          refine g_if_eqB (pc := 123) X 154 (by decide) dX12_next_123 (fun c123 => ?_) (fun c123 => ?_)
          · refine g_aload_n (pc := 154) X 0 rfl dX12_next_154 ?_
            refine g_get (pc := 155) X inlX12 0 rfl rfl 21 (by decide) mw_19_23 rfl dX12_next_155 ?_
            refine g_aload_n (pc := 158) X 0 rfl dX12_next_158 ?_
            refine g_get (pc := 159) X inlX12 0 rfl rfl 20 (by decide) mw_10_18 rfl dX12_next_159 ?_
            refine g_icmp_geI (pc := 162) X 175 (by decide) (inRb b_at1 (by decide) (by decide)) (inRb b_tm (by decide) (by decide)) dX12_next_162 (fun c162 => ?_) (fun c162 => ?_)
            · exact g_vret (pc := 175) X hA (⟨at1, at1, rfl, rfl, (b_at1), (b_at1), (by (first | (clear b_nr b_at_ b_fa b_va b_np b_tn b_pc_ b_st_ b_pa_ b_ta b_ow b_of_ b_ot b_rl b_hb b_bs b_se; omega) | omega)), (by first | omega | (intro _; rcases Int.lt_or_eq_of_le iv with q | q; exact q; exact absurd (q ▸ c80) c95) | (intro _; rcases Int.lt_or_eq_of_le iv with q | q; exact q; exact absurd (q ▸ c123) c138)), (by (first | (clear b_nr b_at_ b_fa b_va b_np b_tn b_pc_ b_st_ b_pa_ b_ta b_ow b_of_ b_ot b_rl b_hb b_bs b_se; omega) | omega))⟩) (by decide) (by decide) dX12_next_175
            · refine g_aload_n (pc := 165) X 0 rfl dX12_next_165 ?_
              refine g_dup (pc := 166) X rfl dX12_next_166 ?_
              refine g_get (pc := 167) X inlX12 0 rfl rfl 22 (by decide) mw_19_22 rfl dX12_next_167 ?_
              refine g_iconst (pc := 170) X (iI 1) (by rfl) dX12_next_170 ?_
              refine g_iaddI (pc := 171) X dX12_next_171 ?_
              refine g_put (pc := 172) X inlX12 tyX12_ok nmX12 0 rfl rfl 22 (by decide) mw_19_22 rfl rfl rfl (Nat.le_of_ble_eq_true rfl) (ws' := [(g0, .inr (12, mO gA nr tm at1 (at1 + 1) fa va np tn pc_ st_ pa_ ta ow of_ ot rl hb bs se)), cA Z (gA 19) 1 400 Mt]) rfl dX12_next_172 ?_
              exact g_vret (pc := 175) X hA (⟨at1, (at1 + 1), rfl, rfl, (b_at1), (by (first | (clear b_nr b_at_ b_fa b_va b_np b_tn b_pc_ b_st_ b_pa_ b_ta b_ow b_of_ b_ot b_rl b_hb b_bs b_se; omega) | omega)), (by (first | (clear b_nr b_at_ b_fa b_va b_np b_tn b_pc_ b_st_ b_pa_ b_ta b_ow b_of_ b_ot b_rl b_hb b_bs b_se; omega) | omega)), (by first | omega | (intro _; rcases Int.lt_or_eq_of_le iv with q | q; exact q; exact absurd (q ▸ c80) c95) | (intro _; rcases Int.lt_or_eq_of_le iv with q | q; exact q; exact absurd (q ▸ c123) c138)), (by (first | (clear b_nr b_at_ b_fa b_va b_np b_tn b_pc_ b_st_ b_pa_ b_ta b_ow b_of_ b_ot b_rl b_hb b_bs b_se; omega) | omega))⟩) (by decide) (by decide) dX12_next_175
          · have loop126 : ∀ (fuel : Nat) (to1 : Int), (0 ≤ to1 ∧ to1 ≤ 400) → (at1 ≤ to1) → (to1 ≤ tm) → (401 - to1).toNat < fuel → Gs p l e ({ frames := 1, cells := 0, slots := 0, locals := 23 } : Room) s m args below meth c (MQ below (gPost Z [(g0, .inr (12, mO gA nr tm at_ to_ fa va np tn pc_ st_ pa_ ta ow of_ ot rl hb bs se)), cA Z (gA 19) 1 400 Mt] s.heap.size (fun r w' => ∃ (at2 : Int) (to2 : Int), (r = none) ∧ (w' = [(g0, .inr (12, mO gA nr tm at2 to2 fa va np tn pc_ st_ pa_ ta ow of_ ot rl hb bs se)), cA Z (gA 19) 1 400 Mt]) ∧ (0 ≤ at2 ∧ at2 ≤ 400) ∧ (0 ≤ to2 ∧ to2 ≤ 400) ∧ (at2 ≤ to2 ∧ to2 ≤ tm) ∧ (at2 < tm → at2 < to2) ∧ (to_ ≤ at2))) args s 0 0 (va_A [(g0, .inr (12, mO gA nr tm at_ to_ fa va np tn pc_ st_ pa_ ta ow of_ ot rl hb bs se)), cA Z (gA 19) 1 400 Mt] s.heap.size)) Z A 1 0 0 126 [(0, .ref g0)] [] [(g0, .inr (12, mO gA nr tm at1 to1 fa va np tn pc_ st_ pa_ ta ow of_ ot rl hb bs se)), cA Z (gA 19) 1 400 Mt] := by
              intro fuel
              induction fuel with
              | zero => intro to1 _ _ _ hm; exact absurd hm (Nat.not_lt_zero _)
              | succ fuel ih =>
                intro to1 b_to1 iv iv3 hm
                refine g_aload_n (pc := 126) X 0 rfl dX12_next_126 ?_
                refine g_aload_n (pc := 127) X 0 rfl dX12_next_127 ?_
                refine g_get (pc := 128) X inlX12 0 rfl rfl 22 (by decide) mw_19_22 rfl dX12_next_128 ?_
                refine g_bipush (pc := 131) X (iI 48) (by decide) dX12_next_131 ?_
                refine g_bipush (pc := 133) X (iI 57) (by decide) dX12_next_133 ?_
                refine g_callV (pc := 135) X (k_X12_between l Z g0 gA Mt to1 48 57 nr tm at1 to1 fa va np tn pc_ st_ pa_ ta ow of_ ot rl hb bs se b_to1 (by decide) (by decide) b_nr b_tm b_at1 b_to1 b_fa b_va b_np b_tn b_pc_ b_st_ b_pa_ b_ta b_ow b_of_ b_ot b_rl b_hb b_bs b_se (h_Mt)) iM_X12_between mw_20_4 mw_20_5 mw_20_6 0 rfl rfl [0, 1] [] rfl (wr := []) rfl (by decide) rfl rfl (Nat.le_of_ble_eq_true rfl) (by decide) dX12_next_135 (fun r w' hpo => ?_)
                obtain ⟨rfl, rfl⟩ := hpo
                refine g_as (pc' := 138) (lv' := [(0, .ref g0)]) (st' := [.int (iI (bI (to1 < tm ∧ 48 ≤ Mt to1.toNat ∧ Mt to1.toNat ≤ 57)))]) (ws' := [(g0, .inr (12, mO gA nr tm at1 to1 fa va np tn pc_ st_ pa_ ta ow of_ ot rl hb bs se)), cA Z (gA 19) 1 400 Mt]) rfl rfl rfl rfl ?_
                refine g_if_eqB (pc := 138) X 175 (by decide) dX12_next_138 (fun c138 => ?_) (fun c138 => ?_)
                · exact g_vret (pc := 175) X hA (⟨at1, to1, rfl, rfl, (b_at1), (b_to1), (by (first | (clear b_nr b_at_ b_fa b_va b_np b_tn b_pc_ b_st_ b_pa_ b_ta b_ow b_of_ b_ot b_rl b_hb b_bs b_se; omega) | omega)), (by first | omega | (intro _; rcases Int.lt_or_eq_of_le iv with q | q; exact q; exact absurd (q ▸ c80) c95) | (intro _; rcases Int.lt_or_eq_of_le iv with q | q; exact q; exact absurd (q ▸ c123) c138)), (by (first | (clear b_nr b_at_ b_fa b_va b_np b_tn b_pc_ b_st_ b_pa_ b_ta b_ow b_of_ b_ot b_rl b_hb b_bs b_se; omega) | omega))⟩) (by decide) (by decide) dX12_next_175
                · refine g_aload_n (pc := 141) X 0 rfl dX12_next_141 ?_
                  refine g_dup (pc := 142) X rfl dX12_next_142 ?_
                  refine g_get (pc := 143) X inlX12 0 rfl rfl 22 (by decide) mw_19_22 rfl dX12_next_143 ?_
                  refine g_iconst (pc := 146) X (iI 1) (by rfl) dX12_next_146 ?_
                  refine g_iaddI (pc := 147) X dX12_next_147 ?_
                  refine g_put (pc := 148) X inlX12 tyX12_ok nmX12 0 rfl rfl 22 (by decide) mw_19_22 rfl rfl rfl (Nat.le_of_ble_eq_true rfl) (ws' := [(g0, .inr (12, mO gA nr tm at1 (to1 + 1) fa va np tn pc_ st_ pa_ ta ow of_ ot rl hb bs se)), cA Z (gA 19) 1 400 Mt]) rfl dX12_next_148 ?_
                  refine g_goto (pc := 151) X 126 (by decide) dX12_next_151 ?_
                  exact ih (to1 + 1) (by (first | (clear b_nr b_at_ b_fa b_va b_np b_tn b_pc_ b_st_ b_pa_ b_ta b_ow b_of_ b_ot b_rl b_hb b_bs b_se; omega) | omega)) (by (first | (clear b_nr b_at_ b_fa b_va b_np b_tn b_pc_ b_st_ b_pa_ b_ta b_ow b_of_ b_ot b_rl b_hb b_bs b_se; omega) | omega)) (by (first | (clear b_nr b_at_ b_fa b_va b_np b_tn b_pc_ b_st_ b_pa_ b_ta b_ow b_of_ b_ot b_rl b_hb b_bs b_se; omega) | omega)) (by (first | (clear b_nr b_at_ b_fa b_va b_np b_tn b_pc_ b_st_ b_pa_ b_ta b_ow b_of_ b_ot b_rl b_hb b_bs b_se; omega) | omega))
            exact loop126 _ at1 (b_at1) (by (first | (clear b_nr b_at_ b_fa b_va b_np b_tn b_pc_ b_st_ b_pa_ b_ta b_ow b_of_ b_ot b_rl b_hb b_bs b_se; omega) | omega)) (by (first | (clear b_nr b_at_ b_fa b_va b_np b_tn b_pc_ b_st_ b_pa_ b_ta b_ow b_of_ b_ot b_rl b_hb b_bs b_se; omega) | omega)) (Nat.lt_succ_self _)
        · have loop83 : ∀ (fuel : Nat) (to1 : Int), (0 ≤ to1 ∧ to1 ≤ 400) → (at1 ≤ to1) → (to1 ≤ tm) → (401 - to1).toNat < fuel → Gs p l e ({ frames := 1, cells := 0, slots := 0, locals := 23 } : Room) s m args below meth c (MQ below (gPost Z [(g0, .inr (12, mO gA nr tm at_ to_ fa va np tn pc_ st_ pa_ ta ow of_ ot rl hb bs se)), cA Z (gA 19) 1 400 Mt] s.heap.size (fun r w' => ∃ (at2 : Int) (to2 : Int), (r = none) ∧ (w' = [(g0, .inr (12, mO gA nr tm at2 to2 fa va np tn pc_ st_ pa_ ta ow of_ ot rl hb bs se)), cA Z (gA 19) 1 400 Mt]) ∧ (0 ≤ at2 ∧ at2 ≤ 400) ∧ (0 ≤ to2 ∧ to2 ≤ 400) ∧ (at2 ≤ to2 ∧ to2 ≤ tm) ∧ (at2 < tm → at2 < to2) ∧ (to_ ≤ at2))) args s 0 0 (va_A [(g0, .inr (12, mO gA nr tm at_ to_ fa va np tn pc_ st_ pa_ ta ow of_ ot rl hb bs se)), cA Z (gA 19) 1 400 Mt] s.heap.size)) Z A 1 0 0 83 [(0, .ref g0)] [] [(g0, .inr (12, mO gA nr tm at1 to1 fa va np tn pc_ st_ pa_ ta ow of_ ot rl hb bs se)), cA Z (gA 19) 1 400 Mt] := by
            intro fuel
            induction fuel with
            | zero => intro to1 _ _ _ hm; exact absurd hm (Nat.not_lt_zero _)
            | succ fuel ih =>
              intro to1 b_to1 iv iv3 hm
              refine g_aload_n (pc := 83) X 0 rfl dX12_next_83 ?_
              refine g_aload_n (pc := 84) X 0 rfl dX12_next_84 ?_
              refine g_get (pc := 85) X inlX12 0 rfl rfl 22 (by decide) mw_19_22 rfl dX12_next_85 ?_
              refine g_bipush (pc := 88) X (iI 97) (by decide) dX12_next_88 ?_
              refine g_bipush (pc := 90) X (iI 122) (by decide) dX12_next_90 ?_
              refine g_callV (pc := 92) X (k_X12_between l Z g0 gA Mt to1 97 122 nr tm at1 to1 fa va np tn pc_ st_ pa_ ta ow of_ ot rl hb bs se b_to1 (by decide) (by decide) b_nr b_tm b_at1 b_to1 b_fa b_va b_np b_tn b_pc_ b_st_ b_pa_ b_ta b_ow b_of_ b_ot b_rl b_hb b_bs b_se (h_Mt)) iM_X12_between mw_20_4 mw_20_5 mw_20_6 0 rfl rfl [0, 1] [] rfl (wr := []) rfl (by decide) rfl rfl (Nat.le_of_ble_eq_true rfl) (by decide) dX12_next_92 (fun r w' hpo => ?_)
              obtain ⟨rfl, rfl⟩ := hpo
              refine g_as (pc' := 95) (lv' := [(0, .ref g0)]) (st' := [.int (iI (bI (to1 < tm ∧ 97 ≤ Mt to1.toNat ∧ Mt to1.toNat ≤ 122)))]) (ws' := [(g0, .inr (12, mO gA nr tm at1 to1 fa va np tn pc_ st_ pa_ ta ow of_ ot rl hb bs se)), cA Z (gA 19) 1 400 Mt]) rfl rfl rfl rfl ?_
              refine g_if_eqB (pc := 95) X 175 (by decide) dX12_next_95 (fun c95 => ?_) (fun c95 => ?_)
              · exact g_vret (pc := 175) X hA (⟨at1, to1, rfl, rfl, (b_at1), (b_to1), (by (first | (clear b_nr b_at_ b_fa b_va b_np b_tn b_pc_ b_st_ b_pa_ b_ta b_ow b_of_ b_ot b_rl b_hb b_bs b_se; omega) | omega)), (by first | omega | (intro _; rcases Int.lt_or_eq_of_le iv with q | q; exact q; exact absurd (q ▸ c80) c95) | (intro _; rcases Int.lt_or_eq_of_le iv with q | q; exact q; exact absurd (q ▸ c123) c138)), (by (first | (clear b_nr b_at_ b_fa b_va b_np b_tn b_pc_ b_st_ b_pa_ b_ta b_ow b_of_ b_ot b_rl b_hb b_bs b_se; omega) | omega))⟩) (by decide) (by decide) dX12_next_175
              · refine g_aload_n (pc := 98) X 0 rfl dX12_next_98 ?_
                refine g_dup (pc := 99) X rfl dX12_next_99 ?_
                refine g_get (pc := 100) X inlX12 0 rfl rfl 22 (by decide) mw_19_22 rfl dX12_next_100 ?_
                refine g_iconst (pc := 103) X (iI 1) (by rfl) dX12_next_103 ?_
                refine g_iaddI (pc := 104) X dX12_next_104 ?_
                refine g_put (pc := 105) X inlX12 tyX12_ok nmX12 0 rfl rfl 22 (by decide) mw_19_22 rfl rfl rfl (Nat.le_of_ble_eq_true rfl) (ws' := [(g0, .inr (12, mO gA nr tm at1 (to1 + 1) fa va np tn pc_ st_ pa_ ta ow of_ ot rl hb bs se)), cA Z (gA 19) 1 400 Mt]) rfl dX12_next_105 ?_
                refine g_goto (pc := 108) X 83 (by decide) dX12_next_108 ?_
                exact ih (to1 + 1) (by (first | (clear b_nr b_at_ b_fa b_va b_np b_tn b_pc_ b_st_ b_pa_ b_ta b_ow b_of_ b_ot b_rl b_hb b_bs b_se; omega) | omega)) (by (first | (clear b_nr b_at_ b_fa b_va b_np b_tn b_pc_ b_st_ b_pa_ b_ta b_ow b_of_ b_ot b_rl b_hb b_bs b_se; omega) | omega)) (by (first | (clear b_nr b_at_ b_fa b_va b_np b_tn b_pc_ b_st_ b_pa_ b_ta b_ow b_of_ b_ot b_rl b_hb b_bs b_se; omega) | omega)) (by (first | (clear b_nr b_at_ b_fa b_va b_np b_tn b_pc_ b_st_ b_pa_ b_ta b_ow b_of_ b_ot b_rl b_hb b_bs b_se; omega) | omega))
          exact loop83 _ at1 (b_at1) (by (first | (clear b_nr b_at_ b_fa b_va b_np b_tn b_pc_ b_st_ b_pa_ b_ta b_ow b_of_ b_ot b_rl b_hb b_bs b_se; omega) | omega)) (by (first | (clear b_nr b_at_ b_fa b_va b_np b_tn b_pc_ b_st_ b_pa_ b_ta b_ow b_of_ b_ot b_rl b_hb b_bs b_se; omega) | omega)) (Nat.lt_succ_self _)
      · refine g_aload_n (pc := 19) X 0 rfl dX12_next_19 ?_
        refine g_get (pc := 20) X inlX12 0 rfl rfl 19 (by decide) mw_8_7 rfl dX12_next_20 ?_
        refine g_aload_n (pc := 23) X 0 rfl dX12_next_23 ?_
        refine g_get (pc := 24) X inlX12 0 rfl rfl 21 (by decide) mw_19_23 rfl dX12_next_24 ?_
        refine g_baldI (pc := 27) X 1 rfl (b_at1.1) (by (first | (clear b_nr b_at_ b_fa b_va b_np b_tn b_pc_ b_st_ b_pa_ b_ta b_ow b_of_ b_ot b_rl b_hb b_bs b_se; omega) | omega)) (Int.le_trans b_at1.2 (by decide)) dX12_next_27 ?_
        refine g_nameI (fun y5 ey5 => ?_)
        have by5 : (-128) ≤ y5 ∧ y5 ≤ 127 := by rw [ey5]; exact h_Mt _ (by (first | (clear b_nr b_at_ b_fa b_va b_np b_tn b_pc_ b_st_ b_pa_ b_ta b_ow b_of_ b_ot b_rl b_hb b_bs b_se; omega) | omega))
        refine g_bipush (pc := 28) X (iI 32) (by decide) dX12_next_28 ?_
        refine g_icmp_eqI (pc := 30) X 47 (by decide) (inRb by5 (by decide) (by decide)) ⟨by decide, by decide⟩ dX12_next_30 (fun c30 => ?_) (fun c30 => ?_)
        · refine g_aload_n (pc := 47) X 0 rfl dX12_next_47 ?_
          refine g_dup (pc := 48) X rfl dX12_next_48 ?_
          refine g_get (pc := 49) X inlX12 0 rfl rfl 21 (by decide) mw_19_23 rfl dX12_next_49 ?_
          refine g_iconst (pc := 52) X (iI 1) (by rfl) dX12_next_52 ?_
          refine g_iaddI (pc := 53) X dX12_next_53 ?_
          refine g_put (pc := 54) X inlX12 tyX12_ok nmX12 0 rfl rfl 21 (by decide) mw_19_23 rfl rfl rfl (Nat.le_of_ble_eq_true rfl) (ws' := [(g0, .inr (12, mO gA nr tm (at1 + 1) to_ fa va np tn pc_ st_ pa_ ta ow of_ ot rl hb bs se)), cA Z (gA 19) 1 400 Mt]) rfl dX12_next_54 ?_
          refine g_goto (pc := 57) X 8 (by decide) dX12_next_57 ?_
          exact ih (at1 + 1) (by (first | (clear b_nr b_at_ b_fa b_va b_np b_tn b_pc_ b_st_ b_pa_ b_ta b_ow b_of_ b_ot b_rl b_hb b_bs b_se; omega) | omega)) (by (first | (clear b_nr b_at_ b_fa b_va b_np b_tn b_pc_ b_st_ b_pa_ b_ta b_ow b_of_ b_ot b_rl b_hb b_bs b_se; omega) | omega)) (by (first | (clear b_nr b_at_ b_fa b_va b_np b_tn b_pc_ b_st_ b_pa_ b_ta b_ow b_of_ b_ot b_rl b_hb b_bs b_se; omega) | omega))
        · refine g_aload_n (pc := 33) X 0 rfl dX12_next_33 ?_
          refine g_get (pc := 34) X inlX12 0 rfl rfl 19 (by decide) mw_8_7 rfl dX12_next_34 ?_
          refine g_aload_n (pc := 37) X 0 rfl dX12_next_37 ?_
          refine g_get (pc := 38) X inlX12 0 rfl rfl 21 (by decide) mw_19_23 rfl dX12_next_38 ?_
          refine g_baldI (pc := 41) X 1 rfl (b_at1.1) (by (first | (clear b_nr b_at_ b_fa b_va b_np b_tn b_pc_ b_st_ b_pa_ b_ta b_ow b_of_ b_ot b_rl b_hb b_bs b_se; omega) | omega)) (Int.le_trans b_at1.2 (by decide)) dX12_next_41 ?_
          refine g_nameI (fun y6 ey6 => ?_)
          have by6 : (-128) ≤ y6 ∧ y6 ≤ 127 := by rw [ey6]; exact h_Mt _ (by (first | (clear b_nr b_at_ b_fa b_va b_np b_tn b_pc_ b_st_ b_pa_ b_ta b_ow b_of_ b_ot b_rl b_hb b_bs b_se; omega) | omega))
          refine g_bipush (pc := 42) X (iI 10) (by decide) dX12_next_42 ?_
          refine g_icmp_neI (pc := 44) X 60 (by decide) (inRb by6 (by decide) (by decide)) ⟨by decide, by decide⟩ dX12_next_44 (fun c44 => ?_) (fun c44 => ?_)
          · refine g_aload_n (pc := 60) X 0 rfl dX12_next_60 ?_
            refine g_aload_n (pc := 61) X 0 rfl dX12_next_61 ?_
            refine g_get (pc := 62) X inlX12 0 rfl rfl 21 (by decide) mw_19_23 rfl dX12_next_62 ?_
            refine g_put (pc := 65) X inlX12 tyX12_ok nmX12 0 rfl rfl 22 (by decide) mw_19_22 rfl rfl rfl (Nat.le_of_ble_eq_true rfl) (ws' := [(g0, .inr (12, mO gA nr tm at1 at1 fa va np tn pc_ st_ pa_ ta ow of_ ot rl hb bs se)), cA Z (gA 19) 1 400 Mt]) rfl dX12_next_65 ?_
            refine g_aload_n (pc := 68) X 0 rfl dX12_next_68 ?_
            refine g_aload_n (pc := 69) X 0 rfl dX12_next_69 ?_
            refine g_get (pc := 70) X inlX12 0 rfl rfl 21 (by decide) mw_19_23 rfl dX12_next_70 ?_
            refine g_bipush (pc := 73) X (iI 97) (by decide) dX12_next_73 ?_
            refine g_bipush (pc := 75) X (iI 122) (by decide) dX12_next_75 ?_
            refine g_callV (pc := 77) X (k_X12_between l Z g0 gA Mt at1 97 122 nr tm at1 at1 fa va np tn pc_ st_ pa_ ta ow of_ ot rl hb bs se b_at1 (by decide) (by decide) b_nr b_tm b_at1 b_at1 b_fa b_va b_np b_tn b_pc_ b_st_ b_pa_ b_ta b_ow b_of_ b_ot b_rl b_hb b_bs b_se (h_Mt)) iM_X12_between mw_20_4 mw_20_5 mw_20_6 0 rfl rfl [0, 1] [] rfl (wr := []) rfl (by decide) rfl rfl (Nat.le_of_ble_eq_true rfl) (by decide) dX12_next_77 (fun r w' hpo => ?_)
            obtain ⟨rfl, rfl⟩ := hpo
            refine g_as (pc' := 80) (lv' := [(0, .ref g0)]) (st' := [.int (iI (bI (at1 < tm ∧ 97 ≤ Mt at1.toNat ∧ Mt at1.toNat ≤ 122)))]) (ws' := [(g0, .inr (12, mO gA nr tm at1 at1 fa va np tn pc_ st_ pa_ ta ow of_ ot rl hb bs se)), cA Z (gA 19) 1 400 Mt]) rfl rfl rfl rfl ?_
            refine g_if_eqB (pc := 80) X 111 (by decide) dX12_next_80 (fun c80 => ?_) (fun c80 => ?_)
            · refine g_aload_n (pc := 111) X 0 rfl dX12_next_111 ?_
              refine g_aload_n (pc := 112) X 0 rfl dX12_next_112 ?_
              refine g_get (pc := 113) X inlX12 0 rfl rfl 21 (by decide) mw_19_23 rfl dX12_next_113 ?_
              refine g_bipush (pc := 116) X (iI 48) (by decide) dX12_next_116 ?_
              refine g_bipush (pc := 118) X (iI 57) (by decide) dX12_next_118 ?_
              refine g_callV (pc := 120) X (k_X12_between l Z g0 gA Mt at1 48 57 nr tm at1 at1 fa va np tn pc_ st_ pa_ ta ow of_ ot rl hb bs se b_at1 (by decide) (by decide) b_nr b_tm b_at1 b_at1 b_fa b_va b_np b_tn b_pc_ b_st_ b_pa_ b_ta b_ow b_of_ b_ot b_rl b_hb b_bs b_se (h_Mt)) iM_X12_between mw_20_4 mw_20_5 mw_20_6 0 rfl rfl [0, 1] [] rfl (wr := []) rfl (by decide) rfl rfl (Nat.le_of_ble_eq_true rfl) (by decide) dX12_next_120 (fun r w' hpo => ?_)
              obtain ⟨rfl, rfl⟩ := hpo
              refine g_as (pc' := 123) (lv' := [(0, .ref g0)]) (st' := [.int (iI (bI (at1 < tm ∧ 48 ≤ Mt at1.toNat ∧ Mt at1.toNat ≤ 57)))]) (ws' := [(g0, .inr (12, mO gA nr tm at1 at1 fa va np tn pc_ st_ pa_ ta ow of_ ot rl hb bs se)), cA Z (gA 19) 1 400 Mt]) rfl rfl rfl rfl ?_
              refine g_if_eqB (pc := 123) X 154 (by decide) dX12_next_123 (fun c123 => ?_) (fun c123 => ?_)
              · refine g_aload_n (pc := 154) X 0 rfl dX12_next_154 ?_
                refine g_get (pc := 155) X inlX12 0 rfl rfl 21 (by decide) mw_19_23 rfl dX12_next_155 ?_
                refine g_aload_n (pc := 158) X 0 rfl dX12_next_158 ?_
                refine g_get (pc := 159) X inlX12 0 rfl rfl 20 (by decide) mw_10_18 rfl dX12_next_159 ?_
                refine g_icmp_geI (pc := 162) X 175 (by decide) (inRb b_at1 (by decide) (by decide)) (inRb b_tm (by decide) (by decide)) dX12_next_162 (fun c162 => ?_) (fun c162 => ?_)
                · exact g_vret (pc := 175) X hA (⟨at1, at1, rfl, rfl, (b_at1), (b_at1), (by (first | (clear b_nr b_at_ b_fa b_va b_np b_tn b_pc_ b_st_ b_pa_ b_ta b_ow b_of_ b_ot b_rl b_hb b_bs b_se; omega) | omega)), (by first | omega | (intro _; rcases Int.lt_or_eq_of_le iv with q | q; exact q; exact absurd (q ▸ c80) c95) | (intro _; rcases Int.lt_or_eq_of_le iv with q | q; exact q; exact absurd (q ▸ c123) c138)), (by (first | (clear b_nr b_at_ b_fa b_va b_np b_tn b_pc_ b_st_ b_pa_ b_ta b_ow b_of_ b_ot b_rl b_hb b_bs b_se; omega) | omega))⟩) (by decide) (by decide) dX12_next_175
                · refine g_aload_n (pc := 165) X 0 rfl dX12_next_165 ?_
                  refine g_dup (pc := 166) X rfl dX12_next_166 ?_
                  refine g_get (pc := 167) X inlX12 0 rfl rfl 22 (by decide) mw_19_22 rfl dX12_next_167 ?_
                  refine g_iconst (pc := 170) X (iI 1) (by rfl) dX12_next_170 ?_
                  refine g_iaddI (pc := 171) X dX12_next_171 ?_
                  refine g_put (pc := 172) X inlX12 tyX12_ok nmX12 0 rfl rfl 22 (by decide) mw_19_22 rfl rfl rfl (Nat.le_of_ble_eq_true rfl) (ws' := [(g0, .inr (12, mO gA nr tm at1 (at1 + 1) fa va np tn pc_ st_ pa_ ta ow of_ ot rl hb bs se)), cA Z (gA 19) 1 400 Mt]) rfl dX12_next_172 ?_
                  exact g_vret (pc := 175) X hA (⟨at1, (at1 + 1), rfl, rfl, (b_at1), (by (first | (clear b_nr b_at_ b_fa b_va b_np b_tn b_pc_ b_st_ b_pa_ b_ta b_ow b_of_ b_ot b_rl b_hb b_bs b_se; omega) | omega)), (by (first | (clear b_nr b_at_ b_fa b_va b_np b_tn b_pc_ b_st_ b_pa_ b_ta b_ow b_of_ b_ot b_rl b_hb b_bs b_se; omega) | omega)), (by first | omega | (intro _; rcases Int.lt_or_eq_of_le iv with q | q; exact q; exact absurd (q ▸ c80) c95) | (intro _; rcases Int.lt_or_eq_of_le iv with q | q; exact q; exact absurd (q ▸ c123) c138)), (by (first | (clear b_nr b_at_ b_fa b_va b_np b_tn b_pc_ b_st_ b_pa_ b_ta b_ow b_of_ b_ot b_rl b_hb b_bs b_se; omega) | omega))⟩) (by decide) (by decide) dX12_next_175
              · have loop126 : ∀ (fuel : Nat) (to1 : Int), (0 ≤ to1 ∧ to1 ≤ 400) → (at1 ≤ to1) → (to1 ≤ tm) → (401 - to1).toNat < fuel → Gs p l e ({ frames := 1, cells := 0, slots := 0, locals := 23 } : Room) s m args below meth c (MQ below (gPost Z [(g0, .inr (12, mO gA nr tm at_ to_ fa va np tn pc_ st_ pa_ ta ow of_ ot rl hb bs se)), cA Z (gA 19) 1 400 Mt] s.heap.size (fun r w' => ∃ (at2 : Int) (to2 : Int), (r = none) ∧ (w' = [(g0, .inr (12, mO gA nr tm at2 to2 fa va np tn pc_ st_ pa_ ta ow of_ ot rl hb bs se)), cA Z (gA 19) 1 400 Mt]) ∧ (0 ≤ at2 ∧ at2 ≤ 400) ∧ (0 ≤ to2 ∧ to2 ≤ 400) ∧ (at2 ≤ to2 ∧ to2 ≤ tm) ∧ (at2 < tm → at2 < to2) ∧ (to_ ≤ at2))) args s 0 0 (va_A [(g0, .inr (12, mO gA nr tm at_ to_ fa va np tn pc_ st_ pa_ ta ow of_ ot rl hb bs se)), cA Z (gA 19) 1 400 Mt] s.heap.size)) Z A 1 0 0 126 [(0, .ref g0)] [] [(g0, .inr (12, mO gA nr tm at1 to1 fa va np tn pc_ st_ pa_ ta ow of_ ot rl hb bs se)), cA Z (gA 19) 1 400 Mt] := by
                  intro fuel
                  induction fuel with
                  | zero => intro to1 _ _ _ hm; exact absurd hm (Nat.not_lt_zero _)
                  | succ fuel ih =>
                    intro to1 b_to1 iv iv3 hm
                    refine g_aload_n (pc := 126) X 0 rfl dX12_next_126 ?_
                    refine g_aload_n (pc := 127) X 0 rfl dX12_next_127 ?_
                    refine g_get (pc := 128) X inlX12 0 rfl rfl 22 (by decide) mw_19_22 rfl dX12_next_128 ?_
                    refine g_bipush (pc := 131) X (iI 48) (by decide) dX12_next_131 ?_
                    refine g_bipush (pc := 133) X (iI 57) (by decide) dX12_next_133 ?_
                    refine g_callV (pc := 135) X (k_X12_between l Z g0 gA Mt to1 48 57 nr tm at1 to1 fa va np tn pc_ st_ pa_ ta ow of_ ot rl hb bs se b_to1 (by decide) (by decide) b_nr b_tm b_at1 b_to1 b_fa b_va b_np b_tn b_pc_ b_st_ b_pa_ b_ta b_ow b_of_ b_ot b_rl b_hb b_bs b_se (h_Mt)) iM_X12_between mw_20_4 mw_20_5 mw_20_6 0 rfl rfl [0, 1] [] rfl (wr := []) rfl (by decide) rfl rfl (Nat.le_of_ble_eq_true rfl) (by decide) dX12_next_135 (fun r w' hpo => ?_)
                    obtain ⟨rfl, rfl⟩ := hpo
                    refine g_as (pc' := 138) (lv' := [(0, .ref g0)]) (st' := [.int (iI (bI (to1 < tm ∧ 48 ≤ Mt to1.toNat ∧ Mt to1.toNat ≤ 57)))]) (ws' := [(g0, .inr (12, mO gA nr tm at1 to1 fa va np tn pc_ st_ pa_ ta ow of_ ot rl hb bs se)), cA Z (gA 19) 1 400 Mt]) rfl rfl rfl rfl ?_
                    refine g_if_eqB (pc := 138) X 175 (by decide) dX12_next_138 (fun c138 => ?_) (fun c138 => ?_)
                    · exact g_vret (pc := 175) X hA (⟨at1, to1, rfl, rfl, (b_at1), (b_to1), (by (first | (clear b_nr b_at_ b_fa b_va b_np b_tn b_pc_ b_st_ b_pa_ b_ta b_ow b_of_ b_ot b_rl b_hb b_bs b_se; omega) | omega)), (by first | omega | (intro _; rcases Int.lt_or_eq_of_le iv with q | q; exact q; exact absurd (q ▸ c80) c95) | (intro _; rcases Int.lt_or_eq_of_le iv with q | q; exact q; exact absurd (q ▸ c123) c138)), (by (first | (clear b_nr b_at_ b_fa b_va b_np b_tn b_pc_ b_st_ b_pa_ b_ta b_ow b_of_ b_ot b_rl b_hb b_bs b_se; omega) | omega))⟩) (by decide) (by decide) dX12_next_175
                    · refine g_aload_n (pc := 141) X 0 rfl dX12_next_141 ?_
                      refine g_dup (pc := 142) X rfl dX12_next_142 ?_
                      refine g_get (pc := 143) X inlX12 0 rfl rfl 22 (by decide) mw_19_22 rfl dX12_next_143 ?_
                      refine g_iconst (pc := 146) X (iI 1) (by rfl) dX12_next_146 ?_
                      refine g_iaddI (pc := 147) X dX12_next_147 ?_
                      refine g_put (pc := 148) X inlX12 tyX12_ok nmX12 0 rfl rfl 22 (by decide) mw_19_22 rfl rfl rfl (Nat.le_of_ble_eq_true rfl) (ws' := [(g0, .inr (12, mO gA nr tm at1 (to1 + 1) fa va np tn pc_ st_ pa_ ta ow of_ ot rl hb bs se)), cA Z (gA 19) 1 400 Mt]) rfl dX12_next_148 ?_
                      refine g_goto (pc := 151) X 126 (by decide) dX12_next_151 ?_
                      exact ih (to1 + 1) (by (first | (clear b_nr b_at_ b_fa b_va b_np b_tn b_pc_ b_st_ b_pa_ b_ta b_ow b_of_ b_ot b_rl b_hb b_bs b_se; omega) | omega)) (by (first | (clear b_nr b_at_ b_fa b_va b_np b_tn b_pc_ b_st_ b_pa_ b_ta b_ow b_of_ b_ot b_rl b_hb b_bs b_se; omega) | omega)) (by (first | (clear b_nr b_at_ b_fa b_va b_np b_tn b_pc_ b_st_ b_pa_ b_ta b_ow b_of_ b_ot b_rl b_hb b_bs b_se; omega) | omega)) (by (first | (clear b_nr b_at_ b_fa b_va b_np b_tn b_pc_ b_st_ b_pa_ b_ta b_ow b_of_ b_ot b_rl b_hb b_bs b_se; omega) | omega))
                exact loop126 _ at1 (b_at1) (by (first | (clear b_nr b_at_ b_fa b_va b_np b_tn b_pc_ b_st_ b_pa_ b_ta b_ow b_of_ b_ot b_rl b_hb b_bs b_se; omega) | omega)) (by (first | (clear b_nr b_at_ b_fa b_va b_np b_tn b_pc_ b_st_ b_pa_ b_ta b_ow b_of_ b_ot b_rl b_hb b_bs b_se; omega) | omega)) (Nat.lt_succ_self _)
            · have loop83 : ∀ (fuel : Nat) (to1 : Int), (0 ≤ to1 ∧ to1 ≤ 400) → (at1 ≤ to1) → (to1 ≤ tm) → (401 - to1).toNat < fuel → Gs p l e ({ frames := 1, cells := 0, slots := 0, locals := 23 } : Room) s m args below meth c (MQ below (gPost Z [(g0, .inr (12, mO gA nr tm at_ to_ fa va np tn pc_ st_ pa_ ta ow of_ ot rl hb bs se)), cA Z (gA 19) 1 400 Mt] s.heap.size (fun r w' => ∃ (at2 : Int) (to2 : Int), (r = none) ∧ (w' = [(g0, .inr (12, mO gA nr tm at2 to2 fa va np tn pc_ st_ pa_ ta ow of_ ot rl hb bs se)), cA Z (gA 19) 1 400 Mt]) ∧ (0 ≤ at2 ∧ at2 ≤ 400) ∧ (0 ≤ to2 ∧ to2 ≤ 400) ∧ (at2 ≤ to2 ∧ to2 ≤ tm) ∧ (at2 < tm → at2 < to2) ∧ (to_ ≤ at2))) args s 0 0 (va_A [(g0, .inr (12, mO gA nr tm at_ to_ fa va np tn pc_ st_ pa_ ta ow of_ ot rl hb bs se)), cA Z (gA 19) 1 400 Mt] s.heap.size)) Z A 1 0 0 83 [(0, .ref g0)] [] [(g0, .inr (12, mO gA nr tm at1 to1 fa va np tn pc_ st_ pa_ ta ow of_ ot rl hb bs se)), cA Z (gA 19) 1 400 Mt] := by
                intro fuel
                induction fuel with
                | zero => intro to1 _ _ _ hm; exact absurd hm (Nat.not_lt_zero _)
                | succ fuel ih =>
                  intro to1 b_to1 iv iv3 hm
                  refine g_aload_n (pc := 83) X 0 rfl dX12_next_83 ?_
                  refine g_aload_n (pc := 84) X 0 rfl dX12_next_84 ?_
                  refine g_get (pc := 85) X inlX12 0 rfl rfl 22 (by decide) mw_19_22 rfl dX12_next_85 ?_
                  refine g_bipush (pc := 88) X (iI 97) (by decide) dX12_next_88 ?_
                  refine g_bipush (pc := 90) X (iI 122) (by decide) dX12_next_90 ?_
                  refine g_callV (pc := 92) X (k_X12_between l Z g0 gA Mt to1 97 122 nr tm at1 to1 fa va np tn pc_ st_ pa_ ta ow of_ ot rl hb bs se b_to1 (by decide) (by decide) b_nr b_tm b_at1 b_to1 b_fa b_va b_np b_tn b_pc_ b_st_ b_pa_ b_ta b_ow b_of_ b_ot b_rl b_hb b_bs b_se (h_Mt)) iM_X12_between mw_20_4 mw_20_5 mw_20_6 0 rfl rfl [0, 1] [] rfl (wr := []) rfl (by decide) rfl rfl (Nat.le_of_ble_eq_true rfl) (by decide) dX12_next_92 (fun r w' hpo => ?_)
                  obtain ⟨rfl, rfl⟩ := hpo
                  refine g_as (pc' := 95) (lv' := [(0, .ref g0)]) (st' := [.int (iI (bI (to1 < tm ∧ 97 ≤ Mt to1.toNat ∧ Mt to1.toNat ≤ 122)))]) (ws' := [(g0, .inr (12, mO gA nr tm at1 to1 fa va np tn pc_ st_ pa_ ta ow of_ ot rl hb bs se)), cA Z (gA 19) 1 400 Mt]) rfl rfl rfl rfl ?_
                  refine g_if_eqB (pc := 95) X 175 (by decide) dX12_next_95 (fun c95 => ?_) (fun c95 => ?_)
                  · exact g_vret (pc := 175) X hA (⟨at1, to1, rfl, rfl, (b_at1), (b_to1), (by (first | (clear b_nr b_at_ b_fa b_va b_np b_tn b_pc_ b_st_ b_pa_ b_ta b_ow b_of_ b_ot b_rl b_hb b_bs b_se; omega) | omega)), (by first | omega | (intro _; rcases Int.lt_or_eq_of_le iv with q | q; exact q; exact absurd (q ▸ c80) c95) | (intro _; rcases Int.lt_or_eq_of_le iv with q | q; exact q; exact absurd (q ▸ c123) c138)), (by (first | (clear b_nr b_at_ b_fa b_va b_np b_tn b_pc_ b_st_ b_pa_ b_ta b_ow b_of_ b_ot b_rl b_hb b_bs b_se; omega) | omega))⟩) (by decide) (by decide) dX12_next_175
                  · refine g_aload_n (pc := 98) X 0 rfl dX12_next_98 ?_
                    refine g_dup (pc := 99) X rfl dX12_next_99 ?_
                    refine g_get (pc := 100) X inlX12 0 rfl rfl 22 (by decide) mw_19_22 rfl dX12_next_100 ?_
                    refine g_iconst (pc := 103) X (iI 1) (by rfl) dX12_next_103 ?_
                    refine g_iaddI (pc := 104) X dX12_next_104 ?_
                    refine g_put (pc := 105) X inlX12 tyX12_ok nmX12 0 rfl rfl 22 (by decide) mw_19_22 rfl rfl rfl (Nat.le_of_ble_eq_true rfl) (ws' := [(g0, .inr (12, mO gA nr tm at1 (to1 + 1) fa va np tn pc_ st_ pa_ ta ow of_ ot rl hb bs se)), cA Z (gA 19) 1 400 Mt]) rfl dX12_next_105 ?_
                    refine g_goto (pc := 108) X 83 (by decide) dX12_next_108 ?_
                    exact ih (to1 + 1) (by (first | (clear b_nr b_at_ b_fa b_va b_np b_tn b_pc_ b_st_ b_pa_ b_ta b_ow b_of_ b_ot b_rl b_hb b_bs b_se; omega) | omega)) (by (first | (clear b_nr b_at_ b_fa b_va b_np b_tn b_pc_ b_st_ b_pa_ b_ta b_ow b_of_ b_ot b_rl b_hb b_bs b_se; omega) | omega)) (by (first | (clear b_nr b_at_ b_fa b_va b_np b_tn b_pc_ b_st_ b_pa_ b_ta b_ow b_of_ b_ot b_rl b_hb b_bs b_se; omega) | omega)) (by (first | (clear b_nr b_at_ b_fa b_va b_np b_tn b_pc_ b_st_ b_pa_ b_ta b_ow b_of_ b_ot b_rl b_hb b_bs b_se; omega) | omega))
              exact loop83 _ at1 (b_at1) (by (first | (clear b_nr b_at_ b_fa b_va b_np b_tn b_pc_ b_st_ b_pa_ b_ta b_ow b_of_ b_ot b_rl b_hb b_bs b_se; omega) | omega)) (by (first | (clear b_nr b_at_ b_fa b_va b_np b_tn b_pc_ b_st_ b_pa_ b_ta b_ow b_of_ b_ot b_rl b_hb b_bs b_se; omega) | omega)) (Nat.lt_succ_self _)
          · refine g_aload_n (pc := 47) X 0 rfl dX12_next_47 ?_
            refine g_dup (pc := 48) X rfl dX12_next_48 ?_
            refine g_get (pc := 49) X inlX12 0 rfl rfl 21 (by decide) mw_19_23 rfl dX12_next_49 ?_
            refine g_iconst (pc := 52) X (iI 1) (by rfl) dX12_next_52 ?_
            refine g_iaddI (pc := 53) X dX12_next_53 ?_
            refine g_put (pc := 54) X inlX12 tyX12_ok nmX12 0 rfl rfl 21 (by decide) mw_19_23 rfl rfl rfl (Nat.le_of_ble_eq_true rfl) (ws' := [(g0, .inr (12, mO gA nr tm (at1 + 1) to_ fa va np tn pc_ st_ pa_ ta ow of_ ot rl hb bs se)), cA Z (gA 19) 1 400 Mt]) rfl dX12_next_54 ?_
            refine g_goto (pc := 57) X 8 (by decide) dX12_next_57 ?_
            exact ih (at1 + 1) (by (first | (clear b_nr b_at_ b_fa b_va b_np b_tn b_pc_ b_st_ b_pa_ b_ta b_ow b_of_ b_ot b_rl b_hb b_bs b_se; omega) | omega)) (by (first | (clear b_nr b_at_ b_fa b_va b_np b_tn b_pc_ b_st_ b_pa_ b_ta b_ow b_of_ b_ot b_rl b_hb b_bs b_se; omega) | omega)) (by (first | (clear b_nr b_at_ b_fa b_va b_np b_tn b_pc_ b_st_ b_pa_ b_ta b_ow b_of_ b_ot b_rl b_hb b_bs b_se; omega) | omega))
  exact loop8 _ to_ (b_to_) (by (first | (clear b_nr b_at_ b_fa b_va b_np b_tn b_pc_ b_st_ b_pa_ b_ta b_ow b_of_ b_ot b_rl b_hb b_bs b_se; omega) | omega)) (Nat.lt_succ_self _)

set_option maxHeartbeats 4000000 in
set_option maxRecDepth 100000 in
theorem k_X12_passes (l : Launch) (Z : gZ) (g0 : Nat) (gA : Nat → Nat) (Mt : Nat → Int) (is : Int) (nr : Int) (tm : Int) (at_ : Int) (to_ : Int) (fa : Int) (va : Int) (np : Int) (tn : Int) (pc_ : Int) (st_ : Int) (pa_ : Int) (ta : Int) (ow : Int) (of_ : Int) (ot : Int) (rl : Int) (hb : Int) (bs : Int) (se : Int) (b_is : 0 ≤ is ∧ is ≤ 1) (b_nr : 0 ≤ nr ∧ nr ≤ 6) (b_tm : 0 ≤ tm ∧ tm ≤ 400) (b_at_ : 0 ≤ at_ ∧ at_ ≤ 400) (b_to_ : 0 ≤ to_ ∧ to_ ≤ 400) (b_fa : (-1) ≤ fa ∧ fa ≤ 400) (b_va : (-2147483648) ≤ va ∧ va ≤ 2147483647) (b_np : 0 ≤ np ∧ np ≤ 4) (b_tn : 0 ≤ tn ∧ tn ≤ 20) (b_pc_ : 0 ≤ pc_ ∧ pc_ ≤ 480) (b_st_ : 0 ≤ st_ ∧ st_ ≤ 240) (b_pa_ : (-1) ≤ pa_ ∧ pa_ ≤ 3) (b_ta : (-2147483648) ≤ ta ∧ ta ≤ 2147483647) (b_ow : (-2147483648) ≤ ow ∧ ow ≤ 2147483647) (b_of_ : (-2147483648) ≤ of_ ∧ of_ ≤ 2147483647) (b_ot : (-2147483648) ≤ ot ∧ ot ≤ 2147483647) (b_rl : 0 ≤ rl ∧ rl ≤ 2880) (b_hb : 0 ≤ hb ∧ hb ≤ 4) (b_bs : (-2147483648) ≤ bs ∧ bs ≤ 2147483647) (b_se : 0 ≤ se ∧ se ≤ 10) (j1 : at_ ≤ to_ ∧ to_ ≤ tm) (j2 : at_ < tm → at_ < to_) (h_Mt : ∀ j, j < 400 → (-128) ≤ Mt j ∧ Mt j ≤ 127) : Con l Z yX12_passes cX12_passes 2 (some .boolean) 2 43 0 0 [.ref g0, .int (iI is)] [(g0, .inr (12, mO gA nr tm at_ to_ fa va np tn pc_ st_ pa_ ta ow of_ ot rl hb bs se)), cA Z (gA 19) 1 400 Mt] (fun r w' => (∃ (fa2 : Int), (r = some (.int (iI 0))) ∧ (w' = [(g0, .inr (12, mO gA nr tm at_ to_ fa2 va np tn pc_ st_ pa_ ta ow of_ ot rl hb bs se)), cA Z (gA 19) 1 400 Mt]) ∧ (0 ≤ fa2 ∧ fa2 ≤ 400) ∧ (is = 0)) ∨ (∃ (at2 : Int) (to2 : Int), (r = some (.int (iI 1))) ∧ (w' = [(g0, .inr (12, mO gA nr tm at2 to2 fa va np tn pc_ st_ pa_ ta ow of_ ot rl hb bs se)), cA Z (gA 19) 1 400 Mt]) ∧ (0 ≤ at2 ∧ at2 ≤ 400) ∧ (0 ≤ to2 ∧ to2 ≤ 400) ∧ (at2 ≤ to2 ∧ to2 ≤ tm) ∧ (at2 < tm → at2 < to2) ∧ (is = 1) ∧ (to_ ≤ at2))) := by
  refine enter (by decide) (Nat.le_of_ble_eq_true rfl) ?_
  intro p e s m args below meth c A X hnm hA
  have X : Cx p s m args meth c cX12_passes 2 (some .boolean) RX12 Z A := X
  refine g_as (pc' := 0) (lv' := [(0, .ref g0), (1, .int (iI is))]) (st' := []) (ws' := [(g0, .inr (12, mO gA nr tm at_ to_ fa va np tn pc_ st_ pa_ ta ow of_ ot rl hb bs se)), cA Z (gA 19) 1 400 Mt]) rfl rfl rfl rfl ?_
  refine g_iload_n (pc := 0) X 1 rfl dX12_passes_0 ?_
  refine g_if_neI (pc := 1) X 22 (by decide) (inRb b_is (by decide) (by decide)) dX12_passes_1 (fun c1 => ?_) (fun c1 => ?_)
  · refine g_aload_n (pc := 22) X 0 rfl dX12_passes_22 ?_
    refine g_callV (pc := 23) X (k_X12_next l Z g0 gA Mt nr tm at_ to_ fa va np tn pc_ st_ pa_ ta ow of_ ot rl hb bs se b_nr b_tm b_at_ b_to_ b_fa b_va b_np b_tn b_pc_ b_st_ b_pa_ b_ta b_ow b_of_ b_ot b_rl b_hb b_bs b_se (by (first | (clear b_nr b_fa b_va b_np b_tn b_pc_ b_st_ b_pa_ b_ta b_ow b_of_ b_ot b_rl b_hb b_bs b_se; omega) | omega)) (h_Mt)) iM_X12_next mw_20_0 mw_20_1 mw_20_2 0 rfl rfl [0, 1] [] rfl (wr := []) rfl (by decide) rfl rfl (Nat.le_of_ble_eq_true rfl) (by decide) dX12_passes_23 (fun r w' hpo => ?_)
    refine exN_2 hpo fun y1 y2 hz => anD_7 hz fun e_r e_w hf23_b_at2 hf23_b_to2 hf23_j1 hf23_j2 hf23_f1 => ?_; clear hz hpo; subst e_r; subst e_w
    refine g_as (pc' := 26) (lv' := [(0, .ref g0), (1, .int (iI is))]) (st' := []) (ws' := [(g0, .inr (12, mO gA nr tm y1 y2 fa va np tn pc_ st_ pa_ ta ow of_ ot rl hb bs se)), cA Z (gA 19) 1 400 Mt]) rfl rfl rfl rfl ?_
    refine g_iconst (pc := 26) X (iI 1) (by rfl) dX12_passes_26 ?_
    exact g_zret (pc := 27) X hA (rfl) (Or.inr (⟨y1, y2, rfl, rfl, (hf23_b_at2), (hf23_b_to2), (by (first | (clear b_nr b_fa b_va b_np b_tn b_pc_ b_st_ b_pa_ b_ta b_ow b_of_ b_ot b_rl b_hb b_bs b_se; omega) | omega)), (by (first | (clear b_nr b_fa b_va b_np b_tn b_pc_ b_st_ b_pa_ b_ta b_ow b_of_ b_ot b_rl b_hb b_bs b_se; omega) | omega)), (by (first | (clear b_nr b_fa b_va b_np b_tn b_pc_ b_st_ b_pa_ b_ta b_ow b_of_ b_ot b_rl b_hb b_bs b_se; omega) | omega)), (by (first | (clear b_nr b_fa b_va b_np b_tn b_pc_ b_st_ b_pa_ b_ta b_ow b_of_ b_ot b_rl b_hb b_bs b_se; omega) | omega))⟩)) (by decide) (by decide) dX12_passes_27
  · refine g_aload_n (pc := 4) X 0 rfl dX12_passes_4 ?_
    refine g_get (pc := 5) X inlX12 0 rfl rfl 23 (by decide) mw_19_17 rfl dX12_passes_5 ?_
    refine g_iconst (pc := 8) X (iI (-1)) (by rfl) dX12_passes_8 ?_
    refine g_icmp_neI (pc := 9) X 20 (by decide) (inRb b_fa (by decide) (by decide)) ⟨by decide, by decide⟩ dX12_passes_9 (fun c9 => ?_) (fun c9 => ?_)
    · refine g_iconst (pc := 20) X (iI 0) (by rfl) dX12_passes_20 ?_
      exact g_zret (pc := 21) X hA (rfl) (Or.inl (⟨fa, rfl, rfl, (by (first | (clear b_nr b_fa b_va b_np b_tn b_pc_ b_st_ b_pa_ b_ta b_ow b_of_ b_ot b_rl b_hb b_bs b_se; omega) | omega)), (by (first | (clear b_nr b_fa b_va b_np b_tn b_pc_ b_st_ b_pa_ b_ta b_ow b_of_ b_ot b_rl b_hb b_bs b_se; omega) | omega))⟩)) (by decide) (by decide) dX12_passes_21
    · refine g_aload_n (pc := 12) X 0 rfl dX12_passes_12 ?_
      refine g_aload_n (pc := 13) X 0 rfl dX12_passes_13 ?_
      refine g_get (pc := 14) X inlX12 0 rfl rfl 21 (by decide) mw_19_23 rfl dX12_passes_14 ?_
      refine g_put (pc := 17) X inlX12 tyX12_ok nmX12 0 rfl rfl 23 (by decide) mw_19_17 rfl rfl rfl (Nat.le_of_ble_eq_true rfl) (ws' := [(g0, .inr (12, mO gA nr tm at_ to_ at_ va np tn pc_ st_ pa_ ta ow of_ ot rl hb bs se)), cA Z (gA 19) 1 400 Mt]) rfl dX12_passes_17 ?_
      refine g_iconst (pc := 20) X (iI 0) (by rfl) dX12_passes_20 ?_
      exact g_zret (pc := 21) X hA (rfl) (Or.inl (⟨at_, rfl, rfl, (b_at_), (by (first | (clear b_nr b_fa b_va b_np b_tn b_pc_ b_st_ b_pa_ b_ta b_ow b_of_ b_ot b_rl b_hb b_bs b_se; omega) | omega))⟩)) (by decide) (by decide) dX12_passes_21

set_option maxHeartbeats 4000000 in
set_option maxRecDepth 100000 in
theorem k_X12_isWord (l : Launch) (Z : gZ) (g0 : Nat) (gA : Nat → Nat) (sj : Nat) (Mt : Nat → Int) (Ws : Nat → Option Nat) (ww : Int) (nr : Int) (tm : Int) (at_ : Int) (to_ : Int) (fa : Int) (va : Int) (np : Int) (tn : Int) (pc_ : Int) (st_ : Int) (pa_ : Int) (ta : Int) (ow : Int) (of_ : Int) (ot : Int) (rl : Int) (hb : Int) (bs : Int) (se : Int) (b_ww : 0 ≤ ww ∧ ww ≤ 4) (b_nr : 0 ≤ nr ∧ nr ≤ 6) (b_tm : 0 ≤ tm ∧ tm ≤ 400) (b_at_ : 0 ≤ at_ ∧ at_ ≤ 400) (b_to_ : 0 ≤ to_ ∧ to_ ≤ 400) (b_fa : (-1) ≤ fa ∧ fa ≤ 400) (b_va : (-2147483648) ≤ va ∧ va ≤ 2147483647) (b_np : 0 ≤ np ∧ np ≤ 4) (b_tn : 0 ≤ tn ∧ tn ≤ 20) (b_pc_ : 0 ≤ pc_ ∧ pc_ ≤ 480) (b_st_ : 0 ≤ st_ ∧ st_ ≤ 240) (b_pa_ : (-1) ≤ pa_ ∧ pa_ ≤ 3) (b_ta : (-2147483648) ≤ ta ∧ ta ≤ 2147483647) (b_ow : (-2147483648) ≤ ow ∧ ow ≤ 2147483647) (b_of_ : (-2147483648) ≤ of_ ∧ of_ ≤ 2147483647) (b_ot : (-2147483648) ≤ ot ∧ ot ≤ 2147483647) (b_rl : 0 ≤ rl ∧ rl ≤ 2880) (b_hb : 0 ≤ hb ∧ hb ≤ 4) (b_bs : (-2147483648) ≤ bs ∧ bs ≤ 2147483647) (b_se : 0 ≤ se ∧ se ≤ 10) (j1 : at_ ≤ to_ ∧ to_ ≤ tm) (j2 : at_ < tm → at_ < to_) (hWs : ∀ j, j < 5 → Ws j = some (Z.2.2.1 j)) (hsj : sj < 5) (hww : ww = (sj : Int)) (h_Mt : ∀ j, j < 400 → (-128) ≤ Mt j ∧ Mt j ≤ 127) : Con l Z yX12_isWord cX12_isWord 3 (some .boolean) 4 85 0 0 [.ref g0, .int (iI ww)] [(g0, .inr (12, mO gA nr tm at_ to_ fa va np tn pc_ st_ pa_ ta ow of_ ot rl hb bs se)), cA Z (gA 19) 1 400 Mt, cR Z (gA 25) 7 5 Ws] (fun r w' => ∃ (y : Int), (r = some (.int (iI y))) ∧ (w' = [(g0, .inr (12, mO gA nr tm at_ to_ fa va np tn pc_ st_ pa_ ta ow of_ ot rl hb bs se)), cA Z (gA 19) 1 400 Mt, cR Z (gA 25) 7 5 Ws]) ∧ (0 ≤ y ∧ y ≤ 1) ∧ (y = 1 → at_ < tm)) := by
  refine enter (by decide) (Nat.le_of_ble_eq_true rfl) ?_
  intro p e s m args below meth c A X hnm hA
  have X : Cx p s m args meth c cX12_isWord 3 (some .boolean) RX12 Z A := X
  refine g_as (pc' := 0) (lv' := [(0, .ref g0), (1, .int (iI ww))]) (st' := []) (ws' := [(g0, .inr (12, mO gA nr tm at_ to_ fa va np tn pc_ st_ pa_ ta ow of_ ot rl hb bs se)), cA Z (gA 19) 1 400 Mt, cR Z (gA 25) 7 5 Ws]) rfl rfl rfl rfl ?_
  refine g_aload_n (pc := 0) X 0 rfl dX12_isWord_0 ?_
  refine g_get (pc := 1) X inlX12 0 rfl rfl 21 (by decide) mw_19_23 rfl dX12_isWord_1 ?_
  refine g_aload_n (pc := 4) X 0 rfl dX12_isWord_4 ?_
  refine g_get (pc := 5) X inlX12 0 rfl rfl 20 (by decide) mw_10_18 rfl dX12_isWord_5 ?_
  refine g_icmp_eqI (pc := 8) X 32 (by decide) (inRb b_at_ (by decide) (by decide)) (inRb b_tm (by decide) (by decide)) dX12_isWord_8 (fun c8 => ?_) (fun c8 => ?_)
  · refine g_iconst (pc := 32) X (iI 0) (by rfl) dX12_isWord_32 ?_
    exact g_zret (pc := 33) X hA (rfl) (⟨0, rfl, rfl, (by (first | (clear b_nr b_fa b_va b_np b_tn b_pc_ b_st_ b_pa_ b_ta b_ow b_of_ b_ot b_rl b_hb b_bs b_se; omega) | omega)), (by (first | (clear b_nr b_fa b_va b_np b_tn b_pc_ b_st_ b_pa_ b_ta b_ow b_of_ b_ot b_rl b_hb b_bs b_se; omega) | omega))⟩) (by decide) (by decide) dX12_isWord_33
  · refine g_aload_n (pc := 11) X 0 rfl dX12_isWord_11 ?_
    refine g_get (pc := 12) X inlX12 0 rfl rfl 22 (by decide) mw_19_22 rfl dX12_isWord_12 ?_
    refine g_aload_n (pc := 15) X 0 rfl dX12_isWord_15 ?_
    refine g_get (pc := 16) X inlX12 0 rfl rfl 21 (by decide) mw_19_23 rfl dX12_isWord_16 ?_
    refine g_isubI (pc := 19) X dX12_isWord_19 ?_
    refine g_aload_n (pc := 20) X 0 rfl dX12_isWord_20 ?_
    refine g_get (pc := 21) X inlX12 0 rfl rfl 25 (by decide) mw_8_9 rfl dX12_isWord_21 ?_
    refine g_iload_n (pc := 24) X 1 rfl dX12_isWord_24 ?_
    refine g_aaldS (pc := 25) X 2 7 rfl rfl (b_ww.1) (Int.lt_of_le_of_lt b_ww.2 (by decide)) (Int.le_trans b_ww.2 (by decide)) (by rw [show ww.toNat = sj by (first | (clear b_nr b_fa b_va b_np b_tn b_pc_ b_st_ b_pa_ b_ta b_ow b_of_ b_ot b_rl b_hb b_bs b_se; omega) | omega)]; exact hWs sj hsj) dX12_isWord_25 ?_
    refine g_callVS (pc := 26) (j := sj) X hsj (k_J0_length_8abf5 l Z sj (hsj)) iM_J0_length_8abf5 rfl mw_20_16 mw_13_3 mw_13_4 [] [0, 1, 2] rfl (wr := [(g0, .inr (12, mO gA nr tm at_ to_ fa va np tn pc_ st_ pa_ ta ow of_ ot rl hb bs se)), cA Z (gA 19) 1 400 Mt, cR Z (gA 25) 7 5 Ws]) rfl (by decide) rfl rfl (Nat.le_of_ble_eq_true rfl) (by decide) dX12_isWord_26 (fun r w' hpo => ?_)
    obtain ⟨rfl, rfl, hf26_fl⟩ := hpo
    refine g_as (pc' := 29) (lv' := [(0, .ref g0), (1, .int (iI ww))]) (st' := [.int (iI ((gLen.getD sj 0 : Nat) : Int)), .int (iI (to_ - at_))]) (ws' := [(g0, .inr (12, mO gA nr tm at_ to_ fa va np tn pc_ st_ pa_ ta ow of_ ot rl hb bs se)), cA Z (gA 19) 1 400 Mt, cR Z (gA 25) 7 5 Ws]) rfl rfl rfl rfl ?_
    refine g_icmp_eqI (pc := 29) X 34 (by decide) ⟨by (first | (clear b_nr b_fa b_va b_np b_tn b_pc_ b_st_ b_pa_ b_ta b_ow b_of_ b_ot b_rl b_hb b_bs b_se; omega) | omega), by (first | (clear b_nr b_fa b_va b_np b_tn b_pc_ b_st_ b_pa_ b_ta b_ow b_of_ b_ot b_rl b_hb b_bs b_se; omega) | omega)⟩ ⟨by (first | (clear b_nr b_fa b_va b_np b_tn b_pc_ b_st_ b_pa_ b_ta b_ow b_of_ b_ot b_rl b_hb b_bs b_se; omega) | omega), by (first | (clear b_nr b_fa b_va b_np b_tn b_pc_ b_st_ b_pa_ b_ta b_ow b_of_ b_ot b_rl b_hb b_bs b_se; omega) | omega)⟩ dX12_isWord_29 (fun c29 => ?_) (fun c29 => ?_)
    · refine g_aload_n (pc := 34) X 0 rfl dX12_isWord_34 ?_
      refine g_get (pc := 35) X inlX12 0 rfl rfl 21 (by decide) mw_19_23 rfl dX12_isWord_35 ?_
      refine g_istore_n (pc := 38) X (i := 2) rfl (by decide) (lv' := [(2, .int (iI at_)), (0, .ref g0), (1, .int (iI ww))]) rfl dX12_isWord_38 ?_
      have loop39 : ∀ (fuel : Nat) (k1 : Int), (0 ≤ k1 ∧ k1 ≤ 400) → (((gLen.getD sj 0 : Nat) : Int) ≤ 6) → (at_ ≤ k1) → (to_ - at_ = ((gLen.getD sj 0 : Nat) : Int)) → (401 - k1).toNat < fuel → Gs p l e ({ frames := 4, cells := 0, slots := 0, locals := 85 } : Room) s m args below meth c (MQ below (gPost Z [(g0, .inr (12, mO gA nr tm at_ to_ fa va np tn pc_ st_ pa_ ta ow of_ ot rl hb bs se)), cA Z (gA 19) 1 400 Mt, cR Z (gA 25) 7 5 Ws] s.heap.size (fun r w' => ∃ (y : Int), (r = some (.int (iI y))) ∧ (w' = [(g0, .inr (12, mO gA nr tm at_ to_ fa va np tn pc_ st_ pa_ ta ow of_ ot rl hb bs se)), cA Z (gA 19) 1 400 Mt, cR Z (gA 25) 7 5 Ws]) ∧ (0 ≤ y ∧ y ≤ 1) ∧ (y = 1 → at_ < tm))) args s 0 0 (va_A [(g0, .inr (12, mO gA nr tm at_ to_ fa va np tn pc_ st_ pa_ ta ow of_ ot rl hb bs se)), cA Z (gA 19) 1 400 Mt, cR Z (gA 25) 7 5 Ws] s.heap.size)) Z A 3 0 0 39 [(2, .int (iI k1)), (0, .ref g0), (1, .int (iI ww))] [] [(g0, .inr (12, mO gA nr tm at_ to_ fa va np tn pc_ st_ pa_ ta ow of_ ot rl hb bs se)), cA Z (gA 19) 1 400 Mt, cR Z (gA 25) 7 5 Ws] := by
        intro fuel
        induction fuel with
        | zero => intro k1 _ _ _ _ hm; exact absurd hm (Nat.not_lt_zero _)
        | succ fuel ih =>
          intro k1 b_k1 hL iv iv2 hm
          refine g_iload_n (pc := 39) X 0 rfl dX12_isWord_39 ?_
          refine g_aload_n (pc := 40) X 1 rfl dX12_isWord_40 ?_
          refine g_get (pc := 41) X inlX12 0 rfl rfl 22 (by decide) mw_19_22 rfl dX12_isWord_41 ?_
          refine g_icmp_geI (pc := 44) X 79 (by decide) (inRb b_k1 (by decide) (by decide)) (inRb b_to_ (by decide) (by decide)) dX12_isWord_44 (fun c44 => ?_) (fun c44 => ?_)
          · refine g_iconst (pc := 79) X (iI 1) (by rfl) dX12_isWord_79 ?_
            exact g_zret (pc := 80) X hA (rfl) (⟨1, rfl, rfl, (by (first | (clear b_nr b_fa b_va b_np b_tn b_pc_ b_st_ b_pa_ b_ta b_ow b_of_ b_ot b_rl b_hb b_bs b_se; omega) | omega)), (by (first | (clear b_nr b_fa b_va b_np b_tn b_pc_ b_st_ b_pa_ b_ta b_ow b_of_ b_ot b_rl b_hb b_bs b_se; omega) | omega))⟩) (by decide) (by decide) dX12_isWord_80
          · refine g_aload_n (pc := 47) X 1 rfl dX12_isWord_47 ?_
            refine g_get (pc := 48) X inlX12 0 rfl rfl 19 (by decide) mw_8_7 rfl dX12_isWord_48 ?_
            refine g_iload_n (pc := 51) X 0 rfl dX12_isWord_51 ?_
            refine g_baldI (pc := 52) X 1 rfl (b_k1.1) (by (first | (clear b_nr b_fa b_va b_np b_tn b_pc_ b_st_ b_pa_ b_ta b_ow b_of_ b_ot b_rl b_hb b_bs b_se; omega) | omega)) (Int.le_trans b_k1.2 (by decide)) dX12_isWord_52 ?_
            refine g_nameI (fun y2 ey2 => ?_)
            have by2 : (-128) ≤ y2 ∧ y2 ≤ 127 := by rw [ey2]; exact h_Mt _ (by (first | (clear b_nr b_fa b_va b_np b_tn b_pc_ b_st_ b_pa_ b_ta b_ow b_of_ b_ot b_rl b_hb b_bs b_se; omega) | omega))
            refine g_aload_n (pc := 53) X 1 rfl dX12_isWord_53 ?_
            refine g_get (pc := 54) X inlX12 0 rfl rfl 25 (by decide) mw_8_9 rfl dX12_isWord_54 ?_
            refine g_iload_n (pc := 57) X 2 rfl dX12_isWord_57 ?_
            refine g_aaldS (pc := 58) X 2 7 rfl rfl (b_ww.1) (Int.lt_of_le_of_lt b_ww.2 (by decide)) (Int.le_trans b_ww.2 (by decide)) (by rw [show ww.toNat = sj by (first | (clear b_nr b_fa b_va b_np b_tn b_pc_ b_st_ b_pa_ b_ta b_ow b_of_ b_ot b_rl b_hb b_bs b_se; omega) | omega)]; exact hWs sj hsj) dX12_isWord_58 ?_
            refine g_iload_n (pc := 59) X 0 rfl dX12_isWord_59 ?_
            refine g_aload_n (pc := 60) X 1 rfl dX12_isWord_60 ?_
            refine g_get (pc := 61) X inlX12 0 rfl rfl 21 (by decide) mw_19_23 rfl dX12_isWord_61 ?_
            refine g_isubI (pc := 64) X dX12_isWord_64 ?_
            refine g_callVS (pc := 65) (j := sj) X hsj (k_J0_charAt_5068e l Z sj (k1 - at_) (by (first | (clear b_nr b_fa b_va b_np b_tn b_pc_ b_st_ b_pa_ b_ta b_ow b_of_ b_ot b_rl b_hb b_bs b_se; omega) | omega)) (hsj) (by (first | (clear b_nr b_fa b_va b_np b_tn b_pc_ b_st_ b_pa_ b_ta b_ow b_of_ b_ot b_rl b_hb b_bs b_se; omega) | omega))) iM_J0_charAt_5068e rfl mw_20_17 mw_13_15 mw_13_16 [] [0, 1, 2] rfl (wr := [(g0, .inr (12, mO gA nr tm at_ to_ fa va np tn pc_ st_ pa_ ta ow of_ ot rl hb bs se)), cA Z (gA 19) 1 400 Mt, cR Z (gA 25) 7 5 Ws]) rfl (by decide) rfl rfl (Nat.le_of_ble_eq_true rfl) (by decide) dX12_isWord_65 (fun r w' hpo => ?_)
            obtain ⟨rfl, rfl, hf65_fc⟩ := hpo
            refine g_as (pc' := 68) (lv' := [(2, .int (iI k1)), (0, .ref g0), (1, .int (iI ww))]) (st' := [.int (iI (gCh sj ((k1 - at_)).toNat)), .int (iI y2)]) (ws' := [(g0, .inr (12, mO gA nr tm at_ to_ fa va np tn pc_ st_ pa_ ta ow of_ ot rl hb bs se)), cA Z (gA 19) 1 400 Mt, cR Z (gA 25) 7 5 Ws]) rfl rfl rfl rfl ?_
            refine g_icmp_eqI (pc := 68) X 73 (by decide) (inRb by2 (by decide) (by decide)) ⟨by (first | (clear b_nr b_fa b_va b_np b_tn b_pc_ b_st_ b_pa_ b_ta b_ow b_of_ b_ot b_rl b_hb b_bs b_se; omega) | omega), by (first | (clear b_nr b_fa b_va b_np b_tn b_pc_ b_st_ b_pa_ b_ta b_ow b_of_ b_ot b_rl b_hb b_bs b_se; omega) | omega)⟩ dX12_isWord_68 (fun c68 => ?_) (fun c68 => ?_)
            · refine g_iincI (pc := 73) X 0 rfl (by decide) (lv' := [(2, .int (iI (k1 + 1))), (0, .ref g0), (1, .int (iI ww))]) rfl dX12_isWord_73 ?_
              refine g_goto (pc := 76) X 39 (by decide) dX12_isWord_76 ?_
              exact ih (k1 + 1) (by (first | (clear b_nr b_fa b_va b_np b_tn b_pc_ b_st_ b_pa_ b_ta b_ow b_of_ b_ot b_rl b_hb b_bs b_se; omega) | omega)) (by (first | (clear b_nr b_fa b_va b_np b_tn b_pc_ b_st_ b_pa_ b_ta b_ow b_of_ b_ot b_rl b_hb b_bs b_se; omega) | omega)) (by (first | (clear b_nr b_fa b_va b_np b_tn b_pc_ b_st_ b_pa_ b_ta b_ow b_of_ b_ot b_rl b_hb b_bs b_se; omega) | omega)) (by (first | (clear b_nr b_fa b_va b_np b_tn b_pc_ b_st_ b_pa_ b_ta b_ow b_of_ b_ot b_rl b_hb b_bs b_se; omega) | omega)) (by (first | (clear b_nr b_fa b_va b_np b_tn b_pc_ b_st_ b_pa_ b_ta b_ow b_of_ b_ot b_rl b_hb b_bs b_se; omega) | omega))
            · refine g_iconst (pc := 71) X (iI 0) (by rfl) dX12_isWord_71 ?_
              exact g_zret (pc := 72) X hA (rfl) (⟨0, rfl, rfl, (by (first | (clear b_nr b_fa b_va b_np b_tn b_pc_ b_st_ b_pa_ b_ta b_ow b_of_ b_ot b_rl b_hb b_bs b_se; omega) | omega)), (by (first | (clear b_nr b_fa b_va b_np b_tn b_pc_ b_st_ b_pa_ b_ta b_ow b_of_ b_ot b_rl b_hb b_bs b_se; omega) | omega))⟩) (by decide) (by decide) dX12_isWord_72
      exact loop39 _ at_ (b_at_) (by have := (gCh_ok sj hsj).1; omega) (by (first | (clear b_nr b_fa b_va b_np b_tn b_pc_ b_st_ b_pa_ b_ta b_ow b_of_ b_ot b_rl b_hb b_bs b_se; omega) | omega)) (by (first | (clear b_nr b_fa b_va b_np b_tn b_pc_ b_st_ b_pa_ b_ta b_ow b_of_ b_ot b_rl b_hb b_bs b_se; omega) | omega)) (Nat.lt_succ_self _)
    · refine g_iconst (pc := 32) X (iI 0) (by rfl) dX12_isWord_32 ?_
      exact g_zret (pc := 33) X hA (rfl) (⟨0, rfl, rfl, (by (first | (clear b_nr b_fa b_va b_np b_tn b_pc_ b_st_ b_pa_ b_ta b_ow b_of_ b_ot b_rl b_hb b_bs b_se; omega) | omega)), (by (first | (clear b_nr b_fa b_va b_np b_tn b_pc_ b_st_ b_pa_ b_ta b_ow b_of_ b_ot b_rl b_hb b_bs b_se; omega) | omega))⟩) (by decide) (by decide) dX12_isWord_33

set_option maxHeartbeats 4000000 in
set_option maxRecDepth 100000 in
theorem k_X12_isSign (l : Launch) (Z : gZ) (g0 : Nat) (gA : Nat → Nat) (Mt : Nat → Int) (cx : Int) (nr : Int) (tm : Int) (at_ : Int) (to_ : Int) (fa : Int) (va : Int) (np : Int) (tn : Int) (pc_ : Int) (st_ : Int) (pa_ : Int) (ta : Int) (ow : Int) (of_ : Int) (ot : Int) (rl : Int) (hb : Int) (bs : Int) (se : Int) (b_cx : (-2147483648) ≤ cx ∧ cx ≤ 2147483647) (b_nr : 0 ≤ nr ∧ nr ≤ 6) (b_tm : 0 ≤ tm ∧ tm ≤ 400) (b_at_ : 0 ≤ at_ ∧ at_ ≤ 400) (b_to_ : 0 ≤ to_ ∧ to_ ≤ 400) (b_fa : (-1) ≤ fa ∧ fa ≤ 400) (b_va : (-2147483648) ≤ va ∧ va ≤ 2147483647) (b_np : 0 ≤ np ∧ np ≤ 4) (b_tn : 0 ≤ tn ∧ tn ≤ 20) (b_pc_ : 0 ≤ pc_ ∧ pc_ ≤ 480) (b_st_ : 0 ≤ st_ ∧ st_ ≤ 240) (b_pa_ : (-1) ≤ pa_ ∧ pa_ ≤ 3) (b_ta : (-2147483648) ≤ ta ∧ ta ≤ 2147483647) (b_ow : (-2147483648) ≤ ow ∧ ow ≤ 2147483647) (b_of_ : (-2147483648) ≤ of_ ∧ of_ ≤ 2147483647) (b_ot : (-2147483648) ≤ ot ∧ ot ≤ 2147483647) (b_rl : 0 ≤ rl ∧ rl ≤ 2880) (b_hb : 0 ≤ hb ∧ hb ≤ 4) (b_bs : (-2147483648) ≤ bs ∧ bs ≤ 2147483647) (b_se : 0 ≤ se ∧ se ≤ 10) (h_Mt : ∀ j, j < 400 → (-128) ≤ Mt j ∧ Mt j ≤ 127) : Con l Z yX12_isSign cX12_isSign 2 (some .boolean) 0 0 0 0 [.ref g0, .int (iI cx)] [(g0, .inr (12, mO gA nr tm at_ to_ fa va np tn pc_ st_ pa_ ta ow of_ ot rl hb bs se)), cA Z (gA 19) 1 400 Mt] (fun r w' => ∃ (y : Int), (r = some (.int (iI y))) ∧ (w' = [(g0, .inr (12, mO gA nr tm at_ to_ fa va np tn pc_ st_ pa_ ta ow of_ ot rl hb bs se)), cA Z (gA 19) 1 400 Mt]) ∧ (0 ≤ y ∧ y ≤ 1)) := by
  refine enter (by decide) (Nat.le_of_ble_eq_true rfl) ?_
  intro p e s m args below meth c A X hnm hA
  have X : Cx p s m args meth c cX12_isSign 2 (some .boolean) RX12 Z A := X
  refine g_as (pc' := 0) (lv' := [(0, .ref g0), (1, .int (iI cx))]) (st' := []) (ws' := [(g0, .inr (12, mO gA nr tm at_ to_ fa va np tn pc_ st_ pa_ ta ow of_ ot rl hb bs se)), cA Z (gA 19) 1 400 Mt]) rfl rfl rfl rfl ?_
  refine g_aload_n (pc := 0) X 0 rfl dX12_isSign_0 ?_
  refine g_get (pc := 1) X inlX12 0 rfl rfl 21 (by decide) mw_19_23 rfl dX12_isSign_1 ?_
  refine g_aload_n (pc := 4) X 0 rfl dX12_isSign_4 ?_
  refine g_get (pc := 5) X inlX12 0 rfl rfl 20 (by decide) mw_10_18 rfl dX12_isSign_5 ?_
  refine g_icmp_geI (pc := 8) X 28 (by decide) (inRb b_at_ (by decide) (by decide)) (inRb b_tm (by decide) (by decide)) dX12_isSign_8 (fun c8 => ?_) (fun c8 => ?_)
  · refine g_iconst (pc := 28) X (iI 0) (by rfl) dX12_isSign_28 ?_
    exact g_zret (pc := 29) X hA (rfl) (⟨0, rfl, rfl, (by (first | (clear b_cx b_nr b_tm b_at_ b_to_ b_fa b_va b_np b_tn b_pc_ b_st_ b_pa_ b_ta b_ow b_of_ b_ot b_rl b_hb b_bs b_se; omega) | omega))⟩) (by decide) (by decide) dX12_isSign_29
  · refine g_aload_n (pc := 11) X 0 rfl dX12_isSign_11 ?_
    refine g_get (pc := 12) X inlX12 0 rfl rfl 19 (by decide) mw_8_7 rfl dX12_isSign_12 ?_
    refine g_aload_n (pc := 15) X 0 rfl dX12_isSign_15 ?_
    refine g_get (pc := 16) X inlX12 0 rfl rfl 21 (by decide) mw_19_23 rfl dX12_isSign_16 ?_
    refine g_baldI (pc := 19) X 1 rfl (b_at_.1) (by (first | (clear b_cx b_nr b_tm b_at_ b_to_ b_fa b_va b_np b_tn b_pc_ b_st_ b_pa_ b_ta b_ow b_of_ b_ot b_rl b_hb b_bs b_se; omega) | omega)) (Int.le_trans b_at_.2 (by decide)) dX12_isSign_19 ?_
    refine g_nameI (fun y1 ey1 => ?_)
    have by1 : (-128) ≤ y1 ∧ y1 ≤ 127 := by rw [ey1]; exact h_Mt _ (by (first | (clear b_cx b_nr b_tm b_at_ b_to_ b_fa b_va b_np b_tn b_pc_ b_st_ b_pa_ b_ta b_ow b_of_ b_ot b_rl b_hb b_bs b_se; omega) | omega))
    refine g_iload_n (pc := 20) X 1 rfl dX12_isSign_20 ?_
    refine g_icmp_neI (pc := 21) X 28 (by decide) (inRb by1 (by decide) (by decide)) b_cx dX12_isSign_21 (fun c21 => ?_) (fun c21 => ?_)
    · refine g_iconst (pc := 28) X (iI 0) (by rfl) dX12_isSign_28 ?_
      exact g_zret (pc := 29) X hA (rfl) (⟨0, rfl, rfl, (by (first | (clear b_cx b_nr b_tm b_at_ b_to_ b_fa b_va b_np b_tn b_pc_ b_st_ b_pa_ b_ta b_ow b_of_ b_ot b_rl b_hb b_bs b_se; omega) | omega))⟩) (by decide) (by decide) dX12_isSign_29
    · refine g_iconst (pc := 24) X (iI 1) (by rfl) dX12_isSign_24 ?_
      refine g_goto (pc := 25) X 29 (by decide) dX12_isSign_25 ?_
      exact g_zret (pc := 29) X hA (rfl) (⟨1, rfl, rfl, (by (first | (clear b_cx b_nr b_tm b_at_ b_to_ b_fa b_va b_np b_tn b_pc_ b_st_ b_pa_ b_ta b_ow b_of_ b_ot b_rl b_hb b_bs b_se; omega) | omega))⟩) (by decide) (by decide) dX12_isSign_29

set_option maxHeartbeats 4000000 in
set_option maxRecDepth 100000 in
theorem k_X12_number (l : Launch) (Z : gZ) (g0 : Nat) (gA : Nat → Nat) (Mt : Nat → Int) (lw : Int) (tp : Int) (nr : Int) (tm : Int) (at_ : Int) (to_ : Int) (fa : Int) (va : Int) (np : Int) (tn : Int) (pc_ : Int) (st_ : Int) (pa_ : Int) (ta : Int) (ow : Int) (of_ : Int) (ot : Int) (rl : Int) (hb : Int) (bs : Int) (se : Int) (b_lw : (-2147483648) ≤ lw ∧ lw ≤ 2147483647) (b_tp : (-2147483648) ≤ tp ∧ tp ≤ 2147483647) (b_nr : 0 ≤ nr ∧ nr ≤ 6) (b_tm : 0 ≤ tm ∧ tm ≤ 400) (b_at_ : 0 ≤ at_ ∧ at_ ≤ 400) (b_to_ : 0 ≤ to_ ∧ to_ ≤ 400) (b_fa : (-1) ≤ fa ∧ fa ≤ 400) (b_va : (-2147483648) ≤ va ∧ va ≤ 2147483647) (b_np : 0 ≤ np ∧ np ≤ 4) (b_tn : 0 ≤ tn ∧ tn ≤ 20) (b_pc_ : 0 ≤ pc_ ∧ pc_ ≤ 480) (b_st_ : 0 ≤ st_ ∧ st_ ≤ 240) (b_pa_ : (-1) ≤ pa_ ∧ pa_ ≤ 3) (b_ta : (-2147483648) ≤ ta ∧ ta ≤ 2147483647) (b_ow : (-2147483648) ≤ ow ∧ ow ≤ 2147483647) (b_of_ : (-2147483648) ≤ of_ ∧ of_ ≤ 2147483647) (b_ot : (-2147483648) ≤ ot ∧ ot ≤ 2147483647) (b_rl : 0 ≤ rl ∧ rl ≤ 2880) (b_hb : 0 ≤ hb ∧ hb ≤ 4) (b_bs : (-2147483648) ≤ bs ∧ bs ≤ 2147483647) (b_se : 0 ≤ se ∧ se ≤ 10) (j1 : at_ ≤ to_ ∧ to_ ≤ tm) (j2 : at_ < tm → at_ < to_) (h_Mt : ∀ j, j < 400 → (-128) ≤ Mt j ∧ Mt j ≤ 127) : Con l Z yX12_number cX12_number 4 (some .boolean) 3 64 0 0 [.ref g0, .int (iI lw), .int (iI tp)] [(g0, .inr (12, mO gA nr tm at_ to_ fa va np tn pc_ st_ pa_ ta ow of_ ot rl hb bs se)), cA Z (gA 19) 1 400 Mt] (fun r w' => (∃ (va2 : Int) (fa2 : Int), (r = some (.int (iI 0))) ∧ (w' = [(g0, .inr (12, mO gA nr tm at_ to_ fa2 va2 np tn pc_ st_ pa_ ta ow of_ ot rl hb bs se)), cA Z (gA 19) 1 400 Mt]) ∧ ((-2147483648) ≤ va2 ∧ va2 ≤ 2147483647) ∧ (0 ≤ fa2 ∧ fa2 ≤ 400)) ∨ (∃ (va2 : Int) (at2 : Int) (to2 : Int), (r = some (.int (iI 1))) ∧ (w' = [(g0, .inr (12, mO gA nr tm at2 to2 fa va2 np tn pc_ st_ pa_ ta ow of_ ot rl hb bs se)), cA Z (gA 19) 1 400 Mt]) ∧ ((-2147483648) ≤ va2 ∧ va2 ≤ 2147483647) ∧ (0 ≤ at2 ∧ at2 ≤ 400) ∧ (0 ≤ to2 ∧ to2 ≤ 400) ∧ (at2 ≤ to2 ∧ to2 ≤ tm) ∧ (at2 < tm → at2 < to2) ∧ (lw ≤ va2 ∧ va2 ≤ tp) ∧ (to_ ≤ at2))) := by
  refine enter (by decide) (Nat.le_of_ble_eq_true rfl) ?_
  intro p e s m args below meth c A X hnm hA
  have X : Cx p s m args meth c cX12_number 4 (some .boolean) RX12 Z A := X
  refine g_as (pc' := 0) (lv' := [(0, .ref g0), (1, .int (iI lw)), (2, .int (iI tp))]) (st' := []) (ws' := [(g0, .inr (12, mO gA nr tm at_ to_ fa va np tn pc_ st_ pa_ ta ow of_ ot rl hb bs se)), cA Z (gA 19) 1 400 Mt]) rfl rfl rfl rfl ?_
  refine g_aload_n (pc := 0) X 0 rfl dX12_number_0 ?_
  refine g_aload_n (pc := 1) X 0 rfl dX12_number_1 ?_
  refine g_aload_n (pc := 2) X 0 rfl dX12_number_2 ?_
  refine g_get (pc := 3) X inlX12 0 rfl rfl 21 (by decide) mw_19_23 rfl dX12_number_3 ?_
  refine g_bipush (pc := 6) X (iI 48) (by decide) dX12_number_6 ?_
  have join21 : ∀ (v0 : Int), ((-1) ≤ v0 ∧ v0 ≤ 0) → Gs p l e ({ frames := 3, cells := 0, slots := 0, locals := 64 } : Room) s m args below meth c (MQ below (gPost Z [(g0, .inr (12, mO gA nr tm at_ to_ fa va np tn pc_ st_ pa_ ta ow of_ ot rl hb bs se)), cA Z (gA 19) 1 400 Mt] s.heap.size (fun r w' => (∃ (va2 : Int) (fa2 : Int), (r = some (.int (iI 0))) ∧ (w' = [(g0, .inr (12, mO gA nr tm at_ to_ fa2 va2 np tn pc_ st_ pa_ ta ow of_ ot rl hb bs se)), cA Z (gA 19) 1 400 Mt]) ∧ ((-2147483648) ≤ va2 ∧ va2 ≤ 2147483647) ∧ (0 ≤ fa2 ∧ fa2 ≤ 400)) ∨ (∃ (va2 : Int) (at2 : Int) (to2 : Int), (r = some (.int (iI 1))) ∧ (w' = [(g0, .inr (12, mO gA nr tm at2 to2 fa va2 np tn pc_ st_ pa_ ta ow of_ ot rl hb bs se)), cA Z (gA 19) 1 400 Mt]) ∧ ((-2147483648) ≤ va2 ∧ va2 ≤ 2147483647) ∧ (0 ≤ at2 ∧ at2 ≤ 400) ∧ (0 ≤ to2 ∧ to2 ≤ 400) ∧ (at2 ≤ to2 ∧ to2 ≤ tm) ∧ (at2 < tm → at2 < to2) ∧ (lw ≤ va2 ∧ va2 ≤ tp) ∧ (to_ ≤ at2)))) args s 0 0 (va_A [(g0, .inr (12, mO gA nr tm at_ to_ fa va np tn pc_ st_ pa_ ta ow of_ ot rl hb bs se)), cA Z (gA 19) 1 400 Mt] s.heap.size)) Z A 4 0 0 21 [(0, .ref g0), (1, .int (iI lw)), (2, .int (iI tp))] [.int (iI v0), .ref g0] [(g0, .inr (12, mO gA nr tm at_ to_ fa va np tn pc_ st_ pa_ ta ow of_ ot rl hb bs se)), cA Z (gA 19) 1 400 Mt] := by
    intro v0 b_v0
    refine g_put (pc := 21) X inlX12 tyX12_ok nmX12 0 rfl rfl 24 (by decide) mw_20_22 rfl rfl rfl (Nat.le_of_ble_eq_true rfl) (ws' := [(g0, .inr (12, mO gA nr tm at_ to_ fa v0 np tn pc_ st_ pa_ ta ow of_ ot rl hb bs se)), cA Z (gA 19) 1 400 Mt]) rfl dX12_number_21 ?_
    refine g_aload_n (pc := 24) X 0 rfl dX12_number_24 ?_
    refine g_get (pc := 25) X inlX12 0 rfl rfl 21 (by decide) mw_19_23 rfl dX12_number_25 ?_
    refine g_istore_n (pc := 28) X (i := 3) rfl (by decide) (lv' := [(3, .int (iI at_)), (0, .ref g0), (1, .int (iI lw)), (2, .int (iI tp))]) rfl dX12_number_28 ?_
    have loop29 : ∀ (fuel : Nat) (k1 : Int) (va1 : Int), (0 ≤ k1 ∧ k1 ≤ 400) → ((-2147483648) ≤ va1 ∧ va1 ≤ 2147483647) → (at_ ≤ k1) → (401 - k1).toNat < fuel → Gs p l e ({ frames := 3, cells := 0, slots := 0, locals := 64 } : Room) s m args below meth c (MQ below (gPost Z [(g0, .inr (12, mO gA nr tm at_ to_ fa va np tn pc_ st_ pa_ ta ow of_ ot rl hb bs se)), cA Z (gA 19) 1 400 Mt] s.heap.size (fun r w' => (∃ (va2 : Int) (fa2 : Int), (r = some (.int (iI 0))) ∧ (w' = [(g0, .inr (12, mO gA nr tm at_ to_ fa2 va2 np tn pc_ st_ pa_ ta ow of_ ot rl hb bs se)), cA Z (gA 19) 1 400 Mt]) ∧ ((-2147483648) ≤ va2 ∧ va2 ≤ 2147483647) ∧ (0 ≤ fa2 ∧ fa2 ≤ 400)) ∨ (∃ (va2 : Int) (at2 : Int) (to2 : Int), (r = some (.int (iI 1))) ∧ (w' = [(g0, .inr (12, mO gA nr tm at2 to2 fa va2 np tn pc_ st_ pa_ ta ow of_ ot rl hb bs se)), cA Z (gA 19) 1 400 Mt]) ∧ ((-2147483648) ≤ va2 ∧ va2 ≤ 2147483647) ∧ (0 ≤ at2 ∧ at2 ≤ 400) ∧ (0 ≤ to2 ∧ to2 ≤ 400) ∧ (at2 ≤ to2 ∧ to2 ≤ tm) ∧ (at2 < tm → at2 < to2) ∧ (lw ≤ va2 ∧ va2 ≤ tp) ∧ (to_ ≤ at2)))) args s 0 0 (va_A [(g0, .inr (12, mO gA nr tm at_ to_ fa va np tn pc_ st_ pa_ ta ow of_ ot rl hb bs se)), cA Z (gA 19) 1 400 Mt] s.heap.size)) Z A 4 0 0 29 [(3, .int (iI k1)), (0, .ref g0), (1, .int (iI lw)), (2, .int (iI tp))] [] [(g0, .inr (12, mO gA nr tm at_ to_ fa va1 np tn pc_ st_ pa_ ta ow of_ ot rl hb bs se)), cA Z (gA 19) 1 400 Mt] := by
      intro fuel
      induction fuel with
      | zero => intro k1 va1 _ _ _ hm; exact absurd hm (Nat.not_lt_zero _)
      | succ fuel ih =>
        intro k1 va1 b_k1 b_va1 iv hm
        refine g_aload_n (pc := 29) X 1 rfl dX12_number_29 ?_
        refine g_get (pc := 30) X inlX12 0 rfl rfl 24 (by decide) mw_20_22 rfl dX12_number_30 ?_
        refine g_iconst (pc := 33) X (iI (-1)) (by rfl) dX12_number_33 ?_
        refine g_icmp_eqI (pc := 34) X 89 (by decide) b_va1 ⟨by decide, by decide⟩ dX12_number_34 (fun c34 => ?_) (fun c34 => ?_)
        · refine g_aload_n (pc := 89) X 1 rfl dX12_number_89 ?_
          refine g_aload_n (pc := 90) X 1 rfl dX12_number_90 ?_
          refine g_get (pc := 91) X inlX12 0 rfl rfl 24 (by decide) mw_20_22 rfl dX12_number_91 ?_
          refine g_i2lI (pc := 94) X b_va1 dX12_number_94 ?_
          refine g_iload_n (pc := 95) X 2 rfl dX12_number_95 ?_
          refine g_i2lI (pc := 96) X b_lw dX12_number_96 ?_
          refine g_iload_n (pc := 97) X 3 rfl dX12_number_97 ?_
          refine g_i2lI (pc := 98) X b_tp dX12_number_98 ?_
          refine g_callS (pc := 99) X (k_X12_in l Z va1 lw tp (by (first | (clear b_nr b_fa b_va b_np b_tn b_pc_ b_st_ b_pa_ b_ta b_ow b_of_ b_ot b_rl b_hb b_bs b_se; omega) | omega)) (by (first | (clear b_nr b_fa b_va b_np b_tn b_pc_ b_st_ b_pa_ b_ta b_ow b_of_ b_ot b_rl b_hb b_bs b_se; omega) | omega)) (by (first | (clear b_nr b_fa b_va b_np b_tn b_pc_ b_st_ b_pa_ b_ta b_ow b_of_ b_ot b_rl b_hb b_bs b_se; omega) | omega))) iM_X12_in mw_11_13 mw_11_14 [] [0, 1] rfl (wr := [(g0, .inr (12, mO gA nr tm at_ to_ fa va1 np tn pc_ st_ pa_ ta ow of_ ot rl hb bs se)), cA Z (gA 19) 1 400 Mt]) rfl (by decide) rfl rfl (Nat.le_of_ble_eq_true rfl) (by decide) dX12_number_99 (fun r w' hpo => ?_)
          obtain ⟨rfl, rfl⟩ := hpo
          refine g_as (pc' := 102) (lv' := [(3, .int (iI k1)), (0, .ref g0), (1, .int (iI lw)), (2, .int (iI tp))]) (st' := [.int (iI (bI (lw ≤ va1 ∧ va1 ≤ tp))), .ref g0]) (ws' := [(g0, .inr (12, mO gA nr tm at_ to_ fa va1 np tn pc_ st_ pa_ ta ow of_ ot rl hb bs se)), cA Z (gA 19) 1 400 Mt]) rfl rfl rfl rfl ?_
          have hb_102 := bI_01 (P := lw ≤ va1 ∧ va1 ≤ tp)
          have hc_102 : bI (lw ≤ va1 ∧ va1 ≤ tp) = 1 → (lw ≤ va1 ∧ va1 ≤ tp) := bI_1i
          refine g_callV (pc := 102) X (k_X12_passes l Z g0 gA Mt (bI (lw ≤ va1 ∧ va1 ≤ tp)) nr tm at_ to_ fa va1 np tn pc_ st_ pa_ ta ow of_ ot rl hb bs se (by (first | (clear b_nr b_fa b_va b_np b_tn b_pc_ b_st_ b_pa_ b_ta b_ow b_of_ b_ot b_rl b_hb b_bs b_se; omega) | omega)) b_nr b_tm b_at_ b_to_ b_fa b_va1 b_np b_tn b_pc_ b_st_ b_pa_ b_ta b_ow b_of_ b_ot b_rl b_hb b_bs b_se (by (first | (clear b_nr b_fa b_va b_np b_tn b_pc_ b_st_ b_pa_ b_ta b_ow b_of_ b_ot b_rl b_hb b_bs b_se; omega) | omega)) (by (first | (clear b_nr b_fa b_va b_np b_tn b_pc_ b_st_ b_pa_ b_ta b_ow b_of_ b_ot b_rl b_hb b_bs b_se; omega) | omega)) (h_Mt)) iM_X12_passes mw_20_23 mw_21_0 mw_21_1 0 rfl rfl [0, 1] [] rfl (wr := []) rfl (by decide) rfl rfl (Nat.le_of_ble_eq_true rfl) (by decide) dX12_number_102 (fun r w' hpo => ?_)
          rcases hpo with hp0 | hp1
          · refine exN_1 hp0 fun y2 hz => anD_4 hz fun e_r e_w hf102_b_fa2 hf102_f1 => ?_; clear hz hp0; subst e_r; subst e_w
            refine g_as (pc' := 105) (lv' := [(3, .int (iI k1)), (0, .ref g0), (1, .int (iI lw)), (2, .int (iI tp))]) (st' := [.int (iI 0)]) (ws' := [(g0, .inr (12, mO gA nr tm at_ to_ y2 va1 np tn pc_ st_ pa_ ta ow of_ ot rl hb bs se)), cA Z (gA 19) 1 400 Mt]) rfl rfl rfl rfl ?_
            exact g_zret (pc := 105) X hA (rfl) (Or.inl (⟨va1, y2, rfl, rfl, (b_va1), (hf102_b_fa2)⟩)) (by decide) (by decide) dX12_number_105
          · refine exN_2 hp1 fun y4 y5 hz => anD_8 hz fun e_r e_w hf102_b_at2 hf102_b_to2 hf102_j1 hf102_j2 hf102_f1 hf102_f2 => ?_; clear hz hp1; subst e_r; subst e_w
            refine g_as (pc' := 105) (lv' := [(3, .int (iI k1)), (0, .ref g0), (1, .int (iI lw)), (2, .int (iI tp))]) (st' := [.int (iI 1)]) (ws' := [(g0, .inr (12, mO gA nr tm y4 y5 fa va1 np tn pc_ st_ pa_ ta ow of_ ot rl hb bs se)), cA Z (gA 19) 1 400 Mt]) rfl rfl rfl rfl ?_
            exact g_zret (pc := 105) X hA (rfl) (Or.inr (⟨va1, y4, y5, rfl, rfl, (b_va1), (hf102_b_at2), (hf102_b_to2), (by (first | (clear b_nr b_fa b_va b_np b_tn b_pc_ b_st_ b_pa_ b_ta b_ow b_of_ b_ot b_rl b_hb b_bs b_se; omega) | omega)), (by (first | (clear b_nr b_fa b_va b_np b_tn b_pc_ b_st_ b_pa_ b_ta b_ow b_of_ b_ot b_rl b_hb b_bs b_se; omega) | omega)), (by (first | (clear b_nr b_fa b_va b_np b_tn b_pc_ b_st_ b_pa_ b_ta b_ow b_of_ b_ot b_rl b_hb b_bs b_se; omega) | omega)), (by (first | (clear b_nr b_fa b_va b_np b_tn b_pc_ b_st_ b_pa_ b_ta b_ow b_of_ b_ot b_rl b_hb b_bs b_se; omega) | omega))⟩)) (by decide) (by decide) dX12_number_105
        · refine g_iload_n (pc := 37) X 0 rfl dX12_number_37 ?_
          refine g_aload_n (pc := 38) X 1 rfl dX12_number_38 ?_
          refine g_get (pc := 39) X inlX12 0 rfl rfl 22 (by decide) mw_19_22 rfl dX12_number_39 ?_
          refine g_icmp_geI (pc := 42) X 89 (by decide) (inRb b_k1 (by decide) (by decide)) (inRb b_to_ (by decide) (by decide)) dX12_number_42 (fun c42 => ?_) (fun c42 => ?_)
          · refine g_aload_n (pc := 89) X 1 rfl dX12_number_89 ?_
            refine g_aload_n (pc := 90) X 1 rfl dX12_number_90 ?_
            refine g_get (pc := 91) X inlX12 0 rfl rfl 24 (by decide) mw_20_22 rfl dX12_number_91 ?_
            refine g_i2lI (pc := 94) X b_va1 dX12_number_94 ?_
            refine g_iload_n (pc := 95) X 2 rfl dX12_number_95 ?_
            refine g_i2lI (pc := 96) X b_lw dX12_number_96 ?_
            refine g_iload_n (pc := 97) X 3 rfl dX12_number_97 ?_
            refine g_i2lI (pc := 98) X b_tp dX12_number_98 ?_
            refine g_callS (pc := 99) X (k_X12_in l Z va1 lw tp (by (first | (clear b_nr b_fa b_va b_np b_tn b_pc_ b_st_ b_pa_ b_ta b_ow b_of_ b_ot b_rl b_hb b_bs b_se; omega) | omega)) (by (first | (clear b_nr b_fa b_va b_np b_tn b_pc_ b_st_ b_pa_ b_ta b_ow b_of_ b_ot b_rl b_hb b_bs b_se; omega) | omega)) (by (first | (clear b_nr b_fa b_va b_np b_tn b_pc_ b_st_ b_pa_ b_ta b_ow b_of_ b_ot b_rl b_hb b_bs b_se; omega) | omega))) iM_X12_in mw_11_13 mw_11_14 [] [0, 1] rfl (wr := [(g0, .inr (12, mO gA nr tm at_ to_ fa va1 np tn pc_ st_ pa_ ta ow of_ ot rl hb bs se)), cA Z (gA 19) 1 400 Mt]) rfl (by decide) rfl rfl (Nat.le_of_ble_eq_true rfl) (by decide) dX12_number_99 (fun r w' hpo => ?_)
            obtain ⟨rfl, rfl⟩ := hpo
            refine g_as (pc' := 102) (lv' := [(3, .int (iI k1)), (0, .ref g0), (1, .int (iI lw)), (2, .int (iI tp))]) (st' := [.int (iI (bI (lw ≤ va1 ∧ va1 ≤ tp))), .ref g0]) (ws' := [(g0, .inr (12, mO gA nr tm at_ to_ fa va1 np tn pc_ st_ pa_ ta ow of_ ot rl hb bs se)), cA Z (gA 19) 1 400 Mt]) rfl rfl rfl rfl ?_
            have hb_102 := bI_01 (P := lw ≤ va1 ∧ va1 ≤ tp)
            have hc_102 : bI (lw ≤ va1 ∧ va1 ≤ tp) = 1 → (lw ≤ va1 ∧ va1 ≤ tp) := bI_1i
            refine g_callV (pc := 102) X (k_X12_passes l Z g0 gA Mt (bI (lw ≤ va1 ∧ va1 ≤ tp)) nr tm at_ to_ fa va1 np tn pc_ st_ pa_ ta ow of_ ot rl hb bs se (by (first | (clear b_nr b_fa b_va b_np b_tn b_pc_ b_st_ b_pa_ b_ta b_ow b_of_ b_ot b_rl b_hb b_bs b_se; omega) | omega)) b_nr b_tm b_at_ b_to_ b_fa b_va1 b_np b_tn b_pc_ b_st_ b_pa_ b_ta b_ow b_of_ b_ot b_rl b_hb b_bs b_se (by (first | (clear b_nr b_fa b_va b_np b_tn b_pc_ b_st_ b_pa_ b_ta b_ow b_of_ b_ot b_rl b_hb b_bs b_se; omega) | omega)) (by (first | (clear b_nr b_fa b_va b_np b_tn b_pc_ b_st_ b_pa_ b_ta b_ow b_of_ b_ot b_rl b_hb b_bs b_se; omega) | omega)) (h_Mt)) iM_X12_passes mw_20_23 mw_21_0 mw_21_1 0 rfl rfl [0, 1] [] rfl (wr := []) rfl (by decide) rfl rfl (Nat.le_of_ble_eq_true rfl) (by decide) dX12_number_102 (fun r w' hpo => ?_)
            rcases hpo with hp0 | hp1
            · refine exN_1 hp0 fun y8 hz => anD_4 hz fun e_r e_w hf102_b_fa2 hf102_f1 => ?_; clear hz hp0; subst e_r; subst e_w
              refine g_as (pc' := 105) (lv' := [(3, .int (iI k1)), (0, .ref g0), (1, .int (iI lw)), (2, .int (iI tp))]) (st' := [.int (iI 0)]) (ws' := [(g0, .inr (12, mO gA nr tm at_ to_ y8 va1 np tn pc_ st_ pa_ ta ow of_ ot rl hb bs se)), cA Z (gA 19) 1 400 Mt]) rfl rfl rfl rfl ?_
              exact g_zret (pc := 105) X hA (rfl) (Or.inl (⟨va1, y8, rfl, rfl, (b_va1), (hf102_b_fa2)⟩)) (by decide) (by decide) dX12_number_105
            · refine exN_2 hp1 fun y10 y11 hz => anD_8 hz fun e_r e_w hf102_b_at2 hf102_b_to2 hf102_j1 hf102_j2 hf102_f1 hf102_f2 => ?_; clear hz hp1; subst e_r; subst e_w
              refine g_as (pc' := 105) (lv' := [(3, .int (iI k1)), (0, .ref g0), (1, .int (iI lw)), (2, .int (iI tp))]) (st' := [.int (iI 1)]) (ws' := [(g0, .inr (12, mO gA nr tm y10 y11 fa va1 np tn pc_ st_ pa_ ta ow of_ ot rl hb bs se)), cA Z (gA 19) 1 400 Mt]) rfl rfl rfl rfl ?_
              exact g_zret (pc := 105) X hA (rfl) (Or.inr (⟨va1, y10, y11, rfl, rfl, (b_va1), (hf102_b_at2), (hf102_b_to2), (by (first | (clear b_nr b_fa b_va b_np b_tn b_pc_ b_st_ b_pa_ b_ta b_ow b_of_ b_ot b_rl b_hb b_bs b_se; omega) | omega)), (by (first | (clear b_nr b_fa b_va b_np b_tn b_pc_ b_st_ b_pa_ b_ta b_ow b_of_ b_ot b_rl b_hb b_bs b_se; omega) | omega)), (by (first | (clear b_nr b_fa b_va b_np b_tn b_pc_ b_st_ b_pa_ b_ta b_ow b_of_ b_ot b_rl b_hb b_bs b_se; omega) | omega)), (by (first | (clear b_nr b_fa b_va b_np b_tn b_pc_ b_st_ b_pa_ b_ta b_ow b_of_ b_ot b_rl b_hb b_bs b_se; omega) | omega))⟩)) (by decide) (by decide) dX12_number_105
          · refine g_aload_n (pc := 45) X 1 rfl dX12_number_45 ?_
            refine g_aload_n (pc := 46) X 1 rfl dX12_number_46 ?_
            refine g_get (pc := 47) X inlX12 0 rfl rfl 24 (by decide) mw_20_22 rfl dX12_number_47 ?_
            refine g_sipush (pc := 50) X (iI 9999) (by decide) dX12_number_50 ?_
            refine g_icmp_leI (pc := 53) X 63 (by decide) b_va1 ⟨by decide, by decide⟩ dX12_number_53 (fun c53 => ?_) (fun c53 => ?_)
            · refine g_bipush (pc := 63) X (iI 10) (by decide) dX12_number_63 ?_
              refine g_aload_n (pc := 65) X 1 rfl dX12_number_65 ?_
              refine g_get (pc := 66) X inlX12 0 rfl rfl 24 (by decide) mw_20_22 rfl dX12_number_66 ?_
              refine g_imulI (pc := 69) X dX12_number_69 ?_
              refine g_any (fun y13 by13 => ?_)
              refine g_aload_n (pc := 70) X 1 rfl dX12_number_70 ?_
              refine g_get (pc := 71) X inlX12 0 rfl rfl 19 (by decide) mw_8_7 rfl dX12_number_71 ?_
              refine g_iload_n (pc := 74) X 0 rfl dX12_number_74 ?_
              refine g_baldI (pc := 75) X 1 rfl (b_k1.1) (by (first | (clear b_nr b_fa b_va b_np b_tn b_pc_ b_st_ b_pa_ b_ta b_ow b_of_ b_ot b_rl b_hb b_bs b_se; omega) | omega)) (Int.le_trans b_k1.2 (by decide)) dX12_number_75 ?_
              refine g_nameI (fun y14 ey14 => ?_)
              have by14 : (-128) ≤ y14 ∧ y14 ≤ 127 := by rw [ey14]; exact h_Mt _ (by (first | (clear b_nr b_fa b_va b_np b_tn b_pc_ b_st_ b_pa_ b_ta b_ow b_of_ b_ot b_rl b_hb b_bs b_se; omega) | omega))
              refine g_iaddI (pc := 76) X dX12_number_76 ?_
              refine g_any (fun y15 by15 => ?_)
              refine g_bipush (pc := 77) X (iI 48) (by decide) dX12_number_77 ?_
              refine g_isubI (pc := 79) X dX12_number_79 ?_
              refine g_any (fun y16 by16 => ?_)
              refine g_put (pc := 80) X inlX12 tyX12_ok nmX12 0 rfl rfl 24 (by decide) mw_20_22 rfl rfl rfl (Nat.le_of_ble_eq_true rfl) (ws' := [(g0, .inr (12, mO gA nr tm at_ to_ fa y16 np tn pc_ st_ pa_ ta ow of_ ot rl hb bs se)), cA Z (gA 19) 1 400 Mt]) rfl dX12_number_80 ?_
              refine g_iincI (pc := 83) X 0 rfl (by decide) (lv' := [(3, .int (iI (k1 + 1))), (0, .ref g0), (1, .int (iI lw)), (2, .int (iI tp))]) rfl dX12_number_83 ?_
              refine g_goto (pc := 86) X 29 (by decide) dX12_number_86 ?_
              exact ih (k1 + 1) y16 (by (first | (clear b_nr b_fa b_va b_np b_tn b_pc_ b_st_ b_pa_ b_ta b_ow b_of_ b_ot b_rl b_hb b_bs b_se; omega) | omega)) (by16) (by (first | (clear b_nr b_fa b_va b_np b_tn b_pc_ b_st_ b_pa_ b_ta b_ow b_of_ b_ot b_rl b_hb b_bs b_se; omega) | omega)) (by (first | (clear b_nr b_fa b_va b_np b_tn b_pc_ b_st_ b_pa_ b_ta b_ow b_of_ b_ot b_rl b_hb b_bs b_se; omega) | omega))
            · refine g_aload_n (pc := 56) X 1 rfl dX12_number_56 ?_
              refine g_get (pc := 57) X inlX12 0 rfl rfl 24 (by decide) mw_20_22 rfl dX12_number_57 ?_
              refine g_goto (pc := 60) X 80 (by decide) dX12_number_60 ?_
              refine g_put (pc := 80) X inlX12 tyX12_ok nmX12 0 rfl rfl 24 (by decide) mw_20_22 rfl rfl rfl (Nat.le_of_ble_eq_true rfl) (ws' := [(g0, .inr (12, mO gA nr tm at_ to_ fa va1 np tn pc_ st_ pa_ ta ow of_ ot rl hb bs se)), cA Z (gA 19) 1 400 Mt]) rfl dX12_number_80 ?_
              refine g_iincI (pc := 83) X 0 rfl (by decide) (lv' := [(3, .int (iI (k1 + 1))), (0, .ref g0), (1, .int (iI lw)), (2, .int (iI tp))]) rfl dX12_number_83 ?_
              refine g_goto (pc := 86) X 29 (by decide) dX12_number_86 ?_
              exact ih (k1 + 1) va1 (by (first | (clear b_nr b_fa b_va b_np b_tn b_pc_ b_st_ b_pa_ b_ta b_ow b_of_ b_ot b_rl b_hb b_bs b_se; omega) | omega)) (b_va1) (by (first | (clear b_nr b_fa b_va b_np b_tn b_pc_ b_st_ b_pa_ b_ta b_ow b_of_ b_ot b_rl b_hb b_bs b_se; omega) | omega)) (by (first | (clear b_nr b_fa b_va b_np b_tn b_pc_ b_st_ b_pa_ b_ta b_ow b_of_ b_ot b_rl b_hb b_bs b_se; omega) | omega))
    exact loop29 _ at_ v0 (b_at_) (by (first | (clear b_nr b_fa b_va b_np b_tn b_pc_ b_st_ b_pa_ b_ta b_ow b_of_ b_ot b_rl b_hb b_bs b_se; omega) | omega)) (by (first | (clear b_nr b_fa b_va b_np b_tn b_pc_ b_st_ b_pa_ b_ta b_ow b_of_ b_ot b_rl b_hb b_bs b_se; omega) | omega)) (Nat.lt_succ_self _)
  refine g_bipush (pc := 8) X (iI 57) (by decide) dX12_number_8 ?_
  refine g_callV (pc := 10) X (k_X12_between l Z g0 gA Mt at_ 48 57 nr tm at_ to_ fa va np tn pc_ st_ pa_ ta ow of_ ot rl hb bs se b_at_ (by decide) (by decide) b_nr b_tm b_at_ b_to_ b_fa b_va b_np b_tn b_pc_ b_st_ b_pa_ b_ta b_ow b_of_ b_ot b_rl b_hb b_bs b_se (h_Mt)) iM_X12_between mw_20_4 mw_20_5 mw_20_6 0 rfl rfl [0, 1] [] rfl (wr := []) rfl (by decide) rfl rfl (Nat.le_of_ble_eq_true rfl) (by decide) dX12_number_10 (fun r w' hpo => ?_)
  obtain ⟨rfl, rfl⟩ := hpo
  refine g_as (pc' := 13) (lv' := [(0, .ref g0), (1, .int (iI lw)), (2, .int (iI tp))]) (st' := [.int (iI (bI (at_ < tm ∧ 48 ≤ Mt at_.toNat ∧ Mt at_.toNat ≤ 57))), .ref g0]) (ws' := [(g0, .inr (12, mO gA nr tm at_ to_ fa va np tn pc_ st_ pa_ ta ow of_ ot rl hb bs se)), cA Z (gA 19) 1 400 Mt]) rfl rfl rfl rfl ?_
  refine g_if_eqB (pc := 13) X 20 (by decide) dX12_number_13 (fun c13 => ?_) (fun c13 => ?_)
  · refine g_iconst (pc := 20) X (iI (-1)) (by rfl) dX12_number_20 ?_
    exact join21 (-1) (by (first | (clear b_nr b_fa b_va b_np b_tn b_pc_ b_st_ b_pa_ b_ta b_ow b_of_ b_ot b_rl b_hb b_bs b_se; omega) | omega))
  · refine g_iconst (pc := 16) X (iI 0) (by rfl) dX12_number_16 ?_
    refine g_goto (pc := 17) X 21 (by decide) dX12_number_17 ?_
    exact join21 0 (by (first | (clear b_nr b_fa b_va b_np b_tn b_pc_ b_st_ b_pa_ b_ta b_ow b_of_ b_ot b_rl b_hb b_bs b_se; omega) | omega))

set_option maxHeartbeats 4000000 in
set_option maxRecDepth 100000 in
theorem k_X12_lesser (l : Launch) (Z : gZ) (g0 : Nat) (gA : Nat → Nat) (gG : Nat → Nat → Option Nat) (xA : Nat → Nat) (Mh : Nat → Int) (Mk : Nat → Int) (rm : Int) (w : Int) (nr : Int) (tm : Int) (at_ : Int) (to_ : Int) (fa : Int) (va : Int) (np : Int) (tn : Int) (pc_ : Int) (st_ : Int) (pa_ : Int) (ta : Int) (ow : Int) (of_ : Int) (ot : Int) (rl : Int) (hb : Int) (bs : Int) (se : Int) (b_rm : 0 ≤ rm ∧ rm ≤ 6) (b_w : 0 ≤ w ∧ w ≤ 7) (b_nr : 0 ≤ nr ∧ nr ≤ 6) (b_tm : 0 ≤ tm ∧ tm ≤ 400) (b_at_ : 0 ≤ at_ ∧ at_ ≤ 400) (b_to_ : 0 ≤ to_ ∧ to_ ≤ 400) (b_fa : (-1) ≤ fa ∧ fa ≤ 400) (b_va : (-2147483648) ≤ va ∧ va ≤ 2147483647) (b_np : 0 ≤ np ∧ np ≤ 4) (b_tn : 0 ≤ tn ∧ tn ≤ 20) (b_pc_ : 0 ≤ pc_ ∧ pc_ ≤ 480) (b_st_ : 0 ≤ st_ ∧ st_ ≤ 240) (b_pa_ : (-1) ≤ pa_ ∧ pa_ ≤ 3) (b_ta : (-2147483648) ≤ ta ∧ ta ≤ 2147483647) (b_ow : (-2147483648) ≤ ow ∧ ow ≤ 2147483647) (b_of_ : (-2147483648) ≤ of_ ∧ of_ ≤ 2147483647) (b_ot : (-2147483648) ≤ ot ∧ ot ≤ 2147483647) (b_rl : 0 ≤ rl ∧ rl ≤ 2880) (b_hb : 0 ≤ hb ∧ hb ≤ 4) (b_bs : (-2147483648) ≤ bs ∧ bs ≤ 2147483647) (b_se : 0 ≤ se ∧ se ≤ 10) (hG : ∀ k, gG k rm.toNat = some (xA k)) (h_Mh : ∀ j, j < 8 → 0 ≤ Mh j ∧ Mh j ≤ 400) (h_Mk : ∀ j, j < 8 → 0 ≤ Mk j ∧ Mk j ≤ 400) : Con l Z yX12_lesser cX12_lesser 3 (some .int) 1 24 0 0 [.ref g0, .int (iI rm), .int (iI w)] [(g0, .inr (12, mO gA nr tm at_ to_ fa va np tn pc_ st_ pa_ ta ow of_ ot rl hb bs se)), cR Z (gA 1) 6 7 (gG 1), cR Z (gA 2) 6 7 (gG 2), cA Z (xA 1) 0 8 Mh, cA Z (xA 2) 0 8 Mk] (fun r w' => ∃ (y : Int), (r = some (.int (iI y))) ∧ (w' = [(g0, .inr (12, mO gA nr tm at_ to_ fa va np tn pc_ st_ pa_ ta ow of_ ot rl hb bs se)), cR Z (gA 1) 6 7 (gG 1), cR Z (gA 2) 6 7 (gG 2), cA Z (xA 1) 0 8 Mh, cA Z (xA 2) 0 8 Mk]) ∧ (0 ≤ y ∧ y ≤ 400)) := by
  refine enter (by decide) (Nat.le_of_ble_eq_true rfl) ?_
  intro p e s m args below meth c A X hnm hA
  have X : Cx p s m args meth c cX12_lesser 3 (some .int) RX12 Z A := X
  refine g_as (pc' := 0) (lv' := [(0, .ref g0), (1, .int (iI rm)), (2, .int (iI w))]) (st' := []) (ws' := [(g0, .inr (12, mO gA nr tm at_ to_ fa va np tn pc_ st_ pa_ ta ow of_ ot rl hb bs se)), cR Z (gA 1) 6 7 (gG 1), cR Z (gA 2) 6 7 (gG 2), cA Z (xA 1) 0 8 Mh, cA Z (xA 2) 0 8 Mk]) rfl rfl rfl rfl ?_
  refine g_aload_n (pc := 0) X 0 rfl dX12_lesser_0 ?_
  refine g_get (pc := 1) X inlX12 0 rfl rfl 1 (by decide) mw_7_13 rfl dX12_lesser_1 ?_
  refine g_iload_n (pc := 4) X 1 rfl dX12_lesser_4 ?_
  refine g_aaldG (pc := 5) X 1 rfl (b_rm.1) (Int.lt_of_le_of_lt b_rm.2 (by decide)) (Int.le_trans b_rm.2 (by decide)) (hG 1) dX12_lesser_5 ?_
  refine g_iload_n (pc := 6) X 2 rfl dX12_lesser_6 ?_
  refine g_ialdI (pc := 7) X 3 rfl (b_w.1) (Int.lt_of_le_of_lt b_w.2 (by decide)) (Int.le_trans b_w.2 (by decide)) dX12_lesser_7 ?_
  refine g_nameI (fun y1 ey1 => ?_)
  have by1 : 0 ≤ y1 ∧ y1 ≤ 400 := by rw [ey1]; exact h_Mh _ (by (first | (clear b_w b_nr b_tm b_at_ b_to_ b_fa b_va b_np b_tn b_pc_ b_st_ b_pa_ b_ta b_ow b_of_ b_ot b_rl b_hb b_bs b_se; omega) | omega))
  refine g_aload_n (pc := 8) X 0 rfl dX12_lesser_8 ?_
  refine g_get (pc := 9) X inlX12 0 rfl rfl 2 (by decide) mw_7_14 rfl dX12_lesser_9 ?_
  refine g_iload_n (pc := 12) X 1 rfl dX12_lesser_12 ?_
  refine g_aaldG (pc := 13) X 2 rfl (b_rm.1) (Int.lt_of_le_of_lt b_rm.2 (by decide)) (Int.le_trans b_rm.2 (by decide)) (hG 2) dX12_lesser_13 ?_
  refine g_iload_n (pc := 14) X 2 rfl dX12_lesser_14 ?_
  refine g_ialdI (pc := 15) X 4 rfl (b_w.1) (Int.lt_of_le_of_lt b_w.2 (by decide)) (Int.le_trans b_w.2 (by decide)) dX12_lesser_15 ?_
  refine g_nameI (fun y2 ey2 => ?_)
  have by2 : 0 ≤ y2 ∧ y2 ≤ 400 := by rw [ey2]; exact h_Mk _ (by (first | (clear b_w b_nr b_tm b_at_ b_to_ b_fa b_va b_np b_tn b_pc_ b_st_ b_pa_ b_ta b_ow b_of_ b_ot b_rl b_hb b_bs b_se; omega) | omega))
  refine g_minI (pc := 16) X mw_21_19 mw_15_13 mw_25_23 mw_15_14 (by decide) (Nat.le_of_ble_eq_true rfl) (by decide) (by decide) (inRb by1 (by decide) (by decide)) (inRb by2 (by decide) (by decide)) dX12_lesser_16 ?_
  refine g_nameI (fun y3 ey3 => ?_)
  have my3 : y3 ≤ y1 ∧ y3 ≤ y2 ∧ (y3 = y1 ∨ y3 = y2) := by rw [ey3]; exact minF _ _
  clear ey3
  exact g_iret (pc := 19) X hA (⟨y3, rfl, rfl, (by (first | (clear b_w b_nr b_tm b_at_ b_to_ b_fa b_va b_np b_tn b_pc_ b_st_ b_pa_ b_ta b_ow b_of_ b_ot b_rl b_hb b_bs b_se; omega) | omega))⟩) (by decide) (by decide) dX12_lesser_19
