set_option maxHeartbeats 4000000 in
set_option maxRecDepth 100000 in
theorem k_X7_seenBetween (l : Launch) (Z : gZ) (h0 : Nat) (h_papers : Nat) (h_sizes : Nat) (hv : Value) (h_needs : Nat) (h_hidden : Nat) (h_given : Nat) (h_chosen : Nat) (h_picked : Nat) (Hh : Nat → Int) (Hc : Nat → Int) (lf : Int) (rg : Int) (hb : Int) (hp : Int) (hn : Int) (hf : Int) (b_lf : (-2147483648) ≤ lf ∧ lf ≤ 2147483647) (b_rg : (-2147483648) ≤ rg ∧ rg ≤ 2147483647) (b_hb : 0 ≤ hb ∧ hb ≤ 4) (b_hp : (-2147483648) ≤ hp ∧ hp ≤ 2147483647) (b_hn : 0 ≤ hn ∧ hn ≤ 8) (b_hf : (-2147483648) ≤ hf ∧ hf ≤ 2147483647) (h_Hh : ∀ j, j < 8 → 0 ≤ Hh j ∧ Hh j ≤ 1) (h_Hc : ∀ j, j < 8 → 0 ≤ Hc j ∧ Hc j ≤ 3) : Con l Z yX7_seenBetween cX7_seenBetween 3 (some .int) 1 22 0 0 [.ref h0, .int (iI lf), .int (iI rg)] [cO_irrviirrrrri h0 7 hb h_papers h_sizes hv hp hn h_needs h_hidden h_given h_chosen h_picked hf, cA Z h_hidden 2 8 Hh, cA Z h_chosen 0 8 Hc] (fun r w' => ∃ (y : Int), (r = some (.int (iI y))) ∧ (w' = [cO_irrviirrrrri h0 7 hb h_papers h_sizes hv hp hn h_needs h_hidden h_given h_chosen h_picked hf, cA Z h_hidden 2 8 Hh, cA Z h_chosen 0 8 Hc]) ∧ (0 ≤ y ∧ y ≤ 1)) := by
  refine enter (by decide) (Nat.le_of_ble_eq_true rfl) ?_
  intro p e s m args below meth c A X hnm hA
  have X : Cx p s m args meth c cX7_seenBetween 3 (some .int) RX7 Z A := X
  refine g_as (pc' := 0) (lv' := [(0, .ref h0), (1, .int (iI lf)), (2, .int (iI rg))]) (st' := []) (ws' := [cO_irrviirrrrri h0 7 hb h_papers h_sizes hv hp hn h_needs h_hidden h_given h_chosen h_picked hf, cA Z h_hidden 2 8 Hh, cA Z h_chosen 0 8 Hc]) rfl rfl rfl rfl ?_
  refine g_iconst (pc := 0) X (iI 0) (by rfl) dX7_seenBetween_0 ?_
  refine g_iload_n (pc := 1) X 1 rfl dX7_seenBetween_1 ?_
  refine g_aload_n (pc := 2) X 0 rfl dX7_seenBetween_2 ?_
  refine g_get (pc := 3) X inlX7 0 rfl rfl 5 (by decide) mw_48_10 rfl dX7_seenBetween_3 ?_
  refine g_iconst (pc := 6) X (iI 1) (by rfl) dX7_seenBetween_6 ?_
  refine g_isubI (pc := 7) X dX7_seenBetween_7 ?_
  refine g_callSN (pc := 8) X (k_X11_isFrom l Z 0 lf (hn - 1) (by decide) b_lf (by omega)) iM_X11_isFrom (by decide) mw_11_7 [] [0, 1, 2] rfl (wr := [cO_irrviirrrrri h0 7 hb h_papers h_sizes hv hp hn h_needs h_hidden h_given h_chosen h_picked hf, cA Z h_hidden 2 8 Hh, cA Z h_chosen 0 8 Hc]) rfl (by decide) rfl rfl (Nat.le_of_ble_eq_true rfl) (by decide) dX7_seenBetween_8 (fun r w' hpo => ?_)
  obtain ⟨rfl, rfl⟩ := hpo
  refine g_as (pc' := 11) (lv' := [(0, .ref h0), (1, .int (iI lf)), (2, .int (iI rg))]) (st' := [.int (iI (bI (0 ≤ lf ∧ lf ≤ (hn - 1))))]) (ws' := [cO_irrviirrrrri h0 7 hb h_papers h_sizes hv hp hn h_needs h_hidden h_given h_chosen h_picked hf, cA Z h_hidden 2 8 Hh, cA Z h_chosen 0 8 Hc]) rfl rfl rfl rfl ?_
  refine g_if_eqB (pc := 11) X 28 (by decide) dX7_seenBetween_11 (fun c11 => ?_) (fun c11 => ?_)
  · refine g_iconst (pc := 28) X (iI 0) (by rfl) dX7_seenBetween_28 ?_
    exact g_iret (pc := 29) X hA (⟨0, rfl, rfl, (by omega)⟩) (by decide) (by decide) dX7_seenBetween_29
  · refine g_iconst (pc := 14) X (iI 0) (by rfl) dX7_seenBetween_14 ?_
    refine g_iload_n (pc := 15) X 2 rfl dX7_seenBetween_15 ?_
    refine g_aload_n (pc := 16) X 0 rfl dX7_seenBetween_16 ?_
    refine g_get (pc := 17) X inlX7 0 rfl rfl 5 (by decide) mw_48_10 rfl dX7_seenBetween_17 ?_
    refine g_iconst (pc := 20) X (iI 1) (by rfl) dX7_seenBetween_20 ?_
    refine g_isubI (pc := 21) X dX7_seenBetween_21 ?_
    refine g_callSN (pc := 22) X (k_X11_isFrom l Z 0 rg (hn - 1) (by decide) b_rg (by omega)) iM_X11_isFrom (by decide) mw_11_7 [] [0, 1, 2] rfl (wr := [cO_irrviirrrrri h0 7 hb h_papers h_sizes hv hp hn h_needs h_hidden h_given h_chosen h_picked hf, cA Z h_hidden 2 8 Hh, cA Z h_chosen 0 8 Hc]) rfl (by decide) rfl rfl (Nat.le_of_ble_eq_true rfl) (by decide) dX7_seenBetween_22 (fun r w' hpo => ?_)
    obtain ⟨rfl, rfl⟩ := hpo
    refine g_as (pc' := 25) (lv' := [(0, .ref h0), (1, .int (iI lf)), (2, .int (iI rg))]) (st' := [.int (iI (bI (0 ≤ rg ∧ rg ≤ (hn - 1))))]) (ws' := [cO_irrviirrrrri h0 7 hb h_papers h_sizes hv hp hn h_needs h_hidden h_given h_chosen h_picked hf, cA Z h_hidden 2 8 Hh, cA Z h_chosen 0 8 Hc]) rfl rfl rfl rfl ?_
    refine g_if_neB (pc := 25) X 30 (by decide) dX7_seenBetween_25 (fun c25 => ?_) (fun c25 => ?_)
    · refine g_aload_n (pc := 30) X 0 rfl dX7_seenBetween_30 ?_
      refine g_get (pc := 31) X inlX7 0 rfl rfl 7 (by decide) mw_5_19 rfl dX7_seenBetween_31 ?_
      refine g_iload_n (pc := 34) X 1 rfl dX7_seenBetween_34 ?_
      refine g_zaldI (pc := 35) X 1 rfl (by omega) (by omega) (Int.le_trans b_lf.2 (by decide)) dX7_seenBetween_35 ?_
      refine g_nameI (fun y3 ey3 => ?_)
      have by3 : 0 ≤ y3 ∧ y3 ≤ 1 := by rw [ey3]; exact h_Hh _ (by omega)
      refine g_if_neI (pc := 36) X 54 (by decide) (inRb by3 (by decide) (by decide)) dX7_seenBetween_36 (fun c36 => ?_) (fun c36 => ?_)
      · refine g_iconst (pc := 54) X (iI 0) (by rfl) dX7_seenBetween_54 ?_
        refine g_goto (pc := 55) X 59 (by decide) dX7_seenBetween_55 ?_
        exact g_iret (pc := 59) X hA (⟨0, rfl, rfl, (by omega)⟩) (by decide) (by decide) dX7_seenBetween_59
      · refine g_aload_n (pc := 39) X 0 rfl dX7_seenBetween_39 ?_
        refine g_get (pc := 40) X inlX7 0 rfl rfl 9 (by decide) mw_5_21 rfl dX7_seenBetween_40 ?_
        refine g_iload_n (pc := 43) X 1 rfl dX7_seenBetween_43 ?_
        refine g_ialdI (pc := 44) X 2 rfl (by omega) (by omega) (Int.le_trans b_lf.2 (by decide)) dX7_seenBetween_44 ?_
        refine g_nameI (fun y4 ey4 => ?_)
        have by4 : 0 ≤ y4 ∧ y4 ≤ 3 := by rw [ey4]; exact h_Hc _ (by omega)
        refine g_aload_n (pc := 45) X 0 rfl dX7_seenBetween_45 ?_
        refine g_get (pc := 46) X inlX7 0 rfl rfl 9 (by decide) mw_5_21 rfl dX7_seenBetween_46 ?_
        refine g_iload_n (pc := 49) X 2 rfl dX7_seenBetween_49 ?_
        refine g_ialdI (pc := 50) X 2 rfl (by omega) (by omega) (Int.le_trans b_rg.2 (by decide)) dX7_seenBetween_50 ?_
        refine g_nameI (fun y5 ey5 => ?_)
        have by5 : 0 ≤ y5 ∧ y5 ≤ 3 := by rw [ey5]; exact h_Hc _ (by omega)
        refine g_icmp_neI (pc := 51) X 58 (by decide) (inRb by4 (by decide) (by decide)) (inRb by5 (by decide) (by decide)) dX7_seenBetween_51 (fun c51 => ?_) (fun c51 => ?_)
        · refine g_iconst (pc := 58) X (iI 1) (by rfl) dX7_seenBetween_58 ?_
          exact g_iret (pc := 59) X hA (⟨1, rfl, rfl, (by omega)⟩) (by decide) (by decide) dX7_seenBetween_59
        · refine g_iconst (pc := 54) X (iI 0) (by rfl) dX7_seenBetween_54 ?_
          refine g_goto (pc := 55) X 59 (by decide) dX7_seenBetween_55 ?_
          exact g_iret (pc := 59) X hA (⟨0, rfl, rfl, (by omega)⟩) (by decide) (by decide) dX7_seenBetween_59
    · refine g_iconst (pc := 28) X (iI 0) (by rfl) dX7_seenBetween_28 ?_
      exact g_iret (pc := 29) X hA (⟨0, rfl, rfl, (by omega)⟩) (by decide) (by decide) dX7_seenBetween_29

set_option maxHeartbeats 4000000 in
set_option maxRecDepth 100000 in
theorem k_X7_pick (l : Launch) (Z : gZ) (h0 : Nat) (h_papers : Nat) (h_sizes : Nat) (hv : Value) (h_needs : Nat) (h_hidden : Nat) (h_given : Nat) (h_chosen : Nat) (h_picked : Nat) (Hh : Nat → Int) (Hc : Nat → Int) (Hk : Nat → Int) (sn : Int) (hb : Int) (hp : Int) (hn : Int) (hf : Int) (b_sn : (-2147483648) ≤ sn ∧ sn ≤ 2147483647) (b_hb : 0 ≤ hb ∧ hb ≤ 4) (b_hp : (-2147483648) ≤ hp ∧ hp ≤ 2147483647) (b_hn : 0 ≤ hn ∧ hn ≤ 8) (b_hf : (-2147483648) ≤ hf ∧ hf ≤ 2147483647) (h_Hh : ∀ j, j < 8 → 0 ≤ Hh j ∧ Hh j ≤ 1) (h_Hc : ∀ j, j < 8 → 0 ≤ Hc j ∧ Hc j ≤ 3) (h_Hk : ∀ j, j < 8 → 0 ≤ Hk j ∧ Hk j ≤ 3) : Con l Z yX7_pick cX7_pick 4 none 2 44 0 0 [.ref h0, .int (iI sn)] [cO_irrviirrrrri h0 7 hb h_papers h_sizes hv hp hn h_needs h_hidden h_given h_chosen h_picked hf, cA Z h_hidden 2 8 Hh, cA Z h_chosen 0 8 Hc, cA Z h_picked 0 8 Hk] (fun r w' => ∃ (Hk2 : Nat → Int) (hf2 : Int), (r = none) ∧ (w' = [cO_irrviirrrrri h0 7 hb h_papers h_sizes hv hp hn h_needs h_hidden h_given h_chosen h_picked hf2, cA Z h_hidden 2 8 Hh, cA Z h_chosen 0 8 Hc, cA Z h_picked 0 8 Hk2]) ∧ ((-2147483648) ≤ hf2 ∧ hf2 ≤ 2147483647) ∧ (∀ j, j < 8 → 0 ≤ Hk2 j ∧ Hk2 j ≤ 3)) := by
  refine enter (by decide) (Nat.le_of_ble_eq_true rfl) ?_
  intro p e s m args below meth c A X hnm hA
  have X : Cx p s m args meth c cX7_pick 4 none RX7 Z A := X
  refine g_as (pc' := 0) (lv' := [(0, .ref h0), (1, .int (iI sn))]) (st' := []) (ws' := [cO_irrviirrrrri h0 7 hb h_papers h_sizes hv hp hn h_needs h_hidden h_given h_chosen h_picked hf, cA Z h_hidden 2 8 Hh, cA Z h_chosen 0 8 Hc, cA Z h_picked 0 8 Hk]) rfl rfl rfl rfl ?_
  refine g_iload_n (pc := 0) X 1 rfl dX7_pick_0 ?_
  refine g_aload_n (pc := 1) X 0 rfl dX7_pick_1 ?_
  refine g_aload_n (pc := 2) X 0 rfl dX7_pick_2 ?_
  refine g_get (pc := 3) X inlX7 0 rfl rfl 5 (by decide) mw_48_10 rfl dX7_pick_3 ?_
  refine g_iconst (pc := 6) X (iI 1) (by rfl) dX7_pick_6 ?_
  refine g_isubI (pc := 7) X dX7_pick_7 ?_
  refine g_iconst (pc := 8) X (iI 0) (by rfl) dX7_pick_8 ?_
  refine g_callV (pc := 9) X (k_X7_seenBetween l Z h0 h_papers h_sizes hv h_needs h_hidden h_given h_chosen h_picked Hh Hc (hn - 1) 0 hb hp hn hf (by (first | (clear b_sn b_hb b_hp b_hf; omega) | omega)) (by decide) b_hb b_hp b_hn b_hf (h_Hh) (h_Hc)) iM_X7_seenBetween mw_49_13 mw_49_14 mw_49_15 0 rfl rfl [0, 1, 2] [3] rfl (wr := [cA Z h_picked 0 8 Hk]) rfl (by decide) rfl rfl (Nat.le_of_ble_eq_true rfl) (by decide) dX7_pick_9 (fun r w' hpo => ?_)
  refine exN_1 hpo fun y1 hz => anD_3 hz fun e_r e_w hf9_b_y => ?_; clear hz hpo; subst e_r; subst e_w
  refine g_as (pc' := 12) (lv' := [(0, .ref h0), (1, .int (iI sn))]) (st' := [.int (iI y1), .int (iI sn)]) (ws' := [cA Z h_picked 0 8 Hk, cO_irrviirrrrri h0 7 hb h_papers h_sizes hv hp hn h_needs h_hidden h_given h_chosen h_picked hf, cA Z h_hidden 2 8 Hh, cA Z h_chosen 0 8 Hc]) rfl rfl rfl rfl ?_
  refine g_iaddI (pc := 12) X dX7_pick_12 ?_
  refine g_any (fun y3 by3 => ?_)
  refine g_istore_n (pc := 13) X (i := 2) rfl (by decide) (lv' := [(2, .int (iI y3)), (0, .ref h0), (1, .int (iI sn))]) rfl dX7_pick_13 ?_
  refine g_iload_n (pc := 14) X 0 rfl dX7_pick_14 ?_
  refine g_aload_n (pc := 15) X 1 rfl dX7_pick_15 ?_
  refine g_get (pc := 16) X inlX7 1 rfl rfl 11 (by decide) mw_49_4 rfl dX7_pick_16 ?_
  refine g_icmp_ltI (pc := 19) X 23 (by decide) by3 b_hf dX7_pick_19 (fun c19 => ?_) (fun c19 => ?_)
  · refine g_aload_n (pc := 23) X 1 rfl dX7_pick_23 ?_
    refine g_iload_n (pc := 24) X 0 rfl dX7_pick_24 ?_
    refine g_put (pc := 25) X inlX7 tyX7_ok nmX7 1 rfl rfl 11 (by decide) mw_49_4 rfl rfl rfl (Nat.le_of_ble_eq_true rfl) (ws' := [cA Z h_picked 0 8 Hk, cO_irrviirrrrri h0 7 hb h_papers h_sizes hv hp hn h_needs h_hidden h_given h_chosen h_picked y3, cA Z h_hidden 2 8 Hh, cA Z h_chosen 0 8 Hc]) rfl dX7_pick_25 ?_
    refine g_iconst (pc := 28) X (iI 0) (by rfl) dX7_pick_28 ?_
    refine g_istore_n (pc := 29) X (i := 3) rfl (by decide) (lv' := [(3, .int (iI 0)), (2, .int (iI y3)), (0, .ref h0), (1, .int (iI sn))]) rfl dX7_pick_29 ?_
    have loop30 : ∀ (fuel : Nat) (i : Int) (Hk1 : Nat → Int), (0 ≤ i ∧ i ≤ 8) → (∀ j, j < 8 → 0 ≤ Hk1 j ∧ Hk1 j ≤ 3) → (9 - i).toNat < fuel → Gs p l e ({ frames := 2, cells := 0, slots := 0, locals := 44 } : Room) s m args below meth c (MQ below (gPost Z [cO_irrviirrrrri h0 7 hb h_papers h_sizes hv hp hn h_needs h_hidden h_given h_chosen h_picked hf, cA Z h_hidden 2 8 Hh, cA Z h_chosen 0 8 Hc, cA Z h_picked 0 8 Hk] s.heap.size (fun r w' => ∃ (Hk2 : Nat → Int) (hf2 : Int), (r = none) ∧ (w' = [cO_irrviirrrrri h0 7 hb h_papers h_sizes hv hp hn h_needs h_hidden h_given h_chosen h_picked hf2, cA Z h_hidden 2 8 Hh, cA Z h_chosen 0 8 Hc, cA Z h_picked 0 8 Hk2]) ∧ ((-2147483648) ≤ hf2 ∧ hf2 ≤ 2147483647) ∧ (∀ j, j < 8 → 0 ≤ Hk2 j ∧ Hk2 j ≤ 3))) args s 0 0 (va_A [cO_irrviirrrrri h0 7 hb h_papers h_sizes hv hp hn h_needs h_hidden h_given h_chosen h_picked hf, cA Z h_hidden 2 8 Hh, cA Z h_chosen 0 8 Hc, cA Z h_picked 0 8 Hk] s.heap.size)) Z A 4 0 0 30 [(3, .int (iI i)), (2, .int (iI y3)), (0, .ref h0), (1, .int (iI sn))] [] [cA Z h_picked 0 8 Hk1, cO_irrviirrrrri h0 7 hb h_papers h_sizes hv hp hn h_needs h_hidden h_given h_chosen h_picked y3, cA Z h_hidden 2 8 Hh, cA Z h_chosen 0 8 Hc] := by
      intro fuel
      induction fuel with
      | zero => intro i Hk1 _ _ hm; exact absurd hm (Nat.not_lt_zero _)
      | succ fuel ih =>
        intro i Hk1 b_i h_Hk1 hm
        refine g_iload_n (pc := 30) X 0 rfl dX7_pick_30 ?_
        refine g_aload_n (pc := 31) X 2 rfl dX7_pick_31 ?_
        refine g_get (pc := 32) X inlX7 1 rfl rfl 5 (by decide) mw_48_10 rfl dX7_pick_32 ?_
        refine g_icmp_geI (pc := 35) X 56 (by decide) (inRb b_i (by decide) (by decide)) (inRb b_hn (by decide) (by decide)) dX7_pick_35 (fun c35 => ?_) (fun c35 => ?_)
        · refine g_ws (ws' := [cO_irrviirrrrri h0 7 hb h_papers h_sizes hv hp hn h_needs h_hidden h_given h_chosen h_picked y3, cA Z h_hidden 2 8 Hh, cA Z h_chosen 0 8 Hc, cA Z h_picked 0 8 Hk1]) [1, 2, 3, 0] (by decide) rfl ?_
          exact g_vret (pc := 56) X hA (⟨Hk1, y3, rfl, rfl, (by3), (h_Hk1)⟩) (by decide) (by decide) dX7_pick_56
        · refine g_aload_n (pc := 38) X 2 rfl dX7_pick_38 ?_
          refine g_get (pc := 39) X inlX7 1 rfl rfl 10 (by decide) mw_5_22 rfl dX7_pick_39 ?_
          refine g_iload_n (pc := 42) X 0 rfl dX7_pick_42 ?_
          refine g_aload_n (pc := 43) X 2 rfl dX7_pick_43 ?_
          refine g_get (pc := 44) X inlX7 1 rfl rfl 9 (by decide) mw_5_21 rfl dX7_pick_44 ?_
          refine g_iload_n (pc := 47) X 0 rfl dX7_pick_47 ?_
          refine g_ialdI (pc := 48) X 3 rfl (b_i.1) (by (first | (clear b_sn b_hb b_hp b_hf; omega) | omega)) (Int.le_trans b_i.2 (by decide)) dX7_pick_48 ?_
          refine g_nameI (fun y4 ey4 => ?_)
          have by4 : 0 ≤ y4 ∧ y4 ≤ 3 := by rw [ey4]; exact h_Hc _ (by (first | (clear b_sn b_hb b_hp b_hf; omega) | omega))
          refine g_iastG (pc := 49) X 0 rfl (b_i.1) (by (first | (clear b_sn b_hb b_hp b_hf; omega) | omega)) (Int.le_trans b_i.2 (by decide)) (ws' := fun F5 => [cA Z h_picked 0 8 F5, cO_irrviirrrrri h0 7 hb h_papers h_sizes hv hp hn h_needs h_hidden h_given h_chosen h_picked y3, cA Z h_hidden 2 8 Hh, cA Z h_chosen 0 8 Hc]) (fun _ => rfl) dX7_pick_49 (fun F5 eF5 => ?_)
          have hF5 : ∀ j, j < 8 → 0 ≤ F5 j ∧ F5 j ≤ 3 := by rw [eF5]; exact updI_B h_Hk1 (by (first | (clear b_sn b_hb b_hp b_hf; omega) | omega))
          refine g_iincI (pc := 50) X 0 rfl (by decide) (lv' := [(3, .int (iI (i + 1))), (2, .int (iI y3)), (0, .ref h0), (1, .int (iI sn))]) rfl dX7_pick_50 ?_
          refine g_goto (pc := 53) X 30 (by decide) dX7_pick_53 ?_
          exact ih (i + 1) F5 (by (first | (clear b_sn b_hb b_hp b_hf; omega) | omega)) (hF5) (by (first | (clear b_sn b_hb b_hp b_hf; omega) | omega))
    exact loop30 _ 0 Hk (by (first | (clear b_sn b_hb b_hp b_hf; omega) | omega)) (h_Hk) (Nat.lt_succ_self _)
  · refine g_ws (ws' := [cO_irrviirrrrri h0 7 hb h_papers h_sizes hv hp hn h_needs h_hidden h_given h_chosen h_picked hf, cA Z h_hidden 2 8 Hh, cA Z h_chosen 0 8 Hc, cA Z h_picked 0 8 Hk]) [1, 2, 3, 0] (by decide) rfl ?_
    exact g_vret (pc := 22) X hA (⟨Hk, hf, rfl, rfl, (b_hf), (h_Hk)⟩) (by decide) (by decide) dX7_pick_22

set_option maxHeartbeats 4000000 in
set_option maxRecDepth 100000 in
theorem k_X7_begin (l : Launch) (Z : gZ) (h0 : Nat) (r0 : Nat) (h_papers : Nat) (h_sizes : Nat) (hv : Value) (h_needs : Nat) (h_hidden : Nat) (h_given : Nat) (h_chosen : Nat) (h_picked : Nat) (w0 : Nat) (r_doors : Nat) (r_openingWalls : Nat) (r_froms : Nat) (r_tos : Nat) (r_lowers : Nat) (r_uppers : Nat) (r_standWalls : Nat) (r_standXs : Nat) (r_standYs : Nat) (w_begins : Nat) (w_lengths : Nat) (w_lefts : Nat) (w_rights : Nat) (w_leans : Nat) (w_leaning : Nat) (Hh : Nat → Int) (Rd : Nat → Int) (Rw : Nat → Int) (Rf : Nat → Int) (Rt : Nat → Int) (Wl : Nat → Int) (pp : Int) (hb : Int) (hp : Int) (hn : Int) (hf : Int) (ro : Int) (rs : Int) (wn : Int) (wr : Int) (b_pp : (-2147483648) ≤ pp ∧ pp ≤ 2147483647) (b_hb : 0 ≤ hb ∧ hb ≤ 4) (b_hp : (-2147483648) ≤ hp ∧ hp ≤ 2147483647) (b_hn : 0 ≤ hn ∧ hn ≤ 8) (b_hf : (-2147483648) ≤ hf ∧ hf ≤ 2147483647) (b_ro : 0 ≤ ro ∧ ro ≤ 8) (b_rs : 0 ≤ rs ∧ rs ≤ 4) (b_wn : 0 ≤ wn ∧ wn ≤ 8) (b_wr : 0 ≤ wr ∧ wr ≤ 4800) (h_Hh : ∀ j, j < 8 → 0 ≤ Hh j ∧ Hh j ≤ 1) (h_Rd : ∀ j, j < 8 → 0 ≤ Rd j ∧ Rd j ≤ 1) (h_Rw : ∀ j, j < 8 → 0 ≤ Rw j ∧ Rw j ≤ 7) (h_Rf : ∀ j, j < 8 → 0 ≤ Rf j ∧ Rf j ≤ 600) (h_Rt : ∀ j, j < 8 → 0 ≤ Rt j ∧ Rt j ≤ 600) (h_Wl : ∀ j, j < 8 → 0 ≤ Wl j ∧ Wl j ≤ 600) : Con l Z yX7_begin cX7_begin 4 none 3 68 0 0 [.ref h0, .ref r0, .int (iI pp)] [cO_irrviirrrrri h0 7 hb h_papers h_sizes hv hp hn h_needs h_hidden h_given h_chosen h_picked hf, cA Z h_hidden 2 8 Hh, cO_rirrrrrrirrr r0 6 w0 ro r_doors r_openingWalls r_froms r_tos r_lowers r_uppers rs r_standWalls r_standXs r_standYs, cA Z r_doors 2 8 Rd, cA Z r_openingWalls 0 8 Rw, cA Z r_froms 0 8 Rf, cA Z r_tos 0 8 Rt, cO_rrrrrrii w0 10 w_begins w_lengths w_lefts w_rights w_leans w_leaning wn wr, cA Z w_lengths 0 8 Wl] (fun r w' => ∃ (Hh2 : Nat → Int) (hn2 : Int), (r = none) ∧ (w' = [cO_irrriirrrrri h0 7 hb h_papers h_sizes r0 pp hn2 h_needs h_hidden h_given h_chosen h_picked hf, cA Z h_hidden 2 8 Hh2, cO_rirrrrrrirrr r0 6 w0 ro r_doors r_openingWalls r_froms r_tos r_lowers r_uppers rs r_standWalls r_standXs r_standYs, cA Z r_doors 2 8 Rd, cA Z r_openingWalls 0 8 Rw, cA Z r_froms 0 8 Rf, cA Z r_tos 0 8 Rt, cO_rrrrrrii w0 10 w_begins w_lengths w_lefts w_rights w_leans w_leaning wn wr, cA Z w_lengths 0 8 Wl]) ∧ (0 ≤ hn2 ∧ hn2 ≤ 8) ∧ (∀ j, j < 8 → 0 ≤ Hh2 j ∧ Hh2 j ≤ 1) ∧ (hn2 = wn)) := by
  refine enter (by decide) (Nat.le_of_ble_eq_true rfl) ?_
  intro p e s m args below meth c A X hnm hA
  have X : Cx p s m args meth c cX7_begin 4 none RX7 Z A := X
  refine g_as (pc' := 0) (lv' := [(0, .ref h0), (1, .ref r0), (2, .int (iI pp))]) (st' := []) (ws' := [cO_irrviirrrrri h0 7 hb h_papers h_sizes hv hp hn h_needs h_hidden h_given h_chosen h_picked hf, cA Z h_hidden 2 8 Hh, cO_rirrrrrrirrr r0 6 w0 ro r_doors r_openingWalls r_froms r_tos r_lowers r_uppers rs r_standWalls r_standXs r_standYs, cA Z r_doors 2 8 Rd, cA Z r_openingWalls 0 8 Rw, cA Z r_froms 0 8 Rf, cA Z r_tos 0 8 Rt, cO_rrrrrrii w0 10 w_begins w_lengths w_lefts w_rights w_leans w_leaning wn wr, cA Z w_lengths 0 8 Wl]) rfl rfl rfl rfl ?_
  refine g_aload_n (pc := 0) X 0 rfl dX7_begin_0 ?_
  refine g_aload_n (pc := 1) X 1 rfl dX7_begin_1 ?_
  refine g_put (pc := 2) X inlX7 tyX7_ok nmX7 0 rfl rfl 3 (by decide) mw_48_5 rfl rfl rfl (Nat.le_of_ble_eq_true rfl) (ws' := [cO_irrriirrrrri h0 7 hb h_papers h_sizes r0 hp hn h_needs h_hidden h_given h_chosen h_picked hf, cA Z h_hidden 2 8 Hh, cO_rirrrrrrirrr r0 6 w0 ro r_doors r_openingWalls r_froms r_tos r_lowers r_uppers rs r_standWalls r_standXs r_standYs, cA Z r_doors 2 8 Rd, cA Z r_openingWalls 0 8 Rw, cA Z r_froms 0 8 Rf, cA Z r_tos 0 8 Rt, cO_rrrrrrii w0 10 w_begins w_lengths w_lefts w_rights w_leans w_leaning wn wr, cA Z w_lengths 0 8 Wl]) rfl dX7_begin_2 ?_
  refine g_aload_n (pc := 5) X 0 rfl dX7_begin_5 ?_
  refine g_iload_n (pc := 6) X 2 rfl dX7_begin_6 ?_
  refine g_put (pc := 7) X inlX7 tyX7_ok nmX7 0 rfl rfl 4 (by decide) mw_48_6 rfl rfl rfl (Nat.le_of_ble_eq_true rfl) (ws' := [cO_irrriirrrrri h0 7 hb h_papers h_sizes r0 pp hn h_needs h_hidden h_given h_chosen h_picked hf, cA Z h_hidden 2 8 Hh, cO_rirrrrrrirrr r0 6 w0 ro r_doors r_openingWalls r_froms r_tos r_lowers r_uppers rs r_standWalls r_standXs r_standYs, cA Z r_doors 2 8 Rd, cA Z r_openingWalls 0 8 Rw, cA Z r_froms 0 8 Rf, cA Z r_tos 0 8 Rt, cO_rrrrrrii w0 10 w_begins w_lengths w_lefts w_rights w_leans w_leaning wn wr, cA Z w_lengths 0 8 Wl]) rfl dX7_begin_7 ?_
  refine g_aload_n (pc := 10) X 0 rfl dX7_begin_10 ?_
  refine g_bipush (pc := 11) X (iI 8) (by decide) dX7_begin_11 ?_
  refine g_aload_n (pc := 13) X 0 rfl dX7_begin_13 ?_
  refine g_get (pc := 14) X inlX7 0 rfl rfl 3 (by decide) mw_48_5 rfl dX7_begin_14 ?_
  refine g_get (pc := 17) X inlX6 2 rfl rfl 0 (by decide) mw_48_7 rfl dX7_begin_17 ?_
  refine g_get (pc := 20) X inlX10 7 rfl rfl 6 (by decide) mw_48_8 rfl dX7_begin_20 ?_
  refine g_minI (pc := 23) X mw_48_9 mw_15_13 mw_25_23 mw_15_14 (by decide) (Nat.le_of_ble_eq_true rfl) (by decide) (by decide) ⟨by decide, by decide⟩ (inRb b_wn (by decide) (by decide)) dX7_begin_23 ?_
  refine g_nameI (fun y1 ey1 => ?_)
  have my1 : y1 ≤ 8 ∧ y1 ≤ wn ∧ (y1 = 8 ∨ y1 = wn) := by rw [ey1]; exact minF _ _
  clear ey1
  refine g_put (pc := 26) X inlX7 tyX7_ok nmX7 0 rfl rfl 5 (by decide) mw_48_10 rfl rfl rfl (Nat.le_of_ble_eq_true rfl) (ws' := [cO_irrriirrrrri h0 7 hb h_papers h_sizes r0 pp y1 h_needs h_hidden h_given h_chosen h_picked hf, cA Z h_hidden 2 8 Hh, cO_rirrrrrrirrr r0 6 w0 ro r_doors r_openingWalls r_froms r_tos r_lowers r_uppers rs r_standWalls r_standXs r_standYs, cA Z r_doors 2 8 Rd, cA Z r_openingWalls 0 8 Rw, cA Z r_froms 0 8 Rf, cA Z r_tos 0 8 Rt, cO_rrrrrrii w0 10 w_begins w_lengths w_lefts w_rights w_leans w_leaning wn wr, cA Z w_lengths 0 8 Wl]) rfl dX7_begin_26 ?_
  refine g_iconst (pc := 29) X (iI 0) (by rfl) dX7_begin_29 ?_
  refine g_istore_n (pc := 30) X (i := 3) rfl (by decide) (lv' := [(3, .int (iI 0)), (0, .ref h0), (1, .ref r0), (2, .int (iI pp))]) rfl dX7_begin_30 ?_
  have loop31 : ∀ (fuel : Nat) (i : Int) (Hh1 : Nat → Int), (0 ≤ i ∧ i ≤ 8) → (∀ j, j < 8 → 0 ≤ Hh1 j ∧ Hh1 j ≤ 1) → (9 - i).toNat < fuel → Gs p l e ({ frames := 3, cells := 0, slots := 0, locals := 68 } : Room) s m args below meth c (MQ below (gPost Z [cO_irrviirrrrri h0 7 hb h_papers h_sizes hv hp hn h_needs h_hidden h_given h_chosen h_picked hf, cA Z h_hidden 2 8 Hh, cO_rirrrrrrirrr r0 6 w0 ro r_doors r_openingWalls r_froms r_tos r_lowers r_uppers rs r_standWalls r_standXs r_standYs, cA Z r_doors 2 8 Rd, cA Z r_openingWalls 0 8 Rw, cA Z r_froms 0 8 Rf, cA Z r_tos 0 8 Rt, cO_rrrrrrii w0 10 w_begins w_lengths w_lefts w_rights w_leans w_leaning wn wr, cA Z w_lengths 0 8 Wl] s.heap.size (fun r w' => ∃ (Hh2 : Nat → Int) (hn2 : Int), (r = none) ∧ (w' = [cO_irrriirrrrri h0 7 hb h_papers h_sizes r0 pp hn2 h_needs h_hidden h_given h_chosen h_picked hf, cA Z h_hidden 2 8 Hh2, cO_rirrrrrrirrr r0 6 w0 ro r_doors r_openingWalls r_froms r_tos r_lowers r_uppers rs r_standWalls r_standXs r_standYs, cA Z r_doors 2 8 Rd, cA Z r_openingWalls 0 8 Rw, cA Z r_froms 0 8 Rf, cA Z r_tos 0 8 Rt, cO_rrrrrrii w0 10 w_begins w_lengths w_lefts w_rights w_leans w_leaning wn wr, cA Z w_lengths 0 8 Wl]) ∧ (0 ≤ hn2 ∧ hn2 ≤ 8) ∧ (∀ j, j < 8 → 0 ≤ Hh2 j ∧ Hh2 j ≤ 1) ∧ (hn2 = wn))) args s 0 0 (va_A [cO_irrviirrrrri h0 7 hb h_papers h_sizes hv hp hn h_needs h_hidden h_given h_chosen h_picked hf, cA Z h_hidden 2 8 Hh, cO_rirrrrrrirrr r0 6 w0 ro r_doors r_openingWalls r_froms r_tos r_lowers r_uppers rs r_standWalls r_standXs r_standYs, cA Z r_doors 2 8 Rd, cA Z r_openingWalls 0 8 Rw, cA Z r_froms 0 8 Rf, cA Z r_tos 0 8 Rt, cO_rrrrrrii w0 10 w_begins w_lengths w_lefts w_rights w_leans w_leaning wn wr, cA Z w_lengths 0 8 Wl] s.heap.size)) Z A 4 0 0 31 [(3, .int (iI i)), (0, .ref h0), (1, .ref r0), (2, .int (iI pp))] [] [cO_irrriirrrrri h0 7 hb h_papers h_sizes r0 pp y1 h_needs h_hidden h_given h_chosen h_picked hf, cA Z h_hidden 2 8 Hh1, cO_rirrrrrrirrr r0 6 w0 ro r_doors r_openingWalls r_froms r_tos r_lowers r_uppers rs r_standWalls r_standXs r_standYs, cA Z r_doors 2 8 Rd, cA Z r_openingWalls 0 8 Rw, cA Z r_froms 0 8 Rf, cA Z r_tos 0 8 Rt, cO_rrrrrrii w0 10 w_begins w_lengths w_lefts w_rights w_leans w_leaning wn wr, cA Z w_lengths 0 8 Wl] := by
    intro fuel
    induction fuel with
    | zero => intro i Hh1 _ _ hm; exact absurd hm (Nat.not_lt_zero _)
    | succ fuel ih =>
      intro i Hh1 b_i h_Hh1 hm
      refine g_iload_n (pc := 31) X 0 rfl dX7_begin_31 ?_
      refine g_aload_n (pc := 32) X 1 rfl dX7_begin_32 ?_
      refine g_get (pc := 33) X inlX7 0 rfl rfl 5 (by decide) mw_48_10 rfl dX7_begin_33 ?_
      refine g_icmp_geI (pc := 36) X 59 (by decide) (inRb b_i (by decide) (by decide)) ⟨by (first | (clear b_pp b_hb b_hp b_hn b_hf b_ro b_rs b_wr; omega) | omega), by (first | (clear b_pp b_hb b_hp b_hn b_hf b_ro b_rs b_wr; omega) | omega)⟩ dX7_begin_36 (fun c36 => ?_) (fun c36 => ?_)
      · exact g_vret (pc := 59) X hA (⟨Hh1, y1, rfl, rfl, (by (first | (clear b_pp b_hb b_hp b_hn b_hf b_ro b_rs b_wr; omega) | omega)), (h_Hh1), (by (first | (clear b_pp b_hb b_hp b_hn b_hf b_ro b_rs b_wr; omega) | omega))⟩) (by decide) (by decide) dX7_begin_59
      · refine g_aload_n (pc := 39) X 1 rfl dX7_begin_39 ?_
        refine g_get (pc := 40) X inlX7 0 rfl rfl 7 (by decide) mw_5_19 rfl dX7_begin_40 ?_
        refine g_iload_n (pc := 43) X 0 rfl dX7_begin_43 ?_
        refine g_aload_n (pc := 44) X 1 rfl dX7_begin_44 ?_
        refine g_get (pc := 45) X inlX7 0 rfl rfl 3 (by decide) mw_48_5 rfl dX7_begin_45 ?_
        refine g_iload_n (pc := 48) X 0 rfl dX7_begin_48 ?_
        refine g_callV (pc := 49) X (k_X6_doorAtCorner l Z r0 w0 r_doors r_openingWalls r_froms r_tos r_lowers r_uppers r_standWalls r_standXs r_standYs w_begins w_lengths w_lefts w_rights w_leans w_leaning Rd Rw Rf Rt Wl i ro rs wn wr (by (first | (clear b_pp b_hb b_hp b_hn b_hf b_ro b_rs b_wr; omega) | omega)) b_ro b_rs b_wn b_wr (h_Rd) (h_Rw) (h_Rf) (h_Rt) (h_Wl)) iM_X6_doorAtCorner mw_48_11 mw_48_12 mw_48_13 2 rfl rfl [2, 3, 4, 5, 6, 7, 8] [0, 1] rfl (wr := [cO_irrriirrrrri h0 7 hb h_papers h_sizes r0 pp y1 h_needs h_hidden h_given h_chosen h_picked hf, cA Z h_hidden 2 8 Hh1]) rfl (by decide) rfl rfl (Nat.le_of_ble_eq_true rfl) (by decide) dX7_begin_49 (fun r w' hpo => ?_)
        refine exN_1 hpo fun y2 hz => anD_3 hz fun e_r e_w hf49_b_y => ?_; clear hz hpo; subst e_r; subst e_w
        refine g_as (pc' := 52) (lv' := [(3, .int (iI i)), (0, .ref h0), (1, .ref r0), (2, .int (iI pp))]) (st' := [.int (iI y2), .int (iI i), .ref h_hidden]) (ws' := [cO_irrriirrrrri h0 7 hb h_papers h_sizes r0 pp y1 h_needs h_hidden h_given h_chosen h_picked hf, cA Z h_hidden 2 8 Hh1, cO_rirrrrrrirrr r0 6 w0 ro r_doors r_openingWalls r_froms r_tos r_lowers r_uppers rs r_standWalls r_standXs r_standYs, cA Z r_doors 2 8 Rd, cA Z r_openingWalls 0 8 Rw, cA Z r_froms 0 8 Rf, cA Z r_tos 0 8 Rt, cO_rrrrrrii w0 10 w_begins w_lengths w_lefts w_rights w_leans w_leaning wn wr, cA Z w_lengths 0 8 Wl]) rfl rfl rfl rfl ?_
        refine g_zastG (pc := 52) X 1 rfl (b_i.1) (by (first | (clear b_pp b_hb b_hp b_hn b_hf b_ro b_rs b_wr; omega) | omega)) (Int.le_trans b_i.2 (by decide)) (by (first | (clear b_pp b_hb b_hp b_hn b_hf b_ro b_rs b_wr; omega) | omega)) (ws' := fun F4 => [cO_irrriirrrrri h0 7 hb h_papers h_sizes r0 pp y1 h_needs h_hidden h_given h_chosen h_picked hf, cA Z h_hidden 2 8 F4, cO_rirrrrrrirrr r0 6 w0 ro r_doors r_openingWalls r_froms r_tos r_lowers r_uppers rs r_standWalls r_standXs r_standYs, cA Z r_doors 2 8 Rd, cA Z r_openingWalls 0 8 Rw, cA Z r_froms 0 8 Rf, cA Z r_tos 0 8 Rt, cO_rrrrrrii w0 10 w_begins w_lengths w_lefts w_rights w_leans w_leaning wn wr, cA Z w_lengths 0 8 Wl]) (fun _ => rfl) dX7_begin_52 (fun F4 eF4 => ?_)
        have hF4 : ∀ j, j < 8 → 0 ≤ F4 j ∧ F4 j ≤ 1 := by rw [eF4]; exact updI_B h_Hh1 (by (first | (clear b_pp b_hb b_hp b_hn b_hf b_ro b_rs b_wr; omega) | omega))
        refine g_iincI (pc := 53) X 0 rfl (by decide) (lv' := [(3, .int (iI (i + 1))), (0, .ref h0), (1, .ref r0), (2, .int (iI pp))]) rfl dX7_begin_53 ?_
        refine g_goto (pc := 56) X 31 (by decide) dX7_begin_56 ?_
        exact ih (i + 1) F4 (by (first | (clear b_pp b_hb b_hp b_hn b_hf b_ro b_rs b_wr; omega) | omega)) (hF4) (by (first | (clear b_pp b_hb b_hp b_hn b_hf b_ro b_rs b_wr; omega) | omega))
  exact loop31 _ 0 Hh (by (first | (clear b_pp b_hb b_hp b_hn b_hf b_ro b_rs b_wr; omega) | omega)) (h_Hh) (Nat.lt_succ_self _)

set_option maxHeartbeats 4000000 in
set_option maxRecDepth 100000 in
theorem k_X7_choose0 (l : Launch) (Z : gZ) (h0 : Nat) (h_papers : Nat) (h_sizes : Nat) (hv : Value) (h_needs : Nat) (h_hidden : Nat) (h_given : Nat) (h_chosen : Nat) (h_picked : Nat) (Hp : Nat → Int) (Hs : Nat → Int) (Hn : Nat → Int) (Hh : Nat → Int) (Hg : Nat → Int) (Hc : Nat → Int) (Hk : Nat → Int) (wl : Int) (sn : Int) (hb : Int) (hp : Int) (hn : Int) (hf : Int) (b_wl : 0 ≤ wl ∧ wl ≤ 8) (b_sn : (-2147483648) ≤ sn ∧ sn ≤ 2147483647) (b_hb : 0 ≤ hb ∧ hb ≤ 4) (b_hp : (-2147483648) ≤ hp ∧ hp ≤ 2147483647) (b_hn : 0 ≤ hn ∧ hn ≤ 8) (b_hf : (-2147483648) ≤ hf ∧ hf ≤ 2147483647) (hd : hn - wl ≤ 0) (h_Hp : ∀ j, j < 4 → 0 ≤ Hp j ∧ Hp j ≤ 3) (h_Hs : ∀ j, j < 4 → 0 ≤ Hs j ∧ Hs j ≤ 30) (h_Hn : ∀ j, j < 8 → (-2147483648) ≤ Hn j ∧ Hn j ≤ 2147483647) (h_Hh : ∀ j, j < 8 → 0 ≤ Hh j ∧ Hh j ≤ 1) (h_Hg : ∀ j, j < 4 → (-2147483648) ≤ Hg j ∧ Hg j ≤ 2147483647) (h_Hc : ∀ j, j < 8 → 0 ≤ Hc j ∧ Hc j ≤ 3) (h_Hk : ∀ j, j < 8 → 0 ≤ Hk j ∧ Hk j ≤ 3) : Con l Z yX7_choose cX7_choose 4 none 3 67 0 0 [.ref h0, .int (iI wl), .int (iI sn)] [cO_irrviirrrrri h0 7 hb h_papers h_sizes hv hp hn h_needs h_hidden h_given h_chosen h_picked hf, cA Z h_papers 0 4 Hp, cA Z h_sizes 0 4 Hs, cA Z h_needs 0 8 Hn, cA Z h_hidden 2 8 Hh, cA Z h_given 0 4 Hg, cA Z h_chosen 0 8 Hc, cA Z h_picked 0 8 Hk] (fun r w' => ∃ (Hg2 : Nat → Int) (Hc2 : Nat → Int) (Hk2 : Nat → Int) (hf2 : Int), (r = none) ∧ (w' = [cO_irrviirrrrri h0 7 hb h_papers h_sizes hv hp hn h_needs h_hidden h_given h_chosen h_picked hf2, cA Z h_papers 0 4 Hp, cA Z h_sizes 0 4 Hs, cA Z h_needs 0 8 Hn, cA Z h_hidden 2 8 Hh, cA Z h_given 0 4 Hg2, cA Z h_chosen 0 8 Hc2, cA Z h_picked 0 8 Hk2]) ∧ ((-2147483648) ≤ hf2 ∧ hf2 ≤ 2147483647) ∧ (∀ j, j < 4 → (-2147483648) ≤ Hg2 j ∧ Hg2 j ≤ 2147483647) ∧ (∀ j, j < 8 → 0 ≤ Hc2 j ∧ Hc2 j ≤ 3) ∧ (∀ j, j < 8 → 0 ≤ Hk2 j ∧ Hk2 j ≤ 3)) := by
  refine enter (by decide) (Nat.le_of_ble_eq_true rfl) ?_
  intro p e s m args below meth c A X hnm hA
  have X : Cx p s m args meth c cX7_choose 4 none RX7 Z A := X
  refine g_as (pc' := 0) (lv' := [(0, .ref h0), (1, .int (iI wl)), (2, .int (iI sn))]) (st' := []) (ws' := [cO_irrviirrrrri h0 7 hb h_papers h_sizes hv hp hn h_needs h_hidden h_given h_chosen h_picked hf, cA Z h_papers 0 4 Hp, cA Z h_sizes 0 4 Hs, cA Z h_needs 0 8 Hn, cA Z h_hidden 2 8 Hh, cA Z h_given 0 4 Hg, cA Z h_chosen 0 8 Hc, cA Z h_picked 0 8 Hk]) rfl rfl rfl rfl ?_
  refine g_iload_n (pc := 0) X 2 rfl dX7_choose_0 ?_
  refine g_aload_n (pc := 1) X 0 rfl dX7_choose_1 ?_
  refine g_get (pc := 2) X inlX7 0 rfl rfl 11 (by decide) mw_49_4 rfl dX7_choose_2 ?_
  refine g_icmp_ltI (pc := 5) X 9 (by decide) b_sn b_hf dX7_choose_5 (fun c5 => ?_) (fun c5 => ?_)
  · refine g_iload_n (pc := 9) X 1 rfl dX7_choose_9 ?_
    refine g_aload_n (pc := 10) X 0 rfl dX7_choose_10 ?_
    refine g_get (pc := 11) X inlX7 0 rfl rfl 5 (by decide) mw_48_10 rfl dX7_choose_11 ?_
    refine g_icmp_ltI (pc := 14) X 23 (by decide) (inRb b_wl (by decide) (by decide)) (inRb b_hn (by decide) (by decide)) dX7_choose_14 (fun h => absurd h (by (first | (clear b_sn b_hb b_hp b_hf; omega) | omega))) (fun c14 => ?_)
    refine g_aload_n (pc := 17) X 0 rfl dX7_choose_17 ?_
    refine g_iload_n (pc := 18) X 2 rfl dX7_choose_18 ?_
    refine g_callV (pc := 19) X (k_X7_pick l Z h0 h_papers h_sizes hv h_needs h_hidden h_given h_chosen h_picked Hh Hc Hk sn hb hp hn hf b_sn b_hb b_hp b_hn b_hf (h_Hh) (h_Hc) (h_Hk)) iM_X7_pick mw_49_9 mw_49_10 mw_49_11 0 rfl rfl [0, 4, 6, 7] [1, 2, 3, 5] rfl (wr := [cA Z h_papers 0 4 Hp, cA Z h_sizes 0 4 Hs, cA Z h_needs 0 8 Hn, cA Z h_given 0 4 Hg]) rfl (by decide) rfl rfl (Nat.le_of_ble_eq_true rfl) (by decide) dX7_choose_19 (fun r w' hpo => ?_)
    refine exN_2 hpo fun F1 y2 hz => anD_4 hz fun e_r e_w hf19_b_hf2 hf19_h_Hk2 => ?_; clear hz hpo; subst e_r; subst e_w
    refine g_as (pc' := 22) (lv' := [(0, .ref h0), (1, .int (iI wl)), (2, .int (iI sn))]) (st' := []) (ws' := [cA Z h_papers 0 4 Hp, cA Z h_sizes 0 4 Hs, cA Z h_needs 0 8 Hn, cA Z h_given 0 4 Hg, cO_irrviirrrrri h0 7 hb h_papers h_sizes hv hp hn h_needs h_hidden h_given h_chosen h_picked y2, cA Z h_hidden 2 8 Hh, cA Z h_chosen 0 8 Hc, cA Z h_picked 0 8 F1]) rfl rfl rfl rfl ?_
    refine g_ws (ws' := [cO_irrviirrrrri h0 7 hb h_papers h_sizes hv hp hn h_needs h_hidden h_given h_chosen h_picked y2, cA Z h_papers 0 4 Hp, cA Z h_sizes 0 4 Hs, cA Z h_needs 0 8 Hn, cA Z h_hidden 2 8 Hh, cA Z h_given 0 4 Hg, cA Z h_chosen 0 8 Hc, cA Z h_picked 0 8 F1]) [4, 0, 1, 2, 5, 3, 6, 7] (by decide) rfl ?_
    exact g_vret (pc := 22) X hA (⟨Hg, Hc, F1, y2, rfl, rfl, (hf19_b_hf2), (h_Hg), (h_Hc), (hf19_h_Hk2)⟩) (by decide) (by decide) dX7_choose_22
  · exact g_vret (pc := 8) X hA (⟨Hg, Hc, Hk, hf, rfl, rfl, (b_hf), (h_Hg), (h_Hc), (h_Hk)⟩) (by decide) (by decide) dX7_choose_8

set_option maxHeartbeats 4000000 in
set_option maxRecDepth 100000 in
theorem k_X7_choose1 (l : Launch) (Z : gZ) (h0 : Nat) (h_papers : Nat) (h_sizes : Nat) (hv : Value) (h_needs : Nat) (h_hidden : Nat) (h_given : Nat) (h_chosen : Nat) (h_picked : Nat) (Hp : Nat → Int) (Hs : Nat → Int) (Hn : Nat → Int) (Hh : Nat → Int) (Hg : Nat → Int) (Hc : Nat → Int) (Hk : Nat → Int) (wl : Int) (sn : Int) (hb : Int) (hp : Int) (hn : Int) (hf : Int) (b_wl : 0 ≤ wl ∧ wl ≤ 8) (b_sn : (-2147483648) ≤ sn ∧ sn ≤ 2147483647) (b_hb : 0 ≤ hb ∧ hb ≤ 4) (b_hp : (-2147483648) ≤ hp ∧ hp ≤ 2147483647) (b_hn : 0 ≤ hn ∧ hn ≤ 8) (b_hf : (-2147483648) ≤ hf ∧ hf ≤ 2147483647) (hd : hn - wl ≤ 1) (h_Hp : ∀ j, j < 4 → 0 ≤ Hp j ∧ Hp j ≤ 3) (h_Hs : ∀ j, j < 4 → 0 ≤ Hs j ∧ Hs j ≤ 30) (h_Hn : ∀ j, j < 8 → (-2147483648) ≤ Hn j ∧ Hn j ≤ 2147483647) (h_Hh : ∀ j, j < 8 → 0 ≤ Hh j ∧ Hh j ≤ 1) (h_Hg : ∀ j, j < 4 → (-2147483648) ≤ Hg j ∧ Hg j ≤ 2147483647) (h_Hc : ∀ j, j < 8 → 0 ≤ Hc j ∧ Hc j ≤ 3) (h_Hk : ∀ j, j < 8 → 0 ≤ Hk j ∧ Hk j ≤ 3) : Con l Z yX7_choose cX7_choose 4 none 4 90 0 0 [.ref h0, .int (iI wl), .int (iI sn)] [cO_irrviirrrrri h0 7 hb h_papers h_sizes hv hp hn h_needs h_hidden h_given h_chosen h_picked hf, cA Z h_papers 0 4 Hp, cA Z h_sizes 0 4 Hs, cA Z h_needs 0 8 Hn, cA Z h_hidden 2 8 Hh, cA Z h_given 0 4 Hg, cA Z h_chosen 0 8 Hc, cA Z h_picked 0 8 Hk] (fun r w' => ∃ (Hg2 : Nat → Int) (Hc2 : Nat → Int) (Hk2 : Nat → Int) (hf2 : Int), (r = none) ∧ (w' = [cO_irrviirrrrri h0 7 hb h_papers h_sizes hv hp hn h_needs h_hidden h_given h_chosen h_picked hf2, cA Z h_papers 0 4 Hp, cA Z h_sizes 0 4 Hs, cA Z h_needs 0 8 Hn, cA Z h_hidden 2 8 Hh, cA Z h_given 0 4 Hg2, cA Z h_chosen 0 8 Hc2, cA Z h_picked 0 8 Hk2]) ∧ ((-2147483648) ≤ hf2 ∧ hf2 ≤ 2147483647) ∧ (∀ j, j < 4 → (-2147483648) ≤ Hg2 j ∧ Hg2 j ≤ 2147483647) ∧ (∀ j, j < 8 → 0 ≤ Hc2 j ∧ Hc2 j ≤ 3) ∧ (∀ j, j < 8 → 0 ≤ Hk2 j ∧ Hk2 j ≤ 3)) := by
  refine enter (by decide) (Nat.le_of_ble_eq_true rfl) ?_
  intro p e s m args below meth c A X hnm hA
  have X : Cx p s m args meth c cX7_choose 4 none RX7 Z A := X
  refine g_as (pc' := 0) (lv' := [(0, .ref h0), (1, .int (iI wl)), (2, .int (iI sn))]) (st' := []) (ws' := [cO_irrviirrrrri h0 7 hb h_papers h_sizes hv hp hn h_needs h_hidden h_given h_chosen h_picked hf, cA Z h_papers 0 4 Hp, cA Z h_sizes 0 4 Hs, cA Z h_needs 0 8 Hn, cA Z h_hidden 2 8 Hh, cA Z h_given 0 4 Hg, cA Z h_chosen 0 8 Hc, cA Z h_picked 0 8 Hk]) rfl rfl rfl rfl ?_
  refine g_iload_n (pc := 0) X 2 rfl dX7_choose_0 ?_
  refine g_aload_n (pc := 1) X 0 rfl dX7_choose_1 ?_
  refine g_get (pc := 2) X inlX7 0 rfl rfl 11 (by decide) mw_49_4 rfl dX7_choose_2 ?_
  refine g_icmp_ltI (pc := 5) X 9 (by decide) b_sn b_hf dX7_choose_5 (fun c5 => ?_) (fun c5 => ?_)
  · refine g_iload_n (pc := 9) X 1 rfl dX7_choose_9 ?_
    refine g_aload_n (pc := 10) X 0 rfl dX7_choose_10 ?_
    refine g_get (pc := 11) X inlX7 0 rfl rfl 5 (by decide) mw_48_10 rfl dX7_choose_11 ?_
    refine g_icmp_ltI (pc := 14) X 23 (by decide) (inRb b_wl (by decide) (by decide)) (inRb b_hn (by decide) (by decide)) dX7_choose_14 (fun c14 => ?_) (fun c14 => ?_)
    · refine g_iconst (pc := 23) X (iI 0) (by rfl) dX7_choose_23 ?_
      refine g_istore_n (pc := 24) X (i := 3) rfl (by decide) (lv' := [(3, .int (iI 0)), (0, .ref h0), (1, .int (iI wl)), (2, .int (iI sn))]) rfl dX7_choose_24 ?_
      have loop25 : ∀ (fuel : Nat) (i : Int) (hf1 : Int) (Hg1 : Nat → Int) (Hc1 : Nat → Int) (Hk1 : Nat → Int), (0 ≤ i ∧ i ≤ 4) → ((-2147483648) ≤ hf1 ∧ hf1 ≤ 2147483647) → (∀ j, j < 4 → (-2147483648) ≤ Hg1 j ∧ Hg1 j ≤ 2147483647) → (∀ j, j < 8 → 0 ≤ Hc1 j ∧ Hc1 j ≤ 3) → (∀ j, j < 8 → 0 ≤ Hk1 j ∧ Hk1 j ≤ 3) → (5 - i).toNat < fuel → Gs p l e ({ frames := 4, cells := 0, slots := 0, locals := 90 } : Room) s m args below meth c (MQ below (gPost Z [cO_irrviirrrrri h0 7 hb h_papers h_sizes hv hp hn h_needs h_hidden h_given h_chosen h_picked hf, cA Z h_papers 0 4 Hp, cA Z h_sizes 0 4 Hs, cA Z h_needs 0 8 Hn, cA Z h_hidden 2 8 Hh, cA Z h_given 0 4 Hg, cA Z h_chosen 0 8 Hc, cA Z h_picked 0 8 Hk] s.heap.size (fun r w' => ∃ (Hg2 : Nat → Int) (Hc2 : Nat → Int) (Hk2 : Nat → Int) (hf2 : Int), (r = none) ∧ (w' = [cO_irrviirrrrri h0 7 hb h_papers h_sizes hv hp hn h_needs h_hidden h_given h_chosen h_picked hf2, cA Z h_papers 0 4 Hp, cA Z h_sizes 0 4 Hs, cA Z h_needs 0 8 Hn, cA Z h_hidden 2 8 Hh, cA Z h_given 0 4 Hg2, cA Z h_chosen 0 8 Hc2, cA Z h_picked 0 8 Hk2]) ∧ ((-2147483648) ≤ hf2 ∧ hf2 ≤ 2147483647) ∧ (∀ j, j < 4 → (-2147483648) ≤ Hg2 j ∧ Hg2 j ≤ 2147483647) ∧ (∀ j, j < 8 → 0 ≤ Hc2 j ∧ Hc2 j ≤ 3) ∧ (∀ j, j < 8 → 0 ≤ Hk2 j ∧ Hk2 j ≤ 3))) args s 0 0 (va_A [cO_irrviirrrrri h0 7 hb h_papers h_sizes hv hp hn h_needs h_hidden h_given h_chosen h_picked hf, cA Z h_papers 0 4 Hp, cA Z h_sizes 0 4 Hs, cA Z h_needs 0 8 Hn, cA Z h_hidden 2 8 Hh, cA Z h_given 0 4 Hg, cA Z h_chosen 0 8 Hc, cA Z h_picked 0 8 Hk] s.heap.size)) Z A 4 0 0 25 [(3, .int (iI i)), (0, .ref h0), (1, .int (iI wl)), (2, .int (iI sn))] [] [cO_irrviirrrrri h0 7 hb h_papers h_sizes hv hp hn h_needs h_hidden h_given h_chosen h_picked hf1, cA Z h_papers 0 4 Hp, cA Z h_sizes 0 4 Hs, cA Z h_needs 0 8 Hn, cA Z h_hidden 2 8 Hh, cA Z h_given 0 4 Hg1, cA Z h_chosen 0 8 Hc1, cA Z h_picked 0 8 Hk1] := by
        intro fuel
        induction fuel with
        | zero => intro i hf1 Hg1 Hc1 Hk1 _ _ _ _ _ hm; exact absurd hm (Nat.not_lt_zero _)
        | succ fuel ih =>
          intro i hf1 Hg1 Hc1 Hk1 b_i b_hf1 h_Hg1 h_Hc1 h_Hk1 hm
          refine g_iload_n (pc := 25) X 0 rfl dX7_choose_25 ?_
          refine g_aload_n (pc := 26) X 1 rfl dX7_choose_26 ?_
          refine g_get (pc := 27) X inlX7 0 rfl rfl 0 (by decide) mw_47_7 rfl dX7_choose_27 ?_
          refine g_icmp_geI (pc := 30) X 136 (by decide) (inRb b_i (by decide) (by decide)) (inRb b_hb (by decide) (by decide)) dX7_choose_30 (fun c30 => ?_) (fun c30 => ?_)
          · exact g_vret (pc := 136) X hA (⟨Hg1, Hc1, Hk1, hf1, rfl, rfl, (b_hf1), (h_Hg1), (h_Hc1), (h_Hk1)⟩) (by decide) (by decide) dX7_choose_136
          · refine g_aload_n (pc := 33) X 1 rfl dX7_choose_33 ?_
            refine g_get (pc := 34) X inlX7 0 rfl rfl 1 (by decide) mw_5_15 rfl dX7_choose_34 ?_
            refine g_iload_n (pc := 37) X 0 rfl dX7_choose_37 ?_
            refine g_ialdI (pc := 38) X 1 rfl (b_i.1) (by omega) (Int.le_trans b_i.2 (by decide)) dX7_choose_38 ?_
            refine g_nameI (fun y1 ey1 => ?_)
            have by1 : 0 ≤ y1 ∧ y1 ≤ 3 := by rw [ey1]; exact h_Hp _ (by omega)
            refine g_aload_n (pc := 39) X 1 rfl dX7_choose_39 ?_
            refine g_get (pc := 40) X inlX7 0 rfl rfl 4 (by decide) mw_48_6 rfl dX7_choose_40 ?_
            refine g_icmp_neI (pc := 43) X 130 (by decide) (inRb by1 (by decide) (by decide)) b_hp dX7_choose_43 (fun c43 => ?_) (fun c43 => ?_)
            · refine g_iincI (pc := 130) X 0 rfl (by decide) (lv' := [(3, .int (iI (i + 1))), (0, .ref h0), (1, .int (iI wl)), (2, .int (iI sn))]) rfl dX7_choose_130 ?_
              refine g_goto (pc := 133) X 25 (by decide) dX7_choose_133 ?_
              exact ih (i + 1) hf1 Hg1 Hc1 Hk1 (by omega) (b_hf1) (h_Hg1) (h_Hc1) (h_Hk1) (by omega)
            · refine g_aload_n (pc := 46) X 1 rfl dX7_choose_46 ?_
              refine g_get (pc := 47) X inlX7 0 rfl rfl 8 (by decide) mw_5_20 rfl dX7_choose_47 ?_
              refine g_iload_n (pc := 50) X 0 rfl dX7_choose_50 ?_
              refine g_ialdI (pc := 51) X 5 rfl (b_i.1) (by omega) (Int.le_trans b_i.2 (by decide)) dX7_choose_51 ?_
              refine g_nameI (fun y2 ey2 => ?_)
              have by2 : (-2147483648) ≤ y2 ∧ y2 ≤ 2147483647 := by rw [ey2]; exact h_Hg1 _ (by omega)
              refine g_aload_n (pc := 52) X 1 rfl dX7_choose_52 ?_
              refine g_get (pc := 53) X inlX7 0 rfl rfl 6 (by decide) mw_5_17 rfl dX7_choose_53 ?_
              refine g_iload_n (pc := 56) X 2 rfl dX7_choose_56 ?_
              refine g_ialdI (pc := 57) X 3 rfl (b_wl.1) (by omega) (Int.le_trans b_wl.2 (by decide)) dX7_choose_57 ?_
              refine g_nameI (fun y3 ey3 => ?_)
              have by3 : (-2147483648) ≤ y3 ∧ y3 ≤ 2147483647 := by rw [ey3]; exact h_Hn _ (by omega)
              refine g_iaddI (pc := 58) X dX7_choose_58 ?_
              refine g_any (fun y4 by4 => ?_)
              refine g_aload_n (pc := 59) X 1 rfl dX7_choose_59 ?_
              refine g_get (pc := 60) X inlX7 0 rfl rfl 2 (by decide) mw_5_16 rfl dX7_choose_60 ?_
              refine g_iload_n (pc := 63) X 0 rfl dX7_choose_63 ?_
              refine g_ialdI (pc := 64) X 2 rfl (b_i.1) (by omega) (Int.le_trans b_i.2 (by decide)) dX7_choose_64 ?_
              refine g_nameI (fun y5 ey5 => ?_)
              have by5 : 0 ≤ y5 ∧ y5 ≤ 30 := by rw [ey5]; exact h_Hs _ (by omega)
              refine g_icmp_gtI (pc := 65) X 130 (by decide) by4 (inRb by5 (by decide) (by decide)) dX7_choose_65 (fun c65 => ?_) (fun c65 => ?_)
              · refine g_iincI (pc := 130) X 0 rfl (by decide) (lv' := [(3, .int (iI (i + 1))), (0, .ref h0), (1, .int (iI wl)), (2, .int (iI sn))]) rfl dX7_choose_130 ?_
                refine g_goto (pc := 133) X 25 (by decide) dX7_choose_133 ?_
                exact ih (i + 1) hf1 Hg1 Hc1 Hk1 (by omega) (b_hf1) (h_Hg1) (h_Hc1) (h_Hk1) (by omega)
              · refine g_aload_n (pc := 68) X 1 rfl dX7_choose_68 ?_
                refine g_get (pc := 69) X inlX7 0 rfl rfl 9 (by decide) mw_5_21 rfl dX7_choose_69 ?_
                refine g_iload_n (pc := 72) X 2 rfl dX7_choose_72 ?_
                refine g_iload_n (pc := 73) X 0 rfl dX7_choose_73 ?_
                refine g_iastG (pc := 74) X 6 rfl (b_wl.1) (by omega) (Int.le_trans b_wl.2 (by decide)) (ws' := fun F6 => [cO_irrviirrrrri h0 7 hb h_papers h_sizes hv hp hn h_needs h_hidden h_given h_chosen h_picked hf1, cA Z h_papers 0 4 Hp, cA Z h_sizes 0 4 Hs, cA Z h_needs 0 8 Hn, cA Z h_hidden 2 8 Hh, cA Z h_given 0 4 Hg1, cA Z h_chosen 0 8 F6, cA Z h_picked 0 8 Hk1]) (fun _ => rfl) dX7_choose_74 (fun F6 eF6 => ?_)
                have hF6 : ∀ j, j < 8 → 0 ≤ F6 j ∧ F6 j ≤ 3 := by rw [eF6]; exact updI_B h_Hc1 (by omega)
                refine g_aload_n (pc := 75) X 1 rfl dX7_choose_75 ?_
                refine g_get (pc := 76) X inlX7 0 rfl rfl 8 (by decide) mw_5_20 rfl dX7_choose_76 ?_
                refine g_iload_n (pc := 79) X 0 rfl dX7_choose_79 ?_
                refine g_dup2 (pc := 80) X rfl rfl dX7_choose_80 ?_
                refine g_ialdI (pc := 81) X 5 rfl (b_i.1) (by omega) (Int.le_trans b_i.2 (by decide)) dX7_choose_81 ?_
                refine g_nameI (fun y7 ey7 => ?_)
                have by7 : (-2147483648) ≤ y7 ∧ y7 ≤ 2147483647 := by rw [ey7]; exact h_Hg1 _ (by omega)
                refine g_aload_n (pc := 82) X 1 rfl dX7_choose_82 ?_
                refine g_get (pc := 83) X inlX7 0 rfl rfl 6 (by decide) mw_5_17 rfl dX7_choose_83 ?_
                refine g_iload_n (pc := 86) X 2 rfl dX7_choose_86 ?_
                refine g_ialdI (pc := 87) X 3 rfl (b_wl.1) (by omega) (Int.le_trans b_wl.2 (by decide)) dX7_choose_87 ?_
                refine g_nameI (fun y8 ey8 => ?_)
                have by8 : (-2147483648) ≤ y8 ∧ y8 ≤ 2147483647 := by rw [ey8]; exact h_Hn _ (by omega)
                refine g_iaddI (pc := 88) X dX7_choose_88 ?_
                refine g_any (fun y9 by9 => ?_)
                refine g_iastG (pc := 89) X 5 rfl (b_i.1) (by omega) (Int.le_trans b_i.2 (by decide)) (ws' := fun F10 => [cO_irrviirrrrri h0 7 hb h_papers h_sizes hv hp hn h_needs h_hidden h_given h_chosen h_picked hf1, cA Z h_papers 0 4 Hp, cA Z h_sizes 0 4 Hs, cA Z h_needs 0 8 Hn, cA Z h_hidden 2 8 Hh, cA Z h_given 0 4 F10, cA Z h_chosen 0 8 F6, cA Z h_picked 0 8 Hk1]) (fun _ => rfl) dX7_choose_89 (fun F10 eF10 => ?_)
                have hF10 : ∀ j, j < 4 → (-2147483648) ≤ F10 j ∧ F10 j ≤ 2147483647 := by rw [eF10]; exact updI_B h_Hg1 (by omega)
                refine g_aload_n (pc := 90) X 1 rfl dX7_choose_90 ?_
                refine g_iload_n (pc := 91) X 2 rfl dX7_choose_91 ?_
                refine g_iconst (pc := 92) X (iI 1) (by rfl) dX7_choose_92 ?_
                refine g_iaddI (pc := 93) X dX7_choose_93 ?_
                refine g_iload_n (pc := 94) X 2 rfl dX7_choose_94 ?_
                refine g_if_neI (pc := 95) X 102 (by decide) (inRb b_wl (by decide) (by decide)) dX7_choose_95 (fun c95 => ?_) (fun c95 => ?_)
                · refine g_iload_n (pc := 102) X 3 rfl dX7_choose_102 ?_
                  refine g_aload_n (pc := 103) X 1 rfl dX7_choose_103 ?_
                  refine g_iload_n (pc := 104) X 2 rfl dX7_choose_104 ?_
                  refine g_iconst (pc := 105) X (iI 1) (by rfl) dX7_choose_105 ?_
                  refine g_isubI (pc := 106) X dX7_choose_106 ?_
                  refine g_iload_n (pc := 107) X 2 rfl dX7_choose_107 ?_
                  refine g_callV (pc := 108) X (k_X7_seenBetween l Z h0 h_papers h_sizes hv h_needs h_hidden h_given h_chosen h_picked Hh F6 (wl - 1) wl hb hp hn hf1 (by omega) (by omega) b_hb b_hp b_hn b_hf1 (h_Hh) (hF6)) iM_X7_seenBetween mw_49_13 mw_49_14 mw_49_15 0 rfl rfl [0, 4, 6] [1, 2, 3, 5, 7] rfl (wr := [cA Z h_papers 0 4 Hp, cA Z h_sizes 0 4 Hs, cA Z h_needs 0 8 Hn, cA Z h_given 0 4 F10, cA Z h_picked 0 8 Hk1]) rfl (by decide) rfl rfl (Nat.le_of_ble_eq_true rfl) (by decide) dX7_choose_108 (fun r w' hpo => ?_)
                  refine exN_1 hpo fun y11 hz => anD_3 hz fun e_r e_w hf108_b_y => ?_; clear hz hpo; subst e_r; subst e_w
                  refine g_as (pc' := 111) (lv' := [(3, .int (iI i)), (0, .ref h0), (1, .int (iI wl)), (2, .int (iI sn))]) (st' := [.int (iI y11), .int (iI sn), .int (iI (wl + 1)), .ref h0]) (ws' := [cA Z h_papers 0 4 Hp, cA Z h_sizes 0 4 Hs, cA Z h_needs 0 8 Hn, cA Z h_given 0 4 F10, cA Z h_picked 0 8 Hk1, cO_irrviirrrrri h0 7 hb h_papers h_sizes hv hp hn h_needs h_hidden h_given h_chosen h_picked hf1, cA Z h_hidden 2 8 Hh, cA Z h_chosen 0 8 F6]) rfl rfl rfl rfl ?_
                  refine g_iaddI (pc := 111) X dX7_choose_111 ?_
                  refine g_callV (pc := 112) X (k_X7_choose0 l Z h0 h_papers h_sizes hv h_needs h_hidden h_given h_chosen h_picked Hp Hs Hn Hh F10 F6 Hk1 (wl + 1) (sn + y11) hb hp hn hf1 (by omega) (by omega) b_hb b_hp b_hn b_hf1 (by omega) (h_Hp) (h_Hs) (h_Hn) (h_Hh) (hF10) (hF6) (h_Hk1)) iM_X7_choose mw_49_5 mw_49_6 mw_49_7 5 rfl rfl [5, 0, 1, 2, 6, 3, 7, 4] [] rfl (wr := []) rfl (by decide) rfl rfl (Nat.le_of_ble_eq_true rfl) (by decide) dX7_choose_112 (fun r w' hpo => ?_)
                  refine exN_4 hpo fun F13 F14 F15 y16 hz => anD_6 hz fun e_r e_w hf112_b_hf2 hf112_h_Hg2 hf112_h_Hc2 hf112_h_Hk2 => ?_; clear hz hpo; subst e_r; subst e_w
                  refine g_as (pc' := 115) (lv' := [(3, .int (iI i)), (0, .ref h0), (1, .int (iI wl)), (2, .int (iI sn))]) (st' := []) (ws' := [cO_irrviirrrrri h0 7 hb h_papers h_sizes hv hp hn h_needs h_hidden h_given h_chosen h_picked y16, cA Z h_papers 0 4 Hp, cA Z h_sizes 0 4 Hs, cA Z h_needs 0 8 Hn, cA Z h_hidden 2 8 Hh, cA Z h_given 0 4 F13, cA Z h_chosen 0 8 F14, cA Z h_picked 0 8 F15]) rfl rfl rfl rfl ?_
                  refine g_aload_n (pc := 115) X 1 rfl dX7_choose_115 ?_
                  refine g_get (pc := 116) X inlX7 0 rfl rfl 8 (by decide) mw_5_20 rfl dX7_choose_116 ?_
                  refine g_iload_n (pc := 119) X 0 rfl dX7_choose_119 ?_
                  refine g_dup2 (pc := 120) X rfl rfl dX7_choose_120 ?_
                  refine g_ialdI (pc := 121) X 5 rfl (b_i.1) (by omega) (Int.le_trans b_i.2 (by decide)) dX7_choose_121 ?_
                  refine g_nameI (fun y18 ey18 => ?_)
                  have by18 : (-2147483648) ≤ y18 ∧ y18 ≤ 2147483647 := by rw [ey18]; exact hf112_h_Hg2 _ (by omega)
                  refine g_aload_n (pc := 122) X 1 rfl dX7_choose_122 ?_
                  refine g_get (pc := 123) X inlX7 0 rfl rfl 6 (by decide) mw_5_17 rfl dX7_choose_123 ?_
                  refine g_iload_n (pc := 126) X 2 rfl dX7_choose_126 ?_
                  refine g_ialdI (pc := 127) X 3 rfl (b_wl.1) (by omega) (Int.le_trans b_wl.2 (by decide)) dX7_choose_127 ?_
                  refine g_nameI (fun y19 ey19 => ?_)
                  have by19 : (-2147483648) ≤ y19 ∧ y19 ≤ 2147483647 := by rw [ey19]; exact h_Hn _ (by omega)
                  refine g_isubI (pc := 128) X dX7_choose_128 ?_
                  refine g_any (fun y20 by20 => ?_)
                  refine g_iastG (pc := 129) X 5 rfl (b_i.1) (by omega) (Int.le_trans b_i.2 (by decide)) (ws' := fun F21 => [cO_irrviirrrrri h0 7 hb h_papers h_sizes hv hp hn h_needs h_hidden h_given h_chosen h_picked y16, cA Z h_papers 0 4 Hp, cA Z h_sizes 0 4 Hs, cA Z h_needs 0 8 Hn, cA Z h_hidden 2 8 Hh, cA Z h_given 0 4 F21, cA Z h_chosen 0 8 F14, cA Z h_picked 0 8 F15]) (fun _ => rfl) dX7_choose_129 (fun F21 eF21 => ?_)
                  have hF21 : ∀ j, j < 4 → (-2147483648) ≤ F21 j ∧ F21 j ≤ 2147483647 := by rw [eF21]; exact updI_B hf112_h_Hg2 (by omega)
                  refine g_iincI (pc := 130) X 0 rfl (by decide) (lv' := [(3, .int (iI (i + 1))), (0, .ref h0), (1, .int (iI wl)), (2, .int (iI sn))]) rfl dX7_choose_130 ?_
                  refine g_goto (pc := 133) X 25 (by decide) dX7_choose_133 ?_
                  exact ih (i + 1) y16 F21 F14 F15 (by omega) (hf112_b_hf2) (hF21) (hf112_h_Hc2) (hf112_h_Hk2) (by omega)
                · refine g_iload_n (pc := 98) X 3 rfl dX7_choose_98 ?_
                  refine g_goto (pc := 99) X 112 (by decide) dX7_choose_99 ?_
                  refine g_callV (pc := 112) X (k_X7_choose0 l Z h0 h_papers h_sizes hv h_needs h_hidden h_given h_chosen h_picked Hp Hs Hn Hh F10 F6 Hk1 (wl + 1) sn hb hp hn hf1 (by omega) b_sn b_hb b_hp b_hn b_hf1 (by omega) (h_Hp) (h_Hs) (h_Hn) (h_Hh) (hF10) (hF6) (h_Hk1)) iM_X7_choose mw_49_5 mw_49_6 mw_49_7 0 rfl rfl [0, 1, 2, 3, 4, 5, 6, 7] [] rfl (wr := []) rfl (by decide) rfl rfl (Nat.le_of_ble_eq_true rfl) (by decide) dX7_choose_112 (fun r w' hpo => ?_)
                  refine exN_4 hpo fun F22 F23 F24 y25 hz => anD_6 hz fun e_r e_w hf112_b_hf2 hf112_h_Hg2 hf112_h_Hc2 hf112_h_Hk2 => ?_; clear hz hpo; subst e_r; subst e_w
                  refine g_as (pc' := 115) (lv' := [(3, .int (iI i)), (0, .ref h0), (1, .int (iI wl)), (2, .int (iI sn))]) (st' := []) (ws' := [cO_irrviirrrrri h0 7 hb h_papers h_sizes hv hp hn h_needs h_hidden h_given h_chosen h_picked y25, cA Z h_papers 0 4 Hp, cA Z h_sizes 0 4 Hs, cA Z h_needs 0 8 Hn, cA Z h_hidden 2 8 Hh, cA Z h_given 0 4 F22, cA Z h_chosen 0 8 F23, cA Z h_picked 0 8 F24]) rfl rfl rfl rfl ?_
                  refine g_aload_n (pc := 115) X 1 rfl dX7_choose_115 ?_
                  refine g_get (pc := 116) X inlX7 0 rfl rfl 8 (by decide) mw_5_20 rfl dX7_choose_116 ?_
                  refine g_iload_n (pc := 119) X 0 rfl dX7_choose_119 ?_
                  refine g_dup2 (pc := 120) X rfl rfl dX7_choose_120 ?_
                  refine g_ialdI (pc := 121) X 5 rfl (b_i.1) (by omega) (Int.le_trans b_i.2 (by decide)) dX7_choose_121 ?_
                  refine g_nameI (fun y27 ey27 => ?_)
                  have by27 : (-2147483648) ≤ y27 ∧ y27 ≤ 2147483647 := by rw [ey27]; exact hf112_h_Hg2 _ (by omega)
                  refine g_aload_n (pc := 122) X 1 rfl dX7_choose_122 ?_
                  refine g_get (pc := 123) X inlX7 0 rfl rfl 6 (by decide) mw_5_17 rfl dX7_choose_123 ?_
                  refine g_iload_n (pc := 126) X 2 rfl dX7_choose_126 ?_
                  refine g_ialdI (pc := 127) X 3 rfl (b_wl.1) (by omega) (Int.le_trans b_wl.2 (by decide)) dX7_choose_127 ?_
                  refine g_nameI (fun y28 ey28 => ?_)
                  have by28 : (-2147483648) ≤ y28 ∧ y28 ≤ 2147483647 := by rw [ey28]; exact h_Hn _ (by omega)
                  refine g_isubI (pc := 128) X dX7_choose_128 ?_
                  refine g_any (fun y29 by29 => ?_)
                  refine g_iastG (pc := 129) X 5 rfl (b_i.1) (by omega) (Int.le_trans b_i.2 (by decide)) (ws' := fun F30 => [cO_irrviirrrrri h0 7 hb h_papers h_sizes hv hp hn h_needs h_hidden h_given h_chosen h_picked y25, cA Z h_papers 0 4 Hp, cA Z h_sizes 0 4 Hs, cA Z h_needs 0 8 Hn, cA Z h_hidden 2 8 Hh, cA Z h_given 0 4 F30, cA Z h_chosen 0 8 F23, cA Z h_picked 0 8 F24]) (fun _ => rfl) dX7_choose_129 (fun F30 eF30 => ?_)
                  have hF30 : ∀ j, j < 4 → (-2147483648) ≤ F30 j ∧ F30 j ≤ 2147483647 := by rw [eF30]; exact updI_B hf112_h_Hg2 (by omega)
                  refine g_iincI (pc := 130) X 0 rfl (by decide) (lv' := [(3, .int (iI (i + 1))), (0, .ref h0), (1, .int (iI wl)), (2, .int (iI sn))]) rfl dX7_choose_130 ?_
                  refine g_goto (pc := 133) X 25 (by decide) dX7_choose_133 ?_
                  exact ih (i + 1) y25 F30 F23 F24 (by omega) (hf112_b_hf2) (hF30) (hf112_h_Hc2) (hf112_h_Hk2) (by omega)
      exact loop25 _ 0 hf Hg Hc Hk (by omega) (b_hf) (h_Hg) (h_Hc) (h_Hk) (Nat.lt_succ_self _)
    · refine g_aload_n (pc := 17) X 0 rfl dX7_choose_17 ?_
      refine g_iload_n (pc := 18) X 2 rfl dX7_choose_18 ?_
      refine g_callV (pc := 19) X (k_X7_pick l Z h0 h_papers h_sizes hv h_needs h_hidden h_given h_chosen h_picked Hh Hc Hk sn hb hp hn hf b_sn b_hb b_hp b_hn b_hf (h_Hh) (h_Hc) (h_Hk)) iM_X7_pick mw_49_9 mw_49_10 mw_49_11 0 rfl rfl [0, 4, 6, 7] [1, 2, 3, 5] rfl (wr := [cA Z h_papers 0 4 Hp, cA Z h_sizes 0 4 Hs, cA Z h_needs 0 8 Hn, cA Z h_given 0 4 Hg]) rfl (by decide) rfl rfl (Nat.le_of_ble_eq_true rfl) (by decide) dX7_choose_19 (fun r w' hpo => ?_)
      refine exN_2 hpo fun F31 y32 hz => anD_4 hz fun e_r e_w hf19_b_hf2 hf19_h_Hk2 => ?_; clear hz hpo; subst e_r; subst e_w
      refine g_as (pc' := 22) (lv' := [(0, .ref h0), (1, .int (iI wl)), (2, .int (iI sn))]) (st' := []) (ws' := [cA Z h_papers 0 4 Hp, cA Z h_sizes 0 4 Hs, cA Z h_needs 0 8 Hn, cA Z h_given 0 4 Hg, cO_irrviirrrrri h0 7 hb h_papers h_sizes hv hp hn h_needs h_hidden h_given h_chosen h_picked y32, cA Z h_hidden 2 8 Hh, cA Z h_chosen 0 8 Hc, cA Z h_picked 0 8 F31]) rfl rfl rfl rfl ?_
      refine g_ws (ws' := [cO_irrviirrrrri h0 7 hb h_papers h_sizes hv hp hn h_needs h_hidden h_given h_chosen h_picked y32, cA Z h_papers 0 4 Hp, cA Z h_sizes 0 4 Hs, cA Z h_needs 0 8 Hn, cA Z h_hidden 2 8 Hh, cA Z h_given 0 4 Hg, cA Z h_chosen 0 8 Hc, cA Z h_picked 0 8 F31]) [4, 0, 1, 2, 5, 3, 6, 7] (by decide) rfl ?_
      exact g_vret (pc := 22) X hA (⟨Hg, Hc, F31, y32, rfl, rfl, (hf19_b_hf2), (h_Hg), (h_Hc), (hf19_h_Hk2)⟩) (by decide) (by decide) dX7_choose_22
  · exact g_vret (pc := 8) X hA (⟨Hg, Hc, Hk, hf, rfl, rfl, (b_hf), (h_Hg), (h_Hc), (h_Hk)⟩) (by decide) (by decide) dX7_choose_8

set_option maxHeartbeats 4000000 in
set_option maxRecDepth 100000 in
theorem k_X7_choose2 (l : Launch) (Z : gZ) (h0 : Nat) (h_papers : Nat) (h_sizes : Nat) (hv : Value) (h_needs : Nat) (h_hidden : Nat) (h_given : Nat) (h_chosen : Nat) (h_picked : Nat) (Hp : Nat → Int) (Hs : Nat → Int) (Hn : Nat → Int) (Hh : Nat → Int) (Hg : Nat → Int) (Hc : Nat → Int) (Hk : Nat → Int) (wl : Int) (sn : Int) (hb : Int) (hp : Int) (hn : Int) (hf : Int) (b_wl : 0 ≤ wl ∧ wl ≤ 8) (b_sn : (-2147483648) ≤ sn ∧ sn ≤ 2147483647) (b_hb : 0 ≤ hb ∧ hb ≤ 4) (b_hp : (-2147483648) ≤ hp ∧ hp ≤ 2147483647) (b_hn : 0 ≤ hn ∧ hn ≤ 8) (b_hf : (-2147483648) ≤ hf ∧ hf ≤ 2147483647) (hd : hn - wl ≤ 2) (h_Hp : ∀ j, j < 4 → 0 ≤ Hp j ∧ Hp j ≤ 3) (h_Hs : ∀ j, j < 4 → 0 ≤ Hs j ∧ Hs j ≤ 30) (h_Hn : ∀ j, j < 8 → (-2147483648) ≤ Hn j ∧ Hn j ≤ 2147483647) (h_Hh : ∀ j, j < 8 → 0 ≤ Hh j ∧ Hh j ≤ 1) (h_Hg : ∀ j, j < 4 → (-2147483648) ≤ Hg j ∧ Hg j ≤ 2147483647) (h_Hc : ∀ j, j < 8 → 0 ≤ Hc j ∧ Hc j ≤ 3) (h_Hk : ∀ j, j < 8 → 0 ≤ Hk j ∧ Hk j ≤ 3) : Con l Z yX7_choose cX7_choose 4 none 5 113 0 0 [.ref h0, .int (iI wl), .int (iI sn)] [cO_irrviirrrrri h0 7 hb h_papers h_sizes hv hp hn h_needs h_hidden h_given h_chosen h_picked hf, cA Z h_papers 0 4 Hp, cA Z h_sizes 0 4 Hs, cA Z h_needs 0 8 Hn, cA Z h_hidden 2 8 Hh, cA Z h_given 0 4 Hg, cA Z h_chosen 0 8 Hc, cA Z h_picked 0 8 Hk] (fun r w' => ∃ (Hg2 : Nat → Int) (Hc2 : Nat → Int) (Hk2 : Nat → Int) (hf2 : Int), (r = none) ∧ (w' = [cO_irrviirrrrri h0 7 hb h_papers h_sizes hv hp hn h_needs h_hidden h_given h_chosen h_picked hf2, cA Z h_papers 0 4 Hp, cA Z h_sizes 0 4 Hs, cA Z h_needs 0 8 Hn, cA Z h_hidden 2 8 Hh, cA Z h_given 0 4 Hg2, cA Z h_chosen 0 8 Hc2, cA Z h_picked 0 8 Hk2]) ∧ ((-2147483648) ≤ hf2 ∧ hf2 ≤ 2147483647) ∧ (∀ j, j < 4 → (-2147483648) ≤ Hg2 j ∧ Hg2 j ≤ 2147483647) ∧ (∀ j, j < 8 → 0 ≤ Hc2 j ∧ Hc2 j ≤ 3) ∧ (∀ j, j < 8 → 0 ≤ Hk2 j ∧ Hk2 j ≤ 3)) := by
  refine enter (by decide) (Nat.le_of_ble_eq_true rfl) ?_
  intro p e s m args below meth c A X hnm hA
  have X : Cx p s m args meth c cX7_choose 4 none RX7 Z A := X
  refine g_as (pc' := 0) (lv' := [(0, .ref h0), (1, .int (iI wl)), (2, .int (iI sn))]) (st' := []) (ws' := [cO_irrviirrrrri h0 7 hb h_papers h_sizes hv hp hn h_needs h_hidden h_given h_chosen h_picked hf, cA Z h_papers 0 4 Hp, cA Z h_sizes 0 4 Hs, cA Z h_needs 0 8 Hn, cA Z h_hidden 2 8 Hh, cA Z h_given 0 4 Hg, cA Z h_chosen 0 8 Hc, cA Z h_picked 0 8 Hk]) rfl rfl rfl rfl ?_
  refine g_iload_n (pc := 0) X 2 rfl dX7_choose_0 ?_
  refine g_aload_n (pc := 1) X 0 rfl dX7_choose_1 ?_
  refine g_get (pc := 2) X inlX7 0 rfl rfl 11 (by decide) mw_49_4 rfl dX7_choose_2 ?_
  refine g_icmp_ltI (pc := 5) X 9 (by decide) b_sn b_hf dX7_choose_5 (fun c5 => ?_) (fun c5 => ?_)
  · refine g_iload_n (pc := 9) X 1 rfl dX7_choose_9 ?_
    refine g_aload_n (pc := 10) X 0 rfl dX7_choose_10 ?_
    refine g_get (pc := 11) X inlX7 0 rfl rfl 5 (by decide) mw_48_10 rfl dX7_choose_11 ?_
    refine g_icmp_ltI (pc := 14) X 23 (by decide) (inRb b_wl (by decide) (by decide)) (inRb b_hn (by decide) (by decide)) dX7_choose_14 (fun c14 => ?_) (fun c14 => ?_)
    · refine g_iconst (pc := 23) X (iI 0) (by rfl) dX7_choose_23 ?_
      refine g_istore_n (pc := 24) X (i := 3) rfl (by decide) (lv' := [(3, .int (iI 0)), (0, .ref h0), (1, .int (iI wl)), (2, .int (iI sn))]) rfl dX7_choose_24 ?_
      have loop25 : ∀ (fuel : Nat) (i : Int) (hf1 : Int) (Hg1 : Nat → Int) (Hc1 : Nat → Int) (Hk1 : Nat → Int), (0 ≤ i ∧ i ≤ 4) → ((-2147483648) ≤ hf1 ∧ hf1 ≤ 2147483647) → (∀ j, j < 4 → (-2147483648) ≤ Hg1 j ∧ Hg1 j ≤ 2147483647) → (∀ j, j < 8 → 0 ≤ Hc1 j ∧ Hc1 j ≤ 3) → (∀ j, j < 8 → 0 ≤ Hk1 j ∧ Hk1 j ≤ 3) → (5 - i).toNat < fuel → Gs p l e ({ frames := 5, cells := 0, slots := 0, locals := 113 } : Room) s m args below meth c (MQ below (gPost Z [cO_irrviirrrrri h0 7 hb h_papers h_sizes hv hp hn h_needs h_hidden h_given h_chosen h_picked hf, cA Z h_papers 0 4 Hp, cA Z h_sizes 0 4 Hs, cA Z h_needs 0 8 Hn, cA Z h_hidden 2 8 Hh, cA Z h_given 0 4 Hg, cA Z h_chosen 0 8 Hc, cA Z h_picked 0 8 Hk] s.heap.size (fun r w' => ∃ (Hg2 : Nat → Int) (Hc2 : Nat → Int) (Hk2 : Nat → Int) (hf2 : Int), (r = none) ∧ (w' = [cO_irrviirrrrri h0 7 hb h_papers h_sizes hv hp hn h_needs h_hidden h_given h_chosen h_picked hf2, cA Z h_papers 0 4 Hp, cA Z h_sizes 0 4 Hs, cA Z h_needs 0 8 Hn, cA Z h_hidden 2 8 Hh, cA Z h_given 0 4 Hg2, cA Z h_chosen 0 8 Hc2, cA Z h_picked 0 8 Hk2]) ∧ ((-2147483648) ≤ hf2 ∧ hf2 ≤ 2147483647) ∧ (∀ j, j < 4 → (-2147483648) ≤ Hg2 j ∧ Hg2 j ≤ 2147483647) ∧ (∀ j, j < 8 → 0 ≤ Hc2 j ∧ Hc2 j ≤ 3) ∧ (∀ j, j < 8 → 0 ≤ Hk2 j ∧ Hk2 j ≤ 3))) args s 0 0 (va_A [cO_irrviirrrrri h0 7 hb h_papers h_sizes hv hp hn h_needs h_hidden h_given h_chosen h_picked hf, cA Z h_papers 0 4 Hp, cA Z h_sizes 0 4 Hs, cA Z h_needs 0 8 Hn, cA Z h_hidden 2 8 Hh, cA Z h_given 0 4 Hg, cA Z h_chosen 0 8 Hc, cA Z h_picked 0 8 Hk] s.heap.size)) Z A 4 0 0 25 [(3, .int (iI i)), (0, .ref h0), (1, .int (iI wl)), (2, .int (iI sn))] [] [cO_irrviirrrrri h0 7 hb h_papers h_sizes hv hp hn h_needs h_hidden h_given h_chosen h_picked hf1, cA Z h_papers 0 4 Hp, cA Z h_sizes 0 4 Hs, cA Z h_needs 0 8 Hn, cA Z h_hidden 2 8 Hh, cA Z h_given 0 4 Hg1, cA Z h_chosen 0 8 Hc1, cA Z h_picked 0 8 Hk1] := by
        intro fuel
        induction fuel with
        | zero => intro i hf1 Hg1 Hc1 Hk1 _ _ _ _ _ hm; exact absurd hm (Nat.not_lt_zero _)
        | succ fuel ih =>
          intro i hf1 Hg1 Hc1 Hk1 b_i b_hf1 h_Hg1 h_Hc1 h_Hk1 hm
          refine g_iload_n (pc := 25) X 0 rfl dX7_choose_25 ?_
          refine g_aload_n (pc := 26) X 1 rfl dX7_choose_26 ?_
          refine g_get (pc := 27) X inlX7 0 rfl rfl 0 (by decide) mw_47_7 rfl dX7_choose_27 ?_
          refine g_icmp_geI (pc := 30) X 136 (by decide) (inRb b_i (by decide) (by decide)) (inRb b_hb (by decide) (by decide)) dX7_choose_30 (fun c30 => ?_) (fun c30 => ?_)
          · exact g_vret (pc := 136) X hA (⟨Hg1, Hc1, Hk1, hf1, rfl, rfl, (b_hf1), (h_Hg1), (h_Hc1), (h_Hk1)⟩) (by decide) (by decide) dX7_choose_136
          · refine g_aload_n (pc := 33) X 1 rfl dX7_choose_33 ?_
            refine g_get (pc := 34) X inlX7 0 rfl rfl 1 (by decide) mw_5_15 rfl dX7_choose_34 ?_
            refine g_iload_n (pc := 37) X 0 rfl dX7_choose_37 ?_
            refine g_ialdI (pc := 38) X 1 rfl (b_i.1) (by omega) (Int.le_trans b_i.2 (by decide)) dX7_choose_38 ?_
            refine g_nameI (fun y1 ey1 => ?_)
            have by1 : 0 ≤ y1 ∧ y1 ≤ 3 := by rw [ey1]; exact h_Hp _ (by omega)
            refine g_aload_n (pc := 39) X 1 rfl dX7_choose_39 ?_
            refine g_get (pc := 40) X inlX7 0 rfl rfl 4 (by decide) mw_48_6 rfl dX7_choose_40 ?_
            refine g_icmp_neI (pc := 43) X 130 (by decide) (inRb by1 (by decide) (by decide)) b_hp dX7_choose_43 (fun c43 => ?_) (fun c43 => ?_)
            · refine g_iincI (pc := 130) X 0 rfl (by decide) (lv' := [(3, .int (iI (i + 1))), (0, .ref h0), (1, .int (iI wl)), (2, .int (iI sn))]) rfl dX7_choose_130 ?_
              refine g_goto (pc := 133) X 25 (by decide) dX7_choose_133 ?_
              exact ih (i + 1) hf1 Hg1 Hc1 Hk1 (by omega) (b_hf1) (h_Hg1) (h_Hc1) (h_Hk1) (by omega)
            · refine g_aload_n (pc := 46) X 1 rfl dX7_choose_46 ?_
              refine g_get (pc := 47) X inlX7 0 rfl rfl 8 (by decide) mw_5_20 rfl dX7_choose_47 ?_
              refine g_iload_n (pc := 50) X 0 rfl dX7_choose_50 ?_
              refine g_ialdI (pc := 51) X 5 rfl (b_i.1) (by omega) (Int.le_trans b_i.2 (by decide)) dX7_choose_51 ?_
              refine g_nameI (fun y2 ey2 => ?_)
              have by2 : (-2147483648) ≤ y2 ∧ y2 ≤ 2147483647 := by rw [ey2]; exact h_Hg1 _ (by omega)
              refine g_aload_n (pc := 52) X 1 rfl dX7_choose_52 ?_
              refine g_get (pc := 53) X inlX7 0 rfl rfl 6 (by decide) mw_5_17 rfl dX7_choose_53 ?_
              refine g_iload_n (pc := 56) X 2 rfl dX7_choose_56 ?_
              refine g_ialdI (pc := 57) X 3 rfl (b_wl.1) (by omega) (Int.le_trans b_wl.2 (by decide)) dX7_choose_57 ?_
              refine g_nameI (fun y3 ey3 => ?_)
              have by3 : (-2147483648) ≤ y3 ∧ y3 ≤ 2147483647 := by rw [ey3]; exact h_Hn _ (by omega)
              refine g_iaddI (pc := 58) X dX7_choose_58 ?_
              refine g_any (fun y4 by4 => ?_)
              refine g_aload_n (pc := 59) X 1 rfl dX7_choose_59 ?_
              refine g_get (pc := 60) X inlX7 0 rfl rfl 2 (by decide) mw_5_16 rfl dX7_choose_60 ?_
              refine g_iload_n (pc := 63) X 0 rfl dX7_choose_63 ?_
              refine g_ialdI (pc := 64) X 2 rfl (b_i.1) (by omega) (Int.le_trans b_i.2 (by decide)) dX7_choose_64 ?_
              refine g_nameI (fun y5 ey5 => ?_)
              have by5 : 0 ≤ y5 ∧ y5 ≤ 30 := by rw [ey5]; exact h_Hs _ (by omega)
              refine g_icmp_gtI (pc := 65) X 130 (by decide) by4 (inRb by5 (by decide) (by decide)) dX7_choose_65 (fun c65 => ?_) (fun c65 => ?_)
              · refine g_iincI (pc := 130) X 0 rfl (by decide) (lv' := [(3, .int (iI (i + 1))), (0, .ref h0), (1, .int (iI wl)), (2, .int (iI sn))]) rfl dX7_choose_130 ?_
                refine g_goto (pc := 133) X 25 (by decide) dX7_choose_133 ?_
                exact ih (i + 1) hf1 Hg1 Hc1 Hk1 (by omega) (b_hf1) (h_Hg1) (h_Hc1) (h_Hk1) (by omega)
              · refine g_aload_n (pc := 68) X 1 rfl dX7_choose_68 ?_
                refine g_get (pc := 69) X inlX7 0 rfl rfl 9 (by decide) mw_5_21 rfl dX7_choose_69 ?_
                refine g_iload_n (pc := 72) X 2 rfl dX7_choose_72 ?_
                refine g_iload_n (pc := 73) X 0 rfl dX7_choose_73 ?_
                refine g_iastG (pc := 74) X 6 rfl (b_wl.1) (by omega) (Int.le_trans b_wl.2 (by decide)) (ws' := fun F6 => [cO_irrviirrrrri h0 7 hb h_papers h_sizes hv hp hn h_needs h_hidden h_given h_chosen h_picked hf1, cA Z h_papers 0 4 Hp, cA Z h_sizes 0 4 Hs, cA Z h_needs 0 8 Hn, cA Z h_hidden 2 8 Hh, cA Z h_given 0 4 Hg1, cA Z h_chosen 0 8 F6, cA Z h_picked 0 8 Hk1]) (fun _ => rfl) dX7_choose_74 (fun F6 eF6 => ?_)
                have hF6 : ∀ j, j < 8 → 0 ≤ F6 j ∧ F6 j ≤ 3 := by rw [eF6]; exact updI_B h_Hc1 (by omega)
                refine g_aload_n (pc := 75) X 1 rfl dX7_choose_75 ?_
                refine g_get (pc := 76) X inlX7 0 rfl rfl 8 (by decide) mw_5_20 rfl dX7_choose_76 ?_
                refine g_iload_n (pc := 79) X 0 rfl dX7_choose_79 ?_
                refine g_dup2 (pc := 80) X rfl rfl dX7_choose_80 ?_
                refine g_ialdI (pc := 81) X 5 rfl (b_i.1) (by omega) (Int.le_trans b_i.2 (by decide)) dX7_choose_81 ?_
                refine g_nameI (fun y7 ey7 => ?_)
                have by7 : (-2147483648) ≤ y7 ∧ y7 ≤ 2147483647 := by rw [ey7]; exact h_Hg1 _ (by omega)
                refine g_aload_n (pc := 82) X 1 rfl dX7_choose_82 ?_
                refine g_get (pc := 83) X inlX7 0 rfl rfl 6 (by decide) mw_5_17 rfl dX7_choose_83 ?_
                refine g_iload_n (pc := 86) X 2 rfl dX7_choose_86 ?_
                refine g_ialdI (pc := 87) X 3 rfl (b_wl.1) (by omega) (Int.le_trans b_wl.2 (by decide)) dX7_choose_87 ?_
                refine g_nameI (fun y8 ey8 => ?_)
                have by8 : (-2147483648) ≤ y8 ∧ y8 ≤ 2147483647 := by rw [ey8]; exact h_Hn _ (by omega)
                refine g_iaddI (pc := 88) X dX7_choose_88 ?_
                refine g_any (fun y9 by9 => ?_)
                refine g_iastG (pc := 89) X 5 rfl (b_i.1) (by omega) (Int.le_trans b_i.2 (by decide)) (ws' := fun F10 => [cO_irrviirrrrri h0 7 hb h_papers h_sizes hv hp hn h_needs h_hidden h_given h_chosen h_picked hf1, cA Z h_papers 0 4 Hp, cA Z h_sizes 0 4 Hs, cA Z h_needs 0 8 Hn, cA Z h_hidden 2 8 Hh, cA Z h_given 0 4 F10, cA Z h_chosen 0 8 F6, cA Z h_picked 0 8 Hk1]) (fun _ => rfl) dX7_choose_89 (fun F10 eF10 => ?_)
                have hF10 : ∀ j, j < 4 → (-2147483648) ≤ F10 j ∧ F10 j ≤ 2147483647 := by rw [eF10]; exact updI_B h_Hg1 (by omega)
                refine g_aload_n (pc := 90) X 1 rfl dX7_choose_90 ?_
                refine g_iload_n (pc := 91) X 2 rfl dX7_choose_91 ?_
                refine g_iconst (pc := 92) X (iI 1) (by rfl) dX7_choose_92 ?_
                refine g_iaddI (pc := 93) X dX7_choose_93 ?_
                refine g_iload_n (pc := 94) X 2 rfl dX7_choose_94 ?_
                refine g_if_neI (pc := 95) X 102 (by decide) (inRb b_wl (by decide) (by decide)) dX7_choose_95 (fun c95 => ?_) (fun c95 => ?_)
                · refine g_iload_n (pc := 102) X 3 rfl dX7_choose_102 ?_
                  refine g_aload_n (pc := 103) X 1 rfl dX7_choose_103 ?_
                  refine g_iload_n (pc := 104) X 2 rfl dX7_choose_104 ?_
                  refine g_iconst (pc := 105) X (iI 1) (by rfl) dX7_choose_105 ?_
                  refine g_isubI (pc := 106) X dX7_choose_106 ?_
                  refine g_iload_n (pc := 107) X 2 rfl dX7_choose_107 ?_
                  refine g_callV (pc := 108) X (k_X7_seenBetween l Z h0 h_papers h_sizes hv h_needs h_hidden h_given h_chosen h_picked Hh F6 (wl - 1) wl hb hp hn hf1 (by omega) (by omega) b_hb b_hp b_hn b_hf1 (h_Hh) (hF6)) iM_X7_seenBetween mw_49_13 mw_49_14 mw_49_15 0 rfl rfl [0, 4, 6] [1, 2, 3, 5, 7] rfl (wr := [cA Z h_papers 0 4 Hp, cA Z h_sizes 0 4 Hs, cA Z h_needs 0 8 Hn, cA Z h_given 0 4 F10, cA Z h_picked 0 8 Hk1]) rfl (by decide) rfl rfl (Nat.le_of_ble_eq_true rfl) (by decide) dX7_choose_108 (fun r w' hpo => ?_)
                  refine exN_1 hpo fun y11 hz => anD_3 hz fun e_r e_w hf108_b_y => ?_; clear hz hpo; subst e_r; subst e_w
                  refine g_as (pc' := 111) (lv' := [(3, .int (iI i)), (0, .ref h0), (1, .int (iI wl)), (2, .int (iI sn))]) (st' := [.int (iI y11), .int (iI sn), .int (iI (wl + 1)), .ref h0]) (ws' := [cA Z h_papers 0 4 Hp, cA Z h_sizes 0 4 Hs, cA Z h_needs 0 8 Hn, cA Z h_given 0 4 F10, cA Z h_picked 0 8 Hk1, cO_irrviirrrrri h0 7 hb h_papers h_sizes hv hp hn h_needs h_hidden h_given h_chosen h_picked hf1, cA Z h_hidden 2 8 Hh, cA Z h_chosen 0 8 F6]) rfl rfl rfl rfl ?_
                  refine g_iaddI (pc := 111) X dX7_choose_111 ?_
                  refine g_callV (pc := 112) X (k_X7_choose1 l Z h0 h_papers h_sizes hv h_needs h_hidden h_given h_chosen h_picked Hp Hs Hn Hh F10 F6 Hk1 (wl + 1) (sn + y11) hb hp hn hf1 (by omega) (by omega) b_hb b_hp b_hn b_hf1 (by omega) (h_Hp) (h_Hs) (h_Hn) (h_Hh) (hF10) (hF6) (h_Hk1)) iM_X7_choose mw_49_5 mw_49_6 mw_49_7 5 rfl rfl [5, 0, 1, 2, 6, 3, 7, 4] [] rfl (wr := []) rfl (by decide) rfl rfl (Nat.le_of_ble_eq_true rfl) (by decide) dX7_choose_112 (fun r w' hpo => ?_)
                  refine exN_4 hpo fun F13 F14 F15 y16 hz => anD_6 hz fun e_r e_w hf112_b_hf2 hf112_h_Hg2 hf112_h_Hc2 hf112_h_Hk2 => ?_; clear hz hpo; subst e_r; subst e_w
                  refine g_as (pc' := 115) (lv' := [(3, .int (iI i)), (0, .ref h0), (1, .int (iI wl)), (2, .int (iI sn))]) (st' := []) (ws' := [cO_irrviirrrrri h0 7 hb h_papers h_sizes hv hp hn h_needs h_hidden h_given h_chosen h_picked y16, cA Z h_papers 0 4 Hp, cA Z h_sizes 0 4 Hs, cA Z h_needs 0 8 Hn, cA Z h_hidden 2 8 Hh, cA Z h_given 0 4 F13, cA Z h_chosen 0 8 F14, cA Z h_picked 0 8 F15]) rfl rfl rfl rfl ?_
                  refine g_aload_n (pc := 115) X 1 rfl dX7_choose_115 ?_
                  refine g_get (pc := 116) X inlX7 0 rfl rfl 8 (by decide) mw_5_20 rfl dX7_choose_116 ?_
                  refine g_iload_n (pc := 119) X 0 rfl dX7_choose_119 ?_
                  refine g_dup2 (pc := 120) X rfl rfl dX7_choose_120 ?_
                  refine g_ialdI (pc := 121) X 5 rfl (b_i.1) (by omega) (Int.le_trans b_i.2 (by decide)) dX7_choose_121 ?_
                  refine g_nameI (fun y18 ey18 => ?_)
                  have by18 : (-2147483648) ≤ y18 ∧ y18 ≤ 2147483647 := by rw [ey18]; exact hf112_h_Hg2 _ (by omega)
                  refine g_aload_n (pc := 122) X 1 rfl dX7_choose_122 ?_
                  refine g_get (pc := 123) X inlX7 0 rfl rfl 6 (by decide) mw_5_17 rfl dX7_choose_123 ?_
                  refine g_iload_n (pc := 126) X 2 rfl dX7_choose_126 ?_
                  refine g_ialdI (pc := 127) X 3 rfl (b_wl.1) (by omega) (Int.le_trans b_wl.2 (by decide)) dX7_choose_127 ?_
                  refine g_nameI (fun y19 ey19 => ?_)
                  have by19 : (-2147483648) ≤ y19 ∧ y19 ≤ 2147483647 := by rw [ey19]; exact h_Hn _ (by omega)
                  refine g_isubI (pc := 128) X dX7_choose_128 ?_
                  refine g_any (fun y20 by20 => ?_)
                  refine g_iastG (pc := 129) X 5 rfl (b_i.1) (by omega) (Int.le_trans b_i.2 (by decide)) (ws' := fun F21 => [cO_irrviirrrrri h0 7 hb h_papers h_sizes hv hp hn h_needs h_hidden h_given h_chosen h_picked y16, cA Z h_papers 0 4 Hp, cA Z h_sizes 0 4 Hs, cA Z h_needs 0 8 Hn, cA Z h_hidden 2 8 Hh, cA Z h_given 0 4 F21, cA Z h_chosen 0 8 F14, cA Z h_picked 0 8 F15]) (fun _ => rfl) dX7_choose_129 (fun F21 eF21 => ?_)
                  have hF21 : ∀ j, j < 4 → (-2147483648) ≤ F21 j ∧ F21 j ≤ 2147483647 := by rw [eF21]; exact updI_B hf112_h_Hg2 (by omega)
                  refine g_iincI (pc := 130) X 0 rfl (by decide) (lv' := [(3, .int (iI (i + 1))), (0, .ref h0), (1, .int (iI wl)), (2, .int (iI sn))]) rfl dX7_choose_130 ?_
                  refine g_goto (pc := 133) X 25 (by decide) dX7_choose_133 ?_
                  exact ih (i + 1) y16 F21 F14 F15 (by omega) (hf112_b_hf2) (hF21) (hf112_h_Hc2) (hf112_h_Hk2) (by omega)
                · refine g_iload_n (pc := 98) X 3 rfl dX7_choose_98 ?_
                  refine g_goto (pc := 99) X 112 (by decide) dX7_choose_99 ?_
                  refine g_callV (pc := 112) X (k_X7_choose1 l Z h0 h_papers h_sizes hv h_needs h_hidden h_given h_chosen h_picked Hp Hs Hn Hh F10 F6 Hk1 (wl + 1) sn hb hp hn hf1 (by omega) b_sn b_hb b_hp b_hn b_hf1 (by omega) (h_Hp) (h_Hs) (h_Hn) (h_Hh) (hF10) (hF6) (h_Hk1)) iM_X7_choose mw_49_5 mw_49_6 mw_49_7 0 rfl rfl [0, 1, 2, 3, 4, 5, 6, 7] [] rfl (wr := []) rfl (by decide) rfl rfl (Nat.le_of_ble_eq_true rfl) (by decide) dX7_choose_112 (fun r w' hpo => ?_)
                  refine exN_4 hpo fun F22 F23 F24 y25 hz => anD_6 hz fun e_r e_w hf112_b_hf2 hf112_h_Hg2 hf112_h_Hc2 hf112_h_Hk2 => ?_; clear hz hpo; subst e_r; subst e_w
                  refine g_as (pc' := 115) (lv' := [(3, .int (iI i)), (0, .ref h0), (1, .int (iI wl)), (2, .int (iI sn))]) (st' := []) (ws' := [cO_irrviirrrrri h0 7 hb h_papers h_sizes hv hp hn h_needs h_hidden h_given h_chosen h_picked y25, cA Z h_papers 0 4 Hp, cA Z h_sizes 0 4 Hs, cA Z h_needs 0 8 Hn, cA Z h_hidden 2 8 Hh, cA Z h_given 0 4 F22, cA Z h_chosen 0 8 F23, cA Z h_picked 0 8 F24]) rfl rfl rfl rfl ?_
                  refine g_aload_n (pc := 115) X 1 rfl dX7_choose_115 ?_
                  refine g_get (pc := 116) X inlX7 0 rfl rfl 8 (by decide) mw_5_20 rfl dX7_choose_116 ?_
                  refine g_iload_n (pc := 119) X 0 rfl dX7_choose_119 ?_
                  refine g_dup2 (pc := 120) X rfl rfl dX7_choose_120 ?_
                  refine g_ialdI (pc := 121) X 5 rfl (b_i.1) (by omega) (Int.le_trans b_i.2 (by decide)) dX7_choose_121 ?_
                  refine g_nameI (fun y27 ey27 => ?_)
                  have by27 : (-2147483648) ≤ y27 ∧ y27 ≤ 2147483647 := by rw [ey27]; exact hf112_h_Hg2 _ (by omega)
                  refine g_aload_n (pc := 122) X 1 rfl dX7_choose_122 ?_
                  refine g_get (pc := 123) X inlX7 0 rfl rfl 6 (by decide) mw_5_17 rfl dX7_choose_123 ?_
                  refine g_iload_n (pc := 126) X 2 rfl dX7_choose_126 ?_
                  refine g_ialdI (pc := 127) X 3 rfl (b_wl.1) (by omega) (Int.le_trans b_wl.2 (by decide)) dX7_choose_127 ?_
                  refine g_nameI (fun y28 ey28 => ?_)
                  have by28 : (-2147483648) ≤ y28 ∧ y28 ≤ 2147483647 := by rw [ey28]; exact h_Hn _ (by omega)
                  refine g_isubI (pc := 128) X dX7_choose_128 ?_
                  refine g_any (fun y29 by29 => ?_)
                  refine g_iastG (pc := 129) X 5 rfl (b_i.1) (by omega) (Int.le_trans b_i.2 (by decide)) (ws' := fun F30 => [cO_irrviirrrrri h0 7 hb h_papers h_sizes hv hp hn h_needs h_hidden h_given h_chosen h_picked y25, cA Z h_papers 0 4 Hp, cA Z h_sizes 0 4 Hs, cA Z h_needs 0 8 Hn, cA Z h_hidden 2 8 Hh, cA Z h_given 0 4 F30, cA Z h_chosen 0 8 F23, cA Z h_picked 0 8 F24]) (fun _ => rfl) dX7_choose_129 (fun F30 eF30 => ?_)
                  have hF30 : ∀ j, j < 4 → (-2147483648) ≤ F30 j ∧ F30 j ≤ 2147483647 := by rw [eF30]; exact updI_B hf112_h_Hg2 (by omega)
                  refine g_iincI (pc := 130) X 0 rfl (by decide) (lv' := [(3, .int (iI (i + 1))), (0, .ref h0), (1, .int (iI wl)), (2, .int (iI sn))]) rfl dX7_choose_130 ?_
                  refine g_goto (pc := 133) X 25 (by decide) dX7_choose_133 ?_
                  exact ih (i + 1) y25 F30 F23 F24 (by omega) (hf112_b_hf2) (hF30) (hf112_h_Hc2) (hf112_h_Hk2) (by omega)
      exact loop25 _ 0 hf Hg Hc Hk (by omega) (b_hf) (h_Hg) (h_Hc) (h_Hk) (Nat.lt_succ_self _)
    · refine g_aload_n (pc := 17) X 0 rfl dX7_choose_17 ?_
      refine g_iload_n (pc := 18) X 2 rfl dX7_choose_18 ?_
      refine g_callV (pc := 19) X (k_X7_pick l Z h0 h_papers h_sizes hv h_needs h_hidden h_given h_chosen h_picked Hh Hc Hk sn hb hp hn hf b_sn b_hb b_hp b_hn b_hf (h_Hh) (h_Hc) (h_Hk)) iM_X7_pick mw_49_9 mw_49_10 mw_49_11 0 rfl rfl [0, 4, 6, 7] [1, 2, 3, 5] rfl (wr := [cA Z h_papers 0 4 Hp, cA Z h_sizes 0 4 Hs, cA Z h_needs 0 8 Hn, cA Z h_given 0 4 Hg]) rfl (by decide) rfl rfl (Nat.le_of_ble_eq_true rfl) (by decide) dX7_choose_19 (fun r w' hpo => ?_)
      refine exN_2 hpo fun F31 y32 hz => anD_4 hz fun e_r e_w hf19_b_hf2 hf19_h_Hk2 => ?_; clear hz hpo; subst e_r; subst e_w
      refine g_as (pc' := 22) (lv' := [(0, .ref h0), (1, .int (iI wl)), (2, .int (iI sn))]) (st' := []) (ws' := [cA Z h_papers 0 4 Hp, cA Z h_sizes 0 4 Hs, cA Z h_needs 0 8 Hn, cA Z h_given 0 4 Hg, cO_irrviirrrrri h0 7 hb h_papers h_sizes hv hp hn h_needs h_hidden h_given h_chosen h_picked y32, cA Z h_hidden 2 8 Hh, cA Z h_chosen 0 8 Hc, cA Z h_picked 0 8 F31]) rfl rfl rfl rfl ?_
      refine g_ws (ws' := [cO_irrviirrrrri h0 7 hb h_papers h_sizes hv hp hn h_needs h_hidden h_given h_chosen h_picked y32, cA Z h_papers 0 4 Hp, cA Z h_sizes 0 4 Hs, cA Z h_needs 0 8 Hn, cA Z h_hidden 2 8 Hh, cA Z h_given 0 4 Hg, cA Z h_chosen 0 8 Hc, cA Z h_picked 0 8 F31]) [4, 0, 1, 2, 5, 3, 6, 7] (by decide) rfl ?_
      exact g_vret (pc := 22) X hA (⟨Hg, Hc, F31, y32, rfl, rfl, (hf19_b_hf2), (h_Hg), (h_Hc), (hf19_h_Hk2)⟩) (by decide) (by decide) dX7_choose_22
  · exact g_vret (pc := 8) X hA (⟨Hg, Hc, Hk, hf, rfl, rfl, (b_hf), (h_Hg), (h_Hc), (h_Hk)⟩) (by decide) (by decide) dX7_choose_8

set_option maxHeartbeats 4000000 in
set_option maxRecDepth 100000 in
theorem k_X7_choose3 (l : Launch) (Z : gZ) (h0 : Nat) (h_papers : Nat) (h_sizes : Nat) (hv : Value) (h_needs : Nat) (h_hidden : Nat) (h_given : Nat) (h_chosen : Nat) (h_picked : Nat) (Hp : Nat → Int) (Hs : Nat → Int) (Hn : Nat → Int) (Hh : Nat → Int) (Hg : Nat → Int) (Hc : Nat → Int) (Hk : Nat → Int) (wl : Int) (sn : Int) (hb : Int) (hp : Int) (hn : Int) (hf : Int) (b_wl : 0 ≤ wl ∧ wl ≤ 8) (b_sn : (-2147483648) ≤ sn ∧ sn ≤ 2147483647) (b_hb : 0 ≤ hb ∧ hb ≤ 4) (b_hp : (-2147483648) ≤ hp ∧ hp ≤ 2147483647) (b_hn : 0 ≤ hn ∧ hn ≤ 8) (b_hf : (-2147483648) ≤ hf ∧ hf ≤ 2147483647) (hd : hn - wl ≤ 3) (h_Hp : ∀ j, j < 4 → 0 ≤ Hp j ∧ Hp j ≤ 3) (h_Hs : ∀ j, j < 4 → 0 ≤ Hs j ∧ Hs j ≤ 30) (h_Hn : ∀ j, j < 8 → (-2147483648) ≤ Hn j ∧ Hn j ≤ 2147483647) (h_Hh : ∀ j, j < 8 → 0 ≤ Hh j ∧ Hh j ≤ 1) (h_Hg : ∀ j, j < 4 → (-2147483648) ≤ Hg j ∧ Hg j ≤ 2147483647) (h_Hc : ∀ j, j < 8 → 0 ≤ Hc j ∧ Hc j ≤ 3) (h_Hk : ∀ j, j < 8 → 0 ≤ Hk j ∧ Hk j ≤ 3) : Con l Z yX7_choose cX7_choose 4 none 6 136 0 0 [.ref h0, .int (iI wl), .int (iI sn)] [cO_irrviirrrrri h0 7 hb h_papers h_sizes hv hp hn h_needs h_hidden h_given h_chosen h_picked hf, cA Z h_papers 0 4 Hp, cA Z h_sizes 0 4 Hs, cA Z h_needs 0 8 Hn, cA Z h_hidden 2 8 Hh, cA Z h_given 0 4 Hg, cA Z h_chosen 0 8 Hc, cA Z h_picked 0 8 Hk] (fun r w' => ∃ (Hg2 : Nat → Int) (Hc2 : Nat → Int) (Hk2 : Nat → Int) (hf2 : Int), (r = none) ∧ (w' = [cO_irrviirrrrri h0 7 hb h_papers h_sizes hv hp hn h_needs h_hidden h_given h_chosen h_picked hf2, cA Z h_papers 0 4 Hp, cA Z h_sizes 0 4 Hs, cA Z h_needs 0 8 Hn, cA Z h_hidden 2 8 Hh, cA Z h_given 0 4 Hg2, cA Z h_chosen 0 8 Hc2, cA Z h_picked 0 8 Hk2]) ∧ ((-2147483648) ≤ hf2 ∧ hf2 ≤ 2147483647) ∧ (∀ j, j < 4 → (-2147483648) ≤ Hg2 j ∧ Hg2 j ≤ 2147483647) ∧ (∀ j, j < 8 → 0 ≤ Hc2 j ∧ Hc2 j ≤ 3) ∧ (∀ j, j < 8 → 0 ≤ Hk2 j ∧ Hk2 j ≤ 3)) := by
  refine enter (by decide) (Nat.le_of_ble_eq_true rfl) ?_
  intro p e s m args below meth c A X hnm hA
  have X : Cx p s m args meth c cX7_choose 4 none RX7 Z A := X
  refine g_as (pc' := 0) (lv' := [(0, .ref h0), (1, .int (iI wl)), (2, .int (iI sn))]) (st' := []) (ws' := [cO_irrviirrrrri h0 7 hb h_papers h_sizes hv hp hn h_needs h_hidden h_given h_chosen h_picked hf, cA Z h_papers 0 4 Hp, cA Z h_sizes 0 4 Hs, cA Z h_needs 0 8 Hn, cA Z h_hidden 2 8 Hh, cA Z h_given 0 4 Hg, cA Z h_chosen 0 8 Hc, cA Z h_picked 0 8 Hk]) rfl rfl rfl rfl ?_
  refine g_iload_n (pc := 0) X 2 rfl dX7_choose_0 ?_
  refine g_aload_n (pc := 1) X 0 rfl dX7_choose_1 ?_
  refine g_get (pc := 2) X inlX7 0 rfl rfl 11 (by decide) mw_49_4 rfl dX7_choose_2 ?_
  refine g_icmp_ltI (pc := 5) X 9 (by decide) b_sn b_hf dX7_choose_5 (fun c5 => ?_) (fun c5 => ?_)
  · refine g_iload_n (pc := 9) X 1 rfl dX7_choose_9 ?_
    refine g_aload_n (pc := 10) X 0 rfl dX7_choose_10 ?_
    refine g_get (pc := 11) X inlX7 0 rfl rfl 5 (by decide) mw_48_10 rfl dX7_choose_11 ?_
    refine g_icmp_ltI (pc := 14) X 23 (by decide) (inRb b_wl (by decide) (by decide)) (inRb b_hn (by decide) (by decide)) dX7_choose_14 (fun c14 => ?_) (fun c14 => ?_)
    · refine g_iconst (pc := 23) X (iI 0) (by rfl) dX7_choose_23 ?_
      refine g_istore_n (pc := 24) X (i := 3) rfl (by decide) (lv' := [(3, .int (iI 0)), (0, .ref h0), (1, .int (iI wl)), (2, .int (iI sn))]) rfl dX7_choose_24 ?_
      have loop25 : ∀ (fuel : Nat) (i : Int) (hf1 : Int) (Hg1 : Nat → Int) (Hc1 : Nat → Int) (Hk1 : Nat → Int), (0 ≤ i ∧ i ≤ 4) → ((-2147483648) ≤ hf1 ∧ hf1 ≤ 2147483647) → (∀ j, j < 4 → (-2147483648) ≤ Hg1 j ∧ Hg1 j ≤ 2147483647) → (∀ j, j < 8 → 0 ≤ Hc1 j ∧ Hc1 j ≤ 3) → (∀ j, j < 8 → 0 ≤ Hk1 j ∧ Hk1 j ≤ 3) → (5 - i).toNat < fuel → Gs p l e ({ frames := 6, cells := 0, slots := 0, locals := 136 } : Room) s m args below meth c (MQ below (gPost Z [cO_irrviirrrrri h0 7 hb h_papers h_sizes hv hp hn h_needs h_hidden h_given h_chosen h_picked hf, cA Z h_papers 0 4 Hp, cA Z h_sizes 0 4 Hs, cA Z h_needs 0 8 Hn, cA Z h_hidden 2 8 Hh, cA Z h_given 0 4 Hg, cA Z h_chosen 0 8 Hc, cA Z h_picked 0 8 Hk] s.heap.size (fun r w' => ∃ (Hg2 : Nat → Int) (Hc2 : Nat → Int) (Hk2 : Nat → Int) (hf2 : Int), (r = none) ∧ (w' = [cO_irrviirrrrri h0 7 hb h_papers h_sizes hv hp hn h_needs h_hidden h_given h_chosen h_picked hf2, cA Z h_papers 0 4 Hp, cA Z h_sizes 0 4 Hs, cA Z h_needs 0 8 Hn, cA Z h_hidden 2 8 Hh, cA Z h_given 0 4 Hg2, cA Z h_chosen 0 8 Hc2, cA Z h_picked 0 8 Hk2]) ∧ ((-2147483648) ≤ hf2 ∧ hf2 ≤ 2147483647) ∧ (∀ j, j < 4 → (-2147483648) ≤ Hg2 j ∧ Hg2 j ≤ 2147483647) ∧ (∀ j, j < 8 → 0 ≤ Hc2 j ∧ Hc2 j ≤ 3) ∧ (∀ j, j < 8 → 0 ≤ Hk2 j ∧ Hk2 j ≤ 3))) args s 0 0 (va_A [cO_irrviirrrrri h0 7 hb h_papers h_sizes hv hp hn h_needs h_hidden h_given h_chosen h_picked hf, cA Z h_papers 0 4 Hp, cA Z h_sizes 0 4 Hs, cA Z h_needs 0 8 Hn, cA Z h_hidden 2 8 Hh, cA Z h_given 0 4 Hg, cA Z h_chosen 0 8 Hc, cA Z h_picked 0 8 Hk] s.heap.size)) Z A 4 0 0 25 [(3, .int (iI i)), (0, .ref h0), (1, .int (iI wl)), (2, .int (iI sn))] [] [cO_irrviirrrrri h0 7 hb h_papers h_sizes hv hp hn h_needs h_hidden h_given h_chosen h_picked hf1, cA Z h_papers 0 4 Hp, cA Z h_sizes 0 4 Hs, cA Z h_needs 0 8 Hn, cA Z h_hidden 2 8 Hh, cA Z h_given 0 4 Hg1, cA Z h_chosen 0 8 Hc1, cA Z h_picked 0 8 Hk1] := by
        intro fuel
        induction fuel with
        | zero => intro i hf1 Hg1 Hc1 Hk1 _ _ _ _ _ hm; exact absurd hm (Nat.not_lt_zero _)
        | succ fuel ih =>
          intro i hf1 Hg1 Hc1 Hk1 b_i b_hf1 h_Hg1 h_Hc1 h_Hk1 hm
          refine g_iload_n (pc := 25) X 0 rfl dX7_choose_25 ?_
          refine g_aload_n (pc := 26) X 1 rfl dX7_choose_26 ?_
          refine g_get (pc := 27) X inlX7 0 rfl rfl 0 (by decide) mw_47_7 rfl dX7_choose_27 ?_
          refine g_icmp_geI (pc := 30) X 136 (by decide) (inRb b_i (by decide) (by decide)) (inRb b_hb (by decide) (by decide)) dX7_choose_30 (fun c30 => ?_) (fun c30 => ?_)
          · exact g_vret (pc := 136) X hA (⟨Hg1, Hc1, Hk1, hf1, rfl, rfl, (b_hf1), (h_Hg1), (h_Hc1), (h_Hk1)⟩) (by decide) (by decide) dX7_choose_136
          · refine g_aload_n (pc := 33) X 1 rfl dX7_choose_33 ?_
            refine g_get (pc := 34) X inlX7 0 rfl rfl 1 (by decide) mw_5_15 rfl dX7_choose_34 ?_
            refine g_iload_n (pc := 37) X 0 rfl dX7_choose_37 ?_
            refine g_ialdI (pc := 38) X 1 rfl (b_i.1) (by omega) (Int.le_trans b_i.2 (by decide)) dX7_choose_38 ?_
            refine g_nameI (fun y1 ey1 => ?_)
            have by1 : 0 ≤ y1 ∧ y1 ≤ 3 := by rw [ey1]; exact h_Hp _ (by omega)
            refine g_aload_n (pc := 39) X 1 rfl dX7_choose_39 ?_
            refine g_get (pc := 40) X inlX7 0 rfl rfl 4 (by decide) mw_48_6 rfl dX7_choose_40 ?_
            refine g_icmp_neI (pc := 43) X 130 (by decide) (inRb by1 (by decide) (by decide)) b_hp dX7_choose_43 (fun c43 => ?_) (fun c43 => ?_)
            · refine g_iincI (pc := 130) X 0 rfl (by decide) (lv' := [(3, .int (iI (i + 1))), (0, .ref h0), (1, .int (iI wl)), (2, .int (iI sn))]) rfl dX7_choose_130 ?_
              refine g_goto (pc := 133) X 25 (by decide) dX7_choose_133 ?_
              exact ih (i + 1) hf1 Hg1 Hc1 Hk1 (by omega) (b_hf1) (h_Hg1) (h_Hc1) (h_Hk1) (by omega)
            · refine g_aload_n (pc := 46) X 1 rfl dX7_choose_46 ?_
              refine g_get (pc := 47) X inlX7 0 rfl rfl 8 (by decide) mw_5_20 rfl dX7_choose_47 ?_
              refine g_iload_n (pc := 50) X 0 rfl dX7_choose_50 ?_
              refine g_ialdI (pc := 51) X 5 rfl (b_i.1) (by omega) (Int.le_trans b_i.2 (by decide)) dX7_choose_51 ?_
              refine g_nameI (fun y2 ey2 => ?_)
              have by2 : (-2147483648) ≤ y2 ∧ y2 ≤ 2147483647 := by rw [ey2]; exact h_Hg1 _ (by omega)
              refine g_aload_n (pc := 52) X 1 rfl dX7_choose_52 ?_
              refine g_get (pc := 53) X inlX7 0 rfl rfl 6 (by decide) mw_5_17 rfl dX7_choose_53 ?_
              refine g_iload_n (pc := 56) X 2 rfl dX7_choose_56 ?_
              refine g_ialdI (pc := 57) X 3 rfl (b_wl.1) (by omega) (Int.le_trans b_wl.2 (by decide)) dX7_choose_57 ?_
              refine g_nameI (fun y3 ey3 => ?_)
              have by3 : (-2147483648) ≤ y3 ∧ y3 ≤ 2147483647 := by rw [ey3]; exact h_Hn _ (by omega)
              refine g_iaddI (pc := 58) X dX7_choose_58 ?_
              refine g_any (fun y4 by4 => ?_)
              refine g_aload_n (pc := 59) X 1 rfl dX7_choose_59 ?_
              refine g_get (pc := 60) X inlX7 0 rfl rfl 2 (by decide) mw_5_16 rfl dX7_choose_60 ?_
              refine g_iload_n (pc := 63) X 0 rfl dX7_choose_63 ?_
              refine g_ialdI (pc := 64) X 2 rfl (b_i.1) (by omega) (Int.le_trans b_i.2 (by decide)) dX7_choose_64 ?_
              refine g_nameI (fun y5 ey5 => ?_)
              have by5 : 0 ≤ y5 ∧ y5 ≤ 30 := by rw [ey5]; exact h_Hs _ (by omega)
              refine g_icmp_gtI (pc := 65) X 130 (by decide) by4 (inRb by5 (by decide) (by decide)) dX7_choose_65 (fun c65 => ?_) (fun c65 => ?_)
              · refine g_iincI (pc := 130) X 0 rfl (by decide) (lv' := [(3, .int (iI (i + 1))), (0, .ref h0), (1, .int (iI wl)), (2, .int (iI sn))]) rfl dX7_choose_130 ?_
                refine g_goto (pc := 133) X 25 (by decide) dX7_choose_133 ?_
                exact ih (i + 1) hf1 Hg1 Hc1 Hk1 (by omega) (b_hf1) (h_Hg1) (h_Hc1) (h_Hk1) (by omega)
              · refine g_aload_n (pc := 68) X 1 rfl dX7_choose_68 ?_
                refine g_get (pc := 69) X inlX7 0 rfl rfl 9 (by decide) mw_5_21 rfl dX7_choose_69 ?_
                refine g_iload_n (pc := 72) X 2 rfl dX7_choose_72 ?_
                refine g_iload_n (pc := 73) X 0 rfl dX7_choose_73 ?_
                refine g_iastG (pc := 74) X 6 rfl (b_wl.1) (by omega) (Int.le_trans b_wl.2 (by decide)) (ws' := fun F6 => [cO_irrviirrrrri h0 7 hb h_papers h_sizes hv hp hn h_needs h_hidden h_given h_chosen h_picked hf1, cA Z h_papers 0 4 Hp, cA Z h_sizes 0 4 Hs, cA Z h_needs 0 8 Hn, cA Z h_hidden 2 8 Hh, cA Z h_given 0 4 Hg1, cA Z h_chosen 0 8 F6, cA Z h_picked 0 8 Hk1]) (fun _ => rfl) dX7_choose_74 (fun F6 eF6 => ?_)
                have hF6 : ∀ j, j < 8 → 0 ≤ F6 j ∧ F6 j ≤ 3 := by rw [eF6]; exact updI_B h_Hc1 (by omega)
                refine g_aload_n (pc := 75) X 1 rfl dX7_choose_75 ?_
                refine g_get (pc := 76) X inlX7 0 rfl rfl 8 (by decide) mw_5_20 rfl dX7_choose_76 ?_
                refine g_iload_n (pc := 79) X 0 rfl dX7_choose_79 ?_
                refine g_dup2 (pc := 80) X rfl rfl dX7_choose_80 ?_
                refine g_ialdI (pc := 81) X 5 rfl (b_i.1) (by omega) (Int.le_trans b_i.2 (by decide)) dX7_choose_81 ?_
                refine g_nameI (fun y7 ey7 => ?_)
                have by7 : (-2147483648) ≤ y7 ∧ y7 ≤ 2147483647 := by rw [ey7]; exact h_Hg1 _ (by omega)
                refine g_aload_n (pc := 82) X 1 rfl dX7_choose_82 ?_
                refine g_get (pc := 83) X inlX7 0 rfl rfl 6 (by decide) mw_5_17 rfl dX7_choose_83 ?_
                refine g_iload_n (pc := 86) X 2 rfl dX7_choose_86 ?_
                refine g_ialdI (pc := 87) X 3 rfl (b_wl.1) (by omega) (Int.le_trans b_wl.2 (by decide)) dX7_choose_87 ?_
                refine g_nameI (fun y8 ey8 => ?_)
                have by8 : (-2147483648) ≤ y8 ∧ y8 ≤ 2147483647 := by rw [ey8]; exact h_Hn _ (by omega)
                refine g_iaddI (pc := 88) X dX7_choose_88 ?_
                refine g_any (fun y9 by9 => ?_)
                refine g_iastG (pc := 89) X 5 rfl (b_i.1) (by omega) (Int.le_trans b_i.2 (by decide)) (ws' := fun F10 => [cO_irrviirrrrri h0 7 hb h_papers h_sizes hv hp hn h_needs h_hidden h_given h_chosen h_picked hf1, cA Z h_papers 0 4 Hp, cA Z h_sizes 0 4 Hs, cA Z h_needs 0 8 Hn, cA Z h_hidden 2 8 Hh, cA Z h_given 0 4 F10, cA Z h_chosen 0 8 F6, cA Z h_picked 0 8 Hk1]) (fun _ => rfl) dX7_choose_89 (fun F10 eF10 => ?_)
                have hF10 : ∀ j, j < 4 → (-2147483648) ≤ F10 j ∧ F10 j ≤ 2147483647 := by rw [eF10]; exact updI_B h_Hg1 (by omega)
                refine g_aload_n (pc := 90) X 1 rfl dX7_choose_90 ?_
                refine g_iload_n (pc := 91) X 2 rfl dX7_choose_91 ?_
                refine g_iconst (pc := 92) X (iI 1) (by rfl) dX7_choose_92 ?_
                refine g_iaddI (pc := 93) X dX7_choose_93 ?_
                refine g_iload_n (pc := 94) X 2 rfl dX7_choose_94 ?_
                refine g_if_neI (pc := 95) X 102 (by decide) (inRb b_wl (by decide) (by decide)) dX7_choose_95 (fun c95 => ?_) (fun c95 => ?_)
                · refine g_iload_n (pc := 102) X 3 rfl dX7_choose_102 ?_
                  refine g_aload_n (pc := 103) X 1 rfl dX7_choose_103 ?_
                  refine g_iload_n (pc := 104) X 2 rfl dX7_choose_104 ?_
                  refine g_iconst (pc := 105) X (iI 1) (by rfl) dX7_choose_105 ?_
                  refine g_isubI (pc := 106) X dX7_choose_106 ?_
                  refine g_iload_n (pc := 107) X 2 rfl dX7_choose_107 ?_
                  refine g_callV (pc := 108) X (k_X7_seenBetween l Z h0 h_papers h_sizes hv h_needs h_hidden h_given h_chosen h_picked Hh F6 (wl - 1) wl hb hp hn hf1 (by omega) (by omega) b_hb b_hp b_hn b_hf1 (h_Hh) (hF6)) iM_X7_seenBetween mw_49_13 mw_49_14 mw_49_15 0 rfl rfl [0, 4, 6] [1, 2, 3, 5, 7] rfl (wr := [cA Z h_papers 0 4 Hp, cA Z h_sizes 0 4 Hs, cA Z h_needs 0 8 Hn, cA Z h_given 0 4 F10, cA Z h_picked 0 8 Hk1]) rfl (by decide) rfl rfl (Nat.le_of_ble_eq_true rfl) (by decide) dX7_choose_108 (fun r w' hpo => ?_)
                  refine exN_1 hpo fun y11 hz => anD_3 hz fun e_r e_w hf108_b_y => ?_; clear hz hpo; subst e_r; subst e_w
                  refine g_as (pc' := 111) (lv' := [(3, .int (iI i)), (0, .ref h0), (1, .int (iI wl)), (2, .int (iI sn))]) (st' := [.int (iI y11), .int (iI sn), .int (iI (wl + 1)), .ref h0]) (ws' := [cA Z h_papers 0 4 Hp, cA Z h_sizes 0 4 Hs, cA Z h_needs 0 8 Hn, cA Z h_given 0 4 F10, cA Z h_picked 0 8 Hk1, cO_irrviirrrrri h0 7 hb h_papers h_sizes hv hp hn h_needs h_hidden h_given h_chosen h_picked hf1, cA Z h_hidden 2 8 Hh, cA Z h_chosen 0 8 F6]) rfl rfl rfl rfl ?_
                  refine g_iaddI (pc := 111) X dX7_choose_111 ?_
                  refine g_callV (pc := 112) X (k_X7_choose2 l Z h0 h_papers h_sizes hv h_needs h_hidden h_given h_chosen h_picked Hp Hs Hn Hh F10 F6 Hk1 (wl + 1) (sn + y11) hb hp hn hf1 (by omega) (by omega) b_hb b_hp b_hn b_hf1 (by omega) (h_Hp) (h_Hs) (h_Hn) (h_Hh) (hF10) (hF6) (h_Hk1)) iM_X7_choose mw_49_5 mw_49_6 mw_49_7 5 rfl rfl [5, 0, 1, 2, 6, 3, 7, 4] [] rfl (wr := []) rfl (by decide) rfl rfl (Nat.le_of_ble_eq_true rfl) (by decide) dX7_choose_112 (fun r w' hpo => ?_)
                  refine exN_4 hpo fun F13 F14 F15 y16 hz => anD_6 hz fun e_r e_w hf112_b_hf2 hf112_h_Hg2 hf112_h_Hc2 hf112_h_Hk2 => ?_; clear hz hpo; subst e_r; subst e_w
                  refine g_as (pc' := 115) (lv' := [(3, .int (iI i)), (0, .ref h0), (1, .int (iI wl)), (2, .int (iI sn))]) (st' := []) (ws' := [cO_irrviirrrrri h0 7 hb h_papers h_sizes hv hp hn h_needs h_hidden h_given h_chosen h_picked y16, cA Z h_papers 0 4 Hp, cA Z h_sizes 0 4 Hs, cA Z h_needs 0 8 Hn, cA Z h_hidden 2 8 Hh, cA Z h_given 0 4 F13, cA Z h_chosen 0 8 F14, cA Z h_picked 0 8 F15]) rfl rfl rfl rfl ?_
                  refine g_aload_n (pc := 115) X 1 rfl dX7_choose_115 ?_
                  refine g_get (pc := 116) X inlX7 0 rfl rfl 8 (by decide) mw_5_20 rfl dX7_choose_116 ?_
                  refine g_iload_n (pc := 119) X 0 rfl dX7_choose_119 ?_
                  refine g_dup2 (pc := 120) X rfl rfl dX7_choose_120 ?_
                  refine g_ialdI (pc := 121) X 5 rfl (b_i.1) (by omega) (Int.le_trans b_i.2 (by decide)) dX7_choose_121 ?_
                  refine g_nameI (fun y18 ey18 => ?_)
                  have by18 : (-2147483648) ≤ y18 ∧ y18 ≤ 2147483647 := by rw [ey18]; exact hf112_h_Hg2 _ (by omega)
                  refine g_aload_n (pc := 122) X 1 rfl dX7_choose_122 ?_
                  refine g_get (pc := 123) X inlX7 0 rfl rfl 6 (by decide) mw_5_17 rfl dX7_choose_123 ?_
                  refine g_iload_n (pc := 126) X 2 rfl dX7_choose_126 ?_
                  refine g_ialdI (pc := 127) X 3 rfl (b_wl.1) (by omega) (Int.le_trans b_wl.2 (by decide)) dX7_choose_127 ?_
                  refine g_nameI (fun y19 ey19 => ?_)
                  have by19 : (-2147483648) ≤ y19 ∧ y19 ≤ 2147483647 := by rw [ey19]; exact h_Hn _ (by omega)
                  refine g_isubI (pc := 128) X dX7_choose_128 ?_
                  refine g_any (fun y20 by20 => ?_)
                  refine g_iastG (pc := 129) X 5 rfl (b_i.1) (by omega) (Int.le_trans b_i.2 (by decide)) (ws' := fun F21 => [cO_irrviirrrrri h0 7 hb h_papers h_sizes hv hp hn h_needs h_hidden h_given h_chosen h_picked y16, cA Z h_papers 0 4 Hp, cA Z h_sizes 0 4 Hs, cA Z h_needs 0 8 Hn, cA Z h_hidden 2 8 Hh, cA Z h_given 0 4 F21, cA Z h_chosen 0 8 F14, cA Z h_picked 0 8 F15]) (fun _ => rfl) dX7_choose_129 (fun F21 eF21 => ?_)
                  have hF21 : ∀ j, j < 4 → (-2147483648) ≤ F21 j ∧ F21 j ≤ 2147483647 := by rw [eF21]; exact updI_B hf112_h_Hg2 (by omega)
                  refine g_iincI (pc := 130) X 0 rfl (by decide) (lv' := [(3, .int (iI (i + 1))), (0, .ref h0), (1, .int (iI wl)), (2, .int (iI sn))]) rfl dX7_choose_130 ?_
                  refine g_goto (pc := 133) X 25 (by decide) dX7_choose_133 ?_
                  exact ih (i + 1) y16 F21 F14 F15 (by omega) (hf112_b_hf2) (hF21) (hf112_h_Hc2) (hf112_h_Hk2) (by omega)
                · refine g_iload_n (pc := 98) X 3 rfl dX7_choose_98 ?_
                  refine g_goto (pc := 99) X 112 (by decide) dX7_choose_99 ?_
                  refine g_callV (pc := 112) X (k_X7_choose2 l Z h0 h_papers h_sizes hv h_needs h_hidden h_given h_chosen h_picked Hp Hs Hn Hh F10 F6 Hk1 (wl + 1) sn hb hp hn hf1 (by omega) b_sn b_hb b_hp b_hn b_hf1 (by omega) (h_Hp) (h_Hs) (h_Hn) (h_Hh) (hF10) (hF6) (h_Hk1)) iM_X7_choose mw_49_5 mw_49_6 mw_49_7 0 rfl rfl [0, 1, 2, 3, 4, 5, 6, 7] [] rfl (wr := []) rfl (by decide) rfl rfl (Nat.le_of_ble_eq_true rfl) (by decide) dX7_choose_112 (fun r w' hpo => ?_)
                  refine exN_4 hpo fun F22 F23 F24 y25 hz => anD_6 hz fun e_r e_w hf112_b_hf2 hf112_h_Hg2 hf112_h_Hc2 hf112_h_Hk2 => ?_; clear hz hpo; subst e_r; subst e_w
                  refine g_as (pc' := 115) (lv' := [(3, .int (iI i)), (0, .ref h0), (1, .int (iI wl)), (2, .int (iI sn))]) (st' := []) (ws' := [cO_irrviirrrrri h0 7 hb h_papers h_sizes hv hp hn h_needs h_hidden h_given h_chosen h_picked y25, cA Z h_papers 0 4 Hp, cA Z h_sizes 0 4 Hs, cA Z h_needs 0 8 Hn, cA Z h_hidden 2 8 Hh, cA Z h_given 0 4 F22, cA Z h_chosen 0 8 F23, cA Z h_picked 0 8 F24]) rfl rfl rfl rfl ?_
                  refine g_aload_n (pc := 115) X 1 rfl dX7_choose_115 ?_
                  refine g_get (pc := 116) X inlX7 0 rfl rfl 8 (by decide) mw_5_20 rfl dX7_choose_116 ?_
                  refine g_iload_n (pc := 119) X 0 rfl dX7_choose_119 ?_
                  refine g_dup2 (pc := 120) X rfl rfl dX7_choose_120 ?_
                  refine g_ialdI (pc := 121) X 5 rfl (b_i.1) (by omega) (Int.le_trans b_i.2 (by decide)) dX7_choose_121 ?_
                  refine g_nameI (fun y27 ey27 => ?_)
                  have by27 : (-2147483648) ≤ y27 ∧ y27 ≤ 2147483647 := by rw [ey27]; exact hf112_h_Hg2 _ (by omega)
                  refine g_aload_n (pc := 122) X 1 rfl dX7_choose_122 ?_
                  refine g_get (pc := 123) X inlX7 0 rfl rfl 6 (by decide) mw_5_17 rfl dX7_choose_123 ?_
                  refine g_iload_n (pc := 126) X 2 rfl dX7_choose_126 ?_
                  refine g_ialdI (pc := 127) X 3 rfl (b_wl.1) (by omega) (Int.le_trans b_wl.2 (by decide)) dX7_choose_127 ?_
                  refine g_nameI (fun y28 ey28 => ?_)
                  have by28 : (-2147483648) ≤ y28 ∧ y28 ≤ 2147483647 := by rw [ey28]; exact h_Hn _ (by omega)
                  refine g_isubI (pc := 128) X dX7_choose_128 ?_
                  refine g_any (fun y29 by29 => ?_)
                  refine g_iastG (pc := 129) X 5 rfl (b_i.1) (by omega) (Int.le_trans b_i.2 (by decide)) (ws' := fun F30 => [cO_irrviirrrrri h0 7 hb h_papers h_sizes hv hp hn h_needs h_hidden h_given h_chosen h_picked y25, cA Z h_papers 0 4 Hp, cA Z h_sizes 0 4 Hs, cA Z h_needs 0 8 Hn, cA Z h_hidden 2 8 Hh, cA Z h_given 0 4 F30, cA Z h_chosen 0 8 F23, cA Z h_picked 0 8 F24]) (fun _ => rfl) dX7_choose_129 (fun F30 eF30 => ?_)
                  have hF30 : ∀ j, j < 4 → (-2147483648) ≤ F30 j ∧ F30 j ≤ 2147483647 := by rw [eF30]; exact updI_B hf112_h_Hg2 (by omega)
                  refine g_iincI (pc := 130) X 0 rfl (by decide) (lv' := [(3, .int (iI (i + 1))), (0, .ref h0), (1, .int (iI wl)), (2, .int (iI sn))]) rfl dX7_choose_130 ?_
                  refine g_goto (pc := 133) X 25 (by decide) dX7_choose_133 ?_
                  exact ih (i + 1) y25 F30 F23 F24 (by omega) (hf112_b_hf2) (hF30) (hf112_h_Hc2) (hf112_h_Hk2) (by omega)
      exact loop25 _ 0 hf Hg Hc Hk (by omega) (b_hf) (h_Hg) (h_Hc) (h_Hk) (Nat.lt_succ_self _)
    · refine g_aload_n (pc := 17) X 0 rfl dX7_choose_17 ?_
      refine g_iload_n (pc := 18) X 2 rfl dX7_choose_18 ?_
      refine g_callV (pc := 19) X (k_X7_pick l Z h0 h_papers h_sizes hv h_needs h_hidden h_given h_chosen h_picked Hh Hc Hk sn hb hp hn hf b_sn b_hb b_hp b_hn b_hf (h_Hh) (h_Hc) (h_Hk)) iM_X7_pick mw_49_9 mw_49_10 mw_49_11 0 rfl rfl [0, 4, 6, 7] [1, 2, 3, 5] rfl (wr := [cA Z h_papers 0 4 Hp, cA Z h_sizes 0 4 Hs, cA Z h_needs 0 8 Hn, cA Z h_given 0 4 Hg]) rfl (by decide) rfl rfl (Nat.le_of_ble_eq_true rfl) (by decide) dX7_choose_19 (fun r w' hpo => ?_)
      refine exN_2 hpo fun F31 y32 hz => anD_4 hz fun e_r e_w hf19_b_hf2 hf19_h_Hk2 => ?_; clear hz hpo; subst e_r; subst e_w
      refine g_as (pc' := 22) (lv' := [(0, .ref h0), (1, .int (iI wl)), (2, .int (iI sn))]) (st' := []) (ws' := [cA Z h_papers 0 4 Hp, cA Z h_sizes 0 4 Hs, cA Z h_needs 0 8 Hn, cA Z h_given 0 4 Hg, cO_irrviirrrrri h0 7 hb h_papers h_sizes hv hp hn h_needs h_hidden h_given h_chosen h_picked y32, cA Z h_hidden 2 8 Hh, cA Z h_chosen 0 8 Hc, cA Z h_picked 0 8 F31]) rfl rfl rfl rfl ?_
      refine g_ws (ws' := [cO_irrviirrrrri h0 7 hb h_papers h_sizes hv hp hn h_needs h_hidden h_given h_chosen h_picked y32, cA Z h_papers 0 4 Hp, cA Z h_sizes 0 4 Hs, cA Z h_needs 0 8 Hn, cA Z h_hidden 2 8 Hh, cA Z h_given 0 4 Hg, cA Z h_chosen 0 8 Hc, cA Z h_picked 0 8 F31]) [4, 0, 1, 2, 5, 3, 6, 7] (by decide) rfl ?_
      exact g_vret (pc := 22) X hA (⟨Hg, Hc, F31, y32, rfl, rfl, (hf19_b_hf2), (h_Hg), (h_Hc), (hf19_h_Hk2)⟩) (by decide) (by decide) dX7_choose_22
  · exact g_vret (pc := 8) X hA (⟨Hg, Hc, Hk, hf, rfl, rfl, (b_hf), (h_Hg), (h_Hc), (h_Hk)⟩) (by decide) (by decide) dX7_choose_8

set_option maxHeartbeats 4000000 in
set_option maxRecDepth 100000 in
theorem k_X7_choose4 (l : Launch) (Z : gZ) (h0 : Nat) (h_papers : Nat) (h_sizes : Nat) (hv : Value) (h_needs : Nat) (h_hidden : Nat) (h_given : Nat) (h_chosen : Nat) (h_picked : Nat) (Hp : Nat → Int) (Hs : Nat → Int) (Hn : Nat → Int) (Hh : Nat → Int) (Hg : Nat → Int) (Hc : Nat → Int) (Hk : Nat → Int) (wl : Int) (sn : Int) (hb : Int) (hp : Int) (hn : Int) (hf : Int) (b_wl : 0 ≤ wl ∧ wl ≤ 8) (b_sn : (-2147483648) ≤ sn ∧ sn ≤ 2147483647) (b_hb : 0 ≤ hb ∧ hb ≤ 4) (b_hp : (-2147483648) ≤ hp ∧ hp ≤ 2147483647) (b_hn : 0 ≤ hn ∧ hn ≤ 8) (b_hf : (-2147483648) ≤ hf ∧ hf ≤ 2147483647) (hd : hn - wl ≤ 4) (h_Hp : ∀ j, j < 4 → 0 ≤ Hp j ∧ Hp j ≤ 3) (h_Hs : ∀ j, j < 4 → 0 ≤ Hs j ∧ Hs j ≤ 30) (h_Hn : ∀ j, j < 8 → (-2147483648) ≤ Hn j ∧ Hn j ≤ 2147483647) (h_Hh : ∀ j, j < 8 → 0 ≤ Hh j ∧ Hh j ≤ 1) (h_Hg : ∀ j, j < 4 → (-2147483648) ≤ Hg j ∧ Hg j ≤ 2147483647) (h_Hc : ∀ j, j < 8 → 0 ≤ Hc j ∧ Hc j ≤ 3) (h_Hk : ∀ j, j < 8 → 0 ≤ Hk j ∧ Hk j ≤ 3) : Con l Z yX7_choose cX7_choose 4 none 7 159 0 0 [.ref h0, .int (iI wl), .int (iI sn)] [cO_irrviirrrrri h0 7 hb h_papers h_sizes hv hp hn h_needs h_hidden h_given h_chosen h_picked hf, cA Z h_papers 0 4 Hp, cA Z h_sizes 0 4 Hs, cA Z h_needs 0 8 Hn, cA Z h_hidden 2 8 Hh, cA Z h_given 0 4 Hg, cA Z h_chosen 0 8 Hc, cA Z h_picked 0 8 Hk] (fun r w' => ∃ (Hg2 : Nat → Int) (Hc2 : Nat → Int) (Hk2 : Nat → Int) (hf2 : Int), (r = none) ∧ (w' = [cO_irrviirrrrri h0 7 hb h_papers h_sizes hv hp hn h_needs h_hidden h_given h_chosen h_picked hf2, cA Z h_papers 0 4 Hp, cA Z h_sizes 0 4 Hs, cA Z h_needs 0 8 Hn, cA Z h_hidden 2 8 Hh, cA Z h_given 0 4 Hg2, cA Z h_chosen 0 8 Hc2, cA Z h_picked 0 8 Hk2]) ∧ ((-2147483648) ≤ hf2 ∧ hf2 ≤ 2147483647) ∧ (∀ j, j < 4 → (-2147483648) ≤ Hg2 j ∧ Hg2 j ≤ 2147483647) ∧ (∀ j, j < 8 → 0 ≤ Hc2 j ∧ Hc2 j ≤ 3) ∧ (∀ j, j < 8 → 0 ≤ Hk2 j ∧ Hk2 j ≤ 3)) := by
  refine enter (by decide) (Nat.le_of_ble_eq_true rfl) ?_
  intro p e s m args below meth c A X hnm hA
  have X : Cx p s m args meth c cX7_choose 4 none RX7 Z A := X
  refine g_as (pc' := 0) (lv' := [(0, .ref h0), (1, .int (iI wl)), (2, .int (iI sn))]) (st' := []) (ws' := [cO_irrviirrrrri h0 7 hb h_papers h_sizes hv hp hn h_needs h_hidden h_given h_chosen h_picked hf, cA Z h_papers 0 4 Hp, cA Z h_sizes 0 4 Hs, cA Z h_needs 0 8 Hn, cA Z h_hidden 2 8 Hh, cA Z h_given 0 4 Hg, cA Z h_chosen 0 8 Hc, cA Z h_picked 0 8 Hk]) rfl rfl rfl rfl ?_
  refine g_iload_n (pc := 0) X 2 rfl dX7_choose_0 ?_
  refine g_aload_n (pc := 1) X 0 rfl dX7_choose_1 ?_
  refine g_get (pc := 2) X inlX7 0 rfl rfl 11 (by decide) mw_49_4 rfl dX7_choose_2 ?_
  refine g_icmp_ltI (pc := 5) X 9 (by decide) b_sn b_hf dX7_choose_5 (fun c5 => ?_) (fun c5 => ?_)
  · refine g_iload_n (pc := 9) X 1 rfl dX7_choose_9 ?_
    refine g_aload_n (pc := 10) X 0 rfl dX7_choose_10 ?_
    refine g_get (pc := 11) X inlX7 0 rfl rfl 5 (by decide) mw_48_10 rfl dX7_choose_11 ?_
    refine g_icmp_ltI (pc := 14) X 23 (by decide) (inRb b_wl (by decide) (by decide)) (inRb b_hn (by decide) (by decide)) dX7_choose_14 (fun c14 => ?_) (fun c14 => ?_)
    · refine g_iconst (pc := 23) X (iI 0) (by rfl) dX7_choose_23 ?_
      refine g_istore_n (pc := 24) X (i := 3) rfl (by decide) (lv' := [(3, .int (iI 0)), (0, .ref h0), (1, .int (iI wl)), (2, .int (iI sn))]) rfl dX7_choose_24 ?_
      have loop25 : ∀ (fuel : Nat) (i : Int) (hf1 : Int) (Hg1 : Nat → Int) (Hc1 : Nat → Int) (Hk1 : Nat → Int), (0 ≤ i ∧ i ≤ 4) → ((-2147483648) ≤ hf1 ∧ hf1 ≤ 2147483647) → (∀ j, j < 4 → (-2147483648) ≤ Hg1 j ∧ Hg1 j ≤ 2147483647) → (∀ j, j < 8 → 0 ≤ Hc1 j ∧ Hc1 j ≤ 3) → (∀ j, j < 8 → 0 ≤ Hk1 j ∧ Hk1 j ≤ 3) → (5 - i).toNat < fuel → Gs p l e ({ frames := 7, cells := 0, slots := 0, locals := 159 } : Room) s m args below meth c (MQ below (gPost Z [cO_irrviirrrrri h0 7 hb h_papers h_sizes hv hp hn h_needs h_hidden h_given h_chosen h_picked hf, cA Z h_papers 0 4 Hp, cA Z h_sizes 0 4 Hs, cA Z h_needs 0 8 Hn, cA Z h_hidden 2 8 Hh, cA Z h_given 0 4 Hg, cA Z h_chosen 0 8 Hc, cA Z h_picked 0 8 Hk] s.heap.size (fun r w' => ∃ (Hg2 : Nat → Int) (Hc2 : Nat → Int) (Hk2 : Nat → Int) (hf2 : Int), (r = none) ∧ (w' = [cO_irrviirrrrri h0 7 hb h_papers h_sizes hv hp hn h_needs h_hidden h_given h_chosen h_picked hf2, cA Z h_papers 0 4 Hp, cA Z h_sizes 0 4 Hs, cA Z h_needs 0 8 Hn, cA Z h_hidden 2 8 Hh, cA Z h_given 0 4 Hg2, cA Z h_chosen 0 8 Hc2, cA Z h_picked 0 8 Hk2]) ∧ ((-2147483648) ≤ hf2 ∧ hf2 ≤ 2147483647) ∧ (∀ j, j < 4 → (-2147483648) ≤ Hg2 j ∧ Hg2 j ≤ 2147483647) ∧ (∀ j, j < 8 → 0 ≤ Hc2 j ∧ Hc2 j ≤ 3) ∧ (∀ j, j < 8 → 0 ≤ Hk2 j ∧ Hk2 j ≤ 3))) args s 0 0 (va_A [cO_irrviirrrrri h0 7 hb h_papers h_sizes hv hp hn h_needs h_hidden h_given h_chosen h_picked hf, cA Z h_papers 0 4 Hp, cA Z h_sizes 0 4 Hs, cA Z h_needs 0 8 Hn, cA Z h_hidden 2 8 Hh, cA Z h_given 0 4 Hg, cA Z h_chosen 0 8 Hc, cA Z h_picked 0 8 Hk] s.heap.size)) Z A 4 0 0 25 [(3, .int (iI i)), (0, .ref h0), (1, .int (iI wl)), (2, .int (iI sn))] [] [cO_irrviirrrrri h0 7 hb h_papers h_sizes hv hp hn h_needs h_hidden h_given h_chosen h_picked hf1, cA Z h_papers 0 4 Hp, cA Z h_sizes 0 4 Hs, cA Z h_needs 0 8 Hn, cA Z h_hidden 2 8 Hh, cA Z h_given 0 4 Hg1, cA Z h_chosen 0 8 Hc1, cA Z h_picked 0 8 Hk1] := by
        intro fuel
        induction fuel with
        | zero => intro i hf1 Hg1 Hc1 Hk1 _ _ _ _ _ hm; exact absurd hm (Nat.not_lt_zero _)
        | succ fuel ih =>
          intro i hf1 Hg1 Hc1 Hk1 b_i b_hf1 h_Hg1 h_Hc1 h_Hk1 hm
          refine g_iload_n (pc := 25) X 0 rfl dX7_choose_25 ?_
          refine g_aload_n (pc := 26) X 1 rfl dX7_choose_26 ?_
          refine g_get (pc := 27) X inlX7 0 rfl rfl 0 (by decide) mw_47_7 rfl dX7_choose_27 ?_
          refine g_icmp_geI (pc := 30) X 136 (by decide) (inRb b_i (by decide) (by decide)) (inRb b_hb (by decide) (by decide)) dX7_choose_30 (fun c30 => ?_) (fun c30 => ?_)
          · exact g_vret (pc := 136) X hA (⟨Hg1, Hc1, Hk1, hf1, rfl, rfl, (b_hf1), (h_Hg1), (h_Hc1), (h_Hk1)⟩) (by decide) (by decide) dX7_choose_136
          · refine g_aload_n (pc := 33) X 1 rfl dX7_choose_33 ?_
            refine g_get (pc := 34) X inlX7 0 rfl rfl 1 (by decide) mw_5_15 rfl dX7_choose_34 ?_
            refine g_iload_n (pc := 37) X 0 rfl dX7_choose_37 ?_
            refine g_ialdI (pc := 38) X 1 rfl (b_i.1) (by omega) (Int.le_trans b_i.2 (by decide)) dX7_choose_38 ?_
            refine g_nameI (fun y1 ey1 => ?_)
            have by1 : 0 ≤ y1 ∧ y1 ≤ 3 := by rw [ey1]; exact h_Hp _ (by omega)
            refine g_aload_n (pc := 39) X 1 rfl dX7_choose_39 ?_
            refine g_get (pc := 40) X inlX7 0 rfl rfl 4 (by decide) mw_48_6 rfl dX7_choose_40 ?_
            refine g_icmp_neI (pc := 43) X 130 (by decide) (inRb by1 (by decide) (by decide)) b_hp dX7_choose_43 (fun c43 => ?_) (fun c43 => ?_)
            · refine g_iincI (pc := 130) X 0 rfl (by decide) (lv' := [(3, .int (iI (i + 1))), (0, .ref h0), (1, .int (iI wl)), (2, .int (iI sn))]) rfl dX7_choose_130 ?_
              refine g_goto (pc := 133) X 25 (by decide) dX7_choose_133 ?_
              exact ih (i + 1) hf1 Hg1 Hc1 Hk1 (by omega) (b_hf1) (h_Hg1) (h_Hc1) (h_Hk1) (by omega)
            · refine g_aload_n (pc := 46) X 1 rfl dX7_choose_46 ?_
              refine g_get (pc := 47) X inlX7 0 rfl rfl 8 (by decide) mw_5_20 rfl dX7_choose_47 ?_
              refine g_iload_n (pc := 50) X 0 rfl dX7_choose_50 ?_
              refine g_ialdI (pc := 51) X 5 rfl (b_i.1) (by omega) (Int.le_trans b_i.2 (by decide)) dX7_choose_51 ?_
              refine g_nameI (fun y2 ey2 => ?_)
              have by2 : (-2147483648) ≤ y2 ∧ y2 ≤ 2147483647 := by rw [ey2]; exact h_Hg1 _ (by omega)
              refine g_aload_n (pc := 52) X 1 rfl dX7_choose_52 ?_
              refine g_get (pc := 53) X inlX7 0 rfl rfl 6 (by decide) mw_5_17 rfl dX7_choose_53 ?_
              refine g_iload_n (pc := 56) X 2 rfl dX7_choose_56 ?_
              refine g_ialdI (pc := 57) X 3 rfl (b_wl.1) (by omega) (Int.le_trans b_wl.2 (by decide)) dX7_choose_57 ?_
              refine g_nameI (fun y3 ey3 => ?_)
              have by3 : (-2147483648) ≤ y3 ∧ y3 ≤ 2147483647 := by rw [ey3]; exact h_Hn _ (by omega)
              refine g_iaddI (pc := 58) X dX7_choose_58 ?_
              refine g_any (fun y4 by4 => ?_)
              refine g_aload_n (pc := 59) X 1 rfl dX7_choose_59 ?_
              refine g_get (pc := 60) X inlX7 0 rfl rfl 2 (by decide) mw_5_16 rfl dX7_choose_60 ?_
              refine g_iload_n (pc := 63) X 0 rfl dX7_choose_63 ?_
              refine g_ialdI (pc := 64) X 2 rfl (b_i.1) (by omega) (Int.le_trans b_i.2 (by decide)) dX7_choose_64 ?_
              refine g_nameI (fun y5 ey5 => ?_)
              have by5 : 0 ≤ y5 ∧ y5 ≤ 30 := by rw [ey5]; exact h_Hs _ (by omega)
              refine g_icmp_gtI (pc := 65) X 130 (by decide) by4 (inRb by5 (by decide) (by decide)) dX7_choose_65 (fun c65 => ?_) (fun c65 => ?_)
              · refine g_iincI (pc := 130) X 0 rfl (by decide) (lv' := [(3, .int (iI (i + 1))), (0, .ref h0), (1, .int (iI wl)), (2, .int (iI sn))]) rfl dX7_choose_130 ?_
                refine g_goto (pc := 133) X 25 (by decide) dX7_choose_133 ?_
                exact ih (i + 1) hf1 Hg1 Hc1 Hk1 (by omega) (b_hf1) (h_Hg1) (h_Hc1) (h_Hk1) (by omega)
              · refine g_aload_n (pc := 68) X 1 rfl dX7_choose_68 ?_
                refine g_get (pc := 69) X inlX7 0 rfl rfl 9 (by decide) mw_5_21 rfl dX7_choose_69 ?_
                refine g_iload_n (pc := 72) X 2 rfl dX7_choose_72 ?_
                refine g_iload_n (pc := 73) X 0 rfl dX7_choose_73 ?_
                refine g_iastG (pc := 74) X 6 rfl (b_wl.1) (by omega) (Int.le_trans b_wl.2 (by decide)) (ws' := fun F6 => [cO_irrviirrrrri h0 7 hb h_papers h_sizes hv hp hn h_needs h_hidden h_given h_chosen h_picked hf1, cA Z h_papers 0 4 Hp, cA Z h_sizes 0 4 Hs, cA Z h_needs 0 8 Hn, cA Z h_hidden 2 8 Hh, cA Z h_given 0 4 Hg1, cA Z h_chosen 0 8 F6, cA Z h_picked 0 8 Hk1]) (fun _ => rfl) dX7_choose_74 (fun F6 eF6 => ?_)
                have hF6 : ∀ j, j < 8 → 0 ≤ F6 j ∧ F6 j ≤ 3 := by rw [eF6]; exact updI_B h_Hc1 (by omega)
                refine g_aload_n (pc := 75) X 1 rfl dX7_choose_75 ?_
                refine g_get (pc := 76) X inlX7 0 rfl rfl 8 (by decide) mw_5_20 rfl dX7_choose_76 ?_
                refine g_iload_n (pc := 79) X 0 rfl dX7_choose_79 ?_
                refine g_dup2 (pc := 80) X rfl rfl dX7_choose_80 ?_
                refine g_ialdI (pc := 81) X 5 rfl (b_i.1) (by omega) (Int.le_trans b_i.2 (by decide)) dX7_choose_81 ?_
                refine g_nameI (fun y7 ey7 => ?_)
                have by7 : (-2147483648) ≤ y7 ∧ y7 ≤ 2147483647 := by rw [ey7]; exact h_Hg1 _ (by omega)
                refine g_aload_n (pc := 82) X 1 rfl dX7_choose_82 ?_
                refine g_get (pc := 83) X inlX7 0 rfl rfl 6 (by decide) mw_5_17 rfl dX7_choose_83 ?_
                refine g_iload_n (pc := 86) X 2 rfl dX7_choose_86 ?_
                refine g_ialdI (pc := 87) X 3 rfl (b_wl.1) (by omega) (Int.le_trans b_wl.2 (by decide)) dX7_choose_87 ?_
                refine g_nameI (fun y8 ey8 => ?_)
                have by8 : (-2147483648) ≤ y8 ∧ y8 ≤ 2147483647 := by rw [ey8]; exact h_Hn _ (by omega)
                refine g_iaddI (pc := 88) X dX7_choose_88 ?_
                refine g_any (fun y9 by9 => ?_)
                refine g_iastG (pc := 89) X 5 rfl (b_i.1) (by omega) (Int.le_trans b_i.2 (by decide)) (ws' := fun F10 => [cO_irrviirrrrri h0 7 hb h_papers h_sizes hv hp hn h_needs h_hidden h_given h_chosen h_picked hf1, cA Z h_papers 0 4 Hp, cA Z h_sizes 0 4 Hs, cA Z h_needs 0 8 Hn, cA Z h_hidden 2 8 Hh, cA Z h_given 0 4 F10, cA Z h_chosen 0 8 F6, cA Z h_picked 0 8 Hk1]) (fun _ => rfl) dX7_choose_89 (fun F10 eF10 => ?_)
                have hF10 : ∀ j, j < 4 → (-2147483648) ≤ F10 j ∧ F10 j ≤ 2147483647 := by rw [eF10]; exact updI_B h_Hg1 (by omega)
                refine g_aload_n (pc := 90) X 1 rfl dX7_choose_90 ?_
                refine g_iload_n (pc := 91) X 2 rfl dX7_choose_91 ?_
                refine g_iconst (pc := 92) X (iI 1) (by rfl) dX7_choose_92 ?_
                refine g_iaddI (pc := 93) X dX7_choose_93 ?_
                refine g_iload_n (pc := 94) X 2 rfl dX7_choose_94 ?_
                refine g_if_neI (pc := 95) X 102 (by decide) (inRb b_wl (by decide) (by decide)) dX7_choose_95 (fun c95 => ?_) (fun c95 => ?_)
                · refine g_iload_n (pc := 102) X 3 rfl dX7_choose_102 ?_
                  refine g_aload_n (pc := 103) X 1 rfl dX7_choose_103 ?_
                  refine g_iload_n (pc := 104) X 2 rfl dX7_choose_104 ?_
                  refine g_iconst (pc := 105) X (iI 1) (by rfl) dX7_choose_105 ?_
                  refine g_isubI (pc := 106) X dX7_choose_106 ?_
                  refine g_iload_n (pc := 107) X 2 rfl dX7_choose_107 ?_
                  refine g_callV (pc := 108) X (k_X7_seenBetween l Z h0 h_papers h_sizes hv h_needs h_hidden h_given h_chosen h_picked Hh F6 (wl - 1) wl hb hp hn hf1 (by omega) (by omega) b_hb b_hp b_hn b_hf1 (h_Hh) (hF6)) iM_X7_seenBetween mw_49_13 mw_49_14 mw_49_15 0 rfl rfl [0, 4, 6] [1, 2, 3, 5, 7] rfl (wr := [cA Z h_papers 0 4 Hp, cA Z h_sizes 0 4 Hs, cA Z h_needs 0 8 Hn, cA Z h_given 0 4 F10, cA Z h_picked 0 8 Hk1]) rfl (by decide) rfl rfl (Nat.le_of_ble_eq_true rfl) (by decide) dX7_choose_108 (fun r w' hpo => ?_)
                  refine exN_1 hpo fun y11 hz => anD_3 hz fun e_r e_w hf108_b_y => ?_; clear hz hpo; subst e_r; subst e_w
                  refine g_as (pc' := 111) (lv' := [(3, .int (iI i)), (0, .ref h0), (1, .int (iI wl)), (2, .int (iI sn))]) (st' := [.int (iI y11), .int (iI sn), .int (iI (wl + 1)), .ref h0]) (ws' := [cA Z h_papers 0 4 Hp, cA Z h_sizes 0 4 Hs, cA Z h_needs 0 8 Hn, cA Z h_given 0 4 F10, cA Z h_picked 0 8 Hk1, cO_irrviirrrrri h0 7 hb h_papers h_sizes hv hp hn h_needs h_hidden h_given h_chosen h_picked hf1, cA Z h_hidden 2 8 Hh, cA Z h_chosen 0 8 F6]) rfl rfl rfl rfl ?_
                  refine g_iaddI (pc := 111) X dX7_choose_111 ?_
                  refine g_callV (pc := 112) X (k_X7_choose3 l Z h0 h_papers h_sizes hv h_needs h_hidden h_given h_chosen h_picked Hp Hs Hn Hh F10 F6 Hk1 (wl + 1) (sn + y11) hb hp hn hf1 (by omega) (by omega) b_hb b_hp b_hn b_hf1 (by omega) (h_Hp) (h_Hs) (h_Hn) (h_Hh) (hF10) (hF6) (h_Hk1)) iM_X7_choose mw_49_5 mw_49_6 mw_49_7 5 rfl rfl [5, 0, 1, 2, 6, 3, 7, 4] [] rfl (wr := []) rfl (by decide) rfl rfl (Nat.le_of_ble_eq_true rfl) (by decide) dX7_choose_112 (fun r w' hpo => ?_)
                  refine exN_4 hpo fun F13 F14 F15 y16 hz => anD_6 hz fun e_r e_w hf112_b_hf2 hf112_h_Hg2 hf112_h_Hc2 hf112_h_Hk2 => ?_; clear hz hpo; subst e_r; subst e_w
                  refine g_as (pc' := 115) (lv' := [(3, .int (iI i)), (0, .ref h0), (1, .int (iI wl)), (2, .int (iI sn))]) (st' := []) (ws' := [cO_irrviirrrrri h0 7 hb h_papers h_sizes hv hp hn h_needs h_hidden h_given h_chosen h_picked y16, cA Z h_papers 0 4 Hp, cA Z h_sizes 0 4 Hs, cA Z h_needs 0 8 Hn, cA Z h_hidden 2 8 Hh, cA Z h_given 0 4 F13, cA Z h_chosen 0 8 F14, cA Z h_picked 0 8 F15]) rfl rfl rfl rfl ?_
                  refine g_aload_n (pc := 115) X 1 rfl dX7_choose_115 ?_
                  refine g_get (pc := 116) X inlX7 0 rfl rfl 8 (by decide) mw_5_20 rfl dX7_choose_116 ?_
                  refine g_iload_n (pc := 119) X 0 rfl dX7_choose_119 ?_
                  refine g_dup2 (pc := 120) X rfl rfl dX7_choose_120 ?_
                  refine g_ialdI (pc := 121) X 5 rfl (b_i.1) (by omega) (Int.le_trans b_i.2 (by decide)) dX7_choose_121 ?_
                  refine g_nameI (fun y18 ey18 => ?_)
                  have by18 : (-2147483648) ≤ y18 ∧ y18 ≤ 2147483647 := by rw [ey18]; exact hf112_h_Hg2 _ (by omega)
                  refine g_aload_n (pc := 122) X 1 rfl dX7_choose_122 ?_
                  refine g_get (pc := 123) X inlX7 0 rfl rfl 6 (by decide) mw_5_17 rfl dX7_choose_123 ?_
                  refine g_iload_n (pc := 126) X 2 rfl dX7_choose_126 ?_
                  refine g_ialdI (pc := 127) X 3 rfl (b_wl.1) (by omega) (Int.le_trans b_wl.2 (by decide)) dX7_choose_127 ?_
                  refine g_nameI (fun y19 ey19 => ?_)
                  have by19 : (-2147483648) ≤ y19 ∧ y19 ≤ 2147483647 := by rw [ey19]; exact h_Hn _ (by omega)
                  refine g_isubI (pc := 128) X dX7_choose_128 ?_
                  refine g_any (fun y20 by20 => ?_)
                  refine g_iastG (pc := 129) X 5 rfl (b_i.1) (by omega) (Int.le_trans b_i.2 (by decide)) (ws' := fun F21 => [cO_irrviirrrrri h0 7 hb h_papers h_sizes hv hp hn h_needs h_hidden h_given h_chosen h_picked y16, cA Z h_papers 0 4 Hp, cA Z h_sizes 0 4 Hs, cA Z h_needs 0 8 Hn, cA Z h_hidden 2 8 Hh, cA Z h_given 0 4 F21, cA Z h_chosen 0 8 F14, cA Z h_picked 0 8 F15]) (fun _ => rfl) dX7_choose_129 (fun F21 eF21 => ?_)
                  have hF21 : ∀ j, j < 4 → (-2147483648) ≤ F21 j ∧ F21 j ≤ 2147483647 := by rw [eF21]; exact updI_B hf112_h_Hg2 (by omega)
                  refine g_iincI (pc := 130) X 0 rfl (by decide) (lv' := [(3, .int (iI (i + 1))), (0, .ref h0), (1, .int (iI wl)), (2, .int (iI sn))]) rfl dX7_choose_130 ?_
                  refine g_goto (pc := 133) X 25 (by decide) dX7_choose_133 ?_
                  exact ih (i + 1) y16 F21 F14 F15 (by omega) (hf112_b_hf2) (hF21) (hf112_h_Hc2) (hf112_h_Hk2) (by omega)
                · refine g_iload_n (pc := 98) X 3 rfl dX7_choose_98 ?_
                  refine g_goto (pc := 99) X 112 (by decide) dX7_choose_99 ?_
                  refine g_callV (pc := 112) X (k_X7_choose3 l Z h0 h_papers h_sizes hv h_needs h_hidden h_given h_chosen h_picked Hp Hs Hn Hh F10 F6 Hk1 (wl + 1) sn hb hp hn hf1 (by omega) b_sn b_hb b_hp b_hn b_hf1 (by omega) (h_Hp) (h_Hs) (h_Hn) (h_Hh) (hF10) (hF6) (h_Hk1)) iM_X7_choose mw_49_5 mw_49_6 mw_49_7 0 rfl rfl [0, 1, 2, 3, 4, 5, 6, 7] [] rfl (wr := []) rfl (by decide) rfl rfl (Nat.le_of_ble_eq_true rfl) (by decide) dX7_choose_112 (fun r w' hpo => ?_)
                  refine exN_4 hpo fun F22 F23 F24 y25 hz => anD_6 hz fun e_r e_w hf112_b_hf2 hf112_h_Hg2 hf112_h_Hc2 hf112_h_Hk2 => ?_; clear hz hpo; subst e_r; subst e_w
                  refine g_as (pc' := 115) (lv' := [(3, .int (iI i)), (0, .ref h0), (1, .int (iI wl)), (2, .int (iI sn))]) (st' := []) (ws' := [cO_irrviirrrrri h0 7 hb h_papers h_sizes hv hp hn h_needs h_hidden h_given h_chosen h_picked y25, cA Z h_papers 0 4 Hp, cA Z h_sizes 0 4 Hs, cA Z h_needs 0 8 Hn, cA Z h_hidden 2 8 Hh, cA Z h_given 0 4 F22, cA Z h_chosen 0 8 F23, cA Z h_picked 0 8 F24]) rfl rfl rfl rfl ?_
                  refine g_aload_n (pc := 115) X 1 rfl dX7_choose_115 ?_
                  refine g_get (pc := 116) X inlX7 0 rfl rfl 8 (by decide) mw_5_20 rfl dX7_choose_116 ?_
                  refine g_iload_n (pc := 119) X 0 rfl dX7_choose_119 ?_
                  refine g_dup2 (pc := 120) X rfl rfl dX7_choose_120 ?_
                  refine g_ialdI (pc := 121) X 5 rfl (b_i.1) (by omega) (Int.le_trans b_i.2 (by decide)) dX7_choose_121 ?_
                  refine g_nameI (fun y27 ey27 => ?_)
                  have by27 : (-2147483648) ≤ y27 ∧ y27 ≤ 2147483647 := by rw [ey27]; exact hf112_h_Hg2 _ (by omega)
                  refine g_aload_n (pc := 122) X 1 rfl dX7_choose_122 ?_
                  refine g_get (pc := 123) X inlX7 0 rfl rfl 6 (by decide) mw_5_17 rfl dX7_choose_123 ?_
                  refine g_iload_n (pc := 126) X 2 rfl dX7_choose_126 ?_
                  refine g_ialdI (pc := 127) X 3 rfl (b_wl.1) (by omega) (Int.le_trans b_wl.2 (by decide)) dX7_choose_127 ?_
                  refine g_nameI (fun y28 ey28 => ?_)
                  have by28 : (-2147483648) ≤ y28 ∧ y28 ≤ 2147483647 := by rw [ey28]; exact h_Hn _ (by omega)
                  refine g_isubI (pc := 128) X dX7_choose_128 ?_
                  refine g_any (fun y29 by29 => ?_)
                  refine g_iastG (pc := 129) X 5 rfl (b_i.1) (by omega) (Int.le_trans b_i.2 (by decide)) (ws' := fun F30 => [cO_irrviirrrrri h0 7 hb h_papers h_sizes hv hp hn h_needs h_hidden h_given h_chosen h_picked y25, cA Z h_papers 0 4 Hp, cA Z h_sizes 0 4 Hs, cA Z h_needs 0 8 Hn, cA Z h_hidden 2 8 Hh, cA Z h_given 0 4 F30, cA Z h_chosen 0 8 F23, cA Z h_picked 0 8 F24]) (fun _ => rfl) dX7_choose_129 (fun F30 eF30 => ?_)
                  have hF30 : ∀ j, j < 4 → (-2147483648) ≤ F30 j ∧ F30 j ≤ 2147483647 := by rw [eF30]; exact updI_B hf112_h_Hg2 (by omega)
                  refine g_iincI (pc := 130) X 0 rfl (by decide) (lv' := [(3, .int (iI (i + 1))), (0, .ref h0), (1, .int (iI wl)), (2, .int (iI sn))]) rfl dX7_choose_130 ?_
                  refine g_goto (pc := 133) X 25 (by decide) dX7_choose_133 ?_
                  exact ih (i + 1) y25 F30 F23 F24 (by omega) (hf112_b_hf2) (hF30) (hf112_h_Hc2) (hf112_h_Hk2) (by omega)
      exact loop25 _ 0 hf Hg Hc Hk (by omega) (b_hf) (h_Hg) (h_Hc) (h_Hk) (Nat.lt_succ_self _)
    · refine g_aload_n (pc := 17) X 0 rfl dX7_choose_17 ?_
      refine g_iload_n (pc := 18) X 2 rfl dX7_choose_18 ?_
      refine g_callV (pc := 19) X (k_X7_pick l Z h0 h_papers h_sizes hv h_needs h_hidden h_given h_chosen h_picked Hh Hc Hk sn hb hp hn hf b_sn b_hb b_hp b_hn b_hf (h_Hh) (h_Hc) (h_Hk)) iM_X7_pick mw_49_9 mw_49_10 mw_49_11 0 rfl rfl [0, 4, 6, 7] [1, 2, 3, 5] rfl (wr := [cA Z h_papers 0 4 Hp, cA Z h_sizes 0 4 Hs, cA Z h_needs 0 8 Hn, cA Z h_given 0 4 Hg]) rfl (by decide) rfl rfl (Nat.le_of_ble_eq_true rfl) (by decide) dX7_choose_19 (fun r w' hpo => ?_)
      refine exN_2 hpo fun F31 y32 hz => anD_4 hz fun e_r e_w hf19_b_hf2 hf19_h_Hk2 => ?_; clear hz hpo; subst e_r; subst e_w
      refine g_as (pc' := 22) (lv' := [(0, .ref h0), (1, .int (iI wl)), (2, .int (iI sn))]) (st' := []) (ws' := [cA Z h_papers 0 4 Hp, cA Z h_sizes 0 4 Hs, cA Z h_needs 0 8 Hn, cA Z h_given 0 4 Hg, cO_irrviirrrrri h0 7 hb h_papers h_sizes hv hp hn h_needs h_hidden h_given h_chosen h_picked y32, cA Z h_hidden 2 8 Hh, cA Z h_chosen 0 8 Hc, cA Z h_picked 0 8 F31]) rfl rfl rfl rfl ?_
      refine g_ws (ws' := [cO_irrviirrrrri h0 7 hb h_papers h_sizes hv hp hn h_needs h_hidden h_given h_chosen h_picked y32, cA Z h_papers 0 4 Hp, cA Z h_sizes 0 4 Hs, cA Z h_needs 0 8 Hn, cA Z h_hidden 2 8 Hh, cA Z h_given 0 4 Hg, cA Z h_chosen 0 8 Hc, cA Z h_picked 0 8 F31]) [4, 0, 1, 2, 5, 3, 6, 7] (by decide) rfl ?_
      exact g_vret (pc := 22) X hA (⟨Hg, Hc, F31, y32, rfl, rfl, (hf19_b_hf2), (h_Hg), (h_Hc), (hf19_h_Hk2)⟩) (by decide) (by decide) dX7_choose_22
  · exact g_vret (pc := 8) X hA (⟨Hg, Hc, Hk, hf, rfl, rfl, (b_hf), (h_Hg), (h_Hc), (h_Hk)⟩) (by decide) (by decide) dX7_choose_8

set_option maxHeartbeats 4000000 in
set_option maxRecDepth 100000 in
theorem k_X7_choose5 (l : Launch) (Z : gZ) (h0 : Nat) (h_papers : Nat) (h_sizes : Nat) (hv : Value) (h_needs : Nat) (h_hidden : Nat) (h_given : Nat) (h_chosen : Nat) (h_picked : Nat) (Hp : Nat → Int) (Hs : Nat → Int) (Hn : Nat → Int) (Hh : Nat → Int) (Hg : Nat → Int) (Hc : Nat → Int) (Hk : Nat → Int) (wl : Int) (sn : Int) (hb : Int) (hp : Int) (hn : Int) (hf : Int) (b_wl : 0 ≤ wl ∧ wl ≤ 8) (b_sn : (-2147483648) ≤ sn ∧ sn ≤ 2147483647) (b_hb : 0 ≤ hb ∧ hb ≤ 4) (b_hp : (-2147483648) ≤ hp ∧ hp ≤ 2147483647) (b_hn : 0 ≤ hn ∧ hn ≤ 8) (b_hf : (-2147483648) ≤ hf ∧ hf ≤ 2147483647) (hd : hn - wl ≤ 5) (h_Hp : ∀ j, j < 4 → 0 ≤ Hp j ∧ Hp j ≤ 3) (h_Hs : ∀ j, j < 4 → 0 ≤ Hs j ∧ Hs j ≤ 30) (h_Hn : ∀ j, j < 8 → (-2147483648) ≤ Hn j ∧ Hn j ≤ 2147483647) (h_Hh : ∀ j, j < 8 → 0 ≤ Hh j ∧ Hh j ≤ 1) (h_Hg : ∀ j, j < 4 → (-2147483648) ≤ Hg j ∧ Hg j ≤ 2147483647) (h_Hc : ∀ j, j < 8 → 0 ≤ Hc j ∧ Hc j ≤ 3) (h_Hk : ∀ j, j < 8 → 0 ≤ Hk j ∧ Hk j ≤ 3) : Con l Z yX7_choose cX7_choose 4 none 8 182 0 0 [.ref h0, .int (iI wl), .int (iI sn)] [cO_irrviirrrrri h0 7 hb h_papers h_sizes hv hp hn h_needs h_hidden h_given h_chosen h_picked hf, cA Z h_papers 0 4 Hp, cA Z h_sizes 0 4 Hs, cA Z h_needs 0 8 Hn, cA Z h_hidden 2 8 Hh, cA Z h_given 0 4 Hg, cA Z h_chosen 0 8 Hc, cA Z h_picked 0 8 Hk] (fun r w' => ∃ (Hg2 : Nat → Int) (Hc2 : Nat → Int) (Hk2 : Nat → Int) (hf2 : Int), (r = none) ∧ (w' = [cO_irrviirrrrri h0 7 hb h_papers h_sizes hv hp hn h_needs h_hidden h_given h_chosen h_picked hf2, cA Z h_papers 0 4 Hp, cA Z h_sizes 0 4 Hs, cA Z h_needs 0 8 Hn, cA Z h_hidden 2 8 Hh, cA Z h_given 0 4 Hg2, cA Z h_chosen 0 8 Hc2, cA Z h_picked 0 8 Hk2]) ∧ ((-2147483648) ≤ hf2 ∧ hf2 ≤ 2147483647) ∧ (∀ j, j < 4 → (-2147483648) ≤ Hg2 j ∧ Hg2 j ≤ 2147483647) ∧ (∀ j, j < 8 → 0 ≤ Hc2 j ∧ Hc2 j ≤ 3) ∧ (∀ j, j < 8 → 0 ≤ Hk2 j ∧ Hk2 j ≤ 3)) := by
  refine enter (by decide) (Nat.le_of_ble_eq_true rfl) ?_
  intro p e s m args below meth c A X hnm hA
  have X : Cx p s m args meth c cX7_choose 4 none RX7 Z A := X
  refine g_as (pc' := 0) (lv' := [(0, .ref h0), (1, .int (iI wl)), (2, .int (iI sn))]) (st' := []) (ws' := [cO_irrviirrrrri h0 7 hb h_papers h_sizes hv hp hn h_needs h_hidden h_given h_chosen h_picked hf, cA Z h_papers 0 4 Hp, cA Z h_sizes 0 4 Hs, cA Z h_needs 0 8 Hn, cA Z h_hidden 2 8 Hh, cA Z h_given 0 4 Hg, cA Z h_chosen 0 8 Hc, cA Z h_picked 0 8 Hk]) rfl rfl rfl rfl ?_
  refine g_iload_n (pc := 0) X 2 rfl dX7_choose_0 ?_
  refine g_aload_n (pc := 1) X 0 rfl dX7_choose_1 ?_
  refine g_get (pc := 2) X inlX7 0 rfl rfl 11 (by decide) mw_49_4 rfl dX7_choose_2 ?_
  refine g_icmp_ltI (pc := 5) X 9 (by decide) b_sn b_hf dX7_choose_5 (fun c5 => ?_) (fun c5 => ?_)
  · refine g_iload_n (pc := 9) X 1 rfl dX7_choose_9 ?_
    refine g_aload_n (pc := 10) X 0 rfl dX7_choose_10 ?_
    refine g_get (pc := 11) X inlX7 0 rfl rfl 5 (by decide) mw_48_10 rfl dX7_choose_11 ?_
    refine g_icmp_ltI (pc := 14) X 23 (by decide) (inRb b_wl (by decide) (by decide)) (inRb b_hn (by decide) (by decide)) dX7_choose_14 (fun c14 => ?_) (fun c14 => ?_)
    · refine g_iconst (pc := 23) X (iI 0) (by rfl) dX7_choose_23 ?_
      refine g_istore_n (pc := 24) X (i := 3) rfl (by decide) (lv' := [(3, .int (iI 0)), (0, .ref h0), (1, .int (iI wl)), (2, .int (iI sn))]) rfl dX7_choose_24 ?_
      have loop25 : ∀ (fuel : Nat) (i : Int) (hf1 : Int) (Hg1 : Nat → Int) (Hc1 : Nat → Int) (Hk1 : Nat → Int), (0 ≤ i ∧ i ≤ 4) → ((-2147483648) ≤ hf1 ∧ hf1 ≤ 2147483647) → (∀ j, j < 4 → (-2147483648) ≤ Hg1 j ∧ Hg1 j ≤ 2147483647) → (∀ j, j < 8 → 0 ≤ Hc1 j ∧ Hc1 j ≤ 3) → (∀ j, j < 8 → 0 ≤ Hk1 j ∧ Hk1 j ≤ 3) → (5 - i).toNat < fuel → Gs p l e ({ frames := 8, cells := 0, slots := 0, locals := 182 } : Room) s m args below meth c (MQ below (gPost Z [cO_irrviirrrrri h0 7 hb h_papers h_sizes hv hp hn h_needs h_hidden h_given h_chosen h_picked hf, cA Z h_papers 0 4 Hp, cA Z h_sizes 0 4 Hs, cA Z h_needs 0 8 Hn, cA Z h_hidden 2 8 Hh, cA Z h_given 0 4 Hg, cA Z h_chosen 0 8 Hc, cA Z h_picked 0 8 Hk] s.heap.size (fun r w' => ∃ (Hg2 : Nat → Int) (Hc2 : Nat → Int) (Hk2 : Nat → Int) (hf2 : Int), (r = none) ∧ (w' = [cO_irrviirrrrri h0 7 hb h_papers h_sizes hv hp hn h_needs h_hidden h_given h_chosen h_picked hf2, cA Z h_papers 0 4 Hp, cA Z h_sizes 0 4 Hs, cA Z h_needs 0 8 Hn, cA Z h_hidden 2 8 Hh, cA Z h_given 0 4 Hg2, cA Z h_chosen 0 8 Hc2, cA Z h_picked 0 8 Hk2]) ∧ ((-2147483648) ≤ hf2 ∧ hf2 ≤ 2147483647) ∧ (∀ j, j < 4 → (-2147483648) ≤ Hg2 j ∧ Hg2 j ≤ 2147483647) ∧ (∀ j, j < 8 → 0 ≤ Hc2 j ∧ Hc2 j ≤ 3) ∧ (∀ j, j < 8 → 0 ≤ Hk2 j ∧ Hk2 j ≤ 3))) args s 0 0 (va_A [cO_irrviirrrrri h0 7 hb h_papers h_sizes hv hp hn h_needs h_hidden h_given h_chosen h_picked hf, cA Z h_papers 0 4 Hp, cA Z h_sizes 0 4 Hs, cA Z h_needs 0 8 Hn, cA Z h_hidden 2 8 Hh, cA Z h_given 0 4 Hg, cA Z h_chosen 0 8 Hc, cA Z h_picked 0 8 Hk] s.heap.size)) Z A 4 0 0 25 [(3, .int (iI i)), (0, .ref h0), (1, .int (iI wl)), (2, .int (iI sn))] [] [cO_irrviirrrrri h0 7 hb h_papers h_sizes hv hp hn h_needs h_hidden h_given h_chosen h_picked hf1, cA Z h_papers 0 4 Hp, cA Z h_sizes 0 4 Hs, cA Z h_needs 0 8 Hn, cA Z h_hidden 2 8 Hh, cA Z h_given 0 4 Hg1, cA Z h_chosen 0 8 Hc1, cA Z h_picked 0 8 Hk1] := by
        intro fuel
        induction fuel with
        | zero => intro i hf1 Hg1 Hc1 Hk1 _ _ _ _ _ hm; exact absurd hm (Nat.not_lt_zero _)
        | succ fuel ih =>
          intro i hf1 Hg1 Hc1 Hk1 b_i b_hf1 h_Hg1 h_Hc1 h_Hk1 hm
          refine g_iload_n (pc := 25) X 0 rfl dX7_choose_25 ?_
          refine g_aload_n (pc := 26) X 1 rfl dX7_choose_26 ?_
          refine g_get (pc := 27) X inlX7 0 rfl rfl 0 (by decide) mw_47_7 rfl dX7_choose_27 ?_
          refine g_icmp_geI (pc := 30) X 136 (by decide) (inRb b_i (by decide) (by decide)) (inRb b_hb (by decide) (by decide)) dX7_choose_30 (fun c30 => ?_) (fun c30 => ?_)
          · exact g_vret (pc := 136) X hA (⟨Hg1, Hc1, Hk1, hf1, rfl, rfl, (b_hf1), (h_Hg1), (h_Hc1), (h_Hk1)⟩) (by decide) (by decide) dX7_choose_136
          · refine g_aload_n (pc := 33) X 1 rfl dX7_choose_33 ?_
            refine g_get (pc := 34) X inlX7 0 rfl rfl 1 (by decide) mw_5_15 rfl dX7_choose_34 ?_
            refine g_iload_n (pc := 37) X 0 rfl dX7_choose_37 ?_
            refine g_ialdI (pc := 38) X 1 rfl (b_i.1) (by omega) (Int.le_trans b_i.2 (by decide)) dX7_choose_38 ?_
            refine g_nameI (fun y1 ey1 => ?_)
            have by1 : 0 ≤ y1 ∧ y1 ≤ 3 := by rw [ey1]; exact h_Hp _ (by omega)
            refine g_aload_n (pc := 39) X 1 rfl dX7_choose_39 ?_
            refine g_get (pc := 40) X inlX7 0 rfl rfl 4 (by decide) mw_48_6 rfl dX7_choose_40 ?_
            refine g_icmp_neI (pc := 43) X 130 (by decide) (inRb by1 (by decide) (by decide)) b_hp dX7_choose_43 (fun c43 => ?_) (fun c43 => ?_)
            · refine g_iincI (pc := 130) X 0 rfl (by decide) (lv' := [(3, .int (iI (i + 1))), (0, .ref h0), (1, .int (iI wl)), (2, .int (iI sn))]) rfl dX7_choose_130 ?_
              refine g_goto (pc := 133) X 25 (by decide) dX7_choose_133 ?_
              exact ih (i + 1) hf1 Hg1 Hc1 Hk1 (by omega) (b_hf1) (h_Hg1) (h_Hc1) (h_Hk1) (by omega)
            · refine g_aload_n (pc := 46) X 1 rfl dX7_choose_46 ?_
              refine g_get (pc := 47) X inlX7 0 rfl rfl 8 (by decide) mw_5_20 rfl dX7_choose_47 ?_
              refine g_iload_n (pc := 50) X 0 rfl dX7_choose_50 ?_
              refine g_ialdI (pc := 51) X 5 rfl (b_i.1) (by omega) (Int.le_trans b_i.2 (by decide)) dX7_choose_51 ?_
              refine g_nameI (fun y2 ey2 => ?_)
              have by2 : (-2147483648) ≤ y2 ∧ y2 ≤ 2147483647 := by rw [ey2]; exact h_Hg1 _ (by omega)
              refine g_aload_n (pc := 52) X 1 rfl dX7_choose_52 ?_
              refine g_get (pc := 53) X inlX7 0 rfl rfl 6 (by decide) mw_5_17 rfl dX7_choose_53 ?_
              refine g_iload_n (pc := 56) X 2 rfl dX7_choose_56 ?_
              refine g_ialdI (pc := 57) X 3 rfl (b_wl.1) (by omega) (Int.le_trans b_wl.2 (by decide)) dX7_choose_57 ?_
              refine g_nameI (fun y3 ey3 => ?_)
              have by3 : (-2147483648) ≤ y3 ∧ y3 ≤ 2147483647 := by rw [ey3]; exact h_Hn _ (by omega)
              refine g_iaddI (pc := 58) X dX7_choose_58 ?_
              refine g_any (fun y4 by4 => ?_)
              refine g_aload_n (pc := 59) X 1 rfl dX7_choose_59 ?_
              refine g_get (pc := 60) X inlX7 0 rfl rfl 2 (by decide) mw_5_16 rfl dX7_choose_60 ?_
              refine g_iload_n (pc := 63) X 0 rfl dX7_choose_63 ?_
              refine g_ialdI (pc := 64) X 2 rfl (b_i.1) (by omega) (Int.le_trans b_i.2 (by decide)) dX7_choose_64 ?_
              refine g_nameI (fun y5 ey5 => ?_)
              have by5 : 0 ≤ y5 ∧ y5 ≤ 30 := by rw [ey5]; exact h_Hs _ (by omega)
              refine g_icmp_gtI (pc := 65) X 130 (by decide) by4 (inRb by5 (by decide) (by decide)) dX7_choose_65 (fun c65 => ?_) (fun c65 => ?_)
              · refine g_iincI (pc := 130) X 0 rfl (by decide) (lv' := [(3, .int (iI (i + 1))), (0, .ref h0), (1, .int (iI wl)), (2, .int (iI sn))]) rfl dX7_choose_130 ?_
                refine g_goto (pc := 133) X 25 (by decide) dX7_choose_133 ?_
                exact ih (i + 1) hf1 Hg1 Hc1 Hk1 (by omega) (b_hf1) (h_Hg1) (h_Hc1) (h_Hk1) (by omega)
              · refine g_aload_n (pc := 68) X 1 rfl dX7_choose_68 ?_
                refine g_get (pc := 69) X inlX7 0 rfl rfl 9 (by decide) mw_5_21 rfl dX7_choose_69 ?_
                refine g_iload_n (pc := 72) X 2 rfl dX7_choose_72 ?_
                refine g_iload_n (pc := 73) X 0 rfl dX7_choose_73 ?_
                refine g_iastG (pc := 74) X 6 rfl (b_wl.1) (by omega) (Int.le_trans b_wl.2 (by decide)) (ws' := fun F6 => [cO_irrviirrrrri h0 7 hb h_papers h_sizes hv hp hn h_needs h_hidden h_given h_chosen h_picked hf1, cA Z h_papers 0 4 Hp, cA Z h_sizes 0 4 Hs, cA Z h_needs 0 8 Hn, cA Z h_hidden 2 8 Hh, cA Z h_given 0 4 Hg1, cA Z h_chosen 0 8 F6, cA Z h_picked 0 8 Hk1]) (fun _ => rfl) dX7_choose_74 (fun F6 eF6 => ?_)
                have hF6 : ∀ j, j < 8 → 0 ≤ F6 j ∧ F6 j ≤ 3 := by rw [eF6]; exact updI_B h_Hc1 (by omega)
                refine g_aload_n (pc := 75) X 1 rfl dX7_choose_75 ?_
                refine g_get (pc := 76) X inlX7 0 rfl rfl 8 (by decide) mw_5_20 rfl dX7_choose_76 ?_
                refine g_iload_n (pc := 79) X 0 rfl dX7_choose_79 ?_
                refine g_dup2 (pc := 80) X rfl rfl dX7_choose_80 ?_
                refine g_ialdI (pc := 81) X 5 rfl (b_i.1) (by omega) (Int.le_trans b_i.2 (by decide)) dX7_choose_81 ?_
                refine g_nameI (fun y7 ey7 => ?_)
                have by7 : (-2147483648) ≤ y7 ∧ y7 ≤ 2147483647 := by rw [ey7]; exact h_Hg1 _ (by omega)
                refine g_aload_n (pc := 82) X 1 rfl dX7_choose_82 ?_
                refine g_get (pc := 83) X inlX7 0 rfl rfl 6 (by decide) mw_5_17 rfl dX7_choose_83 ?_
                refine g_iload_n (pc := 86) X 2 rfl dX7_choose_86 ?_
                refine g_ialdI (pc := 87) X 3 rfl (b_wl.1) (by omega) (Int.le_trans b_wl.2 (by decide)) dX7_choose_87 ?_
                refine g_nameI (fun y8 ey8 => ?_)
                have by8 : (-2147483648) ≤ y8 ∧ y8 ≤ 2147483647 := by rw [ey8]; exact h_Hn _ (by omega)
                refine g_iaddI (pc := 88) X dX7_choose_88 ?_
                refine g_any (fun y9 by9 => ?_)
                refine g_iastG (pc := 89) X 5 rfl (b_i.1) (by omega) (Int.le_trans b_i.2 (by decide)) (ws' := fun F10 => [cO_irrviirrrrri h0 7 hb h_papers h_sizes hv hp hn h_needs h_hidden h_given h_chosen h_picked hf1, cA Z h_papers 0 4 Hp, cA Z h_sizes 0 4 Hs, cA Z h_needs 0 8 Hn, cA Z h_hidden 2 8 Hh, cA Z h_given 0 4 F10, cA Z h_chosen 0 8 F6, cA Z h_picked 0 8 Hk1]) (fun _ => rfl) dX7_choose_89 (fun F10 eF10 => ?_)
                have hF10 : ∀ j, j < 4 → (-2147483648) ≤ F10 j ∧ F10 j ≤ 2147483647 := by rw [eF10]; exact updI_B h_Hg1 (by omega)
                refine g_aload_n (pc := 90) X 1 rfl dX7_choose_90 ?_
                refine g_iload_n (pc := 91) X 2 rfl dX7_choose_91 ?_
                refine g_iconst (pc := 92) X (iI 1) (by rfl) dX7_choose_92 ?_
                refine g_iaddI (pc := 93) X dX7_choose_93 ?_
                refine g_iload_n (pc := 94) X 2 rfl dX7_choose_94 ?_
                refine g_if_neI (pc := 95) X 102 (by decide) (inRb b_wl (by decide) (by decide)) dX7_choose_95 (fun c95 => ?_) (fun c95 => ?_)
                · refine g_iload_n (pc := 102) X 3 rfl dX7_choose_102 ?_
                  refine g_aload_n (pc := 103) X 1 rfl dX7_choose_103 ?_
                  refine g_iload_n (pc := 104) X 2 rfl dX7_choose_104 ?_
                  refine g_iconst (pc := 105) X (iI 1) (by rfl) dX7_choose_105 ?_
                  refine g_isubI (pc := 106) X dX7_choose_106 ?_
                  refine g_iload_n (pc := 107) X 2 rfl dX7_choose_107 ?_
                  refine g_callV (pc := 108) X (k_X7_seenBetween l Z h0 h_papers h_sizes hv h_needs h_hidden h_given h_chosen h_picked Hh F6 (wl - 1) wl hb hp hn hf1 (by omega) (by omega) b_hb b_hp b_hn b_hf1 (h_Hh) (hF6)) iM_X7_seenBetween mw_49_13 mw_49_14 mw_49_15 0 rfl rfl [0, 4, 6] [1, 2, 3, 5, 7] rfl (wr := [cA Z h_papers 0 4 Hp, cA Z h_sizes 0 4 Hs, cA Z h_needs 0 8 Hn, cA Z h_given 0 4 F10, cA Z h_picked 0 8 Hk1]) rfl (by decide) rfl rfl (Nat.le_of_ble_eq_true rfl) (by decide) dX7_choose_108 (fun r w' hpo => ?_)
                  refine exN_1 hpo fun y11 hz => anD_3 hz fun e_r e_w hf108_b_y => ?_; clear hz hpo; subst e_r; subst e_w
                  refine g_as (pc' := 111) (lv' := [(3, .int (iI i)), (0, .ref h0), (1, .int (iI wl)), (2, .int (iI sn))]) (st' := [.int (iI y11), .int (iI sn), .int (iI (wl + 1)), .ref h0]) (ws' := [cA Z h_papers 0 4 Hp, cA Z h_sizes 0 4 Hs, cA Z h_needs 0 8 Hn, cA Z h_given 0 4 F10, cA Z h_picked 0 8 Hk1, cO_irrviirrrrri h0 7 hb h_papers h_sizes hv hp hn h_needs h_hidden h_given h_chosen h_picked hf1, cA Z h_hidden 2 8 Hh, cA Z h_chosen 0 8 F6]) rfl rfl rfl rfl ?_
                  refine g_iaddI (pc := 111) X dX7_choose_111 ?_
                  refine g_callV (pc := 112) X (k_X7_choose4 l Z h0 h_papers h_sizes hv h_needs h_hidden h_given h_chosen h_picked Hp Hs Hn Hh F10 F6 Hk1 (wl + 1) (sn + y11) hb hp hn hf1 (by omega) (by omega) b_hb b_hp b_hn b_hf1 (by omega) (h_Hp) (h_Hs) (h_Hn) (h_Hh) (hF10) (hF6) (h_Hk1)) iM_X7_choose mw_49_5 mw_49_6 mw_49_7 5 rfl rfl [5, 0, 1, 2, 6, 3, 7, 4] [] rfl (wr := []) rfl (by decide) rfl rfl (Nat.le_of_ble_eq_true rfl) (by decide) dX7_choose_112 (fun r w' hpo => ?_)
                  refine exN_4 hpo fun F13 F14 F15 y16 hz => anD_6 hz fun e_r e_w hf112_b_hf2 hf112_h_Hg2 hf112_h_Hc2 hf112_h_Hk2 => ?_; clear hz hpo; subst e_r; subst e_w
                  refine g_as (pc' := 115) (lv' := [(3, .int (iI i)), (0, .ref h0), (1, .int (iI wl)), (2, .int (iI sn))]) (st' := []) (ws' := [cO_irrviirrrrri h0 7 hb h_papers h_sizes hv hp hn h_needs h_hidden h_given h_chosen h_picked y16, cA Z h_papers 0 4 Hp, cA Z h_sizes 0 4 Hs, cA Z h_needs 0 8 Hn, cA Z h_hidden 2 8 Hh, cA Z h_given 0 4 F13, cA Z h_chosen 0 8 F14, cA Z h_picked 0 8 F15]) rfl rfl rfl rfl ?_
                  refine g_aload_n (pc := 115) X 1 rfl dX7_choose_115 ?_
                  refine g_get (pc := 116) X inlX7 0 rfl rfl 8 (by decide) mw_5_20 rfl dX7_choose_116 ?_
                  refine g_iload_n (pc := 119) X 0 rfl dX7_choose_119 ?_
                  refine g_dup2 (pc := 120) X rfl rfl dX7_choose_120 ?_
                  refine g_ialdI (pc := 121) X 5 rfl (b_i.1) (by omega) (Int.le_trans b_i.2 (by decide)) dX7_choose_121 ?_
                  refine g_nameI (fun y18 ey18 => ?_)
                  have by18 : (-2147483648) ≤ y18 ∧ y18 ≤ 2147483647 := by rw [ey18]; exact hf112_h_Hg2 _ (by omega)
                  refine g_aload_n (pc := 122) X 1 rfl dX7_choose_122 ?_
                  refine g_get (pc := 123) X inlX7 0 rfl rfl 6 (by decide) mw_5_17 rfl dX7_choose_123 ?_
                  refine g_iload_n (pc := 126) X 2 rfl dX7_choose_126 ?_
                  refine g_ialdI (pc := 127) X 3 rfl (b_wl.1) (by omega) (Int.le_trans b_wl.2 (by decide)) dX7_choose_127 ?_
                  refine g_nameI (fun y19 ey19 => ?_)
                  have by19 : (-2147483648) ≤ y19 ∧ y19 ≤ 2147483647 := by rw [ey19]; exact h_Hn _ (by omega)
                  refine g_isubI (pc := 128) X dX7_choose_128 ?_
                  refine g_any (fun y20 by20 => ?_)
                  refine g_iastG (pc := 129) X 5 rfl (b_i.1) (by omega) (Int.le_trans b_i.2 (by decide)) (ws' := fun F21 => [cO_irrviirrrrri h0 7 hb h_papers h_sizes hv hp hn h_needs h_hidden h_given h_chosen h_picked y16, cA Z h_papers 0 4 Hp, cA Z h_sizes 0 4 Hs, cA Z h_needs 0 8 Hn, cA Z h_hidden 2 8 Hh, cA Z h_given 0 4 F21, cA Z h_chosen 0 8 F14, cA Z h_picked 0 8 F15]) (fun _ => rfl) dX7_choose_129 (fun F21 eF21 => ?_)
                  have hF21 : ∀ j, j < 4 → (-2147483648) ≤ F21 j ∧ F21 j ≤ 2147483647 := by rw [eF21]; exact updI_B hf112_h_Hg2 (by omega)
                  refine g_iincI (pc := 130) X 0 rfl (by decide) (lv' := [(3, .int (iI (i + 1))), (0, .ref h0), (1, .int (iI wl)), (2, .int (iI sn))]) rfl dX7_choose_130 ?_
                  refine g_goto (pc := 133) X 25 (by decide) dX7_choose_133 ?_
                  exact ih (i + 1) y16 F21 F14 F15 (by omega) (hf112_b_hf2) (hF21) (hf112_h_Hc2) (hf112_h_Hk2) (by omega)
                · refine g_iload_n (pc := 98) X 3 rfl dX7_choose_98 ?_
                  refine g_goto (pc := 99) X 112 (by decide) dX7_choose_99 ?_
                  refine g_callV (pc := 112) X (k_X7_choose4 l Z h0 h_papers h_sizes hv h_needs h_hidden h_given h_chosen h_picked Hp Hs Hn Hh F10 F6 Hk1 (wl + 1) sn hb hp hn hf1 (by omega) b_sn b_hb b_hp b_hn b_hf1 (by omega) (h_Hp) (h_Hs) (h_Hn) (h_Hh) (hF10) (hF6) (h_Hk1)) iM_X7_choose mw_49_5 mw_49_6 mw_49_7 0 rfl rfl [0, 1, 2, 3, 4, 5, 6, 7] [] rfl (wr := []) rfl (by decide) rfl rfl (Nat.le_of_ble_eq_true rfl) (by decide) dX7_choose_112 (fun r w' hpo => ?_)
                  refine exN_4 hpo fun F22 F23 F24 y25 hz => anD_6 hz fun e_r e_w hf112_b_hf2 hf112_h_Hg2 hf112_h_Hc2 hf112_h_Hk2 => ?_; clear hz hpo; subst e_r; subst e_w
                  refine g_as (pc' := 115) (lv' := [(3, .int (iI i)), (0, .ref h0), (1, .int (iI wl)), (2, .int (iI sn))]) (st' := []) (ws' := [cO_irrviirrrrri h0 7 hb h_papers h_sizes hv hp hn h_needs h_hidden h_given h_chosen h_picked y25, cA Z h_papers 0 4 Hp, cA Z h_sizes 0 4 Hs, cA Z h_needs 0 8 Hn, cA Z h_hidden 2 8 Hh, cA Z h_given 0 4 F22, cA Z h_chosen 0 8 F23, cA Z h_picked 0 8 F24]) rfl rfl rfl rfl ?_
                  refine g_aload_n (pc := 115) X 1 rfl dX7_choose_115 ?_
                  refine g_get (pc := 116) X inlX7 0 rfl rfl 8 (by decide) mw_5_20 rfl dX7_choose_116 ?_
                  refine g_iload_n (pc := 119) X 0 rfl dX7_choose_119 ?_
                  refine g_dup2 (pc := 120) X rfl rfl dX7_choose_120 ?_
                  refine g_ialdI (pc := 121) X 5 rfl (b_i.1) (by omega) (Int.le_trans b_i.2 (by decide)) dX7_choose_121 ?_
                  refine g_nameI (fun y27 ey27 => ?_)
                  have by27 : (-2147483648) ≤ y27 ∧ y27 ≤ 2147483647 := by rw [ey27]; exact hf112_h_Hg2 _ (by omega)
                  refine g_aload_n (pc := 122) X 1 rfl dX7_choose_122 ?_
                  refine g_get (pc := 123) X inlX7 0 rfl rfl 6 (by decide) mw_5_17 rfl dX7_choose_123 ?_
                  refine g_iload_n (pc := 126) X 2 rfl dX7_choose_126 ?_
                  refine g_ialdI (pc := 127) X 3 rfl (b_wl.1) (by omega) (Int.le_trans b_wl.2 (by decide)) dX7_choose_127 ?_
                  refine g_nameI (fun y28 ey28 => ?_)
                  have by28 : (-2147483648) ≤ y28 ∧ y28 ≤ 2147483647 := by rw [ey28]; exact h_Hn _ (by omega)
                  refine g_isubI (pc := 128) X dX7_choose_128 ?_
                  refine g_any (fun y29 by29 => ?_)
                  refine g_iastG (pc := 129) X 5 rfl (b_i.1) (by omega) (Int.le_trans b_i.2 (by decide)) (ws' := fun F30 => [cO_irrviirrrrri h0 7 hb h_papers h_sizes hv hp hn h_needs h_hidden h_given h_chosen h_picked y25, cA Z h_papers 0 4 Hp, cA Z h_sizes 0 4 Hs, cA Z h_needs 0 8 Hn, cA Z h_hidden 2 8 Hh, cA Z h_given 0 4 F30, cA Z h_chosen 0 8 F23, cA Z h_picked 0 8 F24]) (fun _ => rfl) dX7_choose_129 (fun F30 eF30 => ?_)
                  have hF30 : ∀ j, j < 4 → (-2147483648) ≤ F30 j ∧ F30 j ≤ 2147483647 := by rw [eF30]; exact updI_B hf112_h_Hg2 (by omega)
                  refine g_iincI (pc := 130) X 0 rfl (by decide) (lv' := [(3, .int (iI (i + 1))), (0, .ref h0), (1, .int (iI wl)), (2, .int (iI sn))]) rfl dX7_choose_130 ?_
                  refine g_goto (pc := 133) X 25 (by decide) dX7_choose_133 ?_
                  exact ih (i + 1) y25 F30 F23 F24 (by omega) (hf112_b_hf2) (hF30) (hf112_h_Hc2) (hf112_h_Hk2) (by omega)
      exact loop25 _ 0 hf Hg Hc Hk (by omega) (b_hf) (h_Hg) (h_Hc) (h_Hk) (Nat.lt_succ_self _)
    · refine g_aload_n (pc := 17) X 0 rfl dX7_choose_17 ?_
      refine g_iload_n (pc := 18) X 2 rfl dX7_choose_18 ?_
      refine g_callV (pc := 19) X (k_X7_pick l Z h0 h_papers h_sizes hv h_needs h_hidden h_given h_chosen h_picked Hh Hc Hk sn hb hp hn hf b_sn b_hb b_hp b_hn b_hf (h_Hh) (h_Hc) (h_Hk)) iM_X7_pick mw_49_9 mw_49_10 mw_49_11 0 rfl rfl [0, 4, 6, 7] [1, 2, 3, 5] rfl (wr := [cA Z h_papers 0 4 Hp, cA Z h_sizes 0 4 Hs, cA Z h_needs 0 8 Hn, cA Z h_given 0 4 Hg]) rfl (by decide) rfl rfl (Nat.le_of_ble_eq_true rfl) (by decide) dX7_choose_19 (fun r w' hpo => ?_)
      refine exN_2 hpo fun F31 y32 hz => anD_4 hz fun e_r e_w hf19_b_hf2 hf19_h_Hk2 => ?_; clear hz hpo; subst e_r; subst e_w
      refine g_as (pc' := 22) (lv' := [(0, .ref h0), (1, .int (iI wl)), (2, .int (iI sn))]) (st' := []) (ws' := [cA Z h_papers 0 4 Hp, cA Z h_sizes 0 4 Hs, cA Z h_needs 0 8 Hn, cA Z h_given 0 4 Hg, cO_irrviirrrrri h0 7 hb h_papers h_sizes hv hp hn h_needs h_hidden h_given h_chosen h_picked y32, cA Z h_hidden 2 8 Hh, cA Z h_chosen 0 8 Hc, cA Z h_picked 0 8 F31]) rfl rfl rfl rfl ?_
      refine g_ws (ws' := [cO_irrviirrrrri h0 7 hb h_papers h_sizes hv hp hn h_needs h_hidden h_given h_chosen h_picked y32, cA Z h_papers 0 4 Hp, cA Z h_sizes 0 4 Hs, cA Z h_needs 0 8 Hn, cA Z h_hidden 2 8 Hh, cA Z h_given 0 4 Hg, cA Z h_chosen 0 8 Hc, cA Z h_picked 0 8 F31]) [4, 0, 1, 2, 5, 3, 6, 7] (by decide) rfl ?_
      exact g_vret (pc := 22) X hA (⟨Hg, Hc, F31, y32, rfl, rfl, (hf19_b_hf2), (h_Hg), (h_Hc), (hf19_h_Hk2)⟩) (by decide) (by decide) dX7_choose_22
  · exact g_vret (pc := 8) X hA (⟨Hg, Hc, Hk, hf, rfl, rfl, (b_hf), (h_Hg), (h_Hc), (h_Hk)⟩) (by decide) (by decide) dX7_choose_8

set_option maxHeartbeats 4000000 in
set_option maxRecDepth 100000 in
theorem k_X7_choose6 (l : Launch) (Z : gZ) (h0 : Nat) (h_papers : Nat) (h_sizes : Nat) (hv : Value) (h_needs : Nat) (h_hidden : Nat) (h_given : Nat) (h_chosen : Nat) (h_picked : Nat) (Hp : Nat → Int) (Hs : Nat → Int) (Hn : Nat → Int) (Hh : Nat → Int) (Hg : Nat → Int) (Hc : Nat → Int) (Hk : Nat → Int) (wl : Int) (sn : Int) (hb : Int) (hp : Int) (hn : Int) (hf : Int) (b_wl : 0 ≤ wl ∧ wl ≤ 8) (b_sn : (-2147483648) ≤ sn ∧ sn ≤ 2147483647) (b_hb : 0 ≤ hb ∧ hb ≤ 4) (b_hp : (-2147483648) ≤ hp ∧ hp ≤ 2147483647) (b_hn : 0 ≤ hn ∧ hn ≤ 8) (b_hf : (-2147483648) ≤ hf ∧ hf ≤ 2147483647) (hd : hn - wl ≤ 6) (h_Hp : ∀ j, j < 4 → 0 ≤ Hp j ∧ Hp j ≤ 3) (h_Hs : ∀ j, j < 4 → 0 ≤ Hs j ∧ Hs j ≤ 30) (h_Hn : ∀ j, j < 8 → (-2147483648) ≤ Hn j ∧ Hn j ≤ 2147483647) (h_Hh : ∀ j, j < 8 → 0 ≤ Hh j ∧ Hh j ≤ 1) (h_Hg : ∀ j, j < 4 → (-2147483648) ≤ Hg j ∧ Hg j ≤ 2147483647) (h_Hc : ∀ j, j < 8 → 0 ≤ Hc j ∧ Hc j ≤ 3) (h_Hk : ∀ j, j < 8 → 0 ≤ Hk j ∧ Hk j ≤ 3) : Con l Z yX7_choose cX7_choose 4 none 9 205 0 0 [.ref h0, .int (iI wl), .int (iI sn)] [cO_irrviirrrrri h0 7 hb h_papers h_sizes hv hp hn h_needs h_hidden h_given h_chosen h_picked hf, cA Z h_papers 0 4 Hp, cA Z h_sizes 0 4 Hs, cA Z h_needs 0 8 Hn, cA Z h_hidden 2 8 Hh, cA Z h_given 0 4 Hg, cA Z h_chosen 0 8 Hc, cA Z h_picked 0 8 Hk] (fun r w' => ∃ (Hg2 : Nat → Int) (Hc2 : Nat → Int) (Hk2 : Nat → Int) (hf2 : Int), (r = none) ∧ (w' = [cO_irrviirrrrri h0 7 hb h_papers h_sizes hv hp hn h_needs h_hidden h_given h_chosen h_picked hf2, cA Z h_papers 0 4 Hp, cA Z h_sizes 0 4 Hs, cA Z h_needs 0 8 Hn, cA Z h_hidden 2 8 Hh, cA Z h_given 0 4 Hg2, cA Z h_chosen 0 8 Hc2, cA Z h_picked 0 8 Hk2]) ∧ ((-2147483648) ≤ hf2 ∧ hf2 ≤ 2147483647) ∧ (∀ j, j < 4 → (-2147483648) ≤ Hg2 j ∧ Hg2 j ≤ 2147483647) ∧ (∀ j, j < 8 → 0 ≤ Hc2 j ∧ Hc2 j ≤ 3) ∧ (∀ j, j < 8 → 0 ≤ Hk2 j ∧ Hk2 j ≤ 3)) := by
  refine enter (by decide) (Nat.le_of_ble_eq_true rfl) ?_
  intro p e s m args below meth c A X hnm hA
  have X : Cx p s m args meth c cX7_choose 4 none RX7 Z A := X
  refine g_as (pc' := 0) (lv' := [(0, .ref h0), (1, .int (iI wl)), (2, .int (iI sn))]) (st' := []) (ws' := [cO_irrviirrrrri h0 7 hb h_papers h_sizes hv hp hn h_needs h_hidden h_given h_chosen h_picked hf, cA Z h_papers 0 4 Hp, cA Z h_sizes 0 4 Hs, cA Z h_needs 0 8 Hn, cA Z h_hidden 2 8 Hh, cA Z h_given 0 4 Hg, cA Z h_chosen 0 8 Hc, cA Z h_picked 0 8 Hk]) rfl rfl rfl rfl ?_
  refine g_iload_n (pc := 0) X 2 rfl dX7_choose_0 ?_
  refine g_aload_n (pc := 1) X 0 rfl dX7_choose_1 ?_
  refine g_get (pc := 2) X inlX7 0 rfl rfl 11 (by decide) mw_49_4 rfl dX7_choose_2 ?_
  refine g_icmp_ltI (pc := 5) X 9 (by decide) b_sn b_hf dX7_choose_5 (fun c5 => ?_) (fun c5 => ?_)
  · refine g_iload_n (pc := 9) X 1 rfl dX7_choose_9 ?_
    refine g_aload_n (pc := 10) X 0 rfl dX7_choose_10 ?_
    refine g_get (pc := 11) X inlX7 0 rfl rfl 5 (by decide) mw_48_10 rfl dX7_choose_11 ?_
    refine g_icmp_ltI (pc := 14) X 23 (by decide) (inRb b_wl (by decide) (by decide)) (inRb b_hn (by decide) (by decide)) dX7_choose_14 (fun c14 => ?_) (fun c14 => ?_)
    · refine g_iconst (pc := 23) X (iI 0) (by rfl) dX7_choose_23 ?_
      refine g_istore_n (pc := 24) X (i := 3) rfl (by decide) (lv' := [(3, .int (iI 0)), (0, .ref h0), (1, .int (iI wl)), (2, .int (iI sn))]) rfl dX7_choose_24 ?_
      have loop25 : ∀ (fuel : Nat) (i : Int) (hf1 : Int) (Hg1 : Nat → Int) (Hc1 : Nat → Int) (Hk1 : Nat → Int), (0 ≤ i ∧ i ≤ 4) → ((-2147483648) ≤ hf1 ∧ hf1 ≤ 2147483647) → (∀ j, j < 4 → (-2147483648) ≤ Hg1 j ∧ Hg1 j ≤ 2147483647) → (∀ j, j < 8 → 0 ≤ Hc1 j ∧ Hc1 j ≤ 3) → (∀ j, j < 8 → 0 ≤ Hk1 j ∧ Hk1 j ≤ 3) → (5 - i).toNat < fuel → Gs p l e ({ frames := 9, cells := 0, slots := 0, locals := 205 } : Room) s m args below meth c (MQ below (gPost Z [cO_irrviirrrrri h0 7 hb h_papers h_sizes hv hp hn h_needs h_hidden h_given h_chosen h_picked hf, cA Z h_papers 0 4 Hp, cA Z h_sizes 0 4 Hs, cA Z h_needs 0 8 Hn, cA Z h_hidden 2 8 Hh, cA Z h_given 0 4 Hg, cA Z h_chosen 0 8 Hc, cA Z h_picked 0 8 Hk] s.heap.size (fun r w' => ∃ (Hg2 : Nat → Int) (Hc2 : Nat → Int) (Hk2 : Nat → Int) (hf2 : Int), (r = none) ∧ (w' = [cO_irrviirrrrri h0 7 hb h_papers h_sizes hv hp hn h_needs h_hidden h_given h_chosen h_picked hf2, cA Z h_papers 0 4 Hp, cA Z h_sizes 0 4 Hs, cA Z h_needs 0 8 Hn, cA Z h_hidden 2 8 Hh, cA Z h_given 0 4 Hg2, cA Z h_chosen 0 8 Hc2, cA Z h_picked 0 8 Hk2]) ∧ ((-2147483648) ≤ hf2 ∧ hf2 ≤ 2147483647) ∧ (∀ j, j < 4 → (-2147483648) ≤ Hg2 j ∧ Hg2 j ≤ 2147483647) ∧ (∀ j, j < 8 → 0 ≤ Hc2 j ∧ Hc2 j ≤ 3) ∧ (∀ j, j < 8 → 0 ≤ Hk2 j ∧ Hk2 j ≤ 3))) args s 0 0 (va_A [cO_irrviirrrrri h0 7 hb h_papers h_sizes hv hp hn h_needs h_hidden h_given h_chosen h_picked hf, cA Z h_papers 0 4 Hp, cA Z h_sizes 0 4 Hs, cA Z h_needs 0 8 Hn, cA Z h_hidden 2 8 Hh, cA Z h_given 0 4 Hg, cA Z h_chosen 0 8 Hc, cA Z h_picked 0 8 Hk] s.heap.size)) Z A 4 0 0 25 [(3, .int (iI i)), (0, .ref h0), (1, .int (iI wl)), (2, .int (iI sn))] [] [cO_irrviirrrrri h0 7 hb h_papers h_sizes hv hp hn h_needs h_hidden h_given h_chosen h_picked hf1, cA Z h_papers 0 4 Hp, cA Z h_sizes 0 4 Hs, cA Z h_needs 0 8 Hn, cA Z h_hidden 2 8 Hh, cA Z h_given 0 4 Hg1, cA Z h_chosen 0 8 Hc1, cA Z h_picked 0 8 Hk1] := by
        intro fuel
        induction fuel with
        | zero => intro i hf1 Hg1 Hc1 Hk1 _ _ _ _ _ hm; exact absurd hm (Nat.not_lt_zero _)
        | succ fuel ih =>
          intro i hf1 Hg1 Hc1 Hk1 b_i b_hf1 h_Hg1 h_Hc1 h_Hk1 hm
          refine g_iload_n (pc := 25) X 0 rfl dX7_choose_25 ?_
          refine g_aload_n (pc := 26) X 1 rfl dX7_choose_26 ?_
          refine g_get (pc := 27) X inlX7 0 rfl rfl 0 (by decide) mw_47_7 rfl dX7_choose_27 ?_
          refine g_icmp_geI (pc := 30) X 136 (by decide) (inRb b_i (by decide) (by decide)) (inRb b_hb (by decide) (by decide)) dX7_choose_30 (fun c30 => ?_) (fun c30 => ?_)
          · exact g_vret (pc := 136) X hA (⟨Hg1, Hc1, Hk1, hf1, rfl, rfl, (b_hf1), (h_Hg1), (h_Hc1), (h_Hk1)⟩) (by decide) (by decide) dX7_choose_136
          · refine g_aload_n (pc := 33) X 1 rfl dX7_choose_33 ?_
            refine g_get (pc := 34) X inlX7 0 rfl rfl 1 (by decide) mw_5_15 rfl dX7_choose_34 ?_
            refine g_iload_n (pc := 37) X 0 rfl dX7_choose_37 ?_
            refine g_ialdI (pc := 38) X 1 rfl (b_i.1) (by omega) (Int.le_trans b_i.2 (by decide)) dX7_choose_38 ?_
            refine g_nameI (fun y1 ey1 => ?_)
            have by1 : 0 ≤ y1 ∧ y1 ≤ 3 := by rw [ey1]; exact h_Hp _ (by omega)
            refine g_aload_n (pc := 39) X 1 rfl dX7_choose_39 ?_
            refine g_get (pc := 40) X inlX7 0 rfl rfl 4 (by decide) mw_48_6 rfl dX7_choose_40 ?_
            refine g_icmp_neI (pc := 43) X 130 (by decide) (inRb by1 (by decide) (by decide)) b_hp dX7_choose_43 (fun c43 => ?_) (fun c43 => ?_)
            · refine g_iincI (pc := 130) X 0 rfl (by decide) (lv' := [(3, .int (iI (i + 1))), (0, .ref h0), (1, .int (iI wl)), (2, .int (iI sn))]) rfl dX7_choose_130 ?_
              refine g_goto (pc := 133) X 25 (by decide) dX7_choose_133 ?_
              exact ih (i + 1) hf1 Hg1 Hc1 Hk1 (by omega) (b_hf1) (h_Hg1) (h_Hc1) (h_Hk1) (by omega)
            · refine g_aload_n (pc := 46) X 1 rfl dX7_choose_46 ?_
              refine g_get (pc := 47) X inlX7 0 rfl rfl 8 (by decide) mw_5_20 rfl dX7_choose_47 ?_
              refine g_iload_n (pc := 50) X 0 rfl dX7_choose_50 ?_
              refine g_ialdI (pc := 51) X 5 rfl (b_i.1) (by omega) (Int.le_trans b_i.2 (by decide)) dX7_choose_51 ?_
              refine g_nameI (fun y2 ey2 => ?_)
              have by2 : (-2147483648) ≤ y2 ∧ y2 ≤ 2147483647 := by rw [ey2]; exact h_Hg1 _ (by omega)
              refine g_aload_n (pc := 52) X 1 rfl dX7_choose_52 ?_
              refine g_get (pc := 53) X inlX7 0 rfl rfl 6 (by decide) mw_5_17 rfl dX7_choose_53 ?_
              refine g_iload_n (pc := 56) X 2 rfl dX7_choose_56 ?_
              refine g_ialdI (pc := 57) X 3 rfl (b_wl.1) (by omega) (Int.le_trans b_wl.2 (by decide)) dX7_choose_57 ?_
              refine g_nameI (fun y3 ey3 => ?_)
              have by3 : (-2147483648) ≤ y3 ∧ y3 ≤ 2147483647 := by rw [ey3]; exact h_Hn _ (by omega)
              refine g_iaddI (pc := 58) X dX7_choose_58 ?_
              refine g_any (fun y4 by4 => ?_)
              refine g_aload_n (pc := 59) X 1 rfl dX7_choose_59 ?_
              refine g_get (pc := 60) X inlX7 0 rfl rfl 2 (by decide) mw_5_16 rfl dX7_choose_60 ?_
              refine g_iload_n (pc := 63) X 0 rfl dX7_choose_63 ?_
              refine g_ialdI (pc := 64) X 2 rfl (b_i.1) (by omega) (Int.le_trans b_i.2 (by decide)) dX7_choose_64 ?_
              refine g_nameI (fun y5 ey5 => ?_)
              have by5 : 0 ≤ y5 ∧ y5 ≤ 30 := by rw [ey5]; exact h_Hs _ (by omega)
              refine g_icmp_gtI (pc := 65) X 130 (by decide) by4 (inRb by5 (by decide) (by decide)) dX7_choose_65 (fun c65 => ?_) (fun c65 => ?_)
              · refine g_iincI (pc := 130) X 0 rfl (by decide) (lv' := [(3, .int (iI (i + 1))), (0, .ref h0), (1, .int (iI wl)), (2, .int (iI sn))]) rfl dX7_choose_130 ?_
                refine g_goto (pc := 133) X 25 (by decide) dX7_choose_133 ?_
                exact ih (i + 1) hf1 Hg1 Hc1 Hk1 (by omega) (b_hf1) (h_Hg1) (h_Hc1) (h_Hk1) (by omega)
              · refine g_aload_n (pc := 68) X 1 rfl dX7_choose_68 ?_
                refine g_get (pc := 69) X inlX7 0 rfl rfl 9 (by decide) mw_5_21 rfl dX7_choose_69 ?_
                refine g_iload_n (pc := 72) X 2 rfl dX7_choose_72 ?_
                refine g_iload_n (pc := 73) X 0 rfl dX7_choose_73 ?_
                refine g_iastG (pc := 74) X 6 rfl (b_wl.1) (by omega) (Int.le_trans b_wl.2 (by decide)) (ws' := fun F6 => [cO_irrviirrrrri h0 7 hb h_papers h_sizes hv hp hn h_needs h_hidden h_given h_chosen h_picked hf1, cA Z h_papers 0 4 Hp, cA Z h_sizes 0 4 Hs, cA Z h_needs 0 8 Hn, cA Z h_hidden 2 8 Hh, cA Z h_given 0 4 Hg1, cA Z h_chosen 0 8 F6, cA Z h_picked 0 8 Hk1]) (fun _ => rfl) dX7_choose_74 (fun F6 eF6 => ?_)
                have hF6 : ∀ j, j < 8 → 0 ≤ F6 j ∧ F6 j ≤ 3 := by rw [eF6]; exact updI_B h_Hc1 (by omega)
                refine g_aload_n (pc := 75) X 1 rfl dX7_choose_75 ?_
                refine g_get (pc := 76) X inlX7 0 rfl rfl 8 (by decide) mw_5_20 rfl dX7_choose_76 ?_
                refine g_iload_n (pc := 79) X 0 rfl dX7_choose_79 ?_
                refine g_dup2 (pc := 80) X rfl rfl dX7_choose_80 ?_
                refine g_ialdI (pc := 81) X 5 rfl (b_i.1) (by omega) (Int.le_trans b_i.2 (by decide)) dX7_choose_81 ?_
                refine g_nameI (fun y7 ey7 => ?_)
                have by7 : (-2147483648) ≤ y7 ∧ y7 ≤ 2147483647 := by rw [ey7]; exact h_Hg1 _ (by omega)
                refine g_aload_n (pc := 82) X 1 rfl dX7_choose_82 ?_
                refine g_get (pc := 83) X inlX7 0 rfl rfl 6 (by decide) mw_5_17 rfl dX7_choose_83 ?_
                refine g_iload_n (pc := 86) X 2 rfl dX7_choose_86 ?_
                refine g_ialdI (pc := 87) X 3 rfl (b_wl.1) (by omega) (Int.le_trans b_wl.2 (by decide)) dX7_choose_87 ?_
                refine g_nameI (fun y8 ey8 => ?_)
                have by8 : (-2147483648) ≤ y8 ∧ y8 ≤ 2147483647 := by rw [ey8]; exact h_Hn _ (by omega)
                refine g_iaddI (pc := 88) X dX7_choose_88 ?_
                refine g_any (fun y9 by9 => ?_)
                refine g_iastG (pc := 89) X 5 rfl (b_i.1) (by omega) (Int.le_trans b_i.2 (by decide)) (ws' := fun F10 => [cO_irrviirrrrri h0 7 hb h_papers h_sizes hv hp hn h_needs h_hidden h_given h_chosen h_picked hf1, cA Z h_papers 0 4 Hp, cA Z h_sizes 0 4 Hs, cA Z h_needs 0 8 Hn, cA Z h_hidden 2 8 Hh, cA Z h_given 0 4 F10, cA Z h_chosen 0 8 F6, cA Z h_picked 0 8 Hk1]) (fun _ => rfl) dX7_choose_89 (fun F10 eF10 => ?_)
                have hF10 : ∀ j, j < 4 → (-2147483648) ≤ F10 j ∧ F10 j ≤ 2147483647 := by rw [eF10]; exact updI_B h_Hg1 (by omega)
                refine g_aload_n (pc := 90) X 1 rfl dX7_choose_90 ?_
                refine g_iload_n (pc := 91) X 2 rfl dX7_choose_91 ?_
                refine g_iconst (pc := 92) X (iI 1) (by rfl) dX7_choose_92 ?_
                refine g_iaddI (pc := 93) X dX7_choose_93 ?_
                refine g_iload_n (pc := 94) X 2 rfl dX7_choose_94 ?_
                refine g_if_neI (pc := 95) X 102 (by decide) (inRb b_wl (by decide) (by decide)) dX7_choose_95 (fun c95 => ?_) (fun c95 => ?_)
                · refine g_iload_n (pc := 102) X 3 rfl dX7_choose_102 ?_
                  refine g_aload_n (pc := 103) X 1 rfl dX7_choose_103 ?_
                  refine g_iload_n (pc := 104) X 2 rfl dX7_choose_104 ?_
                  refine g_iconst (pc := 105) X (iI 1) (by rfl) dX7_choose_105 ?_
                  refine g_isubI (pc := 106) X dX7_choose_106 ?_
                  refine g_iload_n (pc := 107) X 2 rfl dX7_choose_107 ?_
                  refine g_callV (pc := 108) X (k_X7_seenBetween l Z h0 h_papers h_sizes hv h_needs h_hidden h_given h_chosen h_picked Hh F6 (wl - 1) wl hb hp hn hf1 (by omega) (by omega) b_hb b_hp b_hn b_hf1 (h_Hh) (hF6)) iM_X7_seenBetween mw_49_13 mw_49_14 mw_49_15 0 rfl rfl [0, 4, 6] [1, 2, 3, 5, 7] rfl (wr := [cA Z h_papers 0 4 Hp, cA Z h_sizes 0 4 Hs, cA Z h_needs 0 8 Hn, cA Z h_given 0 4 F10, cA Z h_picked 0 8 Hk1]) rfl (by decide) rfl rfl (Nat.le_of_ble_eq_true rfl) (by decide) dX7_choose_108 (fun r w' hpo => ?_)
                  refine exN_1 hpo fun y11 hz => anD_3 hz fun e_r e_w hf108_b_y => ?_; clear hz hpo; subst e_r; subst e_w
                  refine g_as (pc' := 111) (lv' := [(3, .int (iI i)), (0, .ref h0), (1, .int (iI wl)), (2, .int (iI sn))]) (st' := [.int (iI y11), .int (iI sn), .int (iI (wl + 1)), .ref h0]) (ws' := [cA Z h_papers 0 4 Hp, cA Z h_sizes 0 4 Hs, cA Z h_needs 0 8 Hn, cA Z h_given 0 4 F10, cA Z h_picked 0 8 Hk1, cO_irrviirrrrri h0 7 hb h_papers h_sizes hv hp hn h_needs h_hidden h_given h_chosen h_picked hf1, cA Z h_hidden 2 8 Hh, cA Z h_chosen 0 8 F6]) rfl rfl rfl rfl ?_
                  refine g_iaddI (pc := 111) X dX7_choose_111 ?_
                  refine g_callV (pc := 112) X (k_X7_choose5 l Z h0 h_papers h_sizes hv h_needs h_hidden h_given h_chosen h_picked Hp Hs Hn Hh F10 F6 Hk1 (wl + 1) (sn + y11) hb hp hn hf1 (by omega) (by omega) b_hb b_hp b_hn b_hf1 (by omega) (h_Hp) (h_Hs) (h_Hn) (h_Hh) (hF10) (hF6) (h_Hk1)) iM_X7_choose mw_49_5 mw_49_6 mw_49_7 5 rfl rfl [5, 0, 1, 2, 6, 3, 7, 4] [] rfl (wr := []) rfl (by decide) rfl rfl (Nat.le_of_ble_eq_true rfl) (by decide) dX7_choose_112 (fun r w' hpo => ?_)
                  refine exN_4 hpo fun F13 F14 F15 y16 hz => anD_6 hz fun e_r e_w hf112_b_hf2 hf112_h_Hg2 hf112_h_Hc2 hf112_h_Hk2 => ?_; clear hz hpo; subst e_r; subst e_w
                  refine g_as (pc' := 115) (lv' := [(3, .int (iI i)), (0, .ref h0), (1, .int (iI wl)), (2, .int (iI sn))]) (st' := []) (ws' := [cO_irrviirrrrri h0 7 hb h_papers h_sizes hv hp hn h_needs h_hidden h_given h_chosen h_picked y16, cA Z h_papers 0 4 Hp, cA Z h_sizes 0 4 Hs, cA Z h_needs 0 8 Hn, cA Z h_hidden 2 8 Hh, cA Z h_given 0 4 F13, cA Z h_chosen 0 8 F14, cA Z h_picked 0 8 F15]) rfl rfl rfl rfl ?_
                  refine g_aload_n (pc := 115) X 1 rfl dX7_choose_115 ?_
                  refine g_get (pc := 116) X inlX7 0 rfl rfl 8 (by decide) mw_5_20 rfl dX7_choose_116 ?_
                  refine g_iload_n (pc := 119) X 0 rfl dX7_choose_119 ?_
                  refine g_dup2 (pc := 120) X rfl rfl dX7_choose_120 ?_
                  refine g_ialdI (pc := 121) X 5 rfl (b_i.1) (by omega) (Int.le_trans b_i.2 (by decide)) dX7_choose_121 ?_
                  refine g_nameI (fun y18 ey18 => ?_)
                  have by18 : (-2147483648) ≤ y18 ∧ y18 ≤ 2147483647 := by rw [ey18]; exact hf112_h_Hg2 _ (by omega)
                  refine g_aload_n (pc := 122) X 1 rfl dX7_choose_122 ?_
                  refine g_get (pc := 123) X inlX7 0 rfl rfl 6 (by decide) mw_5_17 rfl dX7_choose_123 ?_
                  refine g_iload_n (pc := 126) X 2 rfl dX7_choose_126 ?_
                  refine g_ialdI (pc := 127) X 3 rfl (b_wl.1) (by omega) (Int.le_trans b_wl.2 (by decide)) dX7_choose_127 ?_
                  refine g_nameI (fun y19 ey19 => ?_)
                  have by19 : (-2147483648) ≤ y19 ∧ y19 ≤ 2147483647 := by rw [ey19]; exact h_Hn _ (by omega)
                  refine g_isubI (pc := 128) X dX7_choose_128 ?_
                  refine g_any (fun y20 by20 => ?_)
                  refine g_iastG (pc := 129) X 5 rfl (b_i.1) (by omega) (Int.le_trans b_i.2 (by decide)) (ws' := fun F21 => [cO_irrviirrrrri h0 7 hb h_papers h_sizes hv hp hn h_needs h_hidden h_given h_chosen h_picked y16, cA Z h_papers 0 4 Hp, cA Z h_sizes 0 4 Hs, cA Z h_needs 0 8 Hn, cA Z h_hidden 2 8 Hh, cA Z h_given 0 4 F21, cA Z h_chosen 0 8 F14, cA Z h_picked 0 8 F15]) (fun _ => rfl) dX7_choose_129 (fun F21 eF21 => ?_)
                  have hF21 : ∀ j, j < 4 → (-2147483648) ≤ F21 j ∧ F21 j ≤ 2147483647 := by rw [eF21]; exact updI_B hf112_h_Hg2 (by omega)
                  refine g_iincI (pc := 130) X 0 rfl (by decide) (lv' := [(3, .int (iI (i + 1))), (0, .ref h0), (1, .int (iI wl)), (2, .int (iI sn))]) rfl dX7_choose_130 ?_
                  refine g_goto (pc := 133) X 25 (by decide) dX7_choose_133 ?_
                  exact ih (i + 1) y16 F21 F14 F15 (by omega) (hf112_b_hf2) (hF21) (hf112_h_Hc2) (hf112_h_Hk2) (by omega)
                · refine g_iload_n (pc := 98) X 3 rfl dX7_choose_98 ?_
                  refine g_goto (pc := 99) X 112 (by decide) dX7_choose_99 ?_
                  refine g_callV (pc := 112) X (k_X7_choose5 l Z h0 h_papers h_sizes hv h_needs h_hidden h_given h_chosen h_picked Hp Hs Hn Hh F10 F6 Hk1 (wl + 1) sn hb hp hn hf1 (by omega) b_sn b_hb b_hp b_hn b_hf1 (by omega) (h_Hp) (h_Hs) (h_Hn) (h_Hh) (hF10) (hF6) (h_Hk1)) iM_X7_choose mw_49_5 mw_49_6 mw_49_7 0 rfl rfl [0, 1, 2, 3, 4, 5, 6, 7] [] rfl (wr := []) rfl (by decide) rfl rfl (Nat.le_of_ble_eq_true rfl) (by decide) dX7_choose_112 (fun r w' hpo => ?_)
                  refine exN_4 hpo fun F22 F23 F24 y25 hz => anD_6 hz fun e_r e_w hf112_b_hf2 hf112_h_Hg2 hf112_h_Hc2 hf112_h_Hk2 => ?_; clear hz hpo; subst e_r; subst e_w
                  refine g_as (pc' := 115) (lv' := [(3, .int (iI i)), (0, .ref h0), (1, .int (iI wl)), (2, .int (iI sn))]) (st' := []) (ws' := [cO_irrviirrrrri h0 7 hb h_papers h_sizes hv hp hn h_needs h_hidden h_given h_chosen h_picked y25, cA Z h_papers 0 4 Hp, cA Z h_sizes 0 4 Hs, cA Z h_needs 0 8 Hn, cA Z h_hidden 2 8 Hh, cA Z h_given 0 4 F22, cA Z h_chosen 0 8 F23, cA Z h_picked 0 8 F24]) rfl rfl rfl rfl ?_
                  refine g_aload_n (pc := 115) X 1 rfl dX7_choose_115 ?_
                  refine g_get (pc := 116) X inlX7 0 rfl rfl 8 (by decide) mw_5_20 rfl dX7_choose_116 ?_
                  refine g_iload_n (pc := 119) X 0 rfl dX7_choose_119 ?_
                  refine g_dup2 (pc := 120) X rfl rfl dX7_choose_120 ?_
                  refine g_ialdI (pc := 121) X 5 rfl (b_i.1) (by omega) (Int.le_trans b_i.2 (by decide)) dX7_choose_121 ?_
                  refine g_nameI (fun y27 ey27 => ?_)
                  have by27 : (-2147483648) ≤ y27 ∧ y27 ≤ 2147483647 := by rw [ey27]; exact hf112_h_Hg2 _ (by omega)
                  refine g_aload_n (pc := 122) X 1 rfl dX7_choose_122 ?_
                  refine g_get (pc := 123) X inlX7 0 rfl rfl 6 (by decide) mw_5_17 rfl dX7_choose_123 ?_
                  refine g_iload_n (pc := 126) X 2 rfl dX7_choose_126 ?_
                  refine g_ialdI (pc := 127) X 3 rfl (b_wl.1) (by omega) (Int.le_trans b_wl.2 (by decide)) dX7_choose_127 ?_
                  refine g_nameI (fun y28 ey28 => ?_)
                  have by28 : (-2147483648) ≤ y28 ∧ y28 ≤ 2147483647 := by rw [ey28]; exact h_Hn _ (by omega)
                  refine g_isubI (pc := 128) X dX7_choose_128 ?_
                  refine g_any (fun y29 by29 => ?_)
                  refine g_iastG (pc := 129) X 5 rfl (b_i.1) (by omega) (Int.le_trans b_i.2 (by decide)) (ws' := fun F30 => [cO_irrviirrrrri h0 7 hb h_papers h_sizes hv hp hn h_needs h_hidden h_given h_chosen h_picked y25, cA Z h_papers 0 4 Hp, cA Z h_sizes 0 4 Hs, cA Z h_needs 0 8 Hn, cA Z h_hidden 2 8 Hh, cA Z h_given 0 4 F30, cA Z h_chosen 0 8 F23, cA Z h_picked 0 8 F24]) (fun _ => rfl) dX7_choose_129 (fun F30 eF30 => ?_)
                  have hF30 : ∀ j, j < 4 → (-2147483648) ≤ F30 j ∧ F30 j ≤ 2147483647 := by rw [eF30]; exact updI_B hf112_h_Hg2 (by omega)
                  refine g_iincI (pc := 130) X 0 rfl (by decide) (lv' := [(3, .int (iI (i + 1))), (0, .ref h0), (1, .int (iI wl)), (2, .int (iI sn))]) rfl dX7_choose_130 ?_
                  refine g_goto (pc := 133) X 25 (by decide) dX7_choose_133 ?_
                  exact ih (i + 1) y25 F30 F23 F24 (by omega) (hf112_b_hf2) (hF30) (hf112_h_Hc2) (hf112_h_Hk2) (by omega)
      exact loop25 _ 0 hf Hg Hc Hk (by omega) (b_hf) (h_Hg) (h_Hc) (h_Hk) (Nat.lt_succ_self _)
    · refine g_aload_n (pc := 17) X 0 rfl dX7_choose_17 ?_
      refine g_iload_n (pc := 18) X 2 rfl dX7_choose_18 ?_
      refine g_callV (pc := 19) X (k_X7_pick l Z h0 h_papers h_sizes hv h_needs h_hidden h_given h_chosen h_picked Hh Hc Hk sn hb hp hn hf b_sn b_hb b_hp b_hn b_hf (h_Hh) (h_Hc) (h_Hk)) iM_X7_pick mw_49_9 mw_49_10 mw_49_11 0 rfl rfl [0, 4, 6, 7] [1, 2, 3, 5] rfl (wr := [cA Z h_papers 0 4 Hp, cA Z h_sizes 0 4 Hs, cA Z h_needs 0 8 Hn, cA Z h_given 0 4 Hg]) rfl (by decide) rfl rfl (Nat.le_of_ble_eq_true rfl) (by decide) dX7_choose_19 (fun r w' hpo => ?_)
      refine exN_2 hpo fun F31 y32 hz => anD_4 hz fun e_r e_w hf19_b_hf2 hf19_h_Hk2 => ?_; clear hz hpo; subst e_r; subst e_w
      refine g_as (pc' := 22) (lv' := [(0, .ref h0), (1, .int (iI wl)), (2, .int (iI sn))]) (st' := []) (ws' := [cA Z h_papers 0 4 Hp, cA Z h_sizes 0 4 Hs, cA Z h_needs 0 8 Hn, cA Z h_given 0 4 Hg, cO_irrviirrrrri h0 7 hb h_papers h_sizes hv hp hn h_needs h_hidden h_given h_chosen h_picked y32, cA Z h_hidden 2 8 Hh, cA Z h_chosen 0 8 Hc, cA Z h_picked 0 8 F31]) rfl rfl rfl rfl ?_
      refine g_ws (ws' := [cO_irrviirrrrri h0 7 hb h_papers h_sizes hv hp hn h_needs h_hidden h_given h_chosen h_picked y32, cA Z h_papers 0 4 Hp, cA Z h_sizes 0 4 Hs, cA Z h_needs 0 8 Hn, cA Z h_hidden 2 8 Hh, cA Z h_given 0 4 Hg, cA Z h_chosen 0 8 Hc, cA Z h_picked 0 8 F31]) [4, 0, 1, 2, 5, 3, 6, 7] (by decide) rfl ?_
      exact g_vret (pc := 22) X hA (⟨Hg, Hc, F31, y32, rfl, rfl, (hf19_b_hf2), (h_Hg), (h_Hc), (hf19_h_Hk2)⟩) (by decide) (by decide) dX7_choose_22
  · exact g_vret (pc := 8) X hA (⟨Hg, Hc, Hk, hf, rfl, rfl, (b_hf), (h_Hg), (h_Hc), (h_Hk)⟩) (by decide) (by decide) dX7_choose_8

set_option maxHeartbeats 4000000 in
set_option maxRecDepth 100000 in
theorem k_X7_choose7 (l : Launch) (Z : gZ) (h0 : Nat) (h_papers : Nat) (h_sizes : Nat) (hv : Value) (h_needs : Nat) (h_hidden : Nat) (h_given : Nat) (h_chosen : Nat) (h_picked : Nat) (Hp : Nat → Int) (Hs : Nat → Int) (Hn : Nat → Int) (Hh : Nat → Int) (Hg : Nat → Int) (Hc : Nat → Int) (Hk : Nat → Int) (wl : Int) (sn : Int) (hb : Int) (hp : Int) (hn : Int) (hf : Int) (b_wl : 0 ≤ wl ∧ wl ≤ 8) (b_sn : (-2147483648) ≤ sn ∧ sn ≤ 2147483647) (b_hb : 0 ≤ hb ∧ hb ≤ 4) (b_hp : (-2147483648) ≤ hp ∧ hp ≤ 2147483647) (b_hn : 0 ≤ hn ∧ hn ≤ 8) (b_hf : (-2147483648) ≤ hf ∧ hf ≤ 2147483647) (hd : hn - wl ≤ 7) (h_Hp : ∀ j, j < 4 → 0 ≤ Hp j ∧ Hp j ≤ 3) (h_Hs : ∀ j, j < 4 → 0 ≤ Hs j ∧ Hs j ≤ 30) (h_Hn : ∀ j, j < 8 → (-2147483648) ≤ Hn j ∧ Hn j ≤ 2147483647) (h_Hh : ∀ j, j < 8 → 0 ≤ Hh j ∧ Hh j ≤ 1) (h_Hg : ∀ j, j < 4 → (-2147483648) ≤ Hg j ∧ Hg j ≤ 2147483647) (h_Hc : ∀ j, j < 8 → 0 ≤ Hc j ∧ Hc j ≤ 3) (h_Hk : ∀ j, j < 8 → 0 ≤ Hk j ∧ Hk j ≤ 3) : Con l Z yX7_choose cX7_choose 4 none 10 228 0 0 [.ref h0, .int (iI wl), .int (iI sn)] [cO_irrviirrrrri h0 7 hb h_papers h_sizes hv hp hn h_needs h_hidden h_given h_chosen h_picked hf, cA Z h_papers 0 4 Hp, cA Z h_sizes 0 4 Hs, cA Z h_needs 0 8 Hn, cA Z h_hidden 2 8 Hh, cA Z h_given 0 4 Hg, cA Z h_chosen 0 8 Hc, cA Z h_picked 0 8 Hk] (fun r w' => ∃ (Hg2 : Nat → Int) (Hc2 : Nat → Int) (Hk2 : Nat → Int) (hf2 : Int), (r = none) ∧ (w' = [cO_irrviirrrrri h0 7 hb h_papers h_sizes hv hp hn h_needs h_hidden h_given h_chosen h_picked hf2, cA Z h_papers 0 4 Hp, cA Z h_sizes 0 4 Hs, cA Z h_needs 0 8 Hn, cA Z h_hidden 2 8 Hh, cA Z h_given 0 4 Hg2, cA Z h_chosen 0 8 Hc2, cA Z h_picked 0 8 Hk2]) ∧ ((-2147483648) ≤ hf2 ∧ hf2 ≤ 2147483647) ∧ (∀ j, j < 4 → (-2147483648) ≤ Hg2 j ∧ Hg2 j ≤ 2147483647) ∧ (∀ j, j < 8 → 0 ≤ Hc2 j ∧ Hc2 j ≤ 3) ∧ (∀ j, j < 8 → 0 ≤ Hk2 j ∧ Hk2 j ≤ 3)) := by
  refine enter (by decide) (Nat.le_of_ble_eq_true rfl) ?_
  intro p e s m args below meth c A X hnm hA
  have X : Cx p s m args meth c cX7_choose 4 none RX7 Z A := X
  refine g_as (pc' := 0) (lv' := [(0, .ref h0), (1, .int (iI wl)), (2, .int (iI sn))]) (st' := []) (ws' := [cO_irrviirrrrri h0 7 hb h_papers h_sizes hv hp hn h_needs h_hidden h_given h_chosen h_picked hf, cA Z h_papers 0 4 Hp, cA Z h_sizes 0 4 Hs, cA Z h_needs 0 8 Hn, cA Z h_hidden 2 8 Hh, cA Z h_given 0 4 Hg, cA Z h_chosen 0 8 Hc, cA Z h_picked 0 8 Hk]) rfl rfl rfl rfl ?_
  refine g_iload_n (pc := 0) X 2 rfl dX7_choose_0 ?_
  refine g_aload_n (pc := 1) X 0 rfl dX7_choose_1 ?_
  refine g_get (pc := 2) X inlX7 0 rfl rfl 11 (by decide) mw_49_4 rfl dX7_choose_2 ?_
  refine g_icmp_ltI (pc := 5) X 9 (by decide) b_sn b_hf dX7_choose_5 (fun c5 => ?_) (fun c5 => ?_)
  · refine g_iload_n (pc := 9) X 1 rfl dX7_choose_9 ?_
    refine g_aload_n (pc := 10) X 0 rfl dX7_choose_10 ?_
    refine g_get (pc := 11) X inlX7 0 rfl rfl 5 (by decide) mw_48_10 rfl dX7_choose_11 ?_
    refine g_icmp_ltI (pc := 14) X 23 (by decide) (inRb b_wl (by decide) (by decide)) (inRb b_hn (by decide) (by decide)) dX7_choose_14 (fun c14 => ?_) (fun c14 => ?_)
    · refine g_iconst (pc := 23) X (iI 0) (by rfl) dX7_choose_23 ?_
      refine g_istore_n (pc := 24) X (i := 3) rfl (by decide) (lv' := [(3, .int (iI 0)), (0, .ref h0), (1, .int (iI wl)), (2, .int (iI sn))]) rfl dX7_choose_24 ?_
      have loop25 : ∀ (fuel : Nat) (i : Int) (hf1 : Int) (Hg1 : Nat → Int) (Hc1 : Nat → Int) (Hk1 : Nat → Int), (0 ≤ i ∧ i ≤ 4) → ((-2147483648) ≤ hf1 ∧ hf1 ≤ 2147483647) → (∀ j, j < 4 → (-2147483648) ≤ Hg1 j ∧ Hg1 j ≤ 2147483647) → (∀ j, j < 8 → 0 ≤ Hc1 j ∧ Hc1 j ≤ 3) → (∀ j, j < 8 → 0 ≤ Hk1 j ∧ Hk1 j ≤ 3) → (5 - i).toNat < fuel → Gs p l e ({ frames := 10, cells := 0, slots := 0, locals := 228 } : Room) s m args below meth c (MQ below (gPost Z [cO_irrviirrrrri h0 7 hb h_papers h_sizes hv hp hn h_needs h_hidden h_given h_chosen h_picked hf, cA Z h_papers 0 4 Hp, cA Z h_sizes 0 4 Hs, cA Z h_needs 0 8 Hn, cA Z h_hidden 2 8 Hh, cA Z h_given 0 4 Hg, cA Z h_chosen 0 8 Hc, cA Z h_picked 0 8 Hk] s.heap.size (fun r w' => ∃ (Hg2 : Nat → Int) (Hc2 : Nat → Int) (Hk2 : Nat → Int) (hf2 : Int), (r = none) ∧ (w' = [cO_irrviirrrrri h0 7 hb h_papers h_sizes hv hp hn h_needs h_hidden h_given h_chosen h_picked hf2, cA Z h_papers 0 4 Hp, cA Z h_sizes 0 4 Hs, cA Z h_needs 0 8 Hn, cA Z h_hidden 2 8 Hh, cA Z h_given 0 4 Hg2, cA Z h_chosen 0 8 Hc2, cA Z h_picked 0 8 Hk2]) ∧ ((-2147483648) ≤ hf2 ∧ hf2 ≤ 2147483647) ∧ (∀ j, j < 4 → (-2147483648) ≤ Hg2 j ∧ Hg2 j ≤ 2147483647) ∧ (∀ j, j < 8 → 0 ≤ Hc2 j ∧ Hc2 j ≤ 3) ∧ (∀ j, j < 8 → 0 ≤ Hk2 j ∧ Hk2 j ≤ 3))) args s 0 0 (va_A [cO_irrviirrrrri h0 7 hb h_papers h_sizes hv hp hn h_needs h_hidden h_given h_chosen h_picked hf, cA Z h_papers 0 4 Hp, cA Z h_sizes 0 4 Hs, cA Z h_needs 0 8 Hn, cA Z h_hidden 2 8 Hh, cA Z h_given 0 4 Hg, cA Z h_chosen 0 8 Hc, cA Z h_picked 0 8 Hk] s.heap.size)) Z A 4 0 0 25 [(3, .int (iI i)), (0, .ref h0), (1, .int (iI wl)), (2, .int (iI sn))] [] [cO_irrviirrrrri h0 7 hb h_papers h_sizes hv hp hn h_needs h_hidden h_given h_chosen h_picked hf1, cA Z h_papers 0 4 Hp, cA Z h_sizes 0 4 Hs, cA Z h_needs 0 8 Hn, cA Z h_hidden 2 8 Hh, cA Z h_given 0 4 Hg1, cA Z h_chosen 0 8 Hc1, cA Z h_picked 0 8 Hk1] := by
        intro fuel
        induction fuel with
        | zero => intro i hf1 Hg1 Hc1 Hk1 _ _ _ _ _ hm; exact absurd hm (Nat.not_lt_zero _)
        | succ fuel ih =>
          intro i hf1 Hg1 Hc1 Hk1 b_i b_hf1 h_Hg1 h_Hc1 h_Hk1 hm
          refine g_iload_n (pc := 25) X 0 rfl dX7_choose_25 ?_
          refine g_aload_n (pc := 26) X 1 rfl dX7_choose_26 ?_
          refine g_get (pc := 27) X inlX7 0 rfl rfl 0 (by decide) mw_47_7 rfl dX7_choose_27 ?_
          refine g_icmp_geI (pc := 30) X 136 (by decide) (inRb b_i (by decide) (by decide)) (inRb b_hb (by decide) (by decide)) dX7_choose_30 (fun c30 => ?_) (fun c30 => ?_)
          · exact g_vret (pc := 136) X hA (⟨Hg1, Hc1, Hk1, hf1, rfl, rfl, (b_hf1), (h_Hg1), (h_Hc1), (h_Hk1)⟩) (by decide) (by decide) dX7_choose_136
          · refine g_aload_n (pc := 33) X 1 rfl dX7_choose_33 ?_
            refine g_get (pc := 34) X inlX7 0 rfl rfl 1 (by decide) mw_5_15 rfl dX7_choose_34 ?_
            refine g_iload_n (pc := 37) X 0 rfl dX7_choose_37 ?_
            refine g_ialdI (pc := 38) X 1 rfl (b_i.1) (by omega) (Int.le_trans b_i.2 (by decide)) dX7_choose_38 ?_
            refine g_nameI (fun y1 ey1 => ?_)
            have by1 : 0 ≤ y1 ∧ y1 ≤ 3 := by rw [ey1]; exact h_Hp _ (by omega)
            refine g_aload_n (pc := 39) X 1 rfl dX7_choose_39 ?_
            refine g_get (pc := 40) X inlX7 0 rfl rfl 4 (by decide) mw_48_6 rfl dX7_choose_40 ?_
            refine g_icmp_neI (pc := 43) X 130 (by decide) (inRb by1 (by decide) (by decide)) b_hp dX7_choose_43 (fun c43 => ?_) (fun c43 => ?_)
            · refine g_iincI (pc := 130) X 0 rfl (by decide) (lv' := [(3, .int (iI (i + 1))), (0, .ref h0), (1, .int (iI wl)), (2, .int (iI sn))]) rfl dX7_choose_130 ?_
              refine g_goto (pc := 133) X 25 (by decide) dX7_choose_133 ?_
              exact ih (i + 1) hf1 Hg1 Hc1 Hk1 (by omega) (b_hf1) (h_Hg1) (h_Hc1) (h_Hk1) (by omega)
            · refine g_aload_n (pc := 46) X 1 rfl dX7_choose_46 ?_
              refine g_get (pc := 47) X inlX7 0 rfl rfl 8 (by decide) mw_5_20 rfl dX7_choose_47 ?_
              refine g_iload_n (pc := 50) X 0 rfl dX7_choose_50 ?_
              refine g_ialdI (pc := 51) X 5 rfl (b_i.1) (by omega) (Int.le_trans b_i.2 (by decide)) dX7_choose_51 ?_
              refine g_nameI (fun y2 ey2 => ?_)
              have by2 : (-2147483648) ≤ y2 ∧ y2 ≤ 2147483647 := by rw [ey2]; exact h_Hg1 _ (by omega)
              refine g_aload_n (pc := 52) X 1 rfl dX7_choose_52 ?_
              refine g_get (pc := 53) X inlX7 0 rfl rfl 6 (by decide) mw_5_17 rfl dX7_choose_53 ?_
              refine g_iload_n (pc := 56) X 2 rfl dX7_choose_56 ?_
              refine g_ialdI (pc := 57) X 3 rfl (b_wl.1) (by omega) (Int.le_trans b_wl.2 (by decide)) dX7_choose_57 ?_
              refine g_nameI (fun y3 ey3 => ?_)
              have by3 : (-2147483648) ≤ y3 ∧ y3 ≤ 2147483647 := by rw [ey3]; exact h_Hn _ (by omega)
              refine g_iaddI (pc := 58) X dX7_choose_58 ?_
              refine g_any (fun y4 by4 => ?_)
              refine g_aload_n (pc := 59) X 1 rfl dX7_choose_59 ?_
              refine g_get (pc := 60) X inlX7 0 rfl rfl 2 (by decide) mw_5_16 rfl dX7_choose_60 ?_
              refine g_iload_n (pc := 63) X 0 rfl dX7_choose_63 ?_
              refine g_ialdI (pc := 64) X 2 rfl (b_i.1) (by omega) (Int.le_trans b_i.2 (by decide)) dX7_choose_64 ?_
              refine g_nameI (fun y5 ey5 => ?_)
              have by5 : 0 ≤ y5 ∧ y5 ≤ 30 := by rw [ey5]; exact h_Hs _ (by omega)
              refine g_icmp_gtI (pc := 65) X 130 (by decide) by4 (inRb by5 (by decide) (by decide)) dX7_choose_65 (fun c65 => ?_) (fun c65 => ?_)
              · refine g_iincI (pc := 130) X 0 rfl (by decide) (lv' := [(3, .int (iI (i + 1))), (0, .ref h0), (1, .int (iI wl)), (2, .int (iI sn))]) rfl dX7_choose_130 ?_
                refine g_goto (pc := 133) X 25 (by decide) dX7_choose_133 ?_
                exact ih (i + 1) hf1 Hg1 Hc1 Hk1 (by omega) (b_hf1) (h_Hg1) (h_Hc1) (h_Hk1) (by omega)
              · refine g_aload_n (pc := 68) X 1 rfl dX7_choose_68 ?_
                refine g_get (pc := 69) X inlX7 0 rfl rfl 9 (by decide) mw_5_21 rfl dX7_choose_69 ?_
                refine g_iload_n (pc := 72) X 2 rfl dX7_choose_72 ?_
                refine g_iload_n (pc := 73) X 0 rfl dX7_choose_73 ?_
                refine g_iastG (pc := 74) X 6 rfl (b_wl.1) (by omega) (Int.le_trans b_wl.2 (by decide)) (ws' := fun F6 => [cO_irrviirrrrri h0 7 hb h_papers h_sizes hv hp hn h_needs h_hidden h_given h_chosen h_picked hf1, cA Z h_papers 0 4 Hp, cA Z h_sizes 0 4 Hs, cA Z h_needs 0 8 Hn, cA Z h_hidden 2 8 Hh, cA Z h_given 0 4 Hg1, cA Z h_chosen 0 8 F6, cA Z h_picked 0 8 Hk1]) (fun _ => rfl) dX7_choose_74 (fun F6 eF6 => ?_)
                have hF6 : ∀ j, j < 8 → 0 ≤ F6 j ∧ F6 j ≤ 3 := by rw [eF6]; exact updI_B h_Hc1 (by omega)
                refine g_aload_n (pc := 75) X 1 rfl dX7_choose_75 ?_
                refine g_get (pc := 76) X inlX7 0 rfl rfl 8 (by decide) mw_5_20 rfl dX7_choose_76 ?_
                refine g_iload_n (pc := 79) X 0 rfl dX7_choose_79 ?_
                refine g_dup2 (pc := 80) X rfl rfl dX7_choose_80 ?_
                refine g_ialdI (pc := 81) X 5 rfl (b_i.1) (by omega) (Int.le_trans b_i.2 (by decide)) dX7_choose_81 ?_
                refine g_nameI (fun y7 ey7 => ?_)
                have by7 : (-2147483648) ≤ y7 ∧ y7 ≤ 2147483647 := by rw [ey7]; exact h_Hg1 _ (by omega)
                refine g_aload_n (pc := 82) X 1 rfl dX7_choose_82 ?_
                refine g_get (pc := 83) X inlX7 0 rfl rfl 6 (by decide) mw_5_17 rfl dX7_choose_83 ?_
                refine g_iload_n (pc := 86) X 2 rfl dX7_choose_86 ?_
                refine g_ialdI (pc := 87) X 3 rfl (b_wl.1) (by omega) (Int.le_trans b_wl.2 (by decide)) dX7_choose_87 ?_
                refine g_nameI (fun y8 ey8 => ?_)
                have by8 : (-2147483648) ≤ y8 ∧ y8 ≤ 2147483647 := by rw [ey8]; exact h_Hn _ (by omega)
                refine g_iaddI (pc := 88) X dX7_choose_88 ?_
                refine g_any (fun y9 by9 => ?_)
                refine g_iastG (pc := 89) X 5 rfl (b_i.1) (by omega) (Int.le_trans b_i.2 (by decide)) (ws' := fun F10 => [cO_irrviirrrrri h0 7 hb h_papers h_sizes hv hp hn h_needs h_hidden h_given h_chosen h_picked hf1, cA Z h_papers 0 4 Hp, cA Z h_sizes 0 4 Hs, cA Z h_needs 0 8 Hn, cA Z h_hidden 2 8 Hh, cA Z h_given 0 4 F10, cA Z h_chosen 0 8 F6, cA Z h_picked 0 8 Hk1]) (fun _ => rfl) dX7_choose_89 (fun F10 eF10 => ?_)
                have hF10 : ∀ j, j < 4 → (-2147483648) ≤ F10 j ∧ F10 j ≤ 2147483647 := by rw [eF10]; exact updI_B h_Hg1 (by omega)
                refine g_aload_n (pc := 90) X 1 rfl dX7_choose_90 ?_
                refine g_iload_n (pc := 91) X 2 rfl dX7_choose_91 ?_
                refine g_iconst (pc := 92) X (iI 1) (by rfl) dX7_choose_92 ?_
                refine g_iaddI (pc := 93) X dX7_choose_93 ?_
                refine g_iload_n (pc := 94) X 2 rfl dX7_choose_94 ?_
                refine g_if_neI (pc := 95) X 102 (by decide) (inRb b_wl (by decide) (by decide)) dX7_choose_95 (fun c95 => ?_) (fun c95 => ?_)
                · refine g_iload_n (pc := 102) X 3 rfl dX7_choose_102 ?_
                  refine g_aload_n (pc := 103) X 1 rfl dX7_choose_103 ?_
                  refine g_iload_n (pc := 104) X 2 rfl dX7_choose_104 ?_
                  refine g_iconst (pc := 105) X (iI 1) (by rfl) dX7_choose_105 ?_
                  refine g_isubI (pc := 106) X dX7_choose_106 ?_
                  refine g_iload_n (pc := 107) X 2 rfl dX7_choose_107 ?_
                  refine g_callV (pc := 108) X (k_X7_seenBetween l Z h0 h_papers h_sizes hv h_needs h_hidden h_given h_chosen h_picked Hh F6 (wl - 1) wl hb hp hn hf1 (by omega) (by omega) b_hb b_hp b_hn b_hf1 (h_Hh) (hF6)) iM_X7_seenBetween mw_49_13 mw_49_14 mw_49_15 0 rfl rfl [0, 4, 6] [1, 2, 3, 5, 7] rfl (wr := [cA Z h_papers 0 4 Hp, cA Z h_sizes 0 4 Hs, cA Z h_needs 0 8 Hn, cA Z h_given 0 4 F10, cA Z h_picked 0 8 Hk1]) rfl (by decide) rfl rfl (Nat.le_of_ble_eq_true rfl) (by decide) dX7_choose_108 (fun r w' hpo => ?_)
                  refine exN_1 hpo fun y11 hz => anD_3 hz fun e_r e_w hf108_b_y => ?_; clear hz hpo; subst e_r; subst e_w
                  refine g_as (pc' := 111) (lv' := [(3, .int (iI i)), (0, .ref h0), (1, .int (iI wl)), (2, .int (iI sn))]) (st' := [.int (iI y11), .int (iI sn), .int (iI (wl + 1)), .ref h0]) (ws' := [cA Z h_papers 0 4 Hp, cA Z h_sizes 0 4 Hs, cA Z h_needs 0 8 Hn, cA Z h_given 0 4 F10, cA Z h_picked 0 8 Hk1, cO_irrviirrrrri h0 7 hb h_papers h_sizes hv hp hn h_needs h_hidden h_given h_chosen h_picked hf1, cA Z h_hidden 2 8 Hh, cA Z h_chosen 0 8 F6]) rfl rfl rfl rfl ?_
                  refine g_iaddI (pc := 111) X dX7_choose_111 ?_
                  refine g_callV (pc := 112) X (k_X7_choose6 l Z h0 h_papers h_sizes hv h_needs h_hidden h_given h_chosen h_picked Hp Hs Hn Hh F10 F6 Hk1 (wl + 1) (sn + y11) hb hp hn hf1 (by omega) (by omega) b_hb b_hp b_hn b_hf1 (by omega) (h_Hp) (h_Hs) (h_Hn) (h_Hh) (hF10) (hF6) (h_Hk1)) iM_X7_choose mw_49_5 mw_49_6 mw_49_7 5 rfl rfl [5, 0, 1, 2, 6, 3, 7, 4] [] rfl (wr := []) rfl (by decide) rfl rfl (Nat.le_of_ble_eq_true rfl) (by decide) dX7_choose_112 (fun r w' hpo => ?_)
                  refine exN_4 hpo fun F13 F14 F15 y16 hz => anD_6 hz fun e_r e_w hf112_b_hf2 hf112_h_Hg2 hf112_h_Hc2 hf112_h_Hk2 => ?_; clear hz hpo; subst e_r; subst e_w
                  refine g_as (pc' := 115) (lv' := [(3, .int (iI i)), (0, .ref h0), (1, .int (iI wl)), (2, .int (iI sn))]) (st' := []) (ws' := [cO_irrviirrrrri h0 7 hb h_papers h_sizes hv hp hn h_needs h_hidden h_given h_chosen h_picked y16, cA Z h_papers 0 4 Hp, cA Z h_sizes 0 4 Hs, cA Z h_needs 0 8 Hn, cA Z h_hidden 2 8 Hh, cA Z h_given 0 4 F13, cA Z h_chosen 0 8 F14, cA Z h_picked 0 8 F15]) rfl rfl rfl rfl ?_
                  refine g_aload_n (pc := 115) X 1 rfl dX7_choose_115 ?_
                  refine g_get (pc := 116) X inlX7 0 rfl rfl 8 (by decide) mw_5_20 rfl dX7_choose_116 ?_
                  refine g_iload_n (pc := 119) X 0 rfl dX7_choose_119 ?_
                  refine g_dup2 (pc := 120) X rfl rfl dX7_choose_120 ?_
                  refine g_ialdI (pc := 121) X 5 rfl (b_i.1) (by omega) (Int.le_trans b_i.2 (by decide)) dX7_choose_121 ?_
                  refine g_nameI (fun y18 ey18 => ?_)
                  have by18 : (-2147483648) ≤ y18 ∧ y18 ≤ 2147483647 := by rw [ey18]; exact hf112_h_Hg2 _ (by omega)
                  refine g_aload_n (pc := 122) X 1 rfl dX7_choose_122 ?_
                  refine g_get (pc := 123) X inlX7 0 rfl rfl 6 (by decide) mw_5_17 rfl dX7_choose_123 ?_
                  refine g_iload_n (pc := 126) X 2 rfl dX7_choose_126 ?_
                  refine g_ialdI (pc := 127) X 3 rfl (b_wl.1) (by omega) (Int.le_trans b_wl.2 (by decide)) dX7_choose_127 ?_
                  refine g_nameI (fun y19 ey19 => ?_)
                  have by19 : (-2147483648) ≤ y19 ∧ y19 ≤ 2147483647 := by rw [ey19]; exact h_Hn _ (by omega)
                  refine g_isubI (pc := 128) X dX7_choose_128 ?_
                  refine g_any (fun y20 by20 => ?_)
                  refine g_iastG (pc := 129) X 5 rfl (b_i.1) (by omega) (Int.le_trans b_i.2 (by decide)) (ws' := fun F21 => [cO_irrviirrrrri h0 7 hb h_papers h_sizes hv hp hn h_needs h_hidden h_given h_chosen h_picked y16, cA Z h_papers 0 4 Hp, cA Z h_sizes 0 4 Hs, cA Z h_needs 0 8 Hn, cA Z h_hidden 2 8 Hh, cA Z h_given 0 4 F21, cA Z h_chosen 0 8 F14, cA Z h_picked 0 8 F15]) (fun _ => rfl) dX7_choose_129 (fun F21 eF21 => ?_)
                  have hF21 : ∀ j, j < 4 → (-2147483648) ≤ F21 j ∧ F21 j ≤ 2147483647 := by rw [eF21]; exact updI_B hf112_h_Hg2 (by omega)
                  refine g_iincI (pc := 130) X 0 rfl (by decide) (lv' := [(3, .int (iI (i + 1))), (0, .ref h0), (1, .int (iI wl)), (2, .int (iI sn))]) rfl dX7_choose_130 ?_
                  refine g_goto (pc := 133) X 25 (by decide) dX7_choose_133 ?_
                  exact ih (i + 1) y16 F21 F14 F15 (by omega) (hf112_b_hf2) (hF21) (hf112_h_Hc2) (hf112_h_Hk2) (by omega)
                · refine g_iload_n (pc := 98) X 3 rfl dX7_choose_98 ?_
                  refine g_goto (pc := 99) X 112 (by decide) dX7_choose_99 ?_
                  refine g_callV (pc := 112) X (k_X7_choose6 l Z h0 h_papers h_sizes hv h_needs h_hidden h_given h_chosen h_picked Hp Hs Hn Hh F10 F6 Hk1 (wl + 1) sn hb hp hn hf1 (by omega) b_sn b_hb b_hp b_hn b_hf1 (by omega) (h_Hp) (h_Hs) (h_Hn) (h_Hh) (hF10) (hF6) (h_Hk1)) iM_X7_choose mw_49_5 mw_49_6 mw_49_7 0 rfl rfl [0, 1, 2, 3, 4, 5, 6, 7] [] rfl (wr := []) rfl (by decide) rfl rfl (Nat.le_of_ble_eq_true rfl) (by decide) dX7_choose_112 (fun r w' hpo => ?_)
                  refine exN_4 hpo fun F22 F23 F24 y25 hz => anD_6 hz fun e_r e_w hf112_b_hf2 hf112_h_Hg2 hf112_h_Hc2 hf112_h_Hk2 => ?_; clear hz hpo; subst e_r; subst e_w
                  refine g_as (pc' := 115) (lv' := [(3, .int (iI i)), (0, .ref h0), (1, .int (iI wl)), (2, .int (iI sn))]) (st' := []) (ws' := [cO_irrviirrrrri h0 7 hb h_papers h_sizes hv hp hn h_needs h_hidden h_given h_chosen h_picked y25, cA Z h_papers 0 4 Hp, cA Z h_sizes 0 4 Hs, cA Z h_needs 0 8 Hn, cA Z h_hidden 2 8 Hh, cA Z h_given 0 4 F22, cA Z h_chosen 0 8 F23, cA Z h_picked 0 8 F24]) rfl rfl rfl rfl ?_
                  refine g_aload_n (pc := 115) X 1 rfl dX7_choose_115 ?_
                  refine g_get (pc := 116) X inlX7 0 rfl rfl 8 (by decide) mw_5_20 rfl dX7_choose_116 ?_
                  refine g_iload_n (pc := 119) X 0 rfl dX7_choose_119 ?_
                  refine g_dup2 (pc := 120) X rfl rfl dX7_choose_120 ?_
                  refine g_ialdI (pc := 121) X 5 rfl (b_i.1) (by omega) (Int.le_trans b_i.2 (by decide)) dX7_choose_121 ?_
                  refine g_nameI (fun y27 ey27 => ?_)
                  have by27 : (-2147483648) ≤ y27 ∧ y27 ≤ 2147483647 := by rw [ey27]; exact hf112_h_Hg2 _ (by omega)
                  refine g_aload_n (pc := 122) X 1 rfl dX7_choose_122 ?_
                  refine g_get (pc := 123) X inlX7 0 rfl rfl 6 (by decide) mw_5_17 rfl dX7_choose_123 ?_
                  refine g_iload_n (pc := 126) X 2 rfl dX7_choose_126 ?_
                  refine g_ialdI (pc := 127) X 3 rfl (b_wl.1) (by omega) (Int.le_trans b_wl.2 (by decide)) dX7_choose_127 ?_
                  refine g_nameI (fun y28 ey28 => ?_)
                  have by28 : (-2147483648) ≤ y28 ∧ y28 ≤ 2147483647 := by rw [ey28]; exact h_Hn _ (by omega)
                  refine g_isubI (pc := 128) X dX7_choose_128 ?_
                  refine g_any (fun y29 by29 => ?_)
                  refine g_iastG (pc := 129) X 5 rfl (b_i.1) (by omega) (Int.le_trans b_i.2 (by decide)) (ws' := fun F30 => [cO_irrviirrrrri h0 7 hb h_papers h_sizes hv hp hn h_needs h_hidden h_given h_chosen h_picked y25, cA Z h_papers 0 4 Hp, cA Z h_sizes 0 4 Hs, cA Z h_needs 0 8 Hn, cA Z h_hidden 2 8 Hh, cA Z h_given 0 4 F30, cA Z h_chosen 0 8 F23, cA Z h_picked 0 8 F24]) (fun _ => rfl) dX7_choose_129 (fun F30 eF30 => ?_)
                  have hF30 : ∀ j, j < 4 → (-2147483648) ≤ F30 j ∧ F30 j ≤ 2147483647 := by rw [eF30]; exact updI_B hf112_h_Hg2 (by omega)
                  refine g_iincI (pc := 130) X 0 rfl (by decide) (lv' := [(3, .int (iI (i + 1))), (0, .ref h0), (1, .int (iI wl)), (2, .int (iI sn))]) rfl dX7_choose_130 ?_
                  refine g_goto (pc := 133) X 25 (by decide) dX7_choose_133 ?_
                  exact ih (i + 1) y25 F30 F23 F24 (by omega) (hf112_b_hf2) (hF30) (hf112_h_Hc2) (hf112_h_Hk2) (by omega)
      exact loop25 _ 0 hf Hg Hc Hk (by omega) (b_hf) (h_Hg) (h_Hc) (h_Hk) (Nat.lt_succ_self _)
    · refine g_aload_n (pc := 17) X 0 rfl dX7_choose_17 ?_
      refine g_iload_n (pc := 18) X 2 rfl dX7_choose_18 ?_
      refine g_callV (pc := 19) X (k_X7_pick l Z h0 h_papers h_sizes hv h_needs h_hidden h_given h_chosen h_picked Hh Hc Hk sn hb hp hn hf b_sn b_hb b_hp b_hn b_hf (h_Hh) (h_Hc) (h_Hk)) iM_X7_pick mw_49_9 mw_49_10 mw_49_11 0 rfl rfl [0, 4, 6, 7] [1, 2, 3, 5] rfl (wr := [cA Z h_papers 0 4 Hp, cA Z h_sizes 0 4 Hs, cA Z h_needs 0 8 Hn, cA Z h_given 0 4 Hg]) rfl (by decide) rfl rfl (Nat.le_of_ble_eq_true rfl) (by decide) dX7_choose_19 (fun r w' hpo => ?_)
      refine exN_2 hpo fun F31 y32 hz => anD_4 hz fun e_r e_w hf19_b_hf2 hf19_h_Hk2 => ?_; clear hz hpo; subst e_r; subst e_w
      refine g_as (pc' := 22) (lv' := [(0, .ref h0), (1, .int (iI wl)), (2, .int (iI sn))]) (st' := []) (ws' := [cA Z h_papers 0 4 Hp, cA Z h_sizes 0 4 Hs, cA Z h_needs 0 8 Hn, cA Z h_given 0 4 Hg, cO_irrviirrrrri h0 7 hb h_papers h_sizes hv hp hn h_needs h_hidden h_given h_chosen h_picked y32, cA Z h_hidden 2 8 Hh, cA Z h_chosen 0 8 Hc, cA Z h_picked 0 8 F31]) rfl rfl rfl rfl ?_
      refine g_ws (ws' := [cO_irrviirrrrri h0 7 hb h_papers h_sizes hv hp hn h_needs h_hidden h_given h_chosen h_picked y32, cA Z h_papers 0 4 Hp, cA Z h_sizes 0 4 Hs, cA Z h_needs 0 8 Hn, cA Z h_hidden 2 8 Hh, cA Z h_given 0 4 Hg, cA Z h_chosen 0 8 Hc, cA Z h_picked 0 8 F31]) [4, 0, 1, 2, 5, 3, 6, 7] (by decide) rfl ?_
      exact g_vret (pc := 22) X hA (⟨Hg, Hc, F31, y32, rfl, rfl, (hf19_b_hf2), (h_Hg), (h_Hc), (hf19_h_Hk2)⟩) (by decide) (by decide) dX7_choose_22
  · exact g_vret (pc := 8) X hA (⟨Hg, Hc, Hk, hf, rfl, rfl, (b_hf), (h_Hg), (h_Hc), (h_Hk)⟩) (by decide) (by decide) dX7_choose_8

set_option maxHeartbeats 4000000 in
set_option maxRecDepth 100000 in
theorem k_X7_choose8 (l : Launch) (Z : gZ) (h0 : Nat) (h_papers : Nat) (h_sizes : Nat) (hv : Value) (h_needs : Nat) (h_hidden : Nat) (h_given : Nat) (h_chosen : Nat) (h_picked : Nat) (Hp : Nat → Int) (Hs : Nat → Int) (Hn : Nat → Int) (Hh : Nat → Int) (Hg : Nat → Int) (Hc : Nat → Int) (Hk : Nat → Int) (wl : Int) (sn : Int) (hb : Int) (hp : Int) (hn : Int) (hf : Int) (b_wl : 0 ≤ wl ∧ wl ≤ 8) (b_sn : (-2147483648) ≤ sn ∧ sn ≤ 2147483647) (b_hb : 0 ≤ hb ∧ hb ≤ 4) (b_hp : (-2147483648) ≤ hp ∧ hp ≤ 2147483647) (b_hn : 0 ≤ hn ∧ hn ≤ 8) (b_hf : (-2147483648) ≤ hf ∧ hf ≤ 2147483647) (hd : hn - wl ≤ 8) (h_Hp : ∀ j, j < 4 → 0 ≤ Hp j ∧ Hp j ≤ 3) (h_Hs : ∀ j, j < 4 → 0 ≤ Hs j ∧ Hs j ≤ 30) (h_Hn : ∀ j, j < 8 → (-2147483648) ≤ Hn j ∧ Hn j ≤ 2147483647) (h_Hh : ∀ j, j < 8 → 0 ≤ Hh j ∧ Hh j ≤ 1) (h_Hg : ∀ j, j < 4 → (-2147483648) ≤ Hg j ∧ Hg j ≤ 2147483647) (h_Hc : ∀ j, j < 8 → 0 ≤ Hc j ∧ Hc j ≤ 3) (h_Hk : ∀ j, j < 8 → 0 ≤ Hk j ∧ Hk j ≤ 3) : Con l Z yX7_choose cX7_choose 4 none 11 251 0 0 [.ref h0, .int (iI wl), .int (iI sn)] [cO_irrviirrrrri h0 7 hb h_papers h_sizes hv hp hn h_needs h_hidden h_given h_chosen h_picked hf, cA Z h_papers 0 4 Hp, cA Z h_sizes 0 4 Hs, cA Z h_needs 0 8 Hn, cA Z h_hidden 2 8 Hh, cA Z h_given 0 4 Hg, cA Z h_chosen 0 8 Hc, cA Z h_picked 0 8 Hk] (fun r w' => ∃ (Hg2 : Nat → Int) (Hc2 : Nat → Int) (Hk2 : Nat → Int) (hf2 : Int), (r = none) ∧ (w' = [cO_irrviirrrrri h0 7 hb h_papers h_sizes hv hp hn h_needs h_hidden h_given h_chosen h_picked hf2, cA Z h_papers 0 4 Hp, cA Z h_sizes 0 4 Hs, cA Z h_needs 0 8 Hn, cA Z h_hidden 2 8 Hh, cA Z h_given 0 4 Hg2, cA Z h_chosen 0 8 Hc2, cA Z h_picked 0 8 Hk2]) ∧ ((-2147483648) ≤ hf2 ∧ hf2 ≤ 2147483647) ∧ (∀ j, j < 4 → (-2147483648) ≤ Hg2 j ∧ Hg2 j ≤ 2147483647) ∧ (∀ j, j < 8 → 0 ≤ Hc2 j ∧ Hc2 j ≤ 3) ∧ (∀ j, j < 8 → 0 ≤ Hk2 j ∧ Hk2 j ≤ 3)) := by
  refine enter (by decide) (Nat.le_of_ble_eq_true rfl) ?_
  intro p e s m args below meth c A X hnm hA
  have X : Cx p s m args meth c cX7_choose 4 none RX7 Z A := X
  refine g_as (pc' := 0) (lv' := [(0, .ref h0), (1, .int (iI wl)), (2, .int (iI sn))]) (st' := []) (ws' := [cO_irrviirrrrri h0 7 hb h_papers h_sizes hv hp hn h_needs h_hidden h_given h_chosen h_picked hf, cA Z h_papers 0 4 Hp, cA Z h_sizes 0 4 Hs, cA Z h_needs 0 8 Hn, cA Z h_hidden 2 8 Hh, cA Z h_given 0 4 Hg, cA Z h_chosen 0 8 Hc, cA Z h_picked 0 8 Hk]) rfl rfl rfl rfl ?_
  refine g_iload_n (pc := 0) X 2 rfl dX7_choose_0 ?_
  refine g_aload_n (pc := 1) X 0 rfl dX7_choose_1 ?_
  refine g_get (pc := 2) X inlX7 0 rfl rfl 11 (by decide) mw_49_4 rfl dX7_choose_2 ?_
  refine g_icmp_ltI (pc := 5) X 9 (by decide) b_sn b_hf dX7_choose_5 (fun c5 => ?_) (fun c5 => ?_)
  · refine g_iload_n (pc := 9) X 1 rfl dX7_choose_9 ?_
    refine g_aload_n (pc := 10) X 0 rfl dX7_choose_10 ?_
    refine g_get (pc := 11) X inlX7 0 rfl rfl 5 (by decide) mw_48_10 rfl dX7_choose_11 ?_
    refine g_icmp_ltI (pc := 14) X 23 (by decide) (inRb b_wl (by decide) (by decide)) (inRb b_hn (by decide) (by decide)) dX7_choose_14 (fun c14 => ?_) (fun c14 => ?_)
    · refine g_iconst (pc := 23) X (iI 0) (by rfl) dX7_choose_23 ?_
      refine g_istore_n (pc := 24) X (i := 3) rfl (by decide) (lv' := [(3, .int (iI 0)), (0, .ref h0), (1, .int (iI wl)), (2, .int (iI sn))]) rfl dX7_choose_24 ?_
      have loop25 : ∀ (fuel : Nat) (i : Int) (hf1 : Int) (Hg1 : Nat → Int) (Hc1 : Nat → Int) (Hk1 : Nat → Int), (0 ≤ i ∧ i ≤ 4) → ((-2147483648) ≤ hf1 ∧ hf1 ≤ 2147483647) → (∀ j, j < 4 → (-2147483648) ≤ Hg1 j ∧ Hg1 j ≤ 2147483647) → (∀ j, j < 8 → 0 ≤ Hc1 j ∧ Hc1 j ≤ 3) → (∀ j, j < 8 → 0 ≤ Hk1 j ∧ Hk1 j ≤ 3) → (5 - i).toNat < fuel → Gs p l e ({ frames := 11, cells := 0, slots := 0, locals := 251 } : Room) s m args below meth c (MQ below (gPost Z [cO_irrviirrrrri h0 7 hb h_papers h_sizes hv hp hn h_needs h_hidden h_given h_chosen h_picked hf, cA Z h_papers 0 4 Hp, cA Z h_sizes 0 4 Hs, cA Z h_needs 0 8 Hn, cA Z h_hidden 2 8 Hh, cA Z h_given 0 4 Hg, cA Z h_chosen 0 8 Hc, cA Z h_picked 0 8 Hk] s.heap.size (fun r w' => ∃ (Hg2 : Nat → Int) (Hc2 : Nat → Int) (Hk2 : Nat → Int) (hf2 : Int), (r = none) ∧ (w' = [cO_irrviirrrrri h0 7 hb h_papers h_sizes hv hp hn h_needs h_hidden h_given h_chosen h_picked hf2, cA Z h_papers 0 4 Hp, cA Z h_sizes 0 4 Hs, cA Z h_needs 0 8 Hn, cA Z h_hidden 2 8 Hh, cA Z h_given 0 4 Hg2, cA Z h_chosen 0 8 Hc2, cA Z h_picked 0 8 Hk2]) ∧ ((-2147483648) ≤ hf2 ∧ hf2 ≤ 2147483647) ∧ (∀ j, j < 4 → (-2147483648) ≤ Hg2 j ∧ Hg2 j ≤ 2147483647) ∧ (∀ j, j < 8 → 0 ≤ Hc2 j ∧ Hc2 j ≤ 3) ∧ (∀ j, j < 8 → 0 ≤ Hk2 j ∧ Hk2 j ≤ 3))) args s 0 0 (va_A [cO_irrviirrrrri h0 7 hb h_papers h_sizes hv hp hn h_needs h_hidden h_given h_chosen h_picked hf, cA Z h_papers 0 4 Hp, cA Z h_sizes 0 4 Hs, cA Z h_needs 0 8 Hn, cA Z h_hidden 2 8 Hh, cA Z h_given 0 4 Hg, cA Z h_chosen 0 8 Hc, cA Z h_picked 0 8 Hk] s.heap.size)) Z A 4 0 0 25 [(3, .int (iI i)), (0, .ref h0), (1, .int (iI wl)), (2, .int (iI sn))] [] [cO_irrviirrrrri h0 7 hb h_papers h_sizes hv hp hn h_needs h_hidden h_given h_chosen h_picked hf1, cA Z h_papers 0 4 Hp, cA Z h_sizes 0 4 Hs, cA Z h_needs 0 8 Hn, cA Z h_hidden 2 8 Hh, cA Z h_given 0 4 Hg1, cA Z h_chosen 0 8 Hc1, cA Z h_picked 0 8 Hk1] := by
        intro fuel
        induction fuel with
        | zero => intro i hf1 Hg1 Hc1 Hk1 _ _ _ _ _ hm; exact absurd hm (Nat.not_lt_zero _)
        | succ fuel ih =>
          intro i hf1 Hg1 Hc1 Hk1 b_i b_hf1 h_Hg1 h_Hc1 h_Hk1 hm
          refine g_iload_n (pc := 25) X 0 rfl dX7_choose_25 ?_
          refine g_aload_n (pc := 26) X 1 rfl dX7_choose_26 ?_
          refine g_get (pc := 27) X inlX7 0 rfl rfl 0 (by decide) mw_47_7 rfl dX7_choose_27 ?_
          refine g_icmp_geI (pc := 30) X 136 (by decide) (inRb b_i (by decide) (by decide)) (inRb b_hb (by decide) (by decide)) dX7_choose_30 (fun c30 => ?_) (fun c30 => ?_)
          · exact g_vret (pc := 136) X hA (⟨Hg1, Hc1, Hk1, hf1, rfl, rfl, (b_hf1), (h_Hg1), (h_Hc1), (h_Hk1)⟩) (by decide) (by decide) dX7_choose_136
          · refine g_aload_n (pc := 33) X 1 rfl dX7_choose_33 ?_
            refine g_get (pc := 34) X inlX7 0 rfl rfl 1 (by decide) mw_5_15 rfl dX7_choose_34 ?_
            refine g_iload_n (pc := 37) X 0 rfl dX7_choose_37 ?_
            refine g_ialdI (pc := 38) X 1 rfl (b_i.1) (by omega) (Int.le_trans b_i.2 (by decide)) dX7_choose_38 ?_
            refine g_nameI (fun y1 ey1 => ?_)
            have by1 : 0 ≤ y1 ∧ y1 ≤ 3 := by rw [ey1]; exact h_Hp _ (by omega)
            refine g_aload_n (pc := 39) X 1 rfl dX7_choose_39 ?_
            refine g_get (pc := 40) X inlX7 0 rfl rfl 4 (by decide) mw_48_6 rfl dX7_choose_40 ?_
            refine g_icmp_neI (pc := 43) X 130 (by decide) (inRb by1 (by decide) (by decide)) b_hp dX7_choose_43 (fun c43 => ?_) (fun c43 => ?_)
            · refine g_iincI (pc := 130) X 0 rfl (by decide) (lv' := [(3, .int (iI (i + 1))), (0, .ref h0), (1, .int (iI wl)), (2, .int (iI sn))]) rfl dX7_choose_130 ?_
              refine g_goto (pc := 133) X 25 (by decide) dX7_choose_133 ?_
              exact ih (i + 1) hf1 Hg1 Hc1 Hk1 (by omega) (b_hf1) (h_Hg1) (h_Hc1) (h_Hk1) (by omega)
            · refine g_aload_n (pc := 46) X 1 rfl dX7_choose_46 ?_
              refine g_get (pc := 47) X inlX7 0 rfl rfl 8 (by decide) mw_5_20 rfl dX7_choose_47 ?_
              refine g_iload_n (pc := 50) X 0 rfl dX7_choose_50 ?_
              refine g_ialdI (pc := 51) X 5 rfl (b_i.1) (by omega) (Int.le_trans b_i.2 (by decide)) dX7_choose_51 ?_
              refine g_nameI (fun y2 ey2 => ?_)
              have by2 : (-2147483648) ≤ y2 ∧ y2 ≤ 2147483647 := by rw [ey2]; exact h_Hg1 _ (by omega)
              refine g_aload_n (pc := 52) X 1 rfl dX7_choose_52 ?_
              refine g_get (pc := 53) X inlX7 0 rfl rfl 6 (by decide) mw_5_17 rfl dX7_choose_53 ?_
              refine g_iload_n (pc := 56) X 2 rfl dX7_choose_56 ?_
              refine g_ialdI (pc := 57) X 3 rfl (b_wl.1) (by omega) (Int.le_trans b_wl.2 (by decide)) dX7_choose_57 ?_
              refine g_nameI (fun y3 ey3 => ?_)
              have by3 : (-2147483648) ≤ y3 ∧ y3 ≤ 2147483647 := by rw [ey3]; exact h_Hn _ (by omega)
              refine g_iaddI (pc := 58) X dX7_choose_58 ?_
              refine g_any (fun y4 by4 => ?_)
              refine g_aload_n (pc := 59) X 1 rfl dX7_choose_59 ?_
              refine g_get (pc := 60) X inlX7 0 rfl rfl 2 (by decide) mw_5_16 rfl dX7_choose_60 ?_
              refine g_iload_n (pc := 63) X 0 rfl dX7_choose_63 ?_
              refine g_ialdI (pc := 64) X 2 rfl (b_i.1) (by omega) (Int.le_trans b_i.2 (by decide)) dX7_choose_64 ?_
              refine g_nameI (fun y5 ey5 => ?_)
              have by5 : 0 ≤ y5 ∧ y5 ≤ 30 := by rw [ey5]; exact h_Hs _ (by omega)
              refine g_icmp_gtI (pc := 65) X 130 (by decide) by4 (inRb by5 (by decide) (by decide)) dX7_choose_65 (fun c65 => ?_) (fun c65 => ?_)
              · refine g_iincI (pc := 130) X 0 rfl (by decide) (lv' := [(3, .int (iI (i + 1))), (0, .ref h0), (1, .int (iI wl)), (2, .int (iI sn))]) rfl dX7_choose_130 ?_
                refine g_goto (pc := 133) X 25 (by decide) dX7_choose_133 ?_
                exact ih (i + 1) hf1 Hg1 Hc1 Hk1 (by omega) (b_hf1) (h_Hg1) (h_Hc1) (h_Hk1) (by omega)
              · refine g_aload_n (pc := 68) X 1 rfl dX7_choose_68 ?_
                refine g_get (pc := 69) X inlX7 0 rfl rfl 9 (by decide) mw_5_21 rfl dX7_choose_69 ?_
                refine g_iload_n (pc := 72) X 2 rfl dX7_choose_72 ?_
                refine g_iload_n (pc := 73) X 0 rfl dX7_choose_73 ?_
                refine g_iastG (pc := 74) X 6 rfl (b_wl.1) (by omega) (Int.le_trans b_wl.2 (by decide)) (ws' := fun F6 => [cO_irrviirrrrri h0 7 hb h_papers h_sizes hv hp hn h_needs h_hidden h_given h_chosen h_picked hf1, cA Z h_papers 0 4 Hp, cA Z h_sizes 0 4 Hs, cA Z h_needs 0 8 Hn, cA Z h_hidden 2 8 Hh, cA Z h_given 0 4 Hg1, cA Z h_chosen 0 8 F6, cA Z h_picked 0 8 Hk1]) (fun _ => rfl) dX7_choose_74 (fun F6 eF6 => ?_)
                have hF6 : ∀ j, j < 8 → 0 ≤ F6 j ∧ F6 j ≤ 3 := by rw [eF6]; exact updI_B h_Hc1 (by omega)
                refine g_aload_n (pc := 75) X 1 rfl dX7_choose_75 ?_
                refine g_get (pc := 76) X inlX7 0 rfl rfl 8 (by decide) mw_5_20 rfl dX7_choose_76 ?_
                refine g_iload_n (pc := 79) X 0 rfl dX7_choose_79 ?_
                refine g_dup2 (pc := 80) X rfl rfl dX7_choose_80 ?_
                refine g_ialdI (pc := 81) X 5 rfl (b_i.1) (by omega) (Int.le_trans b_i.2 (by decide)) dX7_choose_81 ?_
                refine g_nameI (fun y7 ey7 => ?_)
                have by7 : (-2147483648) ≤ y7 ∧ y7 ≤ 2147483647 := by rw [ey7]; exact h_Hg1 _ (by omega)
                refine g_aload_n (pc := 82) X 1 rfl dX7_choose_82 ?_
                refine g_get (pc := 83) X inlX7 0 rfl rfl 6 (by decide) mw_5_17 rfl dX7_choose_83 ?_
                refine g_iload_n (pc := 86) X 2 rfl dX7_choose_86 ?_
                refine g_ialdI (pc := 87) X 3 rfl (b_wl.1) (by omega) (Int.le_trans b_wl.2 (by decide)) dX7_choose_87 ?_
                refine g_nameI (fun y8 ey8 => ?_)
                have by8 : (-2147483648) ≤ y8 ∧ y8 ≤ 2147483647 := by rw [ey8]; exact h_Hn _ (by omega)
                refine g_iaddI (pc := 88) X dX7_choose_88 ?_
                refine g_any (fun y9 by9 => ?_)
                refine g_iastG (pc := 89) X 5 rfl (b_i.1) (by omega) (Int.le_trans b_i.2 (by decide)) (ws' := fun F10 => [cO_irrviirrrrri h0 7 hb h_papers h_sizes hv hp hn h_needs h_hidden h_given h_chosen h_picked hf1, cA Z h_papers 0 4 Hp, cA Z h_sizes 0 4 Hs, cA Z h_needs 0 8 Hn, cA Z h_hidden 2 8 Hh, cA Z h_given 0 4 F10, cA Z h_chosen 0 8 F6, cA Z h_picked 0 8 Hk1]) (fun _ => rfl) dX7_choose_89 (fun F10 eF10 => ?_)
                have hF10 : ∀ j, j < 4 → (-2147483648) ≤ F10 j ∧ F10 j ≤ 2147483647 := by rw [eF10]; exact updI_B h_Hg1 (by omega)
                refine g_aload_n (pc := 90) X 1 rfl dX7_choose_90 ?_
                refine g_iload_n (pc := 91) X 2 rfl dX7_choose_91 ?_
                refine g_iconst (pc := 92) X (iI 1) (by rfl) dX7_choose_92 ?_
                refine g_iaddI (pc := 93) X dX7_choose_93 ?_
                refine g_iload_n (pc := 94) X 2 rfl dX7_choose_94 ?_
                refine g_if_neI (pc := 95) X 102 (by decide) (inRb b_wl (by decide) (by decide)) dX7_choose_95 (fun c95 => ?_) (fun c95 => ?_)
                · refine g_iload_n (pc := 102) X 3 rfl dX7_choose_102 ?_
                  refine g_aload_n (pc := 103) X 1 rfl dX7_choose_103 ?_
                  refine g_iload_n (pc := 104) X 2 rfl dX7_choose_104 ?_
                  refine g_iconst (pc := 105) X (iI 1) (by rfl) dX7_choose_105 ?_
                  refine g_isubI (pc := 106) X dX7_choose_106 ?_
                  refine g_iload_n (pc := 107) X 2 rfl dX7_choose_107 ?_
                  refine g_callV (pc := 108) X (k_X7_seenBetween l Z h0 h_papers h_sizes hv h_needs h_hidden h_given h_chosen h_picked Hh F6 (wl - 1) wl hb hp hn hf1 (by omega) (by omega) b_hb b_hp b_hn b_hf1 (h_Hh) (hF6)) iM_X7_seenBetween mw_49_13 mw_49_14 mw_49_15 0 rfl rfl [0, 4, 6] [1, 2, 3, 5, 7] rfl (wr := [cA Z h_papers 0 4 Hp, cA Z h_sizes 0 4 Hs, cA Z h_needs 0 8 Hn, cA Z h_given 0 4 F10, cA Z h_picked 0 8 Hk1]) rfl (by decide) rfl rfl (Nat.le_of_ble_eq_true rfl) (by decide) dX7_choose_108 (fun r w' hpo => ?_)
                  refine exN_1 hpo fun y11 hz => anD_3 hz fun e_r e_w hf108_b_y => ?_; clear hz hpo; subst e_r; subst e_w
                  refine g_as (pc' := 111) (lv' := [(3, .int (iI i)), (0, .ref h0), (1, .int (iI wl)), (2, .int (iI sn))]) (st' := [.int (iI y11), .int (iI sn), .int (iI (wl + 1)), .ref h0]) (ws' := [cA Z h_papers 0 4 Hp, cA Z h_sizes 0 4 Hs, cA Z h_needs 0 8 Hn, cA Z h_given 0 4 F10, cA Z h_picked 0 8 Hk1, cO_irrviirrrrri h0 7 hb h_papers h_sizes hv hp hn h_needs h_hidden h_given h_chosen h_picked hf1, cA Z h_hidden 2 8 Hh, cA Z h_chosen 0 8 F6]) rfl rfl rfl rfl ?_
                  refine g_iaddI (pc := 111) X dX7_choose_111 ?_
                  refine g_callV (pc := 112) X (k_X7_choose7 l Z h0 h_papers h_sizes hv h_needs h_hidden h_given h_chosen h_picked Hp Hs Hn Hh F10 F6 Hk1 (wl + 1) (sn + y11) hb hp hn hf1 (by omega) (by omega) b_hb b_hp b_hn b_hf1 (by omega) (h_Hp) (h_Hs) (h_Hn) (h_Hh) (hF10) (hF6) (h_Hk1)) iM_X7_choose mw_49_5 mw_49_6 mw_49_7 5 rfl rfl [5, 0, 1, 2, 6, 3, 7, 4] [] rfl (wr := []) rfl (by decide) rfl rfl (Nat.le_of_ble_eq_true rfl) (by decide) dX7_choose_112 (fun r w' hpo => ?_)
                  refine exN_4 hpo fun F13 F14 F15 y16 hz => anD_6 hz fun e_r e_w hf112_b_hf2 hf112_h_Hg2 hf112_h_Hc2 hf112_h_Hk2 => ?_; clear hz hpo; subst e_r; subst e_w
                  refine g_as (pc' := 115) (lv' := [(3, .int (iI i)), (0, .ref h0), (1, .int (iI wl)), (2, .int (iI sn))]) (st' := []) (ws' := [cO_irrviirrrrri h0 7 hb h_papers h_sizes hv hp hn h_needs h_hidden h_given h_chosen h_picked y16, cA Z h_papers 0 4 Hp, cA Z h_sizes 0 4 Hs, cA Z h_needs 0 8 Hn, cA Z h_hidden 2 8 Hh, cA Z h_given 0 4 F13, cA Z h_chosen 0 8 F14, cA Z h_picked 0 8 F15]) rfl rfl rfl rfl ?_
                  refine g_aload_n (pc := 115) X 1 rfl dX7_choose_115 ?_
                  refine g_get (pc := 116) X inlX7 0 rfl rfl 8 (by decide) mw_5_20 rfl dX7_choose_116 ?_
                  refine g_iload_n (pc := 119) X 0 rfl dX7_choose_119 ?_
                  refine g_dup2 (pc := 120) X rfl rfl dX7_choose_120 ?_
                  refine g_ialdI (pc := 121) X 5 rfl (b_i.1) (by omega) (Int.le_trans b_i.2 (by decide)) dX7_choose_121 ?_
                  refine g_nameI (fun y18 ey18 => ?_)
                  have by18 : (-2147483648) ≤ y18 ∧ y18 ≤ 2147483647 := by rw [ey18]; exact hf112_h_Hg2 _ (by omega)
                  refine g_aload_n (pc := 122) X 1 rfl dX7_choose_122 ?_
                  refine g_get (pc := 123) X inlX7 0 rfl rfl 6 (by decide) mw_5_17 rfl dX7_choose_123 ?_
                  refine g_iload_n (pc := 126) X 2 rfl dX7_choose_126 ?_
                  refine g_ialdI (pc := 127) X 3 rfl (b_wl.1) (by omega) (Int.le_trans b_wl.2 (by decide)) dX7_choose_127 ?_
                  refine g_nameI (fun y19 ey19 => ?_)
                  have by19 : (-2147483648) ≤ y19 ∧ y19 ≤ 2147483647 := by rw [ey19]; exact h_Hn _ (by omega)
                  refine g_isubI (pc := 128) X dX7_choose_128 ?_
                  refine g_any (fun y20 by20 => ?_)
                  refine g_iastG (pc := 129) X 5 rfl (b_i.1) (by omega) (Int.le_trans b_i.2 (by decide)) (ws' := fun F21 => [cO_irrviirrrrri h0 7 hb h_papers h_sizes hv hp hn h_needs h_hidden h_given h_chosen h_picked y16, cA Z h_papers 0 4 Hp, cA Z h_sizes 0 4 Hs, cA Z h_needs 0 8 Hn, cA Z h_hidden 2 8 Hh, cA Z h_given 0 4 F21, cA Z h_chosen 0 8 F14, cA Z h_picked 0 8 F15]) (fun _ => rfl) dX7_choose_129 (fun F21 eF21 => ?_)
                  have hF21 : ∀ j, j < 4 → (-2147483648) ≤ F21 j ∧ F21 j ≤ 2147483647 := by rw [eF21]; exact updI_B hf112_h_Hg2 (by omega)
                  refine g_iincI (pc := 130) X 0 rfl (by decide) (lv' := [(3, .int (iI (i + 1))), (0, .ref h0), (1, .int (iI wl)), (2, .int (iI sn))]) rfl dX7_choose_130 ?_
                  refine g_goto (pc := 133) X 25 (by decide) dX7_choose_133 ?_
                  exact ih (i + 1) y16 F21 F14 F15 (by omega) (hf112_b_hf2) (hF21) (hf112_h_Hc2) (hf112_h_Hk2) (by omega)
                · refine g_iload_n (pc := 98) X 3 rfl dX7_choose_98 ?_
                  refine g_goto (pc := 99) X 112 (by decide) dX7_choose_99 ?_
                  refine g_callV (pc := 112) X (k_X7_choose7 l Z h0 h_papers h_sizes hv h_needs h_hidden h_given h_chosen h_picked Hp Hs Hn Hh F10 F6 Hk1 (wl + 1) sn hb hp hn hf1 (by omega) b_sn b_hb b_hp b_hn b_hf1 (by omega) (h_Hp) (h_Hs) (h_Hn) (h_Hh) (hF10) (hF6) (h_Hk1)) iM_X7_choose mw_49_5 mw_49_6 mw_49_7 0 rfl rfl [0, 1, 2, 3, 4, 5, 6, 7] [] rfl (wr := []) rfl (by decide) rfl rfl (Nat.le_of_ble_eq_true rfl) (by decide) dX7_choose_112 (fun r w' hpo => ?_)
                  refine exN_4 hpo fun F22 F23 F24 y25 hz => anD_6 hz fun e_r e_w hf112_b_hf2 hf112_h_Hg2 hf112_h_Hc2 hf112_h_Hk2 => ?_; clear hz hpo; subst e_r; subst e_w
                  refine g_as (pc' := 115) (lv' := [(3, .int (iI i)), (0, .ref h0), (1, .int (iI wl)), (2, .int (iI sn))]) (st' := []) (ws' := [cO_irrviirrrrri h0 7 hb h_papers h_sizes hv hp hn h_needs h_hidden h_given h_chosen h_picked y25, cA Z h_papers 0 4 Hp, cA Z h_sizes 0 4 Hs, cA Z h_needs 0 8 Hn, cA Z h_hidden 2 8 Hh, cA Z h_given 0 4 F22, cA Z h_chosen 0 8 F23, cA Z h_picked 0 8 F24]) rfl rfl rfl rfl ?_
                  refine g_aload_n (pc := 115) X 1 rfl dX7_choose_115 ?_
                  refine g_get (pc := 116) X inlX7 0 rfl rfl 8 (by decide) mw_5_20 rfl dX7_choose_116 ?_
                  refine g_iload_n (pc := 119) X 0 rfl dX7_choose_119 ?_
                  refine g_dup2 (pc := 120) X rfl rfl dX7_choose_120 ?_
                  refine g_ialdI (pc := 121) X 5 rfl (b_i.1) (by omega) (Int.le_trans b_i.2 (by decide)) dX7_choose_121 ?_
                  refine g_nameI (fun y27 ey27 => ?_)
                  have by27 : (-2147483648) ≤ y27 ∧ y27 ≤ 2147483647 := by rw [ey27]; exact hf112_h_Hg2 _ (by omega)
                  refine g_aload_n (pc := 122) X 1 rfl dX7_choose_122 ?_
                  refine g_get (pc := 123) X inlX7 0 rfl rfl 6 (by decide) mw_5_17 rfl dX7_choose_123 ?_
                  refine g_iload_n (pc := 126) X 2 rfl dX7_choose_126 ?_
                  refine g_ialdI (pc := 127) X 3 rfl (b_wl.1) (by omega) (Int.le_trans b_wl.2 (by decide)) dX7_choose_127 ?_
                  refine g_nameI (fun y28 ey28 => ?_)
                  have by28 : (-2147483648) ≤ y28 ∧ y28 ≤ 2147483647 := by rw [ey28]; exact h_Hn _ (by omega)
                  refine g_isubI (pc := 128) X dX7_choose_128 ?_
                  refine g_any (fun y29 by29 => ?_)
                  refine g_iastG (pc := 129) X 5 rfl (b_i.1) (by omega) (Int.le_trans b_i.2 (by decide)) (ws' := fun F30 => [cO_irrviirrrrri h0 7 hb h_papers h_sizes hv hp hn h_needs h_hidden h_given h_chosen h_picked y25, cA Z h_papers 0 4 Hp, cA Z h_sizes 0 4 Hs, cA Z h_needs 0 8 Hn, cA Z h_hidden 2 8 Hh, cA Z h_given 0 4 F30, cA Z h_chosen 0 8 F23, cA Z h_picked 0 8 F24]) (fun _ => rfl) dX7_choose_129 (fun F30 eF30 => ?_)
                  have hF30 : ∀ j, j < 4 → (-2147483648) ≤ F30 j ∧ F30 j ≤ 2147483647 := by rw [eF30]; exact updI_B hf112_h_Hg2 (by omega)
                  refine g_iincI (pc := 130) X 0 rfl (by decide) (lv' := [(3, .int (iI (i + 1))), (0, .ref h0), (1, .int (iI wl)), (2, .int (iI sn))]) rfl dX7_choose_130 ?_
                  refine g_goto (pc := 133) X 25 (by decide) dX7_choose_133 ?_
                  exact ih (i + 1) y25 F30 F23 F24 (by omega) (hf112_b_hf2) (hF30) (hf112_h_Hc2) (hf112_h_Hk2) (by omega)
      exact loop25 _ 0 hf Hg Hc Hk (by omega) (b_hf) (h_Hg) (h_Hc) (h_Hk) (Nat.lt_succ_self _)
    · refine g_aload_n (pc := 17) X 0 rfl dX7_choose_17 ?_
      refine g_iload_n (pc := 18) X 2 rfl dX7_choose_18 ?_
      refine g_callV (pc := 19) X (k_X7_pick l Z h0 h_papers h_sizes hv h_needs h_hidden h_given h_chosen h_picked Hh Hc Hk sn hb hp hn hf b_sn b_hb b_hp b_hn b_hf (h_Hh) (h_Hc) (h_Hk)) iM_X7_pick mw_49_9 mw_49_10 mw_49_11 0 rfl rfl [0, 4, 6, 7] [1, 2, 3, 5] rfl (wr := [cA Z h_papers 0 4 Hp, cA Z h_sizes 0 4 Hs, cA Z h_needs 0 8 Hn, cA Z h_given 0 4 Hg]) rfl (by decide) rfl rfl (Nat.le_of_ble_eq_true rfl) (by decide) dX7_choose_19 (fun r w' hpo => ?_)
      refine exN_2 hpo fun F31 y32 hz => anD_4 hz fun e_r e_w hf19_b_hf2 hf19_h_Hk2 => ?_; clear hz hpo; subst e_r; subst e_w
      refine g_as (pc' := 22) (lv' := [(0, .ref h0), (1, .int (iI wl)), (2, .int (iI sn))]) (st' := []) (ws' := [cA Z h_papers 0 4 Hp, cA Z h_sizes 0 4 Hs, cA Z h_needs 0 8 Hn, cA Z h_given 0 4 Hg, cO_irrviirrrrri h0 7 hb h_papers h_sizes hv hp hn h_needs h_hidden h_given h_chosen h_picked y32, cA Z h_hidden 2 8 Hh, cA Z h_chosen 0 8 Hc, cA Z h_picked 0 8 F31]) rfl rfl rfl rfl ?_
      refine g_ws (ws' := [cO_irrviirrrrri h0 7 hb h_papers h_sizes hv hp hn h_needs h_hidden h_given h_chosen h_picked y32, cA Z h_papers 0 4 Hp, cA Z h_sizes 0 4 Hs, cA Z h_needs 0 8 Hn, cA Z h_hidden 2 8 Hh, cA Z h_given 0 4 Hg, cA Z h_chosen 0 8 Hc, cA Z h_picked 0 8 F31]) [4, 0, 1, 2, 5, 3, 6, 7] (by decide) rfl ?_
      exact g_vret (pc := 22) X hA (⟨Hg, Hc, F31, y32, rfl, rfl, (hf19_b_hf2), (h_Hg), (h_Hc), (hf19_h_Hk2)⟩) (by decide) (by decide) dX7_choose_22
  · exact g_vret (pc := 8) X hA (⟨Hg, Hc, Hk, hf, rfl, rfl, (b_hf), (h_Hg), (h_Hc), (h_Hk)⟩) (by decide) (by decide) dX7_choose_8

set_option maxHeartbeats 4000000 in
set_option maxRecDepth 100000 in
theorem k_X7_share (l : Launch) (Z : gZ) (h0 : Nat) (h_papers : Nat) (h_sizes : Nat) (hv : Value) (h_needs : Nat) (h_hidden : Nat) (h_given : Nat) (h_chosen : Nat) (h_picked : Nat) (Hp : Nat → Int) (Hs : Nat → Int) (Hn : Nat → Int) (Hh : Nat → Int) (Hg : Nat → Int) (Hc : Nat → Int) (Hk : Nat → Int) (hb : Int) (hp : Int) (hn : Int) (hf : Int) (b_hb : 0 ≤ hb ∧ hb ≤ 4) (b_hp : (-2147483648) ≤ hp ∧ hp ≤ 2147483647) (b_hn : 0 ≤ hn ∧ hn ≤ 8) (b_hf : (-2147483648) ≤ hf ∧ hf ≤ 2147483647) (h_Hp : ∀ j, j < 4 → 0 ≤ Hp j ∧ Hp j ≤ 3) (h_Hs : ∀ j, j < 4 → 0 ≤ Hs j ∧ Hs j ≤ 30) (h_Hn : ∀ j, j < 8 → (-2147483648) ≤ Hn j ∧ Hn j ≤ 2147483647) (h_Hh : ∀ j, j < 8 → 0 ≤ Hh j ∧ Hh j ≤ 1) (h_Hg : ∀ j, j < 4 → (-2147483648) ≤ Hg j ∧ Hg j ≤ 2147483647) (h_Hc : ∀ j, j < 8 → 0 ≤ Hc j ∧ Hc j ≤ 3) (h_Hk : ∀ j, j < 8 → 0 ≤ Hk j ∧ Hk j ≤ 3) : Con l Z yX7_share cX7_share 1 (some .boolean) 12 274 0 0 [.ref h0] [cO_irrviirrrrri h0 7 hb h_papers h_sizes hv hp hn h_needs h_hidden h_given h_chosen h_picked hf, cA Z h_papers 0 4 Hp, cA Z h_sizes 0 4 Hs, cA Z h_needs 0 8 Hn, cA Z h_hidden 2 8 Hh, cA Z h_given 0 4 Hg, cA Z h_chosen 0 8 Hc, cA Z h_picked 0 8 Hk] (fun r w' => ∃ (Hg2 : Nat → Int) (Hc2 : Nat → Int) (Hk2 : Nat → Int) (hf2 : Int) (y : Int), (r = some (.int (iI y))) ∧ (w' = [cO_irrviirrrrri h0 7 hb h_papers h_sizes hv hp hn h_needs h_hidden h_given h_chosen h_picked hf2, cA Z h_papers 0 4 Hp, cA Z h_sizes 0 4 Hs, cA Z h_needs 0 8 Hn, cA Z h_hidden 2 8 Hh, cA Z h_given 0 4 Hg2, cA Z h_chosen 0 8 Hc2, cA Z h_picked 0 8 Hk2]) ∧ ((-2147483648) ≤ hf2 ∧ hf2 ≤ 2147483647) ∧ (0 ≤ y ∧ y ≤ 1) ∧ (∀ j, j < 4 → (-2147483648) ≤ Hg2 j ∧ Hg2 j ≤ 2147483647) ∧ (∀ j, j < 8 → 0 ≤ Hc2 j ∧ Hc2 j ≤ 3) ∧ (∀ j, j < 8 → 0 ≤ Hk2 j ∧ Hk2 j ≤ 3)) := by
  refine enter (by decide) (Nat.le_of_ble_eq_true rfl) ?_
  intro p e s m args below meth c A X hnm hA
  have X : Cx p s m args meth c cX7_share 1 (some .boolean) RX7 Z A := X
  refine g_as (pc' := 0) (lv' := [(0, .ref h0)]) (st' := []) (ws' := [cO_irrviirrrrri h0 7 hb h_papers h_sizes hv hp hn h_needs h_hidden h_given h_chosen h_picked hf, cA Z h_papers 0 4 Hp, cA Z h_sizes 0 4 Hs, cA Z h_needs 0 8 Hn, cA Z h_hidden 2 8 Hh, cA Z h_given 0 4 Hg, cA Z h_chosen 0 8 Hc, cA Z h_picked 0 8 Hk]) rfl rfl rfl rfl ?_
  refine g_aload_n (pc := 0) X 0 rfl dX7_share_0 ?_
  refine g_sipush (pc := 1) X (iI 1000) (by decide) dX7_share_1 ?_
  refine g_put (pc := 4) X inlX7 tyX7_ok nmX7 0 rfl rfl 11 (by decide) mw_49_4 rfl rfl rfl (Nat.le_of_ble_eq_true rfl) (ws' := [cO_irrviirrrrri h0 7 hb h_papers h_sizes hv hp hn h_needs h_hidden h_given h_chosen h_picked 1000, cA Z h_papers 0 4 Hp, cA Z h_sizes 0 4 Hs, cA Z h_needs 0 8 Hn, cA Z h_hidden 2 8 Hh, cA Z h_given 0 4 Hg, cA Z h_chosen 0 8 Hc, cA Z h_picked 0 8 Hk]) rfl dX7_share_4 ?_
  refine g_aload_n (pc := 7) X 0 rfl dX7_share_7 ?_
  refine g_iconst (pc := 8) X (iI 0) (by rfl) dX7_share_8 ?_
  refine g_iconst (pc := 9) X (iI 0) (by rfl) dX7_share_9 ?_
  refine g_callV (pc := 10) X (k_X7_choose8 l Z h0 h_papers h_sizes hv h_needs h_hidden h_given h_chosen h_picked Hp Hs Hn Hh Hg Hc Hk 0 0 hb hp hn 1000 (by decide) (by decide) b_hb b_hp b_hn (by decide) (by (first | (clear b_hb b_hp b_hn b_hf; omega) | omega)) (h_Hp) (h_Hs) (h_Hn) (h_Hh) (h_Hg) (h_Hc) (h_Hk)) iM_X7_choose mw_49_5 mw_49_6 mw_49_7 0 rfl rfl [0, 1, 2, 3, 4, 5, 6, 7] [] rfl (wr := []) rfl (by decide) rfl rfl (Nat.le_of_ble_eq_true rfl) (by decide) dX7_share_10 (fun r w' hpo => ?_)
  refine exN_4 hpo fun F1 F2 F3 y4 hz => anD_6 hz fun e_r e_w hf10_b_hf2 hf10_h_Hg2 hf10_h_Hc2 hf10_h_Hk2 => ?_; clear hz hpo; subst e_r; subst e_w
  refine g_as (pc' := 13) (lv' := [(0, .ref h0)]) (st' := []) (ws' := [cO_irrviirrrrri h0 7 hb h_papers h_sizes hv hp hn h_needs h_hidden h_given h_chosen h_picked y4, cA Z h_papers 0 4 Hp, cA Z h_sizes 0 4 Hs, cA Z h_needs 0 8 Hn, cA Z h_hidden 2 8 Hh, cA Z h_given 0 4 F1, cA Z h_chosen 0 8 F2, cA Z h_picked 0 8 F3]) rfl rfl rfl rfl ?_
  refine g_aload_n (pc := 13) X 0 rfl dX7_share_13 ?_
  refine g_get (pc := 14) X inlX7 0 rfl rfl 11 (by decide) mw_49_4 rfl dX7_share_14 ?_
  refine g_sipush (pc := 17) X (iI 1000) (by decide) dX7_share_17 ?_
  refine g_icmp_eqI (pc := 20) X 27 (by decide) hf10_b_hf2 ⟨by decide, by decide⟩ dX7_share_20 (fun c20 => ?_) (fun c20 => ?_)
  · refine g_iconst (pc := 27) X (iI 0) (by rfl) dX7_share_27 ?_
    exact g_zret (pc := 28) X hA (rfl) (⟨F1, F2, F3, y4, 0, rfl, rfl, (hf10_b_hf2), (by (first | (clear b_hb b_hp b_hn b_hf; omega) | omega)), (hf10_h_Hg2), (hf10_h_Hc2), (hf10_h_Hk2)⟩) (by decide) (by decide) dX7_share_28
  · refine g_iconst (pc := 23) X (iI 1) (by rfl) dX7_share_23 ?_
    refine g_goto (pc := 24) X 28 (by decide) dX7_share_24 ?_
    exact g_zret (pc := 28) X hA (rfl) (⟨F1, F2, F3, y4, 1, rfl, rfl, (hf10_b_hf2), (by (first | (clear b_hb b_hp b_hn b_hf; omega) | omega)), (hf10_h_Hg2), (hf10_h_Hc2), (hf10_h_Hk2)⟩) (by decide) (by decide) dX7_share_28
