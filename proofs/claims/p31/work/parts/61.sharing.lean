set_option maxHeartbeats 4000000 in
set_option maxRecDepth 100000 in
theorem k_X7_add (l : Launch) (Z : gZ) (h0 : Nat) (h_papers : Nat) (h_sizes : Nat) (hv : Value) (h_needs : Nat) (h_hidden : Nat) (h_given : Nat) (h_chosen : Nat) (h_picked : Nat) (Hp : Nat → Int) (Hs : Nat → Int) (pp : Int) (ro_ : Int) (hb : Int) (hp : Int) (hn : Int) (hf : Int) (b_pp : 0 ≤ pp ∧ pp ≤ 3) (b_ro_ : (-2147483648) ≤ ro_ ∧ ro_ ≤ 2147483647) (b_hb : 0 ≤ hb ∧ hb ≤ 4) (b_hp : (-2147483648) ≤ hp ∧ hp ≤ 2147483647) (b_hn : 0 ≤ hn ∧ hn ≤ 8) (b_hf : (-2147483648) ≤ hf ∧ hf ≤ 2147483647) (h_Hp : ∀ j, j < 4 → 0 ≤ Hp j ∧ Hp j ≤ 3) (h_Hs : ∀ j, j < 4 → 0 ≤ Hs j ∧ Hs j ≤ 30) : Con l Z yX7_add cX7_add 3 (some .int) 1 22 0 0 [.ref h0, .int (iI pp), .int (iI ro_)] [cO_irrviirrrrri h0 7 hb h_papers h_sizes hv hp hn h_needs h_hidden h_given h_chosen h_picked hf, cA Z h_papers 0 4 Hp, cA Z h_sizes 0 4 Hs] (fun r w' => ((r = some (.int (iI (-1)))) ∧ (w' = [cO_irrviirrrrri h0 7 hb h_papers h_sizes hv hp hn h_needs h_hidden h_given h_chosen h_picked hf, cA Z h_papers 0 4 Hp, cA Z h_sizes 0 4 Hs]) ∧ (4 ≤ hb ∨ ¬ (1 ≤ ro_ ∧ ro_ ≤ 30))) ∨ (∃ (Hp2 : Nat → Int) (Hs2 : Nat → Int) (hb2 : Int) (y : Int), (r = some (.int (iI y))) ∧ (w' = [cO_irrviirrrrri h0 7 hb2 h_papers h_sizes hv hp hn h_needs h_hidden h_given h_chosen h_picked hf, cA Z h_papers 0 4 Hp2, cA Z h_sizes 0 4 Hs2]) ∧ (0 ≤ hb2 ∧ hb2 ≤ 4) ∧ (0 ≤ y ∧ y ≤ 3) ∧ (∀ j, j < 4 → 0 ≤ Hp2 j ∧ Hp2 j ≤ 3) ∧ (∀ j, j < 4 → 0 ≤ Hs2 j ∧ Hs2 j ≤ 30) ∧ (hb < 4 ∧ 1 ≤ ro_ ∧ ro_ ≤ 30) ∧ (hb2 = hb + 1) ∧ (y = hb))) := by
  refine enter (by decide) (Nat.le_of_ble_eq_true rfl) ?_
  intro p e s m args below meth c A X hnm hA
  have X : Cx p s m args meth c cX7_add 3 (some .int) RX7 Z A := X
  refine g_as (pc' := 0) (lv' := [(0, .ref h0), (1, .int (iI pp)), (2, .int (iI ro_))]) (st' := []) (ws' := [cO_irrviirrrrri h0 7 hb h_papers h_sizes hv hp hn h_needs h_hidden h_given h_chosen h_picked hf, cA Z h_papers 0 4 Hp, cA Z h_sizes 0 4 Hs]) rfl rfl rfl rfl ?_
  refine g_aload_n (pc := 0) X 0 rfl dX7_add_0 ?_
  refine g_get (pc := 1) X inlX7 0 rfl rfl 0 (by decide) mw_47_7 rfl dX7_add_1 ?_
  refine g_iconst (pc := 4) X (iI 4) (by rfl) dX7_add_4 ?_
  refine g_icmp_geI (pc := 5) X 18 (by decide) (inRb b_hb (by decide) (by decide)) ⟨by decide, by decide⟩ dX7_add_5 (fun c5 => ?_) (fun c5 => ?_)
  · refine g_iconst (pc := 18) X (iI (-1)) (by rfl) dX7_add_18 ?_
    exact g_iret (pc := 19) X hA (Or.inl (⟨rfl, rfl, (by (first | (clear b_pp b_hp b_hn b_hf; omega) | omega))⟩)) (by decide) (by decide) dX7_add_19
  · refine g_iconst (pc := 8) X (iI 1) (by rfl) dX7_add_8 ?_
    refine g_iload_n (pc := 9) X 2 rfl dX7_add_9 ?_
    refine g_bipush (pc := 10) X (iI 30) (by decide) dX7_add_10 ?_
    refine g_callSN (pc := 12) X (k_X11_isFrom l Z 1 ro_ 30 (by decide) b_ro_ (by decide)) iM_X11_isFrom (by decide) mw_11_7 [] [0, 1, 2] rfl (wr := [cO_irrviirrrrri h0 7 hb h_papers h_sizes hv hp hn h_needs h_hidden h_given h_chosen h_picked hf, cA Z h_papers 0 4 Hp, cA Z h_sizes 0 4 Hs]) rfl (by decide) rfl rfl (Nat.le_of_ble_eq_true rfl) (by decide) dX7_add_12 (fun r w' hpo => ?_)
    obtain ⟨rfl, rfl⟩ := hpo
    refine g_as (pc' := 15) (lv' := [(0, .ref h0), (1, .int (iI pp)), (2, .int (iI ro_))]) (st' := [.int (iI (bI (1 ≤ ro_ ∧ ro_ ≤ 30)))]) (ws' := [cO_irrviirrrrri h0 7 hb h_papers h_sizes hv hp hn h_needs h_hidden h_given h_chosen h_picked hf, cA Z h_papers 0 4 Hp, cA Z h_sizes 0 4 Hs]) rfl rfl rfl rfl ?_
    refine g_if_neB (pc := 15) X 20 (by decide) dX7_add_15 (fun c15 => ?_) (fun c15 => ?_)
    · refine g_aload_n (pc := 20) X 0 rfl dX7_add_20 ?_
      refine g_get (pc := 21) X inlX7 0 rfl rfl 1 (by decide) mw_5_15 rfl dX7_add_21 ?_
      refine g_aload_n (pc := 24) X 0 rfl dX7_add_24 ?_
      refine g_get (pc := 25) X inlX7 0 rfl rfl 0 (by decide) mw_47_7 rfl dX7_add_25 ?_
      refine g_iload_n (pc := 28) X 1 rfl dX7_add_28 ?_
      refine g_iastG (pc := 29) X 1 rfl (b_hb.1) (by (first | (clear b_pp b_hp b_hn b_hf; omega) | omega)) (Int.le_trans b_hb.2 (by decide)) (ws' := fun F2 => [cO_irrviirrrrri h0 7 hb h_papers h_sizes hv hp hn h_needs h_hidden h_given h_chosen h_picked hf, cA Z h_papers 0 4 F2, cA Z h_sizes 0 4 Hs]) (fun _ => rfl) dX7_add_29 (fun F2 eF2 => ?_)
      have hF2 : ∀ j, j < 4 → 0 ≤ F2 j ∧ F2 j ≤ 3 := by rw [eF2]; exact updI_B h_Hp (by (first | (clear b_pp b_hp b_hn b_hf; omega) | omega))
      refine g_aload_n (pc := 30) X 0 rfl dX7_add_30 ?_
      refine g_get (pc := 31) X inlX7 0 rfl rfl 2 (by decide) mw_5_16 rfl dX7_add_31 ?_
      refine g_aload_n (pc := 34) X 0 rfl dX7_add_34 ?_
      refine g_get (pc := 35) X inlX7 0 rfl rfl 0 (by decide) mw_47_7 rfl dX7_add_35 ?_
      refine g_iload_n (pc := 38) X 2 rfl dX7_add_38 ?_
      refine g_iastG (pc := 39) X 2 rfl (b_hb.1) (by (first | (clear b_pp b_hp b_hn b_hf; omega) | omega)) (Int.le_trans b_hb.2 (by decide)) (ws' := fun F3 => [cO_irrviirrrrri h0 7 hb h_papers h_sizes hv hp hn h_needs h_hidden h_given h_chosen h_picked hf, cA Z h_papers 0 4 F2, cA Z h_sizes 0 4 F3]) (fun _ => rfl) dX7_add_39 (fun F3 eF3 => ?_)
      have hF3 : ∀ j, j < 4 → 0 ≤ F3 j ∧ F3 j ≤ 30 := by rw [eF3]; exact updI_B h_Hs (by (first | (clear b_pp b_hp b_hn b_hf; omega) | omega))
      refine g_aload_n (pc := 40) X 0 rfl dX7_add_40 ?_
      refine g_dup (pc := 41) X rfl dX7_add_41 ?_
      refine g_get (pc := 42) X inlX7 0 rfl rfl 0 (by decide) mw_47_7 rfl dX7_add_42 ?_
      refine g_iconst (pc := 45) X (iI 1) (by rfl) dX7_add_45 ?_
      refine g_iaddI (pc := 46) X dX7_add_46 ?_
      refine g_put (pc := 47) X inlX7 tyX7_ok nmX7 0 rfl rfl 0 (by decide) mw_47_7 rfl rfl rfl (Nat.le_of_ble_eq_true rfl) (ws' := [cO_irrviirrrrri h0 7 (hb + 1) h_papers h_sizes hv hp hn h_needs h_hidden h_given h_chosen h_picked hf, cA Z h_papers 0 4 F2, cA Z h_sizes 0 4 F3]) rfl dX7_add_47 ?_
      refine g_aload_n (pc := 50) X 0 rfl dX7_add_50 ?_
      refine g_get (pc := 51) X inlX7 0 rfl rfl 0 (by decide) mw_47_7 rfl dX7_add_51 ?_
      refine g_iconst (pc := 54) X (iI 1) (by rfl) dX7_add_54 ?_
      refine g_isubI (pc := 55) X dX7_add_55 ?_
      exact g_iret (pc := 56) X hA (Or.inr (⟨F2, F3, (hb + 1), ((hb + 1) - 1), rfl, rfl, (by (first | (clear b_pp b_hp b_hn b_hf; omega) | omega)), (by (first | (clear b_pp b_hp b_hn b_hf; omega) | omega)), (hF2), (hF3), (by (first | (clear b_pp b_hp b_hn b_hf; omega) | omega)), (by (first | (clear b_pp b_hp b_hn b_hf; omega) | omega)), (by (first | (clear b_pp b_hp b_hn b_hf; omega) | omega))⟩)) (by decide) (by decide) dX7_add_56
    · refine g_iconst (pc := 18) X (iI (-1)) (by rfl) dX7_add_18 ?_
      exact g_iret (pc := 19) X hA (Or.inl (⟨rfl, rfl, (by (first | (clear b_pp b_hp b_hn b_hf; omega) | omega))⟩)) (by decide) (by decide) dX7_add_19
